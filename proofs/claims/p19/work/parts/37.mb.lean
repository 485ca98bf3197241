/-! ===== the reference: contracts, 37.mb ===== -/
theorem r_word_L378 {A : Nat → Option (Nat × (Nat → Int32))} {Q : Option Value → jm → Prop} {M0 : jm} {w0 : Int} (q : ∀ (M' : jm), RI M' → RH M' → RF M' → (25 ≤ w0 → M' 598 131 = M0 598 131 + 1 - argn w0) → (w0 < 25 → M' 598 131 = M0 598 131 + 1) → (∀ (a : Nat) (i : Int), a ≠ 598 → a ≠ 603 → a ≠ 604 → a ≠ 605 → a ≠ 624 → a ≠ 686 → M' a i = M0 a i) → (∀ (i : Int), i ≠ 6 → i ≠ 10 → i ≠ 11 → i ≠ 12 → i ≠ 59 → i ≠ 60 → i ≠ 61 → i ≠ 62 → i ≠ 63 → i ≠ 64 → i ≠ 65 → i ≠ 66 → i ≠ 131 → i ≠ 135 → M' 598 i = M0 598 i) → Q none M') : ∀ (M : jm) (v : Int) (w : Int), RI M → RH M → RF M → (∀ (a : Nat) (i : Int), a ≠ 598 → a ≠ 603 → a ≠ 604 → a ≠ 605 → a ≠ 624 → a ≠ 686 → M a i = M0 a i) → (∀ (i : Int), i ≠ 6 → i ≠ 10 → i ≠ 11 → i ≠ 12 → i ≠ 59 → i ≠ 60 → i ≠ 61 → i ≠ 62 → i ≠ 63 → i ≠ 64 → i ≠ 65 → i ≠ 66 → i ≠ 131 → i ≠ 135 → M 598 i = M0 598 i) → (-9223372036854775808) ≤ v ∧ v ≤ 9223372036854775807 → 10 ≤ w ∧ w ≤ 30 → 0 ≤ M 598 131 ∧ M 598 131 ≤ 250 ∧ ((25 ≤ w ∧ M 598 131 = M0 598 131 - argn w) ∨ (w < 25 ∧ M 598 131 = M0 598 131)) → w = w0 → jr A 8 xm_394 378 [(9, .long (Int64.ofInt (v))), (1, .int (Int32.ofInt (w))), (0, .ref (598))] [] M Q := by
    intro M v w hI_M hH_M hS_M hF_M hG_M h_v h_w hy0 hy1
    subst hy1
    refine jr.aload_n rfl rfl ?_
    refine jr.getf (i := 130) (v := .ref 686) rfl rfl (by decide) rfl (by decide) rfl rfl rfl rfl ?_
    refine jr.aload_n rfl rfl ?_
    obtain ⟨v1, e1⟩ : ∃ z, M 598 131 = z := ⟨_, rfl⟩
    have b1 : 0 ≤ v1 ∧ v1 ≤ 400 := by rw [← e1]; exact hI_M 598 131 (by decide)
    refine jr.getf (i := 131) (x := v1) (v := .int (Int32.ofInt (v1))) rfl rfl (by decide) rfl (by decide) rfl rfl e1 rfl ?_
    refine jr.lload rfl rfl ?_
    refine jr.last (i := v1) (x := v) rfl (by decide) rfl (by decide) (by omega) (by omega) ?_
    refine jr.aload_n rfl rfl ?_
    refine jr.dup rfl rfl ?_
    refine jr.getf (i := 131) (x := v1) (v := .int (Int32.ofInt (v1))) rfl rfl (by decide) rfl (by decide) rfl rfl ((ju_c _ _ (by decide)).trans e1) rfl ?_
    refine jr.iconst rfl ?_
    refine jr.iadd rfl ?_
    refine jr.putf (i := 131) (x := (v1 + 1)) rfl rfl (by decide) rfl (by decide) rfl rfl rfl rfl rfl ?_
    have y2 : (ju (ju M 686 v1 v) 598 131 (v1 + 1)) 598 131 = v1 + 1 := (ju_same _ _ _ _)
    exact jr.vreturn rfl rfl (q _ (RI.u (RI.u hI_M (a := 686) (i := v1) (by rw [xri_row rfl rfl]; show (-9223372036854775808 : Int) ≤ _ ∧ _ ≤ (9223372036854775807 : Int); omega)) (a := 598) (i := 131) (show (0 : Int) ≤ _ ∧ _ ≤ (400 : Int) from by omega)) (RH.o (RH.o hH_M (by decide) (by decide) (by decide)) (by decide) (by decide) (by decide)) (RF.o (RF.o hS_M (by decide) (by decide)) (by decide) (by decide))  (by omega) (by omega) (fun a i f598 f603 f604 f605 f624 f686 => ((ju_c _ _ f598).trans ((ju_c _ _ f686).trans (hF_M a i f598 f603 f604 f605 f624 f686)))) (fun i g6 g10 g11 g12 g59 g60 g61 g62 g63 g64 g65 g66 g131 g135 => ((ju_i _ _ g131).trans ((ju_c _ _ (by decide)).trans (hG_M i g6 g10 g11 g12 g59 g60 g61 g62 g63 g64 g65 g66 g131 g135)))))
theorem r_word_L64 {A : Nat → Option (Nat × (Nat → Int32))} {Q : Option Value → jm → Prop} {M0 : jm} {w0 : Int} (q : ∀ (M' : jm), RI M' → RH M' → RF M' → (25 ≤ w0 → M' 598 131 = M0 598 131 + 1 - argn w0) → (w0 < 25 → M' 598 131 = M0 598 131 + 1) → (∀ (a : Nat) (i : Int), a ≠ 598 → a ≠ 603 → a ≠ 604 → a ≠ 605 → a ≠ 624 → a ≠ 686 → M' a i = M0 a i) → (∀ (i : Int), i ≠ 6 → i ≠ 10 → i ≠ 11 → i ≠ 12 → i ≠ 59 → i ≠ 60 → i ≠ 61 → i ≠ 62 → i ≠ 63 → i ≠ 64 → i ≠ 65 → i ≠ 66 → i ≠ 131 → i ≠ 135 → M' 598 i = M0 598 i) → Q none M') : ∀ (M : jm) (x : Int) (a : Int) (b : Int) (c : Int) (v : Int) (w : Int), RI M → RH M → RF M → (∀ (a : Nat) (i : Int), a ≠ 598 → a ≠ 603 → a ≠ 604 → a ≠ 605 → a ≠ 624 → a ≠ 686 → M a i = M0 a i) → (∀ (i : Int), i ≠ 6 → i ≠ 10 → i ≠ 11 → i ≠ 12 → i ≠ 59 → i ≠ 60 → i ≠ 61 → i ≠ 62 → i ≠ 63 → i ≠ 64 → i ≠ 65 → i ≠ 66 → i ≠ 131 → i ≠ 135 → M 598 i = M0 598 i) → 0 ≤ x ∧ x ≤ 3 → (-9223372036854775808) ≤ a ∧ a ≤ 9223372036854775807 → (-9223372036854775808) ≤ b ∧ b ≤ 9223372036854775807 → (-9223372036854775808) ≤ c ∧ c ≤ 9223372036854775807 → 0 ≤ v ∧ v ≤ 0 → 10 ≤ w ∧ w ≤ 30 → M 598 131 = M0 598 131 - x ∧ 0 ≤ M 598 131 ∧ M 598 131 ≤ 250 → ((25 ≤ w ∧ x = argn w) ∨ (w < 25 ∧ x = 0)) → w = w0 → jr A 8 xm_394 64 [(2, .int (Int32.ofInt (x))), (3, .long (Int64.ofInt (a))), (5, .long (Int64.ofInt (b))), (7, .long (Int64.ofInt (c))), (9, .long (Int64.ofInt (v))), (1, .int (Int32.ofInt (w))), (0, .ref (598))] [] M Q := by
    intro M x a b c v w hI_M hH_M hS_M hF_M hG_M h_x h_a h_b h_c h_v h_w hy0 hy1 hy2
    subst hy2
    refine jr.iload_n rfl rfl ?_
    refine jr.bipush rfl (by decide) ?_
    refine jr.icmp_eq rfl rfl (by omega) (by omega) (fun h67 => ?_) (fun h67 => ?_)
    · refine jr.aload_n rfl rfl ?_
      refine jr_v rfl rfl (Or.inl rfl) rfl rfl (by decide) rfl ⟨rfl, Nat.le_of_ble_eq_true rfl, Nat.le_of_ble_eq_true rfl⟩ rfl (jc.deep (r_flowOfPacket hI_M hH_M hS_M (Kp.rfl _)   (fun r1 M1 hI_M1 hH_M1 hS_M1 ht_M1 z1 w1_0 w1_1 => ?_)) (by decide))
      refine jr.goto rfl rfl ?_
      refine jr.istore rfl (by decide) rfl ?_
      refine jr.iload_n rfl rfl ?_
      rcases (show w = 21 by omega) with h87
      · refine jr.tsw_k 21 rfl h87 rfl ?_
        refine jr.iload rfl rfl ?_
        refine jr.i2l rfl (by omega) ?_
        refine jr.lstore rfl (by decide) rfl ?_
        refine jr.goto rfl rfl ?_
        obtain ⟨v2, e2⟩ : ∃ z, M 598 131 = z := ⟨_, rfl⟩
        have b2 : 0 ≤ v2 ∧ v2 ≤ 400 := by rw [← e2]; exact hI_M 598 131 (by decide)
        have e3 : M1 598 131 = v2 := ((w1_1 131 (by decide) (by decide) (by decide) (by decide) (by decide) (by decide) (by decide) (by decide) (by decide) (by decide) (by decide) (by decide)).trans e2)
        refine jr.pick [0, 6, 7] rfl rfl ?_
        exact r_word_L378 q M1 r1 w hI_M1 hH_M1 hS_M1  (fun a i f598 f603 f604 f605 f624 f686 => ((w1_0 a i f598 f603 f604 f605).trans (hF_M a i f598 f603 f604 f605 f624 f686))) (fun i g6 g10 g11 g12 g59 g60 g61 g62 g63 g64 g65 g66 g131 g135 => ((w1_1 i g6 g10 g11 g12 g59 g60 g61 g62 g63 g64 g65 g66).trans (hG_M i g6 g10 g11 g12 g59 g60 g61 g62 g63 g64 g65 g66 g131 g135))) (by omega) (by omega) (by rw [e3] <;> omega) (by omega)
    · refine jr.iload_n rfl rfl ?_
      refine jr.bipush rfl (by decide) ?_
      refine jr.icmp_ne rfl rfl (by omega) (by omega) (fun h73 => ?_) (fun h73 => ?_)
      · refine jr.iconst rfl ?_
        refine jr.istore rfl (by decide) rfl ?_
        refine jr.iload_n rfl rfl ?_
        rcases (show w = 10 ∨ w = 11 ∨ w = 12 ∨ w = 13 ∨ w = 14 ∨ w = 15 ∨ w = 16 ∨ w = 17 ∨ w = 18 ∨ w = 19 ∨ w = 20 ∨ w = 21 ∨ w = 22 ∨ w = 23 ∨ w = 24 ∨ w = 25 ∨ w = 26 ∨ w = 27 ∨ w = 28 ∨ w = 29 ∨ (w ≠ 10 ∧ w ≠ 11 ∧ w ≠ 12 ∧ w ≠ 13 ∧ w ≠ 14 ∧ w ≠ 15 ∧ w ≠ 16 ∧ w ≠ 17 ∧ w ≠ 18 ∧ w ≠ 19 ∧ w ≠ 20 ∧ w ≠ 21 ∧ w ≠ 22 ∧ w ≠ 23 ∧ w ≠ 24 ∧ w ≠ 25 ∧ w ≠ 26 ∧ w ≠ 27 ∧ w ≠ 28 ∧ w ≠ 29) by omega) with h87 | h87 | h87 | h87 | h87 | h87 | h87 | h87 | h87 | h87 | h87 | h87 | h87 | h87 | h87 | h87 | h87 | h87 | h87 | h87 | h87
        · refine jr.tsw_k 10 rfl h87 rfl ?_
          refine jr.aload_n rfl rfl ?_
          refine jr.aload_n rfl rfl ?_
          refine jr.aload_n rfl rfl ?_
          obtain ⟨v4, e4⟩ : ∃ z, M 598 133 = z := ⟨_, rfl⟩
          have b4 : 0 ≤ v4 ∧ v4 ≤ 23 := by rw [← e4]; exact hI_M 598 133 (by decide)
          refine jr.getf (i := 133) (x := v4) (v := .int (Int32.ofInt (v4))) rfl rfl (by decide) rfl (by decide) rfl rfl e4 rfl ?_
          refine jr_v rfl rfl (Or.inl rfl) rfl rfl (by decide) rfl ⟨rfl, Nat.le_of_ble_eq_true rfl, Nat.le_of_ble_eq_true rfl⟩ rfl (jc.deep (r_mark hI_M hH_M hS_M (Kp.rfl _) (by omega)  (fun r5 M5 hI_M5 hH_M5 hS_M5 ht_M5 z5  => ?_)) (by decide))
          refine jr_v rfl rfl (Or.inl rfl) rfl rfl (by decide) rfl ⟨rfl, Nat.le_of_ble_eq_true rfl, Nat.le_of_ble_eq_true rfl⟩ rfl (jc.deep (r_needed hI_M5 hH_M5 hS_M5  (by omega)  (fun r6 M6 hI_M6 hH_M6 hS_M6  z6 w6_0 w6_1 => ?_)) (by decide))
          refine jr.lstore rfl (by decide) rfl ?_
          refine jr.goto rfl rfl ?_
          obtain ⟨v7, e7⟩ : ∃ z, M 598 131 = z := ⟨_, rfl⟩
          have b7 : 0 ≤ v7 ∧ v7 ≤ 400 := by rw [← e7]; exact hI_M 598 131 (by decide)
          have e8 : M5 598 131 = v7 := ((ht_M5 598 131 rfl).trans e7)
          have e9 : M6 598 131 = v7 := ((w6_1 131 (by decide)).trans e8)
          refine jr.pick [0, 6, 7] rfl rfl ?_
          exact r_word_L378 q M6 r6 w hI_M6 hH_M6 hS_M6  (fun a i f598 f603 f604 f605 f624 f686 => ((w6_0 a i f598).trans NOFRAME)) (fun i g6 g10 g11 g12 g59 g60 g61 g62 g63 g64 g65 g66 g131 g135 => ((w6_1 i g135).trans NOFRAME)) (by omega) (by omega) (by rw [e9] <;> omega) (by omega)
        · refine jr.tsw_k 11 rfl h87 rfl ?_
          refine jr.aload_n rfl rfl ?_
          refine jr.lload_n rfl rfl ?_
          refine jr.lload rfl rfl ?_
          refine jr.lload rfl rfl ?_
          refine jr_v rfl rfl (Or.inl rfl) rfl rfl (by decide) rfl ⟨rfl, Nat.le_of_ble_eq_true rfl, Nat.le_of_ble_eq_true rfl⟩ rfl (jc.deep (r_headOf hI_M hH_M hS_M  (by omega) (by omega) (by omega)  (fun r10 M10 hI_M10 hH_M10 hS_M10  z10 w10_0 w10_1 => ?_)) (by decide))
          refine jr.lstore rfl (by decide) rfl ?_
          obtain ⟨v11, e11⟩ : ∃ z, M 598 131 = z := ⟨_, rfl⟩
          have b11 : 0 ≤ v11 ∧ v11 ≤ 400 := by rw [← e11]; exact hI_M 598 131 (by decide)
          have e12 : M10 598 131 = v11 := ((w10_1 131 (by decide)).trans e11)
          refine jr.pick [0, 6, 7] rfl rfl ?_
          exact r_word_L378 q M10 r10 w hI_M10 hH_M10 hS_M10  (fun a i f598 f603 f604 f605 f624 f686 => ((w10_0 a i f598).trans (hF_M a i f598 f603 f604 f605 f624 f686))) (fun i g6 g10 g11 g12 g59 g60 g61 g62 g63 g64 g65 g66 g131 g135 => ((w10_1 i g135).trans (hG_M i g6 g10 g11 g12 g59 g60 g61 g62 g63 g64 g65 g66 g131 g135))) (by omega) (by omega) (by rw [e12] <;> omega) (by omega)
        · refine jr.tsw_k 12 rfl h87 rfl ?_
          refine jr.aload_n rfl rfl ?_
          refine jr.lload_n rfl rfl ?_
          refine jr.lload rfl rfl ?_
          refine jr.lload rfl rfl ?_
          refine jr_v rfl rfl (Or.inl rfl) rfl rfl (by decide) rfl ⟨rfl, Nat.le_of_ble_eq_true rfl, Nat.le_of_ble_eq_true rfl⟩ rfl (jc.deep (r_headOf hI_M hH_M hS_M  (by omega) (by omega) (by omega)  (fun r13 M13 hI_M13 hH_M13 hS_M13  z13 w13_0 w13_1 => ?_)) (by decide))
          refine jr.lstore rfl (by decide) rfl ?_
          obtain ⟨v14, e14⟩ : ∃ z, M 598 131 = z := ⟨_, rfl⟩
          have b14 : 0 ≤ v14 ∧ v14 ≤ 400 := by rw [← e14]; exact hI_M 598 131 (by decide)
          have e15 : M13 598 131 = v14 := ((w13_1 131 (by decide)).trans e14)
          refine jr.pick [0, 6, 7] rfl rfl ?_
          exact r_word_L378 q M13 r13 w hI_M13 hH_M13 hS_M13  (fun a i f598 f603 f604 f605 f624 f686 => ((w13_0 a i f598).trans (hF_M a i f598 f603 f604 f605 f624 f686))) (fun i g6 g10 g11 g12 g59 g60 g61 g62 g63 g64 g65 g66 g131 g135 => ((w13_1 i g135).trans (hG_M i g6 g10 g11 g12 g59 g60 g61 g62 g63 g64 g65 g66 g131 g135))) (by omega) (by omega) (by rw [e15] <;> omega) (by omega)
        · refine jr.tsw_k 13 rfl h87 rfl ?_
          refine jr.aload_n rfl rfl ?_
          refine jr.lload_n rfl rfl ?_
          refine jr.lload rfl rfl ?_
          refine jr.lload rfl rfl ?_
          refine jr_v rfl rfl (Or.inl rfl) rfl rfl (by decide) rfl ⟨rfl, Nat.le_of_ble_eq_true rfl, Nat.le_of_ble_eq_true rfl⟩ rfl (jc.deep (r_headOf hI_M hH_M hS_M  (by omega) (by omega) (by omega)  (fun r16 M16 hI_M16 hH_M16 hS_M16  z16 w16_0 w16_1 => ?_)) (by decide))
          refine jr.lstore rfl (by decide) rfl ?_
          obtain ⟨v17, e17⟩ : ∃ z, M 598 131 = z := ⟨_, rfl⟩
          have b17 : 0 ≤ v17 ∧ v17 ≤ 400 := by rw [← e17]; exact hI_M 598 131 (by decide)
          have e18 : M16 598 131 = v17 := ((w16_1 131 (by decide)).trans e17)
          refine jr.pick [0, 6, 7] rfl rfl ?_
          exact r_word_L378 q M16 r16 w hI_M16 hH_M16 hS_M16  (fun a i f598 f603 f604 f605 f624 f686 => ((w16_0 a i f598).trans (hF_M a i f598 f603 f604 f605 f624 f686))) (fun i g6 g10 g11 g12 g59 g60 g61 g62 g63 g64 g65 g66 g131 g135 => ((w16_1 i g135).trans (hG_M i g6 g10 g11 g12 g59 g60 g61 g62 g63 g64 g65 g66 g131 g135))) (by omega) (by omega) (by rw [e18] <;> omega) (by omega)
        · refine jr.tsw_k 14 rfl h87 rfl ?_
          refine jr.aload_n rfl rfl ?_
          refine jr.lload_n rfl rfl ?_
          refine jr.lload rfl rfl ?_
          refine jr.lload rfl rfl ?_
          refine jr_v rfl rfl (Or.inl rfl) rfl rfl (by decide) rfl ⟨rfl, Nat.le_of_ble_eq_true rfl, Nat.le_of_ble_eq_true rfl⟩ rfl (jc.deep (r_headOf hI_M hH_M hS_M  (by omega) (by omega) (by omega)  (fun r19 M19 hI_M19 hH_M19 hS_M19  z19 w19_0 w19_1 => ?_)) (by decide))
          refine jr.lstore rfl (by decide) rfl ?_
          obtain ⟨v20, e20⟩ : ∃ z, M 598 131 = z := ⟨_, rfl⟩
          have b20 : 0 ≤ v20 ∧ v20 ≤ 400 := by rw [← e20]; exact hI_M 598 131 (by decide)
          have e21 : M19 598 131 = v20 := ((w19_1 131 (by decide)).trans e20)
          refine jr.pick [0, 6, 7] rfl rfl ?_
          exact r_word_L378 q M19 r19 w hI_M19 hH_M19 hS_M19  (fun a i f598 f603 f604 f605 f624 f686 => ((w19_0 a i f598).trans (hF_M a i f598 f603 f604 f605 f624 f686))) (fun i g6 g10 g11 g12 g59 g60 g61 g62 g63 g64 g65 g66 g131 g135 => ((w19_1 i g135).trans (hG_M i g6 g10 g11 g12 g59 g60 g61 g62 g63 g64 g65 g66 g131 g135))) (by omega) (by omega) (by rw [e21] <;> omega) (by omega)
        · refine jr.tsw_k 15 rfl h87 rfl ?_
          refine jr.aload_n rfl rfl ?_
          refine jr.lload_n rfl rfl ?_
          refine jr.lload rfl rfl ?_
          refine jr.lload rfl rfl ?_
          refine jr_v rfl rfl (Or.inl rfl) rfl rfl (by decide) rfl ⟨rfl, Nat.le_of_ble_eq_true rfl, Nat.le_of_ble_eq_true rfl⟩ rfl (jc.deep (r_headOf hI_M hH_M hS_M  (by omega) (by omega) (by omega)  (fun r22 M22 hI_M22 hH_M22 hS_M22  z22 w22_0 w22_1 => ?_)) (by decide))
          refine jr.lstore rfl (by decide) rfl ?_
          obtain ⟨v23, e23⟩ : ∃ z, M 598 131 = z := ⟨_, rfl⟩
          have b23 : 0 ≤ v23 ∧ v23 ≤ 400 := by rw [← e23]; exact hI_M 598 131 (by decide)
          have e24 : M22 598 131 = v23 := ((w22_1 131 (by decide)).trans e23)
          refine jr.pick [0, 6, 7] rfl rfl ?_
          exact r_word_L378 q M22 r22 w hI_M22 hH_M22 hS_M22  (fun a i f598 f603 f604 f605 f624 f686 => ((w22_0 a i f598).trans (hF_M a i f598 f603 f604 f605 f624 f686))) (fun i g6 g10 g11 g12 g59 g60 g61 g62 g63 g64 g65 g66 g131 g135 => ((w22_1 i g135).trans (hG_M i g6 g10 g11 g12 g59 g60 g61 g62 g63 g64 g65 g66 g131 g135))) (by omega) (by omega) (by rw [e24] <;> omega) (by omega)
        · refine jr.tsw_k 16 rfl h87 rfl ?_
          refine jr.aload_n rfl rfl ?_
          refine jr.lload_n rfl rfl ?_
          refine jr.lload rfl rfl ?_
          refine jr.lload rfl rfl ?_
          refine jr_v rfl rfl (Or.inl rfl) rfl rfl (by decide) rfl ⟨rfl, Nat.le_of_ble_eq_true rfl, Nat.le_of_ble_eq_true rfl⟩ rfl (jc.deep (r_headOf hI_M hH_M hS_M  (by omega) (by omega) (by omega)  (fun r25 M25 hI_M25 hH_M25 hS_M25  z25 w25_0 w25_1 => ?_)) (by decide))
          refine jr.lstore rfl (by decide) rfl ?_
          obtain ⟨v26, e26⟩ : ∃ z, M 598 131 = z := ⟨_, rfl⟩
          have b26 : 0 ≤ v26 ∧ v26 ≤ 400 := by rw [← e26]; exact hI_M 598 131 (by decide)
          have e27 : M25 598 131 = v26 := ((w25_1 131 (by decide)).trans e26)
          refine jr.pick [0, 6, 7] rfl rfl ?_
          exact r_word_L378 q M25 r25 w hI_M25 hH_M25 hS_M25  (fun a i f598 f603 f604 f605 f624 f686 => ((w25_0 a i f598).trans (hF_M a i f598 f603 f604 f605 f624 f686))) (fun i g6 g10 g11 g12 g59 g60 g61 g62 g63 g64 g65 g66 g131 g135 => ((w25_1 i g135).trans (hG_M i g6 g10 g11 g12 g59 g60 g61 g62 g63 g64 g65 g66 g131 g135))) (by omega) (by omega) (by rw [e27] <;> omega) (by omega)
        · refine jr.tsw_k 17 rfl h87 rfl ?_
          refine jr.aload_n rfl rfl ?_
          refine jr.lload_n rfl rfl ?_
          refine jr.lload rfl rfl ?_
          refine jr.lload rfl rfl ?_
          refine jr_v rfl rfl (Or.inl rfl) rfl rfl (by decide) rfl ⟨rfl, Nat.le_of_ble_eq_true rfl, Nat.le_of_ble_eq_true rfl⟩ rfl (jc.deep (r_headOf hI_M hH_M hS_M  (by omega) (by omega) (by omega)  (fun r28 M28 hI_M28 hH_M28 hS_M28  z28 w28_0 w28_1 => ?_)) (by decide))
          refine jr.lstore rfl (by decide) rfl ?_
          obtain ⟨v29, e29⟩ : ∃ z, M 598 131 = z := ⟨_, rfl⟩
          have b29 : 0 ≤ v29 ∧ v29 ≤ 400 := by rw [← e29]; exact hI_M 598 131 (by decide)
          have e30 : M28 598 131 = v29 := ((w28_1 131 (by decide)).trans e29)
          refine jr.pick [0, 6, 7] rfl rfl ?_
          exact r_word_L378 q M28 r28 w hI_M28 hH_M28 hS_M28  (fun a i f598 f603 f604 f605 f624 f686 => ((w28_0 a i f598).trans (hF_M a i f598 f603 f604 f605 f624 f686))) (fun i g6 g10 g11 g12 g59 g60 g61 g62 g63 g64 g65 g66 g131 g135 => ((w28_1 i g135).trans (hG_M i g6 g10 g11 g12 g59 g60 g61 g62 g63 g64 g65 g66 g131 g135))) (by omega) (by omega) (by rw [e30] <;> omega) (by omega)
        · refine jr.tsw_k 18 rfl h87 rfl ?_
          refine jr.aload_n rfl rfl ?_
          refine jr.lload_n rfl rfl ?_
          refine jr.lload rfl rfl ?_
          refine jr.lload rfl rfl ?_
          refine jr_v rfl rfl (Or.inl rfl) rfl rfl (by decide) rfl ⟨rfl, Nat.le_of_ble_eq_true rfl, Nat.le_of_ble_eq_true rfl⟩ rfl (jc.deep (r_headOf hI_M hH_M hS_M  (by omega) (by omega) (by omega)  (fun r31 M31 hI_M31 hH_M31 hS_M31  z31 w31_0 w31_1 => ?_)) (by decide))
          refine jr.lstore rfl (by decide) rfl ?_
          obtain ⟨v32, e32⟩ : ∃ z, M 598 131 = z := ⟨_, rfl⟩
          have b32 : 0 ≤ v32 ∧ v32 ≤ 400 := by rw [← e32]; exact hI_M 598 131 (by decide)
          have e33 : M31 598 131 = v32 := ((w31_1 131 (by decide)).trans e32)
          refine jr.pick [0, 6, 7] rfl rfl ?_
          exact r_word_L378 q M31 r31 w hI_M31 hH_M31 hS_M31  (fun a i f598 f603 f604 f605 f624 f686 => ((w31_0 a i f598).trans (hF_M a i f598 f603 f604 f605 f624 f686))) (fun i g6 g10 g11 g12 g59 g60 g61 g62 g63 g64 g65 g66 g131 g135 => ((w31_1 i g135).trans (hG_M i g6 g10 g11 g12 g59 g60 g61 g62 g63 g64 g65 g66 g131 g135))) (by omega) (by omega) (by rw [e33] <;> omega) (by omega)
        · refine jr.tsw_k 19 rfl h87 rfl ?_
          refine jr.aload_n rfl rfl ?_
          obtain ⟨v34, e34⟩ : ∃ z, M 598 2 = z := ⟨_, rfl⟩
          have b34 : 0 ≤ v34 ∧ v34 ≤ 2000000 := by rw [← e34]; exact hI_M 598 2 (by decide)
          refine jr.getf (i := 2) (x := v34) (v := .int (Int32.ofInt (v34))) rfl rfl (by decide) rfl (by decide) rfl rfl e34 rfl ?_
          refine jr.i2l rfl (by omega) ?_
          refine jr.lstore rfl (by decide) rfl ?_
          refine jr.goto rfl rfl ?_
          obtain ⟨v35, e35⟩ : ∃ z, M 598 131 = z := ⟨_, rfl⟩
          have b35 : 0 ≤ v35 ∧ v35 ≤ 400 := by rw [← e35]; exact hI_M 598 131 (by decide)
          refine jr.pick [0, 6, 7] rfl rfl ?_
          exact r_word_L378 q M v34 w hI_M hH_M hS_M  (fun a i f598 f603 f604 f605 f624 f686 => (hF_M a i f598 f603 f604 f605 f624 f686)) (fun i g6 g10 g11 g12 g59 g60 g61 g62 g63 g64 g65 g66 g131 g135 => (hG_M i g6 g10 g11 g12 g59 g60 g61 g62 g63 g64 g65 g66 g131 g135)) (by omega) (by omega) (by rw [e35] <;> omega) (by omega)
        · refine jr.tsw_k 20 rfl h87 rfl ?_
          refine jr.aload_n rfl rfl ?_
          refine jr.aload_n rfl rfl ?_
          refine jr.aload_n rfl rfl ?_
          obtain ⟨v36, e36⟩ : ∃ z, M 598 133 = z := ⟨_, rfl⟩
          have b36 : 0 ≤ v36 ∧ v36 ≤ 23 := by rw [← e36]; exact hI_M 598 133 (by decide)
          refine jr.getf (i := 133) (x := v36) (v := .int (Int32.ofInt (v36))) rfl rfl (by decide) rfl (by decide) rfl rfl e36 rfl ?_
          refine jr_v rfl rfl (Or.inl rfl) rfl rfl (by decide) rfl ⟨rfl, Nat.le_of_ble_eq_true rfl, Nat.le_of_ble_eq_true rfl⟩ rfl (jc.deep (c_isThere hI_M (by omega) (fun l213 u213 t213 => ?_) (fun n213 => ?_)) (by decide))
          · refine jr.if_eq rfl rfl (by omega) (fun h => absurd h (by decide)) (fun _ => ?_)
            refine jr.aload_n rfl rfl ?_
            refine jr.getf (i := 3) (v := .ref 600) rfl rfl (by decide) rfl (by decide) rfl rfl rfl rfl ?_
            refine jr.aload_n rfl rfl ?_
            refine jr.getf (i := 133) (x := v36) (v := .int (Int32.ofInt (v36))) rfl rfl (by decide) rfl (by decide) rfl rfl e36 rfl ?_
            obtain ⟨v37, e37⟩ : ∃ z, M 600 v36 = z := ⟨_, rfl⟩
            have b37 : (-1) ≤ v37 ∧ v37 ≤ 400 := by rw [← e37]; exact (by have q := hI_M 600 v36 (by decide); rw [xri_row rfl rfl] at q; exact q)
            refine jr.iald (i := v36) (x := v37) rfl (by decide) rfl (by decide) (by omega) (by omega) e37 ?_
            refine jr.i2l rfl (by omega) ?_
            refine jr.goto rfl rfl ?_
            refine jr_v rfl rfl (Or.inl rfl) rfl rfl (by decide) rfl ⟨rfl, Nat.le_of_ble_eq_true rfl, Nat.le_of_ble_eq_true rfl⟩ rfl (jc.deep (r_needed hI_M hH_M hS_M  (by omega)  (fun r38 M38 hI_M38 hH_M38 hS_M38  z38 w38_0 w38_1 => ?_)) (by decide))
            refine jr.lstore rfl (by decide) rfl ?_
            refine jr.goto rfl rfl ?_
            obtain ⟨v39, e39⟩ : ∃ z, M 598 131 = z := ⟨_, rfl⟩
            have b39 : 0 ≤ v39 ∧ v39 ≤ 400 := by rw [← e39]; exact hI_M 598 131 (by decide)
            have e40 : M38 598 131 = v39 := ((w38_1 131 (by decide)).trans e39)
            refine jr.pick [0, 6, 7] rfl rfl ?_
            exact r_word_L378 q M38 r38 w hI_M38 hH_M38 hS_M38  (fun a i f598 f603 f604 f605 f624 f686 => ((w38_0 a i f598).trans (hF_M a i f598 f603 f604 f605 f624 f686))) (fun i g6 g10 g11 g12 g59 g60 g61 g62 g63 g64 g65 g66 g131 g135 => ((w38_1 i g135).trans (hG_M i g6 g10 g11 g12 g59 g60 g61 g62 g63 g64 g65 g66 g131 g135))) (by omega) (by omega) (by rw [e40] <;> omega) (by omega)
          · refine jr.if_eq rfl rfl (by omega) (fun _ => ?_) (fun h => absurd (by decide) h)
            refine jr.lconst (x := 0) rfl (by decide) ?_
            refine jr_v rfl rfl (Or.inl rfl) rfl rfl (by decide) rfl ⟨rfl, Nat.le_of_ble_eq_true rfl, Nat.le_of_ble_eq_true rfl⟩ rfl (jc.deep (r_needed hI_M hH_M hS_M  (by omega)  (fun r41 M41 hI_M41 hH_M41 hS_M41  z41 w41_0 w41_1 => ?_)) (by decide))
            refine jr.lstore rfl (by decide) rfl ?_
            refine jr.goto rfl rfl ?_
            obtain ⟨v42, e42⟩ : ∃ z, M 598 131 = z := ⟨_, rfl⟩
            have b42 : 0 ≤ v42 ∧ v42 ≤ 400 := by rw [← e42]; exact hI_M 598 131 (by decide)
            have e43 : M41 598 131 = v42 := ((w41_1 131 (by decide)).trans e42)
            refine jr.pick [0, 6, 7] rfl rfl ?_
            exact r_word_L378 q M41 r41 w hI_M41 hH_M41 hS_M41  (fun a i f598 f603 f604 f605 f624 f686 => ((w41_0 a i f598).trans (hF_M a i f598 f603 f604 f605 f624 f686))) (fun i g6 g10 g11 g12 g59 g60 g61 g62 g63 g64 g65 g66 g131 g135 => ((w41_1 i g135).trans (hG_M i g6 g10 g11 g12 g59 g60 g61 g62 g63 g64 g65 g66 g131 g135))) (by omega) (by omega) (by rw [e43] <;> omega) (by omega)
        · refine jr.tsw_k 21 rfl h87 rfl ?_
          refine jr.iload rfl rfl ?_
          refine jr.i2l rfl (by omega) ?_
          refine jr.lstore rfl (by decide) rfl ?_
          refine jr.goto rfl rfl ?_
          obtain ⟨v44, e44⟩ : ∃ z, M 598 131 = z := ⟨_, rfl⟩
          have b44 : 0 ≤ v44 ∧ v44 ≤ 400 := by rw [← e44]; exact hI_M 598 131 (by decide)
          refine jr.pick [0, 6, 7] rfl rfl ?_
          exact r_word_L378 q M (-1) w hI_M hH_M hS_M  (fun a i f598 f603 f604 f605 f624 f686 => (hF_M a i f598 f603 f604 f605 f624 f686)) (fun i g6 g10 g11 g12 g59 g60 g61 g62 g63 g64 g65 g66 g131 g135 => (hG_M i g6 g10 g11 g12 g59 g60 g61 g62 g63 g64 g65 g66 g131 g135)) (by omega) (by omega) (by rw [e44] <;> omega) (by omega)
        · refine jr.tsw_k 22 rfl h87 rfl ?_
          refine jr.iload rfl rfl ?_
          refine jr.iconst rfl ?_
          refine jr.icmp_ne rfl rfl (by omega) (by omega) (fun h => absurd h (by decide)) (fun _ => ?_)
          refine jr.ldc2 (x := (-1)) rfl rfl (by decide) ?_
          refine jr.goto rfl rfl ?_
          refine jr.lstore rfl (by decide) rfl ?_
          refine jr.goto rfl rfl ?_
          obtain ⟨v45, e45⟩ : ∃ z, M 598 131 = z := ⟨_, rfl⟩
          have b45 : 0 ≤ v45 ∧ v45 ≤ 400 := by rw [← e45]; exact hI_M 598 131 (by decide)
          refine jr.pick [0, 6, 7] rfl rfl ?_
          exact r_word_L378 q M (-1) w hI_M hH_M hS_M  (fun a i f598 f603 f604 f605 f624 f686 => (hF_M a i f598 f603 f604 f605 f624 f686)) (fun i g6 g10 g11 g12 g59 g60 g61 g62 g63 g64 g65 g66 g131 g135 => (hG_M i g6 g10 g11 g12 g59 g60 g61 g62 g63 g64 g65 g66 g131 g135)) (by omega) (by omega) (by rw [e45] <;> omega) (by omega)
        · refine jr.tsw_k 23 rfl h87 rfl ?_
          refine jr.aload_n rfl rfl ?_
          obtain ⟨v46, e46⟩ : ∃ z, M 598 134 = z := ⟨_, rfl⟩
          have b46 : 0 ≤ v46 ∧ v46 ≤ 8 := by rw [← e46]; exact hI_M 598 134 (by decide)
          refine jr.getf (i := 134) (x := v46) (v := .int (Int32.ofInt (v46))) rfl rfl (by decide) rfl (by decide) rfl rfl e46 rfl ?_
          refine jr.i2l rfl (by omega) ?_
          refine jr.lstore rfl (by decide) rfl ?_
          refine jr.goto rfl rfl ?_
          obtain ⟨v47, e47⟩ : ∃ z, M 598 131 = z := ⟨_, rfl⟩
          have b47 : 0 ≤ v47 ∧ v47 ≤ 400 := by rw [← e47]; exact hI_M 598 131 (by decide)
          refine jr.pick [0, 6, 7] rfl rfl ?_
          exact r_word_L378 q M v46 w hI_M hH_M hS_M  (fun a i f598 f603 f604 f605 f624 f686 => (hF_M a i f598 f603 f604 f605 f624 f686)) (fun i g6 g10 g11 g12 g59 g60 g61 g62 g63 g64 g65 g66 g131 g135 => (hG_M i g6 g10 g11 g12 g59 g60 g61 g62 g63 g64 g65 g66 g131 g135)) (by omega) (by omega) (by rw [e47] <;> omega) (by omega)
        · refine jr.tsw_k 24 rfl h87 rfl ?_
          refine jr.aload_n rfl rfl ?_
          refine jr.lload_n rfl rfl ?_
          refine jr.lload rfl rfl ?_
          refine jr.lload rfl rfl ?_
          refine jr_v rfl rfl (Or.inl rfl) rfl rfl (by decide) rfl ⟨rfl, Nat.le_of_ble_eq_true rfl, Nat.le_of_ble_eq_true rfl⟩ rfl (jc.deep (r_headOf hI_M hH_M hS_M  (by omega) (by omega) (by omega)  (fun r48 M48 hI_M48 hH_M48 hS_M48  z48 w48_0 w48_1 => ?_)) (by decide))
          refine jr.lstore rfl (by decide) rfl ?_
          obtain ⟨v49, e49⟩ : ∃ z, M 598 131 = z := ⟨_, rfl⟩
          have b49 : 0 ≤ v49 ∧ v49 ≤ 400 := by rw [← e49]; exact hI_M 598 131 (by decide)
          have e50 : M48 598 131 = v49 := ((w48_1 131 (by decide)).trans e49)
          refine jr.pick [0, 6, 7] rfl rfl ?_
          exact r_word_L378 q M48 r48 w hI_M48 hH_M48 hS_M48  (fun a i f598 f603 f604 f605 f624 f686 => ((w48_0 a i f598).trans (hF_M a i f598 f603 f604 f605 f624 f686))) (fun i g6 g10 g11 g12 g59 g60 g61 g62 g63 g64 g65 g66 g131 g135 => ((w48_1 i g135).trans (hG_M i g6 g10 g11 g12 g59 g60 g61 g62 g63 g64 g65 g66 g131 g135))) (by omega) (by omega) (by rw [e50] <;> omega) (by omega)
        · refine jr.tsw_k 25 rfl h87 rfl ?_
          refine jr.aload_n rfl rfl ?_
          refine jr.lload_n rfl rfl ?_
          refine jr_v rfl rfl (Or.inl rfl) rfl rfl (by decide) rfl ⟨rfl, Nat.le_of_ble_eq_true rfl, Nat.le_of_ble_eq_true rfl⟩ rfl (jc.deep (r_byteAt hI_M hH_M hS_M  (by omega)  (fun r51 M51 hI_M51 hH_M51 hS_M51  z51 w51_0 w51_1 => ?_)) (by decide))
          refine jr.lstore rfl (by decide) rfl ?_
          refine jr.goto rfl rfl ?_
          obtain ⟨v52, e52⟩ : ∃ z, M 598 131 = z := ⟨_, rfl⟩
          have b52 : 0 ≤ v52 ∧ v52 ≤ 400 := by rw [← e52]; exact hI_M 598 131 (by decide)
          have e53 : M51 598 131 = v52 := ((w51_1 131 (by decide)).trans e52)
          refine jr.pick [0, 6, 7] rfl rfl ?_
          exact r_word_L378 q M51 r51 w hI_M51 hH_M51 hS_M51  (fun a i f598 f603 f604 f605 f624 f686 => ((w51_0 a i f598).trans (hF_M a i f598 f603 f604 f605 f624 f686))) (fun i g6 g10 g11 g12 g59 g60 g61 g62 g63 g64 g65 g66 g131 g135 => ((w51_1 i g135).trans (hG_M i g6 g10 g11 g12 g59 g60 g61 g62 g63 g64 g65 g66 g131 g135))) (by omega) (by omega) (by rw [e53] <;> omega) (by omega)
        · refine jr.tsw_k 26 rfl h87 rfl ?_
          refine jr.aload_n rfl rfl ?_
          refine jr.lload_n rfl rfl ?_
          refine jr_v rfl rfl (Or.inl rfl) rfl rfl (by decide) rfl ⟨rfl, Nat.le_of_ble_eq_true rfl, Nat.le_of_ble_eq_true rfl⟩ rfl (jc.deep (r_spend hI_M hH_M hS_M  (by omega)  (fun r54 M54 hI_M54 hH_M54 hS_M54  z54 w54_0 w54_1 => ?_)) (by decide))
          refine jr.lstore rfl (by decide) rfl ?_
          refine jr.goto rfl rfl ?_
          obtain ⟨v55, e55⟩ : ∃ z, M 598 131 = z := ⟨_, rfl⟩
          have b55 : 0 ≤ v55 ∧ v55 ≤ 400 := by rw [← e55]; exact hI_M 598 131 (by decide)
          have e56 : M54 598 131 = v55 := ((w54_1 131 (by decide)).trans e55)
          refine jr.pick [0, 6, 7] rfl rfl ?_
          exact r_word_L378 q M54 r54 w hI_M54 hH_M54 hS_M54  (fun a i f598 f603 f604 f605 f624 f686 => ((w54_0 a i f598 f624).trans (hF_M a i f598 f603 f604 f605 f624 f686))) (fun i g6 g10 g11 g12 g59 g60 g61 g62 g63 g64 g65 g66 g131 g135 => ((w54_1 i g135).trans (hG_M i g6 g10 g11 g12 g59 g60 g61 g62 g63 g64 g65 g66 g131 g135))) (by omega) (by omega) (by rw [e56] <;> omega) (by omega)
        · refine jr.tsw_k 27 rfl h87 rfl ?_
          refine jr.aload_n rfl rfl ?_
          refine jr.lload_n rfl rfl ?_
          refine jr_v rfl rfl (Or.inl rfl) rfl rfl (by decide) rfl ⟨rfl, Nat.le_of_ble_eq_true rfl, Nat.le_of_ble_eq_true rfl⟩ rfl (jc.deep (r_rowFor hI_M hH_M hS_M  (by omega)  (fun r57 M57 hI_M57 hH_M57 hS_M57  z57 w57_0 w57_1 w57_2 => ?_)) (by decide))
          refine jr.istore rfl (by decide) rfl ?_
          refine jr.aload_n rfl rfl ?_
          obtain ⟨v58, e58⟩ : ∃ z, M57 598 135 = z := ⟨_, rfl⟩
          have b58 : 0 ≤ v58 ∧ v58 ≤ 8 := by rw [← e58]; exact hI_M57 598 135 (by decide)
          refine jr.getf (i := 135) (x := v58) (v := .int (Int32.ofInt (v58))) rfl rfl (by decide) rfl (by decide) rfl rfl e58 rfl ?_
          refine jr.if_ne rfl rfl (by omega) (fun h315 => ?_) (fun h315 => ?_)
          · refine jr.lconst (x := 0) rfl (by decide) ?_
            refine jr.lstore rfl (by decide) rfl ?_
            refine jr.goto rfl rfl ?_
            obtain ⟨v59, e59⟩ : ∃ z, M 598 131 = z := ⟨_, rfl⟩
            have b59 : 0 ≤ v59 ∧ v59 ≤ 400 := by rw [← e59]; exact hI_M 598 131 (by decide)
            have e60 : M57 598 131 = v59 := ((w57_2 131 (by decide)).trans e59)
            refine jr.pick [0, 7, 8] rfl rfl ?_
            exact r_word_L378 q M57 0 w hI_M57 hH_M57 hS_M57  (fun a i f598 f603 f604 f605 f624 f686 => ((w57_1 a i f598).trans (hF_M a i f598 f603 f604 f605 f624 f686))) (fun i g6 g10 g11 g12 g59 g60 g61 g62 g63 g64 g65 g66 g131 g135 => ((w57_2 i g135).trans (hG_M i g6 g10 g11 g12 g59 g60 g61 g62 g63 g64 g65 g66 g131 g135))) (by omega) (by omega) (by rw [e60] <;> omega) (by omega)
          · refine jr.aload_n rfl rfl ?_
            refine jr.getf (i := 118) (v := .ref 675) rfl rfl (by decide) rfl (by decide) rfl rfl rfl rfl ?_
            refine jr.iload rfl rfl ?_
            obtain ⟨v61, e61⟩ : ∃ z, M 675 r57 = z := ⟨_, rfl⟩
            have b61 : 0 ≤ v61 ∧ v61 ≤ 40 := by rw [← e61]; exact (by have q := hI_M 675 r57 (by decide); rw [xri_row rfl rfl] at q; exact q)
            have e62 : M57 675 r57 = v61 := ((w57_1 675 r57 (by decide)).trans e61)
            refine jr.iald (i := r57) (x := v61) rfl (by decide) rfl (by decide) (by omega) (by omega) e62 ?_
            refine jr.i2l rfl (by omega) ?_
            refine jr.goto rfl rfl ?_
            refine jr.lstore rfl (by decide) rfl ?_
            refine jr.goto rfl rfl ?_
            obtain ⟨v63, e63⟩ : ∃ z, M 598 131 = z := ⟨_, rfl⟩
            have b63 : 0 ≤ v63 ∧ v63 ≤ 400 := by rw [← e63]; exact hI_M 598 131 (by decide)
            have e64 : M57 598 131 = v63 := ((w57_2 131 (by decide)).trans e63)
            refine jr.pick [0, 7, 8] rfl rfl ?_
            exact r_word_L378 q M57 v61 w hI_M57 hH_M57 hS_M57  (fun a i f598 f603 f604 f605 f624 f686 => ((w57_1 a i f598).trans (hF_M a i f598 f603 f604 f605 f624 f686))) (fun i g6 g10 g11 g12 g59 g60 g61 g62 g63 g64 g65 g66 g131 g135 => ((w57_2 i g135).trans (hG_M i g6 g10 g11 g12 g59 g60 g61 g62 g63 g64 g65 g66 g131 g135))) (by omega) (by omega) (by rw [e64] <;> omega) (by omega)
        · refine jr.tsw_k 28 rfl h87 rfl ?_
          refine jr.aload_n rfl rfl ?_
          refine jr.lload_n rfl rfl ?_
          refine jr.lload rfl rfl ?_
          refine jr_v rfl rfl (Or.inl rfl) rfl rfl (by decide) rfl ⟨rfl, Nat.le_of_ble_eq_true rfl, Nat.le_of_ble_eq_true rfl⟩ rfl (jc.deep (r_isIn hI_M hH_M hS_M  (by omega) (by omega)  (fun r65 M65 hI_M65 hH_M65 hS_M65  z65 w65_0 w65_1 w65_2 => ?_)) (by decide))
          refine jr.if_eq rfl rfl (by omega) (fun h342 => ?_) (fun h342 => ?_)
          · refine jr.lconst (x := 0) rfl (by decide) ?_
            refine jr.lstore rfl (by decide) rfl ?_
            refine jr.goto rfl rfl ?_
            obtain ⟨v66, e66⟩ : ∃ z, M 598 131 = z := ⟨_, rfl⟩
            have b66 : 0 ≤ v66 ∧ v66 ≤ 400 := by rw [← e66]; exact hI_M 598 131 (by decide)
            have e67 : M65 598 131 = v66 := ((w65_2 131 (by decide)).trans e66)
            refine jr.pick [0, 6, 7] rfl rfl ?_
            exact r_word_L378 q M65 0 w hI_M65 hH_M65 hS_M65  (fun a i f598 f603 f604 f605 f624 f686 => ((w65_1 a i f598).trans (hF_M a i f598 f603 f604 f605 f624 f686))) (fun i g6 g10 g11 g12 g59 g60 g61 g62 g63 g64 g65 g66 g131 g135 => ((w65_2 i g135).trans (hG_M i g6 g10 g11 g12 g59 g60 g61 g62 g63 g64 g65 g66 g131 g135))) (by omega) (by omega) (by rw [e67] <;> omega) (by omega)
          · refine jr.lconst (x := 1) rfl (by decide) ?_
            refine jr.goto rfl rfl ?_
            refine jr.lstore rfl (by decide) rfl ?_
            refine jr.goto rfl rfl ?_
            obtain ⟨v68, e68⟩ : ∃ z, M 598 131 = z := ⟨_, rfl⟩
            have b68 : 0 ≤ v68 ∧ v68 ≤ 400 := by rw [← e68]; exact hI_M 598 131 (by decide)
            have e69 : M65 598 131 = v68 := ((w65_2 131 (by decide)).trans e68)
            refine jr.pick [0, 6, 7] rfl rfl ?_
            exact r_word_L378 q M65 1 w hI_M65 hH_M65 hS_M65  (fun a i f598 f603 f604 f605 f624 f686 => ((w65_1 a i f598).trans (hF_M a i f598 f603 f604 f605 f624 f686))) (fun i g6 g10 g11 g12 g59 g60 g61 g62 g63 g64 g65 g66 g131 g135 => ((w65_2 i g135).trans (hG_M i g6 g10 g11 g12 g59 g60 g61 g62 g63 g64 g65 g66 g131 g135))) (by omega) (by omega) (by rw [e69] <;> omega) (by omega)
        · refine jr.tsw_k 29 rfl h87 rfl ?_
          refine jr.aload_n rfl rfl ?_
          refine jr.lload_n rfl rfl ?_
          refine jr.lload rfl rfl ?_
          refine jr_v rfl rfl (Or.inl rfl) rfl rfl (by decide) rfl ⟨rfl, Nat.le_of_ble_eq_true rfl, Nat.le_of_ble_eq_true rfl⟩ rfl (jc.deep (r_itemOf hI_M hH_M hS_M  (by omega) (by omega)  (fun r70 M70 hI_M70 hH_M70 hS_M70  z70 w70_0 w70_1 w70_2 => ?_)) (by decide))
          refine jr.lstore rfl (by decide) rfl ?_
          refine jr.goto rfl rfl ?_
          obtain ⟨v71, e71⟩ : ∃ z, M 598 131 = z := ⟨_, rfl⟩
          have b71 : 0 ≤ v71 ∧ v71 ≤ 400 := by rw [← e71]; exact hI_M 598 131 (by decide)
          have e72 : M70 598 131 = v71 := ((w70_2 131 (by decide)).trans e71)
          refine jr.pick [0, 6, 7] rfl rfl ?_
          exact r_word_L378 q M70 r70 w hI_M70 hH_M70 hS_M70  (fun a i f598 f603 f604 f605 f624 f686 => ((w70_1 a i f598).trans (hF_M a i f598 f603 f604 f605 f624 f686))) (fun i g6 g10 g11 g12 g59 g60 g61 g62 g63 g64 g65 g66 g131 g135 => ((w70_2 i g135).trans (hG_M i g6 g10 g11 g12 g59 g60 g61 g62 g63 g64 g65 g66 g131 g135))) (by omega) (by omega) (by rw [e72] <;> omega) (by omega)
        · refine jr.tsw_d rfl (by omega) (by omega) rfl ?_
          refine jr.aload_n rfl rfl ?_
          refine jr.lload_n rfl rfl ?_
          refine jr.lload rfl rfl ?_
          refine jr.lload rfl rfl ?_
          refine jr_v rfl rfl (Or.inl rfl) rfl rfl (by decide) rfl ⟨rfl, Nat.le_of_ble_eq_true rfl, Nat.le_of_ble_eq_true rfl⟩ rfl (jc.deep (r_headOf hI_M hH_M hS_M  (by omega) (by omega) (by omega)  (fun r73 M73 hI_M73 hH_M73 hS_M73  z73 w73_0 w73_1 => ?_)) (by decide))
          refine jr.lstore rfl (by decide) rfl ?_
          obtain ⟨v74, e74⟩ : ∃ z, M 598 131 = z := ⟨_, rfl⟩
          have b74 : 0 ≤ v74 ∧ v74 ≤ 400 := by rw [← e74]; exact hI_M 598 131 (by decide)
          have e75 : M73 598 131 = v74 := ((w73_1 131 (by decide)).trans e74)
          refine jr.pick [0, 6, 7] rfl rfl ?_
          exact r_word_L378 q M73 r73 w hI_M73 hH_M73 hS_M73  (fun a i f598 f603 f604 f605 f624 f686 => ((w73_0 a i f598).trans (hF_M a i f598 f603 f604 f605 f624 f686))) (fun i g6 g10 g11 g12 g59 g60 g61 g62 g63 g64 g65 g66 g131 g135 => ((w73_1 i g135).trans (hG_M i g6 g10 g11 g12 g59 g60 g61 g62 g63 g64 g65 g66 g131 g135))) (by omega) (by omega) (by rw [e75] <;> omega) (by omega)
      · refine jr.aload_n rfl rfl ?_
        refine jr_v rfl rfl (Or.inl rfl) rfl rfl (by decide) rfl ⟨rfl, Nat.le_of_ble_eq_true rfl, Nat.le_of_ble_eq_true rfl⟩ rfl (jc.deep (r_flowOfPacket hI_M hH_M hS_M (Kp.rfl _)   (fun r76 M76 hI_M76 hH_M76 hS_M76 ht_M76 z76 w76_0 w76_1 => ?_)) (by decide))
        refine jr.goto rfl rfl ?_
        refine jr.istore rfl (by decide) rfl ?_
        refine jr.iload_n rfl rfl ?_
        rcases (show w = 22 by omega) with h87
        · refine jr.tsw_k 22 rfl h87 rfl ?_
          refine jr.iload rfl rfl ?_
          refine jr.iconst rfl ?_
          refine jr.icmp_ne rfl rfl (by omega) (by omega) (fun h252 => ?_) (fun h252 => ?_)
          · refine jr.aload_n rfl rfl ?_
            refine jr.getf (i := 50) (v := .ref 638) rfl rfl (by decide) rfl (by decide) rfl rfl rfl rfl ?_
            refine jr.iload rfl rfl ?_
            obtain ⟨v77, e77⟩ : ∃ z, M 638 r76 = z := ⟨_, rfl⟩
            have b77 : 0 ≤ v77 ∧ v77 ≤ 15 := by rw [← e77]; exact (by have q := hI_M 638 r76 (by decide); rw [xri_row rfl rfl] at q; exact q)
            have e78 : M76 638 r76 = v77 := ((w76_0 638 r76 (by decide) (by decide) (by decide) (by decide)).trans e77)
            refine jr.iald (i := r76) (x := v77) rfl (by decide) rfl (by decide) (by omega) (by omega) e78 ?_
            refine jr.i2l rfl (by omega) ?_
            refine jr.lstore rfl (by decide) rfl ?_
            refine jr.goto rfl rfl ?_
            obtain ⟨v79, e79⟩ : ∃ z, M 598 131 = z := ⟨_, rfl⟩
            have b79 : 0 ≤ v79 ∧ v79 ≤ 400 := by rw [← e79]; exact hI_M 598 131 (by decide)
            have e80 : M76 598 131 = v79 := ((w76_1 131 (by decide) (by decide) (by decide) (by decide) (by decide) (by decide) (by decide) (by decide) (by decide) (by decide) (by decide) (by decide)).trans e79)
            refine jr.pick [0, 6, 7] rfl rfl ?_
            exact r_word_L378 q M76 v77 w hI_M76 hH_M76 hS_M76  (fun a i f598 f603 f604 f605 f624 f686 => ((w76_0 a i f598 f603 f604 f605).trans (hF_M a i f598 f603 f604 f605 f624 f686))) (fun i g6 g10 g11 g12 g59 g60 g61 g62 g63 g64 g65 g66 g131 g135 => ((w76_1 i g6 g10 g11 g12 g59 g60 g61 g62 g63 g64 g65 g66).trans (hG_M i g6 g10 g11 g12 g59 g60 g61 g62 g63 g64 g65 g66 g131 g135))) (by omega) (by omega) (by rw [e80] <;> omega) (by omega)
          · refine jr.ldc2 (x := (-1)) rfl rfl (by decide) ?_
            refine jr.goto rfl rfl ?_
            refine jr.lstore rfl (by decide) rfl ?_
            refine jr.goto rfl rfl ?_
            obtain ⟨v81, e81⟩ : ∃ z, M 598 131 = z := ⟨_, rfl⟩
            have b81 : 0 ≤ v81 ∧ v81 ≤ 400 := by rw [← e81]; exact hI_M 598 131 (by decide)
            have e82 : M76 598 131 = v81 := ((w76_1 131 (by decide) (by decide) (by decide) (by decide) (by decide) (by decide) (by decide) (by decide) (by decide) (by decide) (by decide) (by decide)).trans e81)
            refine jr.pick [0, 6, 7] rfl rfl ?_
            exact r_word_L378 q M76 (-1) w hI_M76 hH_M76 hS_M76  (fun a i f598 f603 f604 f605 f624 f686 => ((w76_0 a i f598 f603 f604 f605).trans (hF_M a i f598 f603 f604 f605 f624 f686))) (fun i g6 g10 g11 g12 g59 g60 g61 g62 g63 g64 g65 g66 g131 g135 => ((w76_1 i g6 g10 g11 g12 g59 g60 g61 g62 g63 g64 g65 g66).trans (hG_M i g6 g10 g11 g12 g59 g60 g61 g62 g63 g64 g65 g66 g131 g135))) (by omega) (by omega) (by rw [e82] <;> omega) (by omega)
theorem r_word {A : Nat → Option (Nat × (Nat → Int32))} {Q : Option Value → jm → Prop} {M : jm} (hI_M : RI M) (hH_M : RH M) (hS_M : RF M) {w : Int} (h_w : 10 ≤ w ∧ w ≤ 30) (p0 : (25 ≤ w → argn w ≤ M 598 131)) (p1 : M 598 131 ≤ 250) (q : ∀ (M' : jm), RI M' → RH M' → RF M' → (25 ≤ w → M' 598 131 = M 598 131 + 1 - argn w) → (w < 25 → M' 598 131 = M 598 131 + 1) → (∀ (a : Nat) (i : Int), a ≠ 598 → a ≠ 603 → a ≠ 604 → a ≠ 605 → a ≠ 624 → a ≠ 686 → M' a i = M a i) → (∀ (i : Int), i ≠ 6 → i ≠ 10 → i ≠ 11 → i ≠ 12 → i ≠ 59 → i ≠ 60 → i ≠ 61 → i ≠ 62 → i ≠ 63 → i ≠ 64 → i ≠ 65 → i ≠ 66 → i ≠ 131 → i ≠ 135 → M' 598 i = M 598 i) → Q none M') : jc A 9 394 [.ref (598), .int (Int32.ofInt (w))] M Q := by
  have al := argn_le w
  refine jc_of (m := xm_394) rfl (Nat.le_of_ble_eq_true rfl) rfl ?_
  refine jr.iload_n rfl rfl ?_
  refine jr.bipush rfl (by decide) ?_
  refine jr.icmp_lt rfl rfl (by omega) (by omega) (fun h3 => ?_) (fun h3 => ?_)
  · refine jr.iconst rfl ?_
    refine jr.istore_n rfl (by decide) rfl ?_
    refine jr.aload_n rfl rfl ?_
    refine jr.dup rfl rfl ?_
    obtain ⟨v1, e1⟩ : ∃ z, M 598 131 = z := ⟨_, rfl⟩
    have b1 : 0 ≤ v1 ∧ v1 ≤ 400 := by rw [← e1]; exact hI_M 598 131 (by decide)
    refine jr.getf (i := 131) (x := v1) (v := .int (Int32.ofInt (v1))) rfl rfl (by decide) rfl (by decide) rfl rfl e1 rfl ?_
    refine jr.iload_n rfl rfl ?_
    refine jr.isub rfl ?_
    refine jr.putf (i := 131) (x := (v1 - 0)) rfl rfl (by decide) rfl (by decide) rfl rfl rfl rfl rfl ?_
    refine jr.aload_n rfl rfl ?_
    refine jr.getf (i := 130) (v := .ref 686) rfl rfl (by decide) rfl (by decide) rfl rfl rfl rfl ?_
    refine jr.aload_n rfl rfl ?_
    refine jr.getf (i := 131) (x := (v1 - 0)) (v := .int (Int32.ofInt (v1 - 0))) rfl rfl (by decide) rfl (by decide) rfl rfl (ju_same _ _ _ _) rfl ?_
    obtain ⟨v2, e2⟩ : ∃ z, M 686 (v1 - 0) = z := ⟨_, rfl⟩
    have b2 : (-9223372036854775808) ≤ v2 ∧ v2 ≤ 9223372036854775807 := by rw [← e2]; exact (by have q := hI_M 686 (v1 - 0) (by decide); rw [xri_row rfl rfl] at q; exact q)
    refine jr.lald (i := (v1 - 0)) (x := v2) rfl (by decide) rfl (by decide) (by omega) (by omega) ((ju_c _ _ (by decide)).trans e2) ?_
    refine jr.lstore_n rfl (by decide) rfl ?_
    refine jr.aload_n rfl rfl ?_
    refine jr.getf (i := 130) (v := .ref 686) rfl rfl (by decide) rfl (by decide) rfl rfl rfl rfl ?_
    refine jr.aload_n rfl rfl ?_
    refine jr.getf (i := 131) (x := (v1 - 0)) (v := .int (Int32.ofInt (v1 - 0))) rfl rfl (by decide) rfl (by decide) rfl rfl (ju_same _ _ _ _) rfl ?_
    refine jr.iconst rfl ?_
    refine jr.iadd rfl ?_
    obtain ⟨v3, e3⟩ : ∃ z, M 686 ((v1 - 0) + 1) = z := ⟨_, rfl⟩
    have b3 : (-9223372036854775808) ≤ v3 ∧ v3 ≤ 9223372036854775807 := by rw [← e3]; exact (by have q := hI_M 686 ((v1 - 0) + 1) (by decide); rw [xri_row rfl rfl] at q; exact q)
    refine jr.lald (i := ((v1 - 0) + 1)) (x := v3) rfl (by decide) rfl (by decide) (by omega) (by omega) ((ju_c _ _ (by decide)).trans e3) ?_
    refine jr.lstore rfl (by decide) rfl ?_
    refine jr.aload_n rfl rfl ?_
    refine jr.getf (i := 130) (v := .ref 686) rfl rfl (by decide) rfl (by decide) rfl rfl rfl rfl ?_
    refine jr.aload_n rfl rfl ?_
    refine jr.getf (i := 131) (x := (v1 - 0)) (v := .int (Int32.ofInt (v1 - 0))) rfl rfl (by decide) rfl (by decide) rfl rfl (ju_same _ _ _ _) rfl ?_
    refine jr.iconst rfl ?_
    refine jr.iadd rfl ?_
    obtain ⟨v4, e4⟩ : ∃ z, M 686 ((v1 - 0) + 2) = z := ⟨_, rfl⟩
    have b4 : (-9223372036854775808) ≤ v4 ∧ v4 ≤ 9223372036854775807 := by rw [← e4]; exact (by have q := hI_M 686 ((v1 - 0) + 2) (by decide); rw [xri_row rfl rfl] at q; exact q)
    refine jr.lald (i := ((v1 - 0) + 2)) (x := v4) rfl (by decide) rfl (by decide) (by omega) (by omega) ((ju_c _ _ (by decide)).trans e4) ?_
    refine jr.lstore rfl (by decide) rfl ?_
    refine jr.lconst (x := 0) rfl (by decide) ?_
    refine jr.lstore rfl (by decide) rfl ?_
    refine jr.pick [4, 3, 2, 1, 0, 6, 5] rfl rfl ?_
    exact r_word_L64 q (ju M 598 131 (v1 - 0)) 0 v2 v3 v4 0 w (RI.u hI_M (a := 598) (i := 131) (show (0 : Int) ≤ _ ∧ _ ≤ (400 : Int) from by omega)) (RH.o hH_M (by decide) (by decide) (by decide)) (RF.o hS_M (by decide) (by decide))  (fun a i f598 f603 f604 f605 f624 f686 => ((ju_c _ _ f598).trans rfl)) (fun i g6 g10 g11 g12 g59 g60 g61 g62 g63 g64 g65 g66 g131 g135 => ((ju_i _ _ g131).trans rfl)) (by omega) (by omega) (by omega) (by omega) (by omega) (by omega) (by rw [(ju_same _ _ _ _)] <;> omega) (by omega) (by omega)
  · refine jr.iload_n rfl rfl ?_
    refine jr_s rfl rfl (Or.inl rfl) ⟨Nat.le_of_ble_eq_true rfl, Nat.le_of_ble_eq_true rfl⟩ rfl rfl (jc.deep (r_argsOf hI_M hH_M hS_M (Kp.rfl _) (by omega)  (fun r5 z5 w5_0 => ?_)) (by decide))
    refine jr.goto rfl rfl ?_
    refine jr.istore_n rfl (by decide) rfl ?_
    refine jr.aload_n rfl rfl ?_
    refine jr.dup rfl rfl ?_
    obtain ⟨v6, e6⟩ : ∃ z, M 598 131 = z := ⟨_, rfl⟩
    have b6 : 0 ≤ v6 ∧ v6 ≤ 400 := by rw [← e6]; exact hI_M 598 131 (by decide)
    refine jr.getf (i := 131) (x := v6) (v := .int (Int32.ofInt (v6))) rfl rfl (by decide) rfl (by decide) rfl rfl e6 rfl ?_
    refine jr.iload_n rfl rfl ?_
    refine jr.isub rfl ?_
    refine jr.putf (i := 131) (x := (v6 - r5)) rfl rfl (by decide) rfl (by decide) rfl rfl rfl rfl rfl ?_
    refine jr.aload_n rfl rfl ?_
    refine jr.getf (i := 130) (v := .ref 686) rfl rfl (by decide) rfl (by decide) rfl rfl rfl rfl ?_
    refine jr.aload_n rfl rfl ?_
    refine jr.getf (i := 131) (x := (v6 - r5)) (v := .int (Int32.ofInt (v6 - r5))) rfl rfl (by decide) rfl (by decide) rfl rfl (ju_same _ _ _ _) rfl ?_
    obtain ⟨v7, e7⟩ : ∃ z, M 686 (v6 - r5) = z := ⟨_, rfl⟩
    have b7 : (-9223372036854775808) ≤ v7 ∧ v7 ≤ 9223372036854775807 := by rw [← e7]; exact (by have q := hI_M 686 (v6 - r5) (by decide); rw [xri_row rfl rfl] at q; exact q)
    refine jr.lald (i := (v6 - r5)) (x := v7) rfl (by decide) rfl (by decide) (by omega) (by omega) ((ju_c _ _ (by decide)).trans e7) ?_
    refine jr.lstore_n rfl (by decide) rfl ?_
    refine jr.aload_n rfl rfl ?_
    refine jr.getf (i := 130) (v := .ref 686) rfl rfl (by decide) rfl (by decide) rfl rfl rfl rfl ?_
    refine jr.aload_n rfl rfl ?_
    refine jr.getf (i := 131) (x := (v6 - r5)) (v := .int (Int32.ofInt (v6 - r5))) rfl rfl (by decide) rfl (by decide) rfl rfl (ju_same _ _ _ _) rfl ?_
    refine jr.iconst rfl ?_
    refine jr.iadd rfl ?_
    obtain ⟨v8, e8⟩ : ∃ z, M 686 ((v6 - r5) + 1) = z := ⟨_, rfl⟩
    have b8 : (-9223372036854775808) ≤ v8 ∧ v8 ≤ 9223372036854775807 := by rw [← e8]; exact (by have q := hI_M 686 ((v6 - r5) + 1) (by decide); rw [xri_row rfl rfl] at q; exact q)
    refine jr.lald (i := ((v6 - r5) + 1)) (x := v8) rfl (by decide) rfl (by decide) (by omega) (by omega) ((ju_c _ _ (by decide)).trans e8) ?_
    refine jr.lstore rfl (by decide) rfl ?_
    refine jr.aload_n rfl rfl ?_
    refine jr.getf (i := 130) (v := .ref 686) rfl rfl (by decide) rfl (by decide) rfl rfl rfl rfl ?_
    refine jr.aload_n rfl rfl ?_
    refine jr.getf (i := 131) (x := (v6 - r5)) (v := .int (Int32.ofInt (v6 - r5))) rfl rfl (by decide) rfl (by decide) rfl rfl (ju_same _ _ _ _) rfl ?_
    refine jr.iconst rfl ?_
    refine jr.iadd rfl ?_
    obtain ⟨v9, e9⟩ : ∃ z, M 686 ((v6 - r5) + 2) = z := ⟨_, rfl⟩
    have b9 : (-9223372036854775808) ≤ v9 ∧ v9 ≤ 9223372036854775807 := by rw [← e9]; exact (by have q := hI_M 686 ((v6 - r5) + 2) (by decide); rw [xri_row rfl rfl] at q; exact q)
    refine jr.lald (i := ((v6 - r5) + 2)) (x := v9) rfl (by decide) rfl (by decide) (by omega) (by omega) ((ju_c _ _ (by decide)).trans e9) ?_
    refine jr.lstore rfl (by decide) rfl ?_
    refine jr.lconst (x := 0) rfl (by decide) ?_
    refine jr.lstore rfl (by decide) rfl ?_
    refine jr.pick [4, 3, 2, 1, 0, 6, 5] rfl rfl ?_
    exact r_word_L64 q (ju M 598 131 (v6 - r5)) r5 v7 v8 v9 0 w (RI.u hI_M (a := 598) (i := 131) (show (0 : Int) ≤ _ ∧ _ ≤ (400 : Int) from by omega)) (RH.o hH_M (by decide) (by decide) (by decide)) (RF.o hS_M (by decide) (by decide))  (fun a i f598 f603 f604 f605 f624 f686 => ((ju_c _ _ f598).trans rfl)) (fun i g6 g10 g11 g12 g59 g60 g61 g62 g63 g64 g65 g66 g131 g135 => ((ju_i _ _ g131).trans rfl)) (by omega) (by omega) (by omega) (by omega) (by omega) (by omega) (by rw [(ju_same _ _ _ _)] <;> omega) (by omega) (by omega)
theorem r_bySign_L291 {A : Nat → Option (Nat × (Nat → Int32))} {Q : Option Value → jm → Prop} {M0 : jm} (q : ∀ (M' : jm), RI M' → RH M' → RF M' → M' 598 131 = M0 598 131 - 1 → (∀ (a : Nat) (i : Int), a ≠ 598 → a ≠ 686 → M' a i = M0 a i) → (∀ (i : Int), i ≠ 131 → i ≠ 135 → M' 598 i = M0 598 i) → Q none M') : ∀ (M : jm) (x : Int), RI M → RH M → RF M → (∀ (a : Nat) (i : Int), a ≠ 598 → a ≠ 686 → M a i = M0 a i) → (∀ (i : Int), i ≠ 131 → i ≠ 135 → M 598 i = M0 598 i) → (-9223372036854775808) ≤ x ∧ x ≤ 9223372036854775807 → 1 ≤ M 598 131 ∧ M 598 131 ≤ 250 ∧ M 598 131 = M0 598 131 - 1 → jr A 0 xm_382 291 [(4, .long (Int64.ofInt (x))), (0, .ref (598))] [] M Q := by
    intro M x hI_M hH_M hS_M hF_M hG_M h_x hy0
    refine jr.aload_n rfl rfl ?_
    refine jr.getf (i := 130) (v := .ref 686) rfl rfl (by decide) rfl (by decide) rfl rfl rfl rfl ?_
    refine jr.aload_n rfl rfl ?_
    obtain ⟨v1, e1⟩ : ∃ z, M 598 131 = z := ⟨_, rfl⟩
    have b1 : 0 ≤ v1 ∧ v1 ≤ 400 := by rw [← e1]; exact hI_M 598 131 (by decide)
    refine jr.getf (i := 131) (x := v1) (v := .int (Int32.ofInt (v1))) rfl rfl (by decide) rfl (by decide) rfl rfl e1 rfl ?_
    refine jr.iconst rfl ?_
    refine jr.isub rfl ?_
    refine jr.lload rfl rfl ?_
    refine jr.last (i := (v1 - 1)) (x := x) rfl (by decide) rfl (by decide) (by omega) (by omega) ?_
    have y2 : (ju M 686 (v1 - 1) x) 598 131 = v1 := ((ju_c _ _ (by decide)).trans e1)
    exact jr.vreturn rfl rfl (q _ (RI.u hI_M (a := 686) (i := (v1 - 1)) (by rw [xri_row rfl rfl]; show (-9223372036854775808 : Int) ≤ _ ∧ _ ≤ (9223372036854775807 : Int); omega)) (RH.o hH_M (by decide) (by decide) (by decide)) (RF.o hS_M (by decide) (by decide))  (by omega) (fun a i f598 f686 => ((ju_c _ _ f686).trans (hF_M a i f598 f686))) (fun i g131 g135 => ((ju_c _ _ (by decide)).trans (hG_M i g131 g135))))
theorem r_bySign {A : Nat → Option (Nat × (Nat → Int32))} {Q : Option Value → jm → Prop} {M : jm} (hI_M : RI M) (hH_M : RH M) (hS_M : RF M) {s : Int} (h_s : 0 ≤ s ∧ s ≤ 300) (p0 : 2 ≤ M 598 131 ∧ M 598 131 ≤ 250) (q : ∀ (M' : jm), RI M' → RH M' → RF M' → M' 598 131 = M 598 131 - 1 → (∀ (a : Nat) (i : Int), a ≠ 598 → a ≠ 686 → M' a i = M a i) → (∀ (i : Int), i ≠ 131 → i ≠ 135 → M' 598 i = M 598 i) → Q none M') : jc A 1 382 [.ref (598), .int (Int32.ofInt (s))] M Q := by
  refine jc_of (m := xm_382) rfl (Nat.le_of_ble_eq_true rfl) rfl ?_
  refine jr.aload_n rfl rfl ?_
  refine jr.dup rfl rfl ?_
  obtain ⟨v1, e1⟩ : ∃ z, M 598 131 = z := ⟨_, rfl⟩
  have b1 : 0 ≤ v1 ∧ v1 ≤ 400 := by rw [← e1]; exact hI_M 598 131 (by decide)
  refine jr.getf (i := 131) (x := v1) (v := .int (Int32.ofInt (v1))) rfl rfl (by decide) rfl (by decide) rfl rfl e1 rfl ?_
  refine jr.iconst rfl ?_
  refine jr.isub rfl ?_
  refine jr.putf (i := 131) (x := (v1 - 1)) rfl rfl (by decide) rfl (by decide) rfl rfl rfl rfl rfl ?_
  refine jr.aload_n rfl rfl ?_
  refine jr.getf (i := 130) (v := .ref 686) rfl rfl (by decide) rfl (by decide) rfl rfl rfl rfl ?_
  refine jr.aload_n rfl rfl ?_
  refine jr.getf (i := 131) (x := (v1 - 1)) (v := .int (Int32.ofInt (v1 - 1))) rfl rfl (by decide) rfl (by decide) rfl rfl (ju_same _ _ _ _) rfl ?_
  obtain ⟨v2, e2⟩ : ∃ z, M 686 (v1 - 1) = z := ⟨_, rfl⟩
  have b2 : (-9223372036854775808) ≤ v2 ∧ v2 ≤ 9223372036854775807 := by rw [← e2]; exact (by have q := hI_M 686 (v1 - 1) (by decide); rw [xri_row rfl rfl] at q; exact q)
  refine jr.lald (i := (v1 - 1)) (x := v2) rfl (by decide) rfl (by decide) (by omega) (by omega) ((ju_c _ _ (by decide)).trans e2) ?_
  refine jr.lstore_n rfl (by decide) rfl ?_
  refine jr.aload_n rfl rfl ?_
  refine jr.getf (i := 130) (v := .ref 686) rfl rfl (by decide) rfl (by decide) rfl rfl rfl rfl ?_
  refine jr.aload_n rfl rfl ?_
  refine jr.getf (i := 131) (x := (v1 - 1)) (v := .int (Int32.ofInt (v1 - 1))) rfl rfl (by decide) rfl (by decide) rfl rfl (ju_same _ _ _ _) rfl ?_
  refine jr.iconst rfl ?_
  refine jr.isub rfl ?_
  obtain ⟨v3, e3⟩ : ∃ z, M 686 ((v1 - 1) - 1) = z := ⟨_, rfl⟩
  have b3 : (-9223372036854775808) ≤ v3 ∧ v3 ≤ 9223372036854775807 := by rw [← e3]; exact (by have q := hI_M 686 ((v1 - 1) - 1) (by decide); rw [xri_row rfl rfl] at q; exact q)
  refine jr.lald (i := ((v1 - 1) - 1)) (x := v3) rfl (by decide) rfl (by decide) (by omega) (by omega) ((ju_c _ _ (by decide)).trans e3) ?_
  refine jr.lstore rfl (by decide) rfl ?_
  refine jr.iload_n rfl rfl ?_
  refine jr.bipush rfl (by decide) ?_
  refine jr.icmp_eq rfl rfl (by omega) (by omega) (fun h36 => ?_) (fun h36 => ?_)
  · refine jr.lload_n rfl rfl ?_
    refine jr.lconst (x := 0) rfl (by decide) ?_
    refine jr.lcmp_ne rfl rfl rfl (by omega) (by omega) (fun h47 => ?_) (fun h47 => ?_)
    · refine jr.iload_n rfl rfl ?_
      rcases (show s = 47 by omega) with h59
      · refine jr.tsw_k 47 rfl h59 rfl ?_
        refine jr.lload_n rfl rfl ?_
        refine jr.ldc2 (x := (-1)) rfl rfl (by decide) ?_
        refine jr.lcmp_ne rfl rfl rfl (by omega) (by omega) (fun h203 => ?_) (fun h203 => ?_)
        · refine jr.lload rfl rfl ?_
          refine jr.lload_n rfl rfl ?_
          refine jr.ldiv rfl (jl_nz (by omega)) ?_
          have b4 : -9223372036854775808 ≤ jl_div v3 v2 ∧ jl_div v3 v2 ≤ 9223372036854775807 := jbl_any _
          generalize jl_div v3 v2 = v4 at b4 ⊢
          refine jr.lstore rfl (by decide) rfl ?_
          refine jr.goto rfl rfl ?_
          refine jr.pick [0, 2] rfl rfl ?_
          exact r_bySign_L291 q (ju M 598 131 (v1 - 1)) v4 (RI.u hI_M (a := 598) (i := 131) (show (0 : Int) ≤ _ ∧ _ ≤ (400 : Int) from by omega)) (RH.o hH_M (by decide) (by decide) (by decide)) (RF.o hS_M (by decide) (by decide))  (fun a i f598 f686 => ((ju_c _ _ f598).trans rfl)) (fun i g131 g135 => ((ju_i _ _ g131).trans rfl)) (by omega) (by rw [(ju_same _ _ _ _)] <;> omega)
        · refine jr.lload rfl rfl ?_
          refine jr.lneg rfl ?_
          refine jr.lw (jl_w (-v3)) (jl_w_eq _) ?_
          have b5 : -9223372036854775808 ≤ jl_w (-v3) ∧ jl_w (-v3) ≤ 9223372036854775807 := jbl_any _
          generalize jl_w (-v3) = v5 at b5 ⊢
          refine jr.goto rfl rfl ?_
          refine jr.lstore rfl (by decide) rfl ?_
          refine jr.goto rfl rfl ?_
          refine jr.pick [0, 2] rfl rfl ?_
          exact r_bySign_L291 q (ju M 598 131 (v1 - 1)) v5 (RI.u hI_M (a := 598) (i := 131) (show (0 : Int) ≤ _ ∧ _ ≤ (400 : Int) from by omega)) (RH.o hH_M (by decide) (by decide) (by decide)) (RF.o hS_M (by decide) (by decide))  (fun a i f598 f686 => ((ju_c _ _ f598).trans rfl)) (fun i g131 g135 => ((ju_i _ _ g131).trans rfl)) (by omega) (by rw [(ju_same _ _ _ _)] <;> omega)
    · refine jr.aload_n rfl rfl ?_
      refine jr.bipush rfl (by decide) ?_
      refine jr.putf (i := 135) (x := 6) rfl rfl (by decide) rfl (by decide) rfl rfl rfl rfl rfl ?_
      have y6 : (ju (ju M 598 131 (v1 - 1)) 598 135 6) 598 131 = v1 - 1 := ((ju_i _ _ (by decide)).trans (ju_same _ _ _ _))
      exact jr.vreturn rfl rfl (q _ (RI.u (RI.u hI_M (a := 598) (i := 131) (show (0 : Int) ≤ _ ∧ _ ≤ (400 : Int) from by omega)) (a := 598) (i := 135) (show (0 : Int) ≤ _ ∧ _ ≤ (8 : Int) from by omega)) (RH.o (RH.o hH_M (by decide) (by decide) (by decide)) (by decide) (by decide) (by decide)) (RF.o (RF.o hS_M (by decide) (by decide)) (by decide) (by decide))  (by omega) (fun a i f598 f686 => ((ju_c _ _ f598).trans ((ju_c _ _ f598).trans rfl))) (fun i g131 g135 => ((ju_i _ _ g135).trans ((ju_i _ _ g131).trans rfl))))
  · refine jr.iload_n rfl rfl ?_
    refine jr.bipush rfl (by decide) ?_
    refine jr.icmp_ne rfl rfl (by omega) (by omega) (fun h42 => ?_) (fun h42 => ?_)
    · refine jr.iload_n rfl rfl ?_
      rcases (show s = 37 ∨ s = 38 ∨ s = 39 ∨ s = 40 ∨ s = 41 ∨ s = 42 ∨ s = 43 ∨ s = 44 ∨ s = 45 ∨ s = 46 ∨ s = 47 ∨ s = 48 ∨ s = 49 ∨ s = 50 ∨ s = 51 ∨ s = 52 ∨ s = 53 ∨ s = 54 ∨ s = 55 ∨ s = 56 ∨ s = 57 ∨ s = 58 ∨ s = 59 ∨ s = 60 ∨ s = 61 ∨ (s ≠ 37 ∧ s ≠ 38 ∧ s ≠ 39 ∧ s ≠ 40 ∧ s ≠ 41 ∧ s ≠ 42 ∧ s ≠ 43 ∧ s ≠ 44 ∧ s ≠ 45 ∧ s ≠ 46 ∧ s ≠ 47 ∧ s ≠ 48 ∧ s ≠ 49 ∧ s ≠ 50 ∧ s ≠ 51 ∧ s ≠ 52 ∧ s ≠ 53 ∧ s ≠ 54 ∧ s ≠ 55 ∧ s ≠ 56 ∧ s ≠ 57 ∧ s ≠ 58 ∧ s ≠ 59 ∧ s ≠ 60 ∧ s ≠ 61) by omega) with h59 | h59 | h59 | h59 | h59 | h59 | h59 | h59 | h59 | h59 | h59 | h59 | h59 | h59 | h59 | h59 | h59 | h59 | h59 | h59 | h59 | h59 | h59 | h59 | h59 | h59
      · refine jr.tsw_k 37 rfl h59 rfl ?_
        refine jr.lload_n rfl rfl ?_
        refine jr.ldc2 (x := (-1)) rfl rfl (by decide) ?_
        refine jr.lcmp_ne rfl rfl rfl (by omega) (by omega) (fun h226 => ?_) (fun h226 => ?_)
        · refine jr.lload rfl rfl ?_
          refine jr.lload_n rfl rfl ?_
          refine jr.lrem rfl (jl_nz (by omega)) ?_
          have b7 : -9223372036854775808 ≤ jl_rem v3 v2 ∧ jl_rem v3 v2 ≤ 9223372036854775807 := jbl_any _
          generalize jl_rem v3 v2 = v7 at b7 ⊢
          refine jr.lstore rfl (by decide) rfl ?_
          refine jr.goto rfl rfl ?_
          refine jr.pick [0, 2] rfl rfl ?_
          exact r_bySign_L291 q (ju M 598 131 (v1 - 1)) v7 (RI.u hI_M (a := 598) (i := 131) (show (0 : Int) ≤ _ ∧ _ ≤ (400 : Int) from by omega)) (RH.o hH_M (by decide) (by decide) (by decide)) (RF.o hS_M (by decide) (by decide))  (fun a i f598 f686 => ((ju_c _ _ f598).trans rfl)) (fun i g131 g135 => ((ju_i _ _ g131).trans rfl)) (by omega) (by rw [(ju_same _ _ _ _)] <;> omega)
        · refine jr.lconst (x := 0) rfl (by decide) ?_
          refine jr.goto rfl rfl ?_
          refine jr.lstore rfl (by decide) rfl ?_
          refine jr.goto rfl rfl ?_
          refine jr.pick [0, 2] rfl rfl ?_
          exact r_bySign_L291 q (ju M 598 131 (v1 - 1)) 0 (RI.u hI_M (a := 598) (i := 131) (show (0 : Int) ≤ _ ∧ _ ≤ (400 : Int) from by omega)) (RH.o hH_M (by decide) (by decide) (by decide)) (RF.o hS_M (by decide) (by decide))  (fun a i f598 f686 => ((ju_c _ _ f598).trans rfl)) (fun i g131 g135 => ((ju_i _ _ g131).trans rfl)) (by omega) (by rw [(ju_same _ _ _ _)] <;> omega)
      · refine jr.tsw_k 38 rfl h59 rfl ?_
        refine jr.lload rfl rfl ?_
        refine jr.lload_n rfl rfl ?_
        refine jr.lcmp_le rfl rfl rfl (by omega) (by omega) (fun h280 => ?_) (fun h280 => ?_)
        · refine jr.lconst (x := 0) rfl (by decide) ?_
          refine jr.lstore rfl (by decide) rfl ?_
          refine jr.pick [0, 2] rfl rfl ?_
          exact r_bySign_L291 q (ju M 598 131 (v1 - 1)) 0 (RI.u hI_M (a := 598) (i := 131) (show (0 : Int) ≤ _ ∧ _ ≤ (400 : Int) from by omega)) (RH.o hH_M (by decide) (by decide) (by decide)) (RF.o hS_M (by decide) (by decide))  (fun a i f598 f686 => ((ju_c _ _ f598).trans rfl)) (fun i g131 g135 => ((ju_i _ _ g131).trans rfl)) (by omega) (by rw [(ju_same _ _ _ _)] <;> omega)
        · refine jr.lconst (x := 1) rfl (by decide) ?_
          refine jr.goto rfl rfl ?_
          refine jr.lstore rfl (by decide) rfl ?_
          refine jr.pick [0, 2] rfl rfl ?_
          exact r_bySign_L291 q (ju M 598 131 (v1 - 1)) 1 (RI.u hI_M (a := 598) (i := 131) (show (0 : Int) ≤ _ ∧ _ ≤ (400 : Int) from by omega)) (RH.o hH_M (by decide) (by decide) (by decide)) (RF.o hS_M (by decide) (by decide))  (fun a i f598 f686 => ((ju_c _ _ f598).trans rfl)) (fun i g131 g135 => ((ju_i _ _ g131).trans rfl)) (by omega) (by rw [(ju_same _ _ _ _)] <;> omega)
      · refine jr.tsw_k 39 rfl h59 rfl ?_
        refine jr.lload rfl rfl ?_
        refine jr.lload_n rfl rfl ?_
        refine jr.lcmp_le rfl rfl rfl (by omega) (by omega) (fun h280 => ?_) (fun h280 => ?_)
        · refine jr.lconst (x := 0) rfl (by decide) ?_
          refine jr.lstore rfl (by decide) rfl ?_
          refine jr.pick [0, 2] rfl rfl ?_
          exact r_bySign_L291 q (ju M 598 131 (v1 - 1)) 0 (RI.u hI_M (a := 598) (i := 131) (show (0 : Int) ≤ _ ∧ _ ≤ (400 : Int) from by omega)) (RH.o hH_M (by decide) (by decide) (by decide)) (RF.o hS_M (by decide) (by decide))  (fun a i f598 f686 => ((ju_c _ _ f598).trans rfl)) (fun i g131 g135 => ((ju_i _ _ g131).trans rfl)) (by omega) (by rw [(ju_same _ _ _ _)] <;> omega)
        · refine jr.lconst (x := 1) rfl (by decide) ?_
          refine jr.goto rfl rfl ?_
          refine jr.lstore rfl (by decide) rfl ?_
          refine jr.pick [0, 2] rfl rfl ?_
          exact r_bySign_L291 q (ju M 598 131 (v1 - 1)) 1 (RI.u hI_M (a := 598) (i := 131) (show (0 : Int) ≤ _ ∧ _ ≤ (400 : Int) from by omega)) (RH.o hH_M (by decide) (by decide) (by decide)) (RF.o hS_M (by decide) (by decide))  (fun a i f598 f686 => ((ju_c _ _ f598).trans rfl)) (fun i g131 g135 => ((ju_i _ _ g131).trans rfl)) (by omega) (by rw [(ju_same _ _ _ _)] <;> omega)
      · refine jr.tsw_k 40 rfl h59 rfl ?_
        refine jr.lload rfl rfl ?_
        refine jr.lload_n rfl rfl ?_
        refine jr.lcmp_le rfl rfl rfl (by omega) (by omega) (fun h280 => ?_) (fun h280 => ?_)
        · refine jr.lconst (x := 0) rfl (by decide) ?_
          refine jr.lstore rfl (by decide) rfl ?_
          refine jr.pick [0, 2] rfl rfl ?_
          exact r_bySign_L291 q (ju M 598 131 (v1 - 1)) 0 (RI.u hI_M (a := 598) (i := 131) (show (0 : Int) ≤ _ ∧ _ ≤ (400 : Int) from by omega)) (RH.o hH_M (by decide) (by decide) (by decide)) (RF.o hS_M (by decide) (by decide))  (fun a i f598 f686 => ((ju_c _ _ f598).trans rfl)) (fun i g131 g135 => ((ju_i _ _ g131).trans rfl)) (by omega) (by rw [(ju_same _ _ _ _)] <;> omega)
        · refine jr.lconst (x := 1) rfl (by decide) ?_
          refine jr.goto rfl rfl ?_
          refine jr.lstore rfl (by decide) rfl ?_
          refine jr.pick [0, 2] rfl rfl ?_
          exact r_bySign_L291 q (ju M 598 131 (v1 - 1)) 1 (RI.u hI_M (a := 598) (i := 131) (show (0 : Int) ≤ _ ∧ _ ≤ (400 : Int) from by omega)) (RH.o hH_M (by decide) (by decide) (by decide)) (RF.o hS_M (by decide) (by decide))  (fun a i f598 f686 => ((ju_c _ _ f598).trans rfl)) (fun i g131 g135 => ((ju_i _ _ g131).trans rfl)) (by omega) (by rw [(ju_same _ _ _ _)] <;> omega)
      · refine jr.tsw_k 41 rfl h59 rfl ?_
        refine jr.lload rfl rfl ?_
        refine jr.lload_n rfl rfl ?_
        refine jr.lcmp_le rfl rfl rfl (by omega) (by omega) (fun h280 => ?_) (fun h280 => ?_)
        · refine jr.lconst (x := 0) rfl (by decide) ?_
          refine jr.lstore rfl (by decide) rfl ?_
          refine jr.pick [0, 2] rfl rfl ?_
          exact r_bySign_L291 q (ju M 598 131 (v1 - 1)) 0 (RI.u hI_M (a := 598) (i := 131) (show (0 : Int) ≤ _ ∧ _ ≤ (400 : Int) from by omega)) (RH.o hH_M (by decide) (by decide) (by decide)) (RF.o hS_M (by decide) (by decide))  (fun a i f598 f686 => ((ju_c _ _ f598).trans rfl)) (fun i g131 g135 => ((ju_i _ _ g131).trans rfl)) (by omega) (by rw [(ju_same _ _ _ _)] <;> omega)
        · refine jr.lconst (x := 1) rfl (by decide) ?_
          refine jr.goto rfl rfl ?_
          refine jr.lstore rfl (by decide) rfl ?_
          refine jr.pick [0, 2] rfl rfl ?_
          exact r_bySign_L291 q (ju M 598 131 (v1 - 1)) 1 (RI.u hI_M (a := 598) (i := 131) (show (0 : Int) ≤ _ ∧ _ ≤ (400 : Int) from by omega)) (RH.o hH_M (by decide) (by decide) (by decide)) (RF.o hS_M (by decide) (by decide))  (fun a i f598 f686 => ((ju_c _ _ f598).trans rfl)) (fun i g131 g135 => ((ju_i _ _ g131).trans rfl)) (by omega) (by rw [(ju_same _ _ _ _)] <;> omega)
      · refine jr.tsw_k 42 rfl h59 rfl ?_
        refine jr.lload rfl rfl ?_
        refine jr.lload_n rfl rfl ?_
        refine jr.lmul rfl ?_
        refine jr.lw (jl_w (v3 * v2)) (jl_w_eq _) ?_
        have b8 : -9223372036854775808 ≤ jl_w (v3 * v2) ∧ jl_w (v3 * v2) ≤ 9223372036854775807 := jbl_any _
        generalize jl_w (v3 * v2) = v8 at b8 ⊢
        refine jr.lstore rfl (by decide) rfl ?_
        refine jr.goto rfl rfl ?_
        refine jr.pick [0, 2] rfl rfl ?_
        exact r_bySign_L291 q (ju M 598 131 (v1 - 1)) v8 (RI.u hI_M (a := 598) (i := 131) (show (0 : Int) ≤ _ ∧ _ ≤ (400 : Int) from by omega)) (RH.o hH_M (by decide) (by decide) (by decide)) (RF.o hS_M (by decide) (by decide))  (fun a i f598 f686 => ((ju_c _ _ f598).trans rfl)) (fun i g131 g135 => ((ju_i _ _ g131).trans rfl)) (by omega) (by rw [(ju_same _ _ _ _)] <;> omega)
      · refine jr.tsw_k 43 rfl h59 rfl ?_
        refine jr.lload rfl rfl ?_
        refine jr.lload_n rfl rfl ?_
        refine jr.ladd rfl ?_
        refine jr.lw (jl_w (v3 + v2)) (jl_w_eq _) ?_
        have b9 : -9223372036854775808 ≤ jl_w (v3 + v2) ∧ jl_w (v3 + v2) ≤ 9223372036854775807 := jbl_any _
        generalize jl_w (v3 + v2) = v9 at b9 ⊢
        refine jr.lstore rfl (by decide) rfl ?_
        refine jr.goto rfl rfl ?_
        refine jr.pick [0, 2] rfl rfl ?_
        exact r_bySign_L291 q (ju M 598 131 (v1 - 1)) v9 (RI.u hI_M (a := 598) (i := 131) (show (0 : Int) ≤ _ ∧ _ ≤ (400 : Int) from by omega)) (RH.o hH_M (by decide) (by decide) (by decide)) (RF.o hS_M (by decide) (by decide))  (fun a i f598 f686 => ((ju_c _ _ f598).trans rfl)) (fun i g131 g135 => ((ju_i _ _ g131).trans rfl)) (by omega) (by rw [(ju_same _ _ _ _)] <;> omega)
      · refine jr.tsw_k 44 rfl h59 rfl ?_
        refine jr.lload rfl rfl ?_
        refine jr.lload_n rfl rfl ?_
        refine jr.lcmp_le rfl rfl rfl (by omega) (by omega) (fun h280 => ?_) (fun h280 => ?_)
        · refine jr.lconst (x := 0) rfl (by decide) ?_
          refine jr.lstore rfl (by decide) rfl ?_
          refine jr.pick [0, 2] rfl rfl ?_
          exact r_bySign_L291 q (ju M 598 131 (v1 - 1)) 0 (RI.u hI_M (a := 598) (i := 131) (show (0 : Int) ≤ _ ∧ _ ≤ (400 : Int) from by omega)) (RH.o hH_M (by decide) (by decide) (by decide)) (RF.o hS_M (by decide) (by decide))  (fun a i f598 f686 => ((ju_c _ _ f598).trans rfl)) (fun i g131 g135 => ((ju_i _ _ g131).trans rfl)) (by omega) (by rw [(ju_same _ _ _ _)] <;> omega)
        · refine jr.lconst (x := 1) rfl (by decide) ?_
          refine jr.goto rfl rfl ?_
          refine jr.lstore rfl (by decide) rfl ?_
          refine jr.pick [0, 2] rfl rfl ?_
          exact r_bySign_L291 q (ju M 598 131 (v1 - 1)) 1 (RI.u hI_M (a := 598) (i := 131) (show (0 : Int) ≤ _ ∧ _ ≤ (400 : Int) from by omega)) (RH.o hH_M (by decide) (by decide) (by decide)) (RF.o hS_M (by decide) (by decide))  (fun a i f598 f686 => ((ju_c _ _ f598).trans rfl)) (fun i g131 g135 => ((ju_i _ _ g131).trans rfl)) (by omega) (by rw [(ju_same _ _ _ _)] <;> omega)
      · refine jr.tsw_k 45 rfl h59 rfl ?_
        refine jr.lload rfl rfl ?_
        refine jr.lload_n rfl rfl ?_
        refine jr.lsub rfl ?_
        refine jr.lw (jl_w (v3 - v2)) (jl_w_eq _) ?_
        have b10 : -9223372036854775808 ≤ jl_w (v3 - v2) ∧ jl_w (v3 - v2) ≤ 9223372036854775807 := jbl_any _
        generalize jl_w (v3 - v2) = v10 at b10 ⊢
        refine jr.lstore rfl (by decide) rfl ?_
        refine jr.goto rfl rfl ?_
        refine jr.pick [0, 2] rfl rfl ?_
        exact r_bySign_L291 q (ju M 598 131 (v1 - 1)) v10 (RI.u hI_M (a := 598) (i := 131) (show (0 : Int) ≤ _ ∧ _ ≤ (400 : Int) from by omega)) (RH.o hH_M (by decide) (by decide) (by decide)) (RF.o hS_M (by decide) (by decide))  (fun a i f598 f686 => ((ju_c _ _ f598).trans rfl)) (fun i g131 g135 => ((ju_i _ _ g131).trans rfl)) (by omega) (by rw [(ju_same _ _ _ _)] <;> omega)
      · refine jr.tsw_k 46 rfl h59 rfl ?_
        refine jr.lload rfl rfl ?_
        refine jr.lload_n rfl rfl ?_
        refine jr.lcmp_le rfl rfl rfl (by omega) (by omega) (fun h280 => ?_) (fun h280 => ?_)
        · refine jr.lconst (x := 0) rfl (by decide) ?_
          refine jr.lstore rfl (by decide) rfl ?_
          refine jr.pick [0, 2] rfl rfl ?_
          exact r_bySign_L291 q (ju M 598 131 (v1 - 1)) 0 (RI.u hI_M (a := 598) (i := 131) (show (0 : Int) ≤ _ ∧ _ ≤ (400 : Int) from by omega)) (RH.o hH_M (by decide) (by decide) (by decide)) (RF.o hS_M (by decide) (by decide))  (fun a i f598 f686 => ((ju_c _ _ f598).trans rfl)) (fun i g131 g135 => ((ju_i _ _ g131).trans rfl)) (by omega) (by rw [(ju_same _ _ _ _)] <;> omega)
        · refine jr.lconst (x := 1) rfl (by decide) ?_
          refine jr.goto rfl rfl ?_
          refine jr.lstore rfl (by decide) rfl ?_
          refine jr.pick [0, 2] rfl rfl ?_
          exact r_bySign_L291 q (ju M 598 131 (v1 - 1)) 1 (RI.u hI_M (a := 598) (i := 131) (show (0 : Int) ≤ _ ∧ _ ≤ (400 : Int) from by omega)) (RH.o hH_M (by decide) (by decide) (by decide)) (RF.o hS_M (by decide) (by decide))  (fun a i f598 f686 => ((ju_c _ _ f598).trans rfl)) (fun i g131 g135 => ((ju_i _ _ g131).trans rfl)) (by omega) (by rw [(ju_same _ _ _ _)] <;> omega)
      · refine jr.tsw_k 47 rfl h59 rfl ?_
        refine jr.lload_n rfl rfl ?_
        refine jr.ldc2 (x := (-1)) rfl rfl (by decide) ?_
        refine jr.lcmp_ne rfl rfl rfl (by omega) (by omega) (fun h203 => ?_) (fun h203 => ?_)
        · refine jr.lload rfl rfl ?_
          refine jr.lload_n rfl rfl ?_
          refine jr.ldiv rfl (jl_nz (by omega)) ?_
          have b11 : -9223372036854775808 ≤ jl_div v3 v2 ∧ jl_div v3 v2 ≤ 9223372036854775807 := jbl_any _
          generalize jl_div v3 v2 = v11 at b11 ⊢
          refine jr.lstore rfl (by decide) rfl ?_
          refine jr.goto rfl rfl ?_
          refine jr.pick [0, 2] rfl rfl ?_
          exact r_bySign_L291 q (ju M 598 131 (v1 - 1)) v11 (RI.u hI_M (a := 598) (i := 131) (show (0 : Int) ≤ _ ∧ _ ≤ (400 : Int) from by omega)) (RH.o hH_M (by decide) (by decide) (by decide)) (RF.o hS_M (by decide) (by decide))  (fun a i f598 f686 => ((ju_c _ _ f598).trans rfl)) (fun i g131 g135 => ((ju_i _ _ g131).trans rfl)) (by omega) (by rw [(ju_same _ _ _ _)] <;> omega)
        · refine jr.lload rfl rfl ?_
          refine jr.lneg rfl ?_
          refine jr.lw (jl_w (-v3)) (jl_w_eq _) ?_
          have b12 : -9223372036854775808 ≤ jl_w (-v3) ∧ jl_w (-v3) ≤ 9223372036854775807 := jbl_any _
          generalize jl_w (-v3) = v12 at b12 ⊢
          refine jr.goto rfl rfl ?_
          refine jr.lstore rfl (by decide) rfl ?_
          refine jr.goto rfl rfl ?_
          refine jr.pick [0, 2] rfl rfl ?_
          exact r_bySign_L291 q (ju M 598 131 (v1 - 1)) v12 (RI.u hI_M (a := 598) (i := 131) (show (0 : Int) ≤ _ ∧ _ ≤ (400 : Int) from by omega)) (RH.o hH_M (by decide) (by decide) (by decide)) (RF.o hS_M (by decide) (by decide))  (fun a i f598 f686 => ((ju_c _ _ f598).trans rfl)) (fun i g131 g135 => ((ju_i _ _ g131).trans rfl)) (by omega) (by rw [(ju_same _ _ _ _)] <;> omega)
      · refine jr.tsw_k 48 rfl h59 rfl ?_
        refine jr.lload rfl rfl ?_
        refine jr.lload_n rfl rfl ?_
        refine jr.lcmp_le rfl rfl rfl (by omega) (by omega) (fun h280 => ?_) (fun h280 => ?_)
        · refine jr.lconst (x := 0) rfl (by decide) ?_
          refine jr.lstore rfl (by decide) rfl ?_
          refine jr.pick [0, 2] rfl rfl ?_
          exact r_bySign_L291 q (ju M 598 131 (v1 - 1)) 0 (RI.u hI_M (a := 598) (i := 131) (show (0 : Int) ≤ _ ∧ _ ≤ (400 : Int) from by omega)) (RH.o hH_M (by decide) (by decide) (by decide)) (RF.o hS_M (by decide) (by decide))  (fun a i f598 f686 => ((ju_c _ _ f598).trans rfl)) (fun i g131 g135 => ((ju_i _ _ g131).trans rfl)) (by omega) (by rw [(ju_same _ _ _ _)] <;> omega)
        · refine jr.lconst (x := 1) rfl (by decide) ?_
          refine jr.goto rfl rfl ?_
          refine jr.lstore rfl (by decide) rfl ?_
          refine jr.pick [0, 2] rfl rfl ?_
          exact r_bySign_L291 q (ju M 598 131 (v1 - 1)) 1 (RI.u hI_M (a := 598) (i := 131) (show (0 : Int) ≤ _ ∧ _ ≤ (400 : Int) from by omega)) (RH.o hH_M (by decide) (by decide) (by decide)) (RF.o hS_M (by decide) (by decide))  (fun a i f598 f686 => ((ju_c _ _ f598).trans rfl)) (fun i g131 g135 => ((ju_i _ _ g131).trans rfl)) (by omega) (by rw [(ju_same _ _ _ _)] <;> omega)
      · refine jr.tsw_k 49 rfl h59 rfl ?_
        refine jr.lload rfl rfl ?_
        refine jr.lload_n rfl rfl ?_
        refine jr.lcmp_le rfl rfl rfl (by omega) (by omega) (fun h280 => ?_) (fun h280 => ?_)
        · refine jr.lconst (x := 0) rfl (by decide) ?_
          refine jr.lstore rfl (by decide) rfl ?_
          refine jr.pick [0, 2] rfl rfl ?_
          exact r_bySign_L291 q (ju M 598 131 (v1 - 1)) 0 (RI.u hI_M (a := 598) (i := 131) (show (0 : Int) ≤ _ ∧ _ ≤ (400 : Int) from by omega)) (RH.o hH_M (by decide) (by decide) (by decide)) (RF.o hS_M (by decide) (by decide))  (fun a i f598 f686 => ((ju_c _ _ f598).trans rfl)) (fun i g131 g135 => ((ju_i _ _ g131).trans rfl)) (by omega) (by rw [(ju_same _ _ _ _)] <;> omega)
        · refine jr.lconst (x := 1) rfl (by decide) ?_
          refine jr.goto rfl rfl ?_
          refine jr.lstore rfl (by decide) rfl ?_
          refine jr.pick [0, 2] rfl rfl ?_
          exact r_bySign_L291 q (ju M 598 131 (v1 - 1)) 1 (RI.u hI_M (a := 598) (i := 131) (show (0 : Int) ≤ _ ∧ _ ≤ (400 : Int) from by omega)) (RH.o hH_M (by decide) (by decide) (by decide)) (RF.o hS_M (by decide) (by decide))  (fun a i f598 f686 => ((ju_c _ _ f598).trans rfl)) (fun i g131 g135 => ((ju_i _ _ g131).trans rfl)) (by omega) (by rw [(ju_same _ _ _ _)] <;> omega)
      · refine jr.tsw_k 50 rfl h59 rfl ?_
        refine jr.lload rfl rfl ?_
        refine jr.lload_n rfl rfl ?_
        refine jr.lcmp_le rfl rfl rfl (by omega) (by omega) (fun h280 => ?_) (fun h280 => ?_)
        · refine jr.lconst (x := 0) rfl (by decide) ?_
          refine jr.lstore rfl (by decide) rfl ?_
          refine jr.pick [0, 2] rfl rfl ?_
          exact r_bySign_L291 q (ju M 598 131 (v1 - 1)) 0 (RI.u hI_M (a := 598) (i := 131) (show (0 : Int) ≤ _ ∧ _ ≤ (400 : Int) from by omega)) (RH.o hH_M (by decide) (by decide) (by decide)) (RF.o hS_M (by decide) (by decide))  (fun a i f598 f686 => ((ju_c _ _ f598).trans rfl)) (fun i g131 g135 => ((ju_i _ _ g131).trans rfl)) (by omega) (by rw [(ju_same _ _ _ _)] <;> omega)
        · refine jr.lconst (x := 1) rfl (by decide) ?_
          refine jr.goto rfl rfl ?_
          refine jr.lstore rfl (by decide) rfl ?_
          refine jr.pick [0, 2] rfl rfl ?_
          exact r_bySign_L291 q (ju M 598 131 (v1 - 1)) 1 (RI.u hI_M (a := 598) (i := 131) (show (0 : Int) ≤ _ ∧ _ ≤ (400 : Int) from by omega)) (RH.o hH_M (by decide) (by decide) (by decide)) (RF.o hS_M (by decide) (by decide))  (fun a i f598 f686 => ((ju_c _ _ f598).trans rfl)) (fun i g131 g135 => ((ju_i _ _ g131).trans rfl)) (by omega) (by rw [(ju_same _ _ _ _)] <;> omega)
      · refine jr.tsw_k 51 rfl h59 rfl ?_
        refine jr.lload rfl rfl ?_
        refine jr.lload_n rfl rfl ?_
        refine jr.lcmp_le rfl rfl rfl (by omega) (by omega) (fun h280 => ?_) (fun h280 => ?_)
        · refine jr.lconst (x := 0) rfl (by decide) ?_
          refine jr.lstore rfl (by decide) rfl ?_
          refine jr.pick [0, 2] rfl rfl ?_
          exact r_bySign_L291 q (ju M 598 131 (v1 - 1)) 0 (RI.u hI_M (a := 598) (i := 131) (show (0 : Int) ≤ _ ∧ _ ≤ (400 : Int) from by omega)) (RH.o hH_M (by decide) (by decide) (by decide)) (RF.o hS_M (by decide) (by decide))  (fun a i f598 f686 => ((ju_c _ _ f598).trans rfl)) (fun i g131 g135 => ((ju_i _ _ g131).trans rfl)) (by omega) (by rw [(ju_same _ _ _ _)] <;> omega)
        · refine jr.lconst (x := 1) rfl (by decide) ?_
          refine jr.goto rfl rfl ?_
          refine jr.lstore rfl (by decide) rfl ?_
          refine jr.pick [0, 2] rfl rfl ?_
          exact r_bySign_L291 q (ju M 598 131 (v1 - 1)) 1 (RI.u hI_M (a := 598) (i := 131) (show (0 : Int) ≤ _ ∧ _ ≤ (400 : Int) from by omega)) (RH.o hH_M (by decide) (by decide) (by decide)) (RF.o hS_M (by decide) (by decide))  (fun a i f598 f686 => ((ju_c _ _ f598).trans rfl)) (fun i g131 g135 => ((ju_i _ _ g131).trans rfl)) (by omega) (by rw [(ju_same _ _ _ _)] <;> omega)
      · refine jr.tsw_k 52 rfl h59 rfl ?_
        refine jr.lload rfl rfl ?_
        refine jr.lload_n rfl rfl ?_
        refine jr.lcmp_le rfl rfl rfl (by omega) (by omega) (fun h280 => ?_) (fun h280 => ?_)
        · refine jr.lconst (x := 0) rfl (by decide) ?_
          refine jr.lstore rfl (by decide) rfl ?_
          refine jr.pick [0, 2] rfl rfl ?_
          exact r_bySign_L291 q (ju M 598 131 (v1 - 1)) 0 (RI.u hI_M (a := 598) (i := 131) (show (0 : Int) ≤ _ ∧ _ ≤ (400 : Int) from by omega)) (RH.o hH_M (by decide) (by decide) (by decide)) (RF.o hS_M (by decide) (by decide))  (fun a i f598 f686 => ((ju_c _ _ f598).trans rfl)) (fun i g131 g135 => ((ju_i _ _ g131).trans rfl)) (by omega) (by rw [(ju_same _ _ _ _)] <;> omega)
        · refine jr.lconst (x := 1) rfl (by decide) ?_
          refine jr.goto rfl rfl ?_
          refine jr.lstore rfl (by decide) rfl ?_
          refine jr.pick [0, 2] rfl rfl ?_
          exact r_bySign_L291 q (ju M 598 131 (v1 - 1)) 1 (RI.u hI_M (a := 598) (i := 131) (show (0 : Int) ≤ _ ∧ _ ≤ (400 : Int) from by omega)) (RH.o hH_M (by decide) (by decide) (by decide)) (RF.o hS_M (by decide) (by decide))  (fun a i f598 f686 => ((ju_c _ _ f598).trans rfl)) (fun i g131 g135 => ((ju_i _ _ g131).trans rfl)) (by omega) (by rw [(ju_same _ _ _ _)] <;> omega)
      · refine jr.tsw_k 53 rfl h59 rfl ?_
        refine jr.lload rfl rfl ?_
        refine jr.lload_n rfl rfl ?_
        refine jr.lcmp_le rfl rfl rfl (by omega) (by omega) (fun h280 => ?_) (fun h280 => ?_)
        · refine jr.lconst (x := 0) rfl (by decide) ?_
          refine jr.lstore rfl (by decide) rfl ?_
          refine jr.pick [0, 2] rfl rfl ?_
          exact r_bySign_L291 q (ju M 598 131 (v1 - 1)) 0 (RI.u hI_M (a := 598) (i := 131) (show (0 : Int) ≤ _ ∧ _ ≤ (400 : Int) from by omega)) (RH.o hH_M (by decide) (by decide) (by decide)) (RF.o hS_M (by decide) (by decide))  (fun a i f598 f686 => ((ju_c _ _ f598).trans rfl)) (fun i g131 g135 => ((ju_i _ _ g131).trans rfl)) (by omega) (by rw [(ju_same _ _ _ _)] <;> omega)
        · refine jr.lconst (x := 1) rfl (by decide) ?_
          refine jr.goto rfl rfl ?_
          refine jr.lstore rfl (by decide) rfl ?_
          refine jr.pick [0, 2] rfl rfl ?_
          exact r_bySign_L291 q (ju M 598 131 (v1 - 1)) 1 (RI.u hI_M (a := 598) (i := 131) (show (0 : Int) ≤ _ ∧ _ ≤ (400 : Int) from by omega)) (RH.o hH_M (by decide) (by decide) (by decide)) (RF.o hS_M (by decide) (by decide))  (fun a i f598 f686 => ((ju_c _ _ f598).trans rfl)) (fun i g131 g135 => ((ju_i _ _ g131).trans rfl)) (by omega) (by rw [(ju_same _ _ _ _)] <;> omega)
      · refine jr.tsw_k 54 rfl h59 rfl ?_
        refine jr.lload rfl rfl ?_
        refine jr.lload_n rfl rfl ?_
        refine jr.lcmp_le rfl rfl rfl (by omega) (by omega) (fun h280 => ?_) (fun h280 => ?_)
        · refine jr.lconst (x := 0) rfl (by decide) ?_
          refine jr.lstore rfl (by decide) rfl ?_
          refine jr.pick [0, 2] rfl rfl ?_
          exact r_bySign_L291 q (ju M 598 131 (v1 - 1)) 0 (RI.u hI_M (a := 598) (i := 131) (show (0 : Int) ≤ _ ∧ _ ≤ (400 : Int) from by omega)) (RH.o hH_M (by decide) (by decide) (by decide)) (RF.o hS_M (by decide) (by decide))  (fun a i f598 f686 => ((ju_c _ _ f598).trans rfl)) (fun i g131 g135 => ((ju_i _ _ g131).trans rfl)) (by omega) (by rw [(ju_same _ _ _ _)] <;> omega)
        · refine jr.lconst (x := 1) rfl (by decide) ?_
          refine jr.goto rfl rfl ?_
          refine jr.lstore rfl (by decide) rfl ?_
          refine jr.pick [0, 2] rfl rfl ?_
          exact r_bySign_L291 q (ju M 598 131 (v1 - 1)) 1 (RI.u hI_M (a := 598) (i := 131) (show (0 : Int) ≤ _ ∧ _ ≤ (400 : Int) from by omega)) (RH.o hH_M (by decide) (by decide) (by decide)) (RF.o hS_M (by decide) (by decide))  (fun a i f598 f686 => ((ju_c _ _ f598).trans rfl)) (fun i g131 g135 => ((ju_i _ _ g131).trans rfl)) (by omega) (by rw [(ju_same _ _ _ _)] <;> omega)
      · refine jr.tsw_k 55 rfl h59 rfl ?_
        refine jr.lload rfl rfl ?_
        refine jr.lload_n rfl rfl ?_
        refine jr.lcmp_le rfl rfl rfl (by omega) (by omega) (fun h280 => ?_) (fun h280 => ?_)
        · refine jr.lconst (x := 0) rfl (by decide) ?_
          refine jr.lstore rfl (by decide) rfl ?_
          refine jr.pick [0, 2] rfl rfl ?_
          exact r_bySign_L291 q (ju M 598 131 (v1 - 1)) 0 (RI.u hI_M (a := 598) (i := 131) (show (0 : Int) ≤ _ ∧ _ ≤ (400 : Int) from by omega)) (RH.o hH_M (by decide) (by decide) (by decide)) (RF.o hS_M (by decide) (by decide))  (fun a i f598 f686 => ((ju_c _ _ f598).trans rfl)) (fun i g131 g135 => ((ju_i _ _ g131).trans rfl)) (by omega) (by rw [(ju_same _ _ _ _)] <;> omega)
        · refine jr.lconst (x := 1) rfl (by decide) ?_
          refine jr.goto rfl rfl ?_
          refine jr.lstore rfl (by decide) rfl ?_
          refine jr.pick [0, 2] rfl rfl ?_
          exact r_bySign_L291 q (ju M 598 131 (v1 - 1)) 1 (RI.u hI_M (a := 598) (i := 131) (show (0 : Int) ≤ _ ∧ _ ≤ (400 : Int) from by omega)) (RH.o hH_M (by decide) (by decide) (by decide)) (RF.o hS_M (by decide) (by decide))  (fun a i f598 f686 => ((ju_c _ _ f598).trans rfl)) (fun i g131 g135 => ((ju_i _ _ g131).trans rfl)) (by omega) (by rw [(ju_same _ _ _ _)] <;> omega)
      · refine jr.tsw_k 56 rfl h59 rfl ?_
        refine jr.lload rfl rfl ?_
        refine jr.lload_n rfl rfl ?_
        refine jr.lcmp_le rfl rfl rfl (by omega) (by omega) (fun h280 => ?_) (fun h280 => ?_)
        · refine jr.lconst (x := 0) rfl (by decide) ?_
          refine jr.lstore rfl (by decide) rfl ?_
          refine jr.pick [0, 2] rfl rfl ?_
          exact r_bySign_L291 q (ju M 598 131 (v1 - 1)) 0 (RI.u hI_M (a := 598) (i := 131) (show (0 : Int) ≤ _ ∧ _ ≤ (400 : Int) from by omega)) (RH.o hH_M (by decide) (by decide) (by decide)) (RF.o hS_M (by decide) (by decide))  (fun a i f598 f686 => ((ju_c _ _ f598).trans rfl)) (fun i g131 g135 => ((ju_i _ _ g131).trans rfl)) (by omega) (by rw [(ju_same _ _ _ _)] <;> omega)
        · refine jr.lconst (x := 1) rfl (by decide) ?_
          refine jr.goto rfl rfl ?_
          refine jr.lstore rfl (by decide) rfl ?_
          refine jr.pick [0, 2] rfl rfl ?_
          exact r_bySign_L291 q (ju M 598 131 (v1 - 1)) 1 (RI.u hI_M (a := 598) (i := 131) (show (0 : Int) ≤ _ ∧ _ ≤ (400 : Int) from by omega)) (RH.o hH_M (by decide) (by decide) (by decide)) (RF.o hS_M (by decide) (by decide))  (fun a i f598 f686 => ((ju_c _ _ f598).trans rfl)) (fun i g131 g135 => ((ju_i _ _ g131).trans rfl)) (by omega) (by rw [(ju_same _ _ _ _)] <;> omega)
      · refine jr.tsw_k 57 rfl h59 rfl ?_
        refine jr.lload rfl rfl ?_
        refine jr.lload_n rfl rfl ?_
        refine jr.lcmp_le rfl rfl rfl (by omega) (by omega) (fun h280 => ?_) (fun h280 => ?_)
        · refine jr.lconst (x := 0) rfl (by decide) ?_
          refine jr.lstore rfl (by decide) rfl ?_
          refine jr.pick [0, 2] rfl rfl ?_
          exact r_bySign_L291 q (ju M 598 131 (v1 - 1)) 0 (RI.u hI_M (a := 598) (i := 131) (show (0 : Int) ≤ _ ∧ _ ≤ (400 : Int) from by omega)) (RH.o hH_M (by decide) (by decide) (by decide)) (RF.o hS_M (by decide) (by decide))  (fun a i f598 f686 => ((ju_c _ _ f598).trans rfl)) (fun i g131 g135 => ((ju_i _ _ g131).trans rfl)) (by omega) (by rw [(ju_same _ _ _ _)] <;> omega)
        · refine jr.lconst (x := 1) rfl (by decide) ?_
          refine jr.goto rfl rfl ?_
          refine jr.lstore rfl (by decide) rfl ?_
          refine jr.pick [0, 2] rfl rfl ?_
          exact r_bySign_L291 q (ju M 598 131 (v1 - 1)) 1 (RI.u hI_M (a := 598) (i := 131) (show (0 : Int) ≤ _ ∧ _ ≤ (400 : Int) from by omega)) (RH.o hH_M (by decide) (by decide) (by decide)) (RF.o hS_M (by decide) (by decide))  (fun a i f598 f686 => ((ju_c _ _ f598).trans rfl)) (fun i g131 g135 => ((ju_i _ _ g131).trans rfl)) (by omega) (by rw [(ju_same _ _ _ _)] <;> omega)
      · refine jr.tsw_k 58 rfl h59 rfl ?_
        refine jr.lload rfl rfl ?_
        refine jr.lload_n rfl rfl ?_
        refine jr.lcmp_le rfl rfl rfl (by omega) (by omega) (fun h280 => ?_) (fun h280 => ?_)
        · refine jr.lconst (x := 0) rfl (by decide) ?_
          refine jr.lstore rfl (by decide) rfl ?_
          refine jr.pick [0, 2] rfl rfl ?_
          exact r_bySign_L291 q (ju M 598 131 (v1 - 1)) 0 (RI.u hI_M (a := 598) (i := 131) (show (0 : Int) ≤ _ ∧ _ ≤ (400 : Int) from by omega)) (RH.o hH_M (by decide) (by decide) (by decide)) (RF.o hS_M (by decide) (by decide))  (fun a i f598 f686 => ((ju_c _ _ f598).trans rfl)) (fun i g131 g135 => ((ju_i _ _ g131).trans rfl)) (by omega) (by rw [(ju_same _ _ _ _)] <;> omega)
        · refine jr.lconst (x := 1) rfl (by decide) ?_
          refine jr.goto rfl rfl ?_
          refine jr.lstore rfl (by decide) rfl ?_
          refine jr.pick [0, 2] rfl rfl ?_
          exact r_bySign_L291 q (ju M 598 131 (v1 - 1)) 1 (RI.u hI_M (a := 598) (i := 131) (show (0 : Int) ≤ _ ∧ _ ≤ (400 : Int) from by omega)) (RH.o hH_M (by decide) (by decide) (by decide)) (RF.o hS_M (by decide) (by decide))  (fun a i f598 f686 => ((ju_c _ _ f598).trans rfl)) (fun i g131 g135 => ((ju_i _ _ g131).trans rfl)) (by omega) (by rw [(ju_same _ _ _ _)] <;> omega)
      · refine jr.tsw_k 59 rfl h59 rfl ?_
        refine jr.lload rfl rfl ?_
        refine jr.lload_n rfl rfl ?_
        refine jr.lcmp_le rfl rfl rfl (by omega) (by omega) (fun h280 => ?_) (fun h280 => ?_)
        · refine jr.lconst (x := 0) rfl (by decide) ?_
          refine jr.lstore rfl (by decide) rfl ?_
          refine jr.pick [0, 2] rfl rfl ?_
          exact r_bySign_L291 q (ju M 598 131 (v1 - 1)) 0 (RI.u hI_M (a := 598) (i := 131) (show (0 : Int) ≤ _ ∧ _ ≤ (400 : Int) from by omega)) (RH.o hH_M (by decide) (by decide) (by decide)) (RF.o hS_M (by decide) (by decide))  (fun a i f598 f686 => ((ju_c _ _ f598).trans rfl)) (fun i g131 g135 => ((ju_i _ _ g131).trans rfl)) (by omega) (by rw [(ju_same _ _ _ _)] <;> omega)
        · refine jr.lconst (x := 1) rfl (by decide) ?_
          refine jr.goto rfl rfl ?_
          refine jr.lstore rfl (by decide) rfl ?_
          refine jr.pick [0, 2] rfl rfl ?_
          exact r_bySign_L291 q (ju M 598 131 (v1 - 1)) 1 (RI.u hI_M (a := 598) (i := 131) (show (0 : Int) ≤ _ ∧ _ ≤ (400 : Int) from by omega)) (RH.o hH_M (by decide) (by decide) (by decide)) (RF.o hS_M (by decide) (by decide))  (fun a i f598 f686 => ((ju_c _ _ f598).trans rfl)) (fun i g131 g135 => ((ju_i _ _ g131).trans rfl)) (by omega) (by rw [(ju_same _ _ _ _)] <;> omega)
      · refine jr.tsw_k 60 rfl h59 rfl ?_
        refine jr.lload rfl rfl ?_
        refine jr.lload_n rfl rfl ?_
        refine jr.lcmp_ge rfl rfl rfl (by omega) (by omega) (fun h263 => ?_) (fun h263 => ?_)
        · refine jr.lconst (x := 0) rfl (by decide) ?_
          refine jr.lstore rfl (by decide) rfl ?_
          refine jr.goto rfl rfl ?_
          refine jr.pick [0, 2] rfl rfl ?_
          exact r_bySign_L291 q (ju M 598 131 (v1 - 1)) 0 (RI.u hI_M (a := 598) (i := 131) (show (0 : Int) ≤ _ ∧ _ ≤ (400 : Int) from by omega)) (RH.o hH_M (by decide) (by decide) (by decide)) (RF.o hS_M (by decide) (by decide))  (fun a i f598 f686 => ((ju_c _ _ f598).trans rfl)) (fun i g131 g135 => ((ju_i _ _ g131).trans rfl)) (by omega) (by rw [(ju_same _ _ _ _)] <;> omega)
        · refine jr.lconst (x := 1) rfl (by decide) ?_
          refine jr.goto rfl rfl ?_
          refine jr.lstore rfl (by decide) rfl ?_
          refine jr.goto rfl rfl ?_
          refine jr.pick [0, 2] rfl rfl ?_
          exact r_bySign_L291 q (ju M 598 131 (v1 - 1)) 1 (RI.u hI_M (a := 598) (i := 131) (show (0 : Int) ≤ _ ∧ _ ≤ (400 : Int) from by omega)) (RH.o hH_M (by decide) (by decide) (by decide)) (RF.o hS_M (by decide) (by decide))  (fun a i f598 f686 => ((ju_c _ _ f598).trans rfl)) (fun i g131 g135 => ((ju_i _ _ g131).trans rfl)) (by omega) (by rw [(ju_same _ _ _ _)] <;> omega)
      · refine jr.tsw_k 61 rfl h59 rfl ?_
        refine jr.lload rfl rfl ?_
        refine jr.lload_n rfl rfl ?_
        refine jr.lcmp_ne rfl rfl rfl (by omega) (by omega) (fun h246 => ?_) (fun h246 => ?_)
        · refine jr.lconst (x := 0) rfl (by decide) ?_
          refine jr.lstore rfl (by decide) rfl ?_
          refine jr.goto rfl rfl ?_
          refine jr.pick [0, 2] rfl rfl ?_
          exact r_bySign_L291 q (ju M 598 131 (v1 - 1)) 0 (RI.u hI_M (a := 598) (i := 131) (show (0 : Int) ≤ _ ∧ _ ≤ (400 : Int) from by omega)) (RH.o hH_M (by decide) (by decide) (by decide)) (RF.o hS_M (by decide) (by decide))  (fun a i f598 f686 => ((ju_c _ _ f598).trans rfl)) (fun i g131 g135 => ((ju_i _ _ g131).trans rfl)) (by omega) (by rw [(ju_same _ _ _ _)] <;> omega)
        · refine jr.lconst (x := 1) rfl (by decide) ?_
          refine jr.goto rfl rfl ?_
          refine jr.lstore rfl (by decide) rfl ?_
          refine jr.goto rfl rfl ?_
          refine jr.pick [0, 2] rfl rfl ?_
          exact r_bySign_L291 q (ju M 598 131 (v1 - 1)) 1 (RI.u hI_M (a := 598) (i := 131) (show (0 : Int) ≤ _ ∧ _ ≤ (400 : Int) from by omega)) (RH.o hH_M (by decide) (by decide) (by decide)) (RF.o hS_M (by decide) (by decide))  (fun a i f598 f686 => ((ju_c _ _ f598).trans rfl)) (fun i g131 g135 => ((ju_i _ _ g131).trans rfl)) (by omega) (by rw [(ju_same _ _ _ _)] <;> omega)
      · refine jr.tsw_d rfl (by omega) (by omega) rfl ?_
        refine jr.lload rfl rfl ?_
        refine jr.lload_n rfl rfl ?_
        refine jr.lcmp_le rfl rfl rfl (by omega) (by omega) (fun h280 => ?_) (fun h280 => ?_)
        · refine jr.lconst (x := 0) rfl (by decide) ?_
          refine jr.lstore rfl (by decide) rfl ?_
          refine jr.pick [0, 2] rfl rfl ?_
          exact r_bySign_L291 q (ju M 598 131 (v1 - 1)) 0 (RI.u hI_M (a := 598) (i := 131) (show (0 : Int) ≤ _ ∧ _ ≤ (400 : Int) from by omega)) (RH.o hH_M (by decide) (by decide) (by decide)) (RF.o hS_M (by decide) (by decide))  (fun a i f598 f686 => ((ju_c _ _ f598).trans rfl)) (fun i g131 g135 => ((ju_i _ _ g131).trans rfl)) (by omega) (by rw [(ju_same _ _ _ _)] <;> omega)
        · refine jr.lconst (x := 1) rfl (by decide) ?_
          refine jr.goto rfl rfl ?_
          refine jr.lstore rfl (by decide) rfl ?_
          refine jr.pick [0, 2] rfl rfl ?_
          exact r_bySign_L291 q (ju M 598 131 (v1 - 1)) 1 (RI.u hI_M (a := 598) (i := 131) (show (0 : Int) ≤ _ ∧ _ ≤ (400 : Int) from by omega)) (RH.o hH_M (by decide) (by decide) (by decide)) (RF.o hS_M (by decide) (by decide))  (fun a i f598 f686 => ((ju_c _ _ f598).trans rfl)) (fun i g131 g135 => ((ju_i _ _ g131).trans rfl)) (by omega) (by rw [(ju_same _ _ _ _)] <;> omega)
    · refine jr.lload_n rfl rfl ?_
      refine jr.lconst (x := 0) rfl (by decide) ?_
      refine jr.lcmp_ne rfl rfl rfl (by omega) (by omega) (fun h47 => ?_) (fun h47 => ?_)
      · refine jr.iload_n rfl rfl ?_
        rcases (show s = 37 by omega) with h59
        · refine jr.tsw_k 37 rfl h59 rfl ?_
          refine jr.lload_n rfl rfl ?_
          refine jr.ldc2 (x := (-1)) rfl rfl (by decide) ?_
          refine jr.lcmp_ne rfl rfl rfl (by omega) (by omega) (fun h226 => ?_) (fun h226 => ?_)
          · refine jr.lload rfl rfl ?_
            refine jr.lload_n rfl rfl ?_
            refine jr.lrem rfl (jl_nz (by omega)) ?_
            have b13 : -9223372036854775808 ≤ jl_rem v3 v2 ∧ jl_rem v3 v2 ≤ 9223372036854775807 := jbl_any _
            generalize jl_rem v3 v2 = v13 at b13 ⊢
            refine jr.lstore rfl (by decide) rfl ?_
            refine jr.goto rfl rfl ?_
            refine jr.pick [0, 2] rfl rfl ?_
            exact r_bySign_L291 q (ju M 598 131 (v1 - 1)) v13 (RI.u hI_M (a := 598) (i := 131) (show (0 : Int) ≤ _ ∧ _ ≤ (400 : Int) from by omega)) (RH.o hH_M (by decide) (by decide) (by decide)) (RF.o hS_M (by decide) (by decide))  (fun a i f598 f686 => ((ju_c _ _ f598).trans rfl)) (fun i g131 g135 => ((ju_i _ _ g131).trans rfl)) (by omega) (by rw [(ju_same _ _ _ _)] <;> omega)
          · refine jr.lconst (x := 0) rfl (by decide) ?_
            refine jr.goto rfl rfl ?_
            refine jr.lstore rfl (by decide) rfl ?_
            refine jr.goto rfl rfl ?_
            refine jr.pick [0, 2] rfl rfl ?_
            exact r_bySign_L291 q (ju M 598 131 (v1 - 1)) 0 (RI.u hI_M (a := 598) (i := 131) (show (0 : Int) ≤ _ ∧ _ ≤ (400 : Int) from by omega)) (RH.o hH_M (by decide) (by decide) (by decide)) (RF.o hS_M (by decide) (by decide))  (fun a i f598 f686 => ((ju_c _ _ f598).trans rfl)) (fun i g131 g135 => ((ju_i _ _ g131).trans rfl)) (by omega) (by rw [(ju_same _ _ _ _)] <;> omega)
      · refine jr.aload_n rfl rfl ?_
        refine jr.bipush rfl (by decide) ?_
        refine jr.putf (i := 135) (x := 6) rfl rfl (by decide) rfl (by decide) rfl rfl rfl rfl rfl ?_
        have y14 : (ju (ju M 598 131 (v1 - 1)) 598 135 6) 598 131 = v1 - 1 := ((ju_i _ _ (by decide)).trans (ju_same _ _ _ _))
        exact jr.vreturn rfl rfl (q _ (RI.u (RI.u hI_M (a := 598) (i := 131) (show (0 : Int) ≤ _ ∧ _ ≤ (400 : Int) from by omega)) (a := 598) (i := 135) (show (0 : Int) ≤ _ ∧ _ ≤ (8 : Int) from by omega)) (RH.o (RH.o hH_M (by decide) (by decide) (by decide)) (by decide) (by decide) (by decide)) (RF.o (RF.o hS_M (by decide) (by decide)) (by decide) (by decide))  (by omega) (fun a i f598 f686 => ((ju_c _ _ f598).trans ((ju_c _ _ f598).trans rfl))) (fun i g131 g135 => ((ju_i _ _ g135).trans ((ju_i _ _ g131).trans rfl))))
theorem r_learn_L40 {A : Nat → Option (Nat × (Nat → Int32))} {Q : Option Value → jm → Prop} {M0 : jm} (q : ∀ (M' : jm), RI M' → RH M' → RF M' → (∀ (a : Nat) (i : Int), a ≠ 598 → a ≠ 672 → a ≠ 673 → M' a i = M0 a i) → (∀ (i : Int), i ≠ 135 → M' 598 i = M0 598 i) → Q none M') : ∀ (nM : Nat) (M : jm) (i : Int) (s : Int) (v : Int), RI M → RH M → RF M → (∀ (a : Nat) (i : Int), a ≠ 598 → a ≠ 672 → a ≠ 673 → M a i = M0 a i) → (∀ (i : Int), i ≠ 135 → M 598 i = M0 598 i) → 0 ≤ i ∧ i ≤ 15 → 0 ≤ s ∧ s ≤ 3 → (-9223372036854775808) ≤ v ∧ v ≤ 9223372036854775807 → 16 ≤ M 672 s ∧ M 672 s ≤ 16 → 15 - i ≤ nM → jr A 2 xm_396 40 [(7, .int (Int32.ofInt (i))), (6, .int (Int32.ofInt (s))), (3, .long (Int64.ofInt (v))), (0, .ref (598))] [] M Q := by
  intro nM
  induction nM using Nat.strongRecOn with
  | ind nM ih =>
    intro M i s v hI_M hH_M hS_M hF_M hG_M h_i h_s h_v hy0 hm
    refine jr.iload rfl rfl ?_
    refine jr.bipush rfl (by decide) ?_
    refine jr.icmp_ge rfl rfl (by omega) (by omega) (fun h44 => ?_) (fun h44 => ?_)
    · refine jr.aload_n rfl rfl ?_
      refine jr.getf (i := 115) (v := .ref 672) rfl rfl (by decide) rfl (by decide) rfl rfl rfl rfl ?_
      refine jr.iload rfl rfl ?_
      refine jr.dup2 rfl ⟨rfl, rfl⟩ ?_
      obtain ⟨v1, e1⟩ : ∃ z, M 672 s = z := ⟨_, rfl⟩
      have b1 : 0 ≤ v1 ∧ v1 ≤ 16 := by rw [← e1]; exact (by have q := hI_M 672 s (by decide); rw [xri_row rfl rfl] at q; exact q)
      refine jr.iald (i := s) (x := v1) rfl (by decide) rfl (by decide) (by omega) (by omega) e1 ?_
      refine jr.iconst rfl ?_
      refine jr.isub rfl ?_
      refine jr.iast (i := s) (x := (v1 - 1)) rfl (by decide) rfl (by decide) (by omega) (by omega) ?_
      refine jr.aload_n rfl rfl ?_
      refine jr.getf (i := 116) (v := .ref 673) rfl rfl (by decide) rfl (by decide) rfl rfl rfl rfl ?_
      refine jr.bipush rfl (by decide) ?_
      refine jr.iload rfl rfl ?_
      refine jr.imul rfl ?_
      refine jr.aload_n rfl rfl ?_
      refine jr.getf (i := 115) (v := .ref 672) rfl rfl (by decide) rfl (by decide) rfl rfl rfl rfl ?_
      refine jr.iload rfl rfl ?_
      refine jr.iald (i := s) (x := (v1 - 1)) rfl (by decide) rfl (by decide) (by omega) (by omega) (ju_same _ _ _ _) ?_
      refine jr.iadd rfl ?_
      refine jr.lload_n rfl rfl ?_
      refine jr.last (i := ((16 * s) + (v1 - 1))) (x := v) rfl (by decide) rfl (by decide) (by omega) (by omega) ?_
      refine jr.aload_n rfl rfl ?_
      refine jr.getf (i := 115) (v := .ref 672) rfl rfl (by decide) rfl (by decide) rfl rfl rfl rfl ?_
      refine jr.iload rfl rfl ?_
      refine jr.dup2 rfl ⟨rfl, rfl⟩ ?_
      refine jr.iald (i := s) (x := (v1 - 1)) rfl (by decide) rfl (by decide) (by omega) (by omega) ((ju_c _ _ (by decide)).trans (ju_same _ _ _ _)) ?_
      refine jr.iconst rfl ?_
      refine jr.iadd rfl ?_
      refine jr.iast (i := s) (x := ((v1 - 1) + 1)) rfl (by decide) rfl (by decide) (by omega) (by omega) ?_
      exact jr.vreturn rfl rfl (q _ (RI.u (RI.u (RI.u hI_M (a := 672) (i := s) (by rw [xri_row rfl rfl]; show (0 : Int) ≤ _ ∧ _ ≤ (16 : Int); omega)) (a := 673) (i := ((16 * s) + (v1 - 1))) (by rw [xri_row rfl rfl]; show (-9223372036854775808 : Int) ≤ _ ∧ _ ≤ (9223372036854775807 : Int); omega)) (a := 672) (i := s) (by rw [xri_row rfl rfl]; show (0 : Int) ≤ _ ∧ _ ≤ (16 : Int); omega)) (RH.o (RH.o (RH.o hH_M (by decide) (by decide) (by decide)) (by decide) (by decide) (by decide)) (by decide) (by decide) (by decide)) (RF.o (RF.o (RF.o hS_M (by decide) (by decide)) (by decide) (by decide)) (by decide) (by decide))  (fun a i f598 f672 f673 => ((ju_c _ _ f672).trans ((ju_c _ _ f673).trans ((ju_c _ _ f672).trans (hF_M a i f598 f672 f673))))) (fun i g135 => ((ju_c _ _ (by decide)).trans ((ju_c _ _ (by decide)).trans ((ju_c _ _ (by decide)).trans (hG_M i g135))))))
    · refine jr.aload_n rfl rfl ?_
      refine jr.getf (i := 116) (v := .ref 673) rfl rfl (by decide) rfl (by decide) rfl rfl rfl rfl ?_
      refine jr.bipush rfl (by decide) ?_
      refine jr.iload rfl rfl ?_
      refine jr.imul rfl ?_
      refine jr.iload rfl rfl ?_
      refine jr.iadd rfl ?_
      refine jr.aload_n rfl rfl ?_
      refine jr.getf (i := 116) (v := .ref 673) rfl rfl (by decide) rfl (by decide) rfl rfl rfl rfl ?_
      refine jr.bipush rfl (by decide) ?_
      refine jr.iload rfl rfl ?_
      refine jr.imul rfl ?_
      refine jr.iload rfl rfl ?_
      refine jr.iadd rfl ?_
      refine jr.iconst rfl ?_
      refine jr.iadd rfl ?_
      obtain ⟨v2, e2⟩ : ∃ z, M 673 (((16 * s) + i) + 1) = z := ⟨_, rfl⟩
      have b2 : (-9223372036854775808) ≤ v2 ∧ v2 ≤ 9223372036854775807 := by rw [← e2]; exact (by have q := hI_M 673 (((16 * s) + i) + 1) (by decide); rw [xri_row rfl rfl] at q; exact q)
      refine jr.lald (i := (((16 * s) + i) + 1)) (x := v2) rfl (by decide) rfl (by decide) (by omega) (by omega) e2 ?_
      refine jr.last (i := ((16 * s) + i)) (x := v2) rfl (by decide) rfl (by decide) (by omega) (by omega) ?_
      refine jr.iinc rfl rfl (by decide) rfl ?_
      refine jr.goto rfl rfl ?_
      obtain ⟨v3, e3⟩ : ∃ z, M 672 s = z := ⟨_, rfl⟩
      have b3 : 0 ≤ v3 ∧ v3 ≤ 16 := by rw [← e3]; exact (by have q := hI_M 672 s (by decide); rw [xri_row rfl rfl] at q; exact q)
      refine jr.pick [0, 1, 2, 3] rfl rfl ?_
      exact ih (nM - 1) (by omega) (ju M 673 ((16 * s) + i) v2) (i + 1) s v (RI.u hI_M (a := 673) (i := ((16 * s) + i)) (by rw [xri_row rfl rfl]; show (-9223372036854775808 : Int) ≤ _ ∧ _ ≤ (9223372036854775807 : Int); omega)) (RH.o hH_M (by decide) (by decide) (by decide)) (RF.o hS_M (by decide) (by decide))  (fun a i f598 f672 f673 => ((ju_c _ _ f673).trans (hF_M a i f598 f672 f673))) (fun i g135 => ((ju_c _ _ (by decide)).trans (hG_M i g135))) (by omega) (by omega) (by omega) (by rw [((ju_c _ _ (by decide)).trans e3)]; omega) (by omega)
theorem r_learn {A : Nat → Option (Nat × (Nat → Int32))} {Q : Option Value → jm → Prop} {M : jm} (hI_M : RI M) (hH_M : RH M) (hS_M : RF M) {k : Int} (h_k : (-9223372036854775808) ≤ k ∧ k ≤ 9223372036854775807) {v : Int} (h_v : (-9223372036854775808) ≤ v ∧ v ≤ 9223372036854775807) (q : ∀ (M' : jm), RI M' → RH M' → RF M' → (∀ (a : Nat) (i : Int), a ≠ 598 → a ≠ 672 → a ≠ 673 → M' a i = M a i) → (∀ (i : Int), i ≠ 135 → M' 598 i = M 598 i) → Q none M') : jc A 3 396 [.ref (598), .long (Int64.ofInt (k)), .long (Int64.ofInt (v))] M Q := by
  refine jc_of (m := xm_396) rfl (Nat.le_of_ble_eq_true rfl) rfl ?_
  refine jr.aload_n rfl rfl ?_
  refine jr.lload_n rfl rfl ?_
  refine jr.lload_n rfl rfl ?_
  refine jr_v rfl rfl (Or.inl rfl) rfl rfl (by decide) rfl ⟨rfl, Nat.le_of_ble_eq_true rfl, Nat.le_of_ble_eq_true rfl⟩ rfl (jc.deep (r_isIn hI_M hH_M hS_M  (by omega) (by omega)  (fun r1 M1 hI_M1 hH_M1 hS_M1  z1 w1_0 w1_1 w1_2 => ?_)) (by decide))
  refine jr.istore rfl (by decide) rfl ?_
  refine jr.aload_n rfl rfl ?_
  obtain ⟨v2, e2⟩ : ∃ z, M1 598 135 = z := ⟨_, rfl⟩
  have b2 : 0 ≤ v2 ∧ v2 ≤ 8 := by rw [← e2]; exact hI_M1 598 135 (by decide)
  refine jr.getf (i := 135) (x := v2) (v := .int (Int32.ofInt (v2))) rfl rfl (by decide) rfl (by decide) rfl rfl e2 rfl ?_
  refine jr.if_ne rfl rfl (by omega) (fun h12 => ?_) (fun h12 => ?_)
  · exact jr.vreturn rfl rfl (q _ hI_M1 hH_M1 hS_M1  (fun a i f598 f672 f673 => ((w1_1 a i f598).trans rfl)) (fun i g135 => ((w1_2 i g135).trans rfl)))
  · refine jr.iload rfl rfl ?_
    refine jr.if_eq rfl rfl (by omega) (fun h17 => ?_) (fun h17 => ?_)
    · refine jr.lload_n rfl rfl ?_
      refine jr.l2i rfl ?_
      refine jr.iw (j_w k) (j_w_eq _) ?_
      have b3 : -2147483648 ≤ j_w k ∧ j_w k ≤ 2147483647 := jb_any _
      generalize j_w k = v3 at b3 ⊢
      refine jr.istore rfl (by decide) rfl ?_
      refine jr.aload_n rfl rfl ?_
      refine jr.getf (i := 115) (v := .ref 672) rfl rfl (by decide) rfl (by decide) rfl rfl rfl rfl ?_
      refine jr.iload rfl rfl ?_
      obtain ⟨v4, e4⟩ : ∃ z, M 672 v3 = z := ⟨_, rfl⟩
      have b4 : 0 ≤ v4 ∧ v4 ≤ 16 := by rw [← e4]; exact (by have q := hI_M 672 v3 (by decide); rw [xri_row rfl rfl] at q; exact q)
      have e5 : M1 672 v3 = v4 := ((w1_1 672 v3 (by decide)).trans e4)
      refine jr.iald (i := v3) (x := v4) rfl (by decide) rfl (by decide) (by omega) (by omega) e5 ?_
      refine jr.bipush rfl (by decide) ?_
      refine jr.icmp_ne rfl rfl (by omega) (by omega) (fun h34 => ?_) (fun h34 => ?_)
      · refine jr.aload_n rfl rfl ?_
        refine jr.getf (i := 116) (v := .ref 673) rfl rfl (by decide) rfl (by decide) rfl rfl rfl rfl ?_
        refine jr.bipush rfl (by decide) ?_
        refine jr.iload rfl rfl ?_
        refine jr.imul rfl ?_
        refine jr.iw (j_w (16 * v3)) (j_w_eq _) ?_
        have b6 : -2147483648 ≤ j_w (16 * v3) ∧ j_w (16 * v3) ≤ 2147483647 := jb_any _
        generalize j_w (16 * v3) = v6 at b6 ⊢
        refine jr.aload_n rfl rfl ?_
        refine jr.getf (i := 115) (v := .ref 672) rfl rfl (by decide) rfl (by decide) rfl rfl rfl rfl ?_
        refine jr.iload rfl rfl ?_
        refine jr.iald (i := v3) (x := v4) rfl (by decide) rfl (by decide) (by omega) (by omega) e5 ?_
        refine jr.iadd rfl ?_
        refine jr.iw (j_w (v6 + v4)) (j_w_eq _) ?_
        have b7 : -2147483648 ≤ j_w (v6 + v4) ∧ j_w (v6 + v4) ≤ 2147483647 := jb_any _
        generalize j_w (v6 + v4) = v7 at b7 ⊢
        refine jr.lload_n rfl rfl ?_
        refine jr.last (i := v7) (x := v) rfl (by decide) rfl (by decide) (by omega) (by omega) ?_
        refine jr.aload_n rfl rfl ?_
        refine jr.getf (i := 115) (v := .ref 672) rfl rfl (by decide) rfl (by decide) rfl rfl rfl rfl ?_
        refine jr.iload rfl rfl ?_
        refine jr.dup2 rfl ⟨rfl, rfl⟩ ?_
        refine jr.iald (i := v3) (x := v4) rfl (by decide) rfl (by decide) (by omega) (by omega) ((ju_c _ _ (by decide)).trans e5) ?_
        refine jr.iconst rfl ?_
        refine jr.iadd rfl ?_
        refine jr.iast (i := v3) (x := (v4 + 1)) rfl (by decide) rfl (by decide) (by omega) (by omega) ?_
        exact jr.vreturn rfl rfl (q _ (RI.u (RI.u hI_M1 (a := 673) (i := v7) (by rw [xri_row rfl rfl]; show (-9223372036854775808 : Int) ≤ _ ∧ _ ≤ (9223372036854775807 : Int); omega)) (a := 672) (i := v3) (by rw [xri_row rfl rfl]; show (0 : Int) ≤ _ ∧ _ ≤ (16 : Int); omega)) (RH.o (RH.o hH_M1 (by decide) (by decide) (by decide)) (by decide) (by decide) (by decide)) (RF.o (RF.o hS_M1 (by decide) (by decide)) (by decide) (by decide))  (fun a i f598 f672 f673 => ((ju_c _ _ f672).trans ((ju_c _ _ f673).trans ((w1_1 a i f598).trans rfl)))) (fun i g135 => ((ju_c _ _ (by decide)).trans ((ju_c _ _ (by decide)).trans ((w1_2 i g135).trans rfl)))))
      · refine jr.iconst rfl ?_
        refine jr.istore rfl (by decide) rfl ?_
        obtain ⟨v8, e8⟩ : ∃ z, M 672 s = z := ⟨_, rfl⟩
        have b8 : 0 ≤ v8 ∧ v8 ≤ 16 := by rw [← e8]; exact (by have q := hI_M 672 s (by decide); rw [xri_row rfl rfl] at q; exact q)
        have e9 : M1 672 s = v8 := ((w1_1 672 s (by decide)).trans e8)
        refine jr.pick [0, 1, 5, 3] rfl rfl ?_
        exact r_learn_L40 q 15 M1 0 v3 v hI_M1 hH_M1 hS_M1  (fun a i f598 f672 f673 => ((w1_1 a i f598).trans rfl)) (fun i g135 => ((w1_2 i g135).trans rfl)) (by omega) (by omega) (by omega) (by rw [e9]; omega) (by omega)
    · exact jr.vreturn rfl rfl (q _ hI_M1 hH_M1 hS_M1  (fun a i f598 f672 f673 => ((w1_1 a i f598).trans rfl)) (fun i g135 => ((w1_2 i g135).trans rfl)))
theorem r_put {A : Nat → Option (Nat × (Nat → Int32))} {Q : Option Value → jm → Prop} {M : jm} (hI_M : RI M) (hH_M : RH M) (hS_M : RF M) {k : Int} (h_k : (-9223372036854775808) ≤ k ∧ k ≤ 9223372036854775807) {i : Int} (h_i : (-9223372036854775808) ≤ i ∧ i ≤ 9223372036854775807) {v : Int} (h_v : (-9223372036854775808) ≤ v ∧ v ≤ 9223372036854775807) (q : ∀ (M' : jm), RI M' → RH M' → RF M' → (∀ (a : Nat) (i : Int), a ≠ 598 → a ≠ 676 → M' a i = M a i) → (∀ (i : Int), i ≠ 135 → M' 598 i = M 598 i) → Q none M') : jc A 4 397 [.ref (598), .long (Int64.ofInt (k)), .long (Int64.ofInt (i)), .long (Int64.ofInt (v))] M Q := by
  refine jc_of (m := xm_397) rfl (Nat.le_of_ble_eq_true rfl) rfl ?_
  refine jr.aload_n rfl rfl ?_
  refine jr.lload_n rfl rfl ?_
  refine jr.lload_n rfl rfl ?_
  refine jr_v rfl rfl (Or.inl rfl) rfl rfl (by decide) rfl ⟨rfl, Nat.le_of_ble_eq_true rfl, Nat.le_of_ble_eq_true rfl⟩ rfl (jc.deep (r_itemOf hI_M hH_M hS_M  (by omega) (by omega)  (fun r1 M1 hI_M1 hH_M1 hS_M1  z1 w1_0 w1_1 w1_2 => ?_)) (by decide))
  refine jr.lstore rfl (by decide) rfl ?_
  refine jr.aload_n rfl rfl ?_
  obtain ⟨v2, e2⟩ : ∃ z, M1 598 135 = z := ⟨_, rfl⟩
  have b2 : 0 ≤ v2 ∧ v2 ≤ 8 := by rw [← e2]; exact hI_M1 598 135 (by decide)
  refine jr.getf (i := 135) (x := v2) (v := .int (Int32.ofInt (v2))) rfl rfl (by decide) rfl (by decide) rfl rfl e2 rfl ?_
  refine jr.if_eq rfl rfl (by omega) (fun h12 => ?_) (fun h12 => ?_)
  · refine jr.aload_n rfl rfl ?_
    refine jr.getf (i := 117) (v := .ref 674) rfl rfl (by decide) rfl (by decide) rfl rfl rfl rfl ?_
    refine jr.lload_n rfl rfl ?_
    refine jr.l2i rfl ?_
    refine jr.iw (j_w k) (j_w_eq _) ?_
    have b3 : -2147483648 ≤ j_w k ∧ j_w k ≤ 2147483647 := jb_any _
    generalize j_w k = v3 at b3 ⊢
    obtain ⟨v4, e4⟩ : ∃ z, M 674 v3 = z := ⟨_, rfl⟩
    have b4 : (-1) ≤ v4 ∧ v4 ≤ 6 := by rw [← e4]; exact (by have q := hI_M 674 v3 (by decide); rw [xri_row rfl rfl] at q; exact q)
    have e5 : M1 674 v3 = v4 := ((w1_1 674 v3 (by decide)).trans e4)
    refine jr.iald (i := v3) (x := v4) rfl (by decide) rfl (by decide) (by omega) (by omega) e5 ?_
    refine jr.istore rfl (by decide) rfl ?_
    refine jr.bipush rfl (by decide) ?_
    refine jr.lload_n rfl rfl ?_
    refine jr.l2i rfl ?_
    refine jr.iw (j_w k) (j_w_eq _) ?_
    have b6 : -2147483648 ≤ j_w k ∧ j_w k ≤ 2147483647 := jb_any _
    generalize j_w k = v6 at b6 ⊢
    refine jr.imul rfl ?_
    refine jr.iw (j_w (40 * v6)) (j_w_eq _) ?_
    have b7 : -2147483648 ≤ j_w (40 * v6) ∧ j_w (40 * v6) ≤ 2147483647 := jb_any _
    generalize j_w (40 * v6) = v7 at b7 ⊢
    refine jr.lload_n rfl rfl ?_
    refine jr.l2i rfl ?_
    refine jr.iw (j_w i) (j_w_eq _) ?_
    have b8 : -2147483648 ≤ j_w i ∧ j_w i ≤ 2147483647 := jb_any _
    generalize j_w i = v8 at b8 ⊢
    refine jr.iadd rfl ?_
    refine jr.iw (j_w (v7 + v8)) (j_w_eq _) ?_
    have b9 : -2147483648 ≤ j_w (v7 + v8) ∧ j_w (v7 + v8) ≤ 2147483647 := jb_any _
    generalize j_w (v7 + v8) = v9 at b9 ⊢
    refine jr.istore rfl (by decide) rfl ?_
    refine jr.aload_n rfl rfl ?_
    refine jr.getf (i := 119) (v := .ref 676) rfl rfl (by decide) rfl (by decide) rfl rfl rfl rfl ?_
    refine jr.iload rfl rfl ?_
    refine jr.iload rfl rfl ?_
    refine jr.if_ne rfl rfl (by omega) (fun h43 => ?_) (fun h43 => ?_)
    · refine jr.iload rfl rfl ?_
      refine jr.iconst rfl ?_
      refine jr.icmp_ne rfl rfl (by omega) (by omega) (fun h57 => ?_) (fun h57 => ?_)
      · refine jr.iload rfl rfl ?_
        refine jr.iconst rfl ?_
        refine jr.icmp_ne rfl rfl (by omega) (by omega) (fun h71 => ?_) (fun h71 => ?_)
        · refine jr.iload rfl rfl ?_
          refine jr.iconst rfl ?_
          refine jr.icmp_ne rfl rfl (by omega) (by omega) (fun h86 => ?_) (fun h86 => ?_)
          · refine jr.lload rfl rfl ?_
            refine jr.last (i := v9) (x := v) rfl (by decide) rfl (by decide) (by omega) (by omega) ?_
            exact jr.vreturn rfl rfl (q _ (RI.u hI_M1 (a := 676) (i := v9) (by rw [xri_row rfl rfl]; show (-9223372036854775808 : Int) ≤ _ ∧ _ ≤ (9223372036854775807 : Int); omega)) (RH.o hH_M1 (by decide) (by decide) (by decide)) (RF.o hS_M1 (by decide) (by decide))  (fun a i f598 f676 => ((ju_c _ _ f676).trans ((w1_1 a i f598).trans rfl))) (fun i g135 => ((ju_c _ _ (by decide)).trans ((w1_2 i g135).trans rfl))))
          · refine jr.lload rfl rfl ?_
            refine jr.l2i rfl ?_
            refine jr.iw (j_w v) (j_w_eq _) ?_
            have b10 : -2147483648 ≤ j_w v ∧ j_w v ≤ 2147483647 := jb_any _
            generalize j_w v = v10 at b10 ⊢
            refine jr.i2l rfl (by omega) ?_
            refine jr.goto rfl rfl ?_
            refine jr.last (i := v9) (x := v10) rfl (by decide) rfl (by decide) (by omega) (by omega) ?_
            exact jr.vreturn rfl rfl (q _ (RI.u hI_M1 (a := 676) (i := v9) (by rw [xri_row rfl rfl]; show (-9223372036854775808 : Int) ≤ _ ∧ _ ≤ (9223372036854775807 : Int); omega)) (RH.o hH_M1 (by decide) (by decide) (by decide)) (RF.o hS_M1 (by decide) (by decide))  (fun a i f598 f676 => ((ju_c _ _ f676).trans ((w1_1 a i f598).trans rfl))) (fun i g135 => ((ju_c _ _ (by decide)).trans ((w1_2 i g135).trans rfl))))
        · refine jr.lload rfl rfl ?_
          refine jr.ldc2 (x := 65535) rfl rfl (by decide) ?_
          refine jr.land rfl ?_
          have b11 : 0 ≤ jl_and v 65535 ∧ jl_and v 65535 ≤ 65535 := jl_and_le (by decide)
          generalize jl_and v 65535 = v11 at b11 ⊢
          refine jr.goto rfl rfl ?_
          refine jr.last (i := v9) (x := v11) rfl (by decide) rfl (by decide) (by omega) (by omega) ?_
          exact jr.vreturn rfl rfl (q _ (RI.u hI_M1 (a := 676) (i := v9) (by rw [xri_row rfl rfl]; show (-9223372036854775808 : Int) ≤ _ ∧ _ ≤ (9223372036854775807 : Int); omega)) (RH.o hH_M1 (by decide) (by decide) (by decide)) (RF.o hS_M1 (by decide) (by decide))  (fun a i f598 f676 => ((ju_c _ _ f676).trans ((w1_1 a i f598).trans rfl))) (fun i g135 => ((ju_c _ _ (by decide)).trans ((w1_2 i g135).trans rfl))))
      · refine jr.lload rfl rfl ?_
        refine jr.l2i rfl ?_
        refine jr.iw (j_w v) (j_w_eq _) ?_
        have b12 : -2147483648 ≤ j_w v ∧ j_w v ≤ 2147483647 := jb_any _
        generalize j_w v = v12 at b12 ⊢
        refine jr.i2s rfl ?_
        have b13 : -2147483648 ≤ j_s v12 ∧ j_s v12 ≤ 2147483647 := jb_any _
        generalize j_s v12 = v13 at b13 ⊢
        refine jr.i2l rfl (by omega) ?_
        refine jr.goto rfl rfl ?_
        refine jr.last (i := v9) (x := v13) rfl (by decide) rfl (by decide) (by omega) (by omega) ?_
        exact jr.vreturn rfl rfl (q _ (RI.u hI_M1 (a := 676) (i := v9) (by rw [xri_row rfl rfl]; show (-9223372036854775808 : Int) ≤ _ ∧ _ ≤ (9223372036854775807 : Int); omega)) (RH.o hH_M1 (by decide) (by decide) (by decide)) (RF.o hS_M1 (by decide) (by decide))  (fun a i f598 f676 => ((ju_c _ _ f676).trans ((w1_1 a i f598).trans rfl))) (fun i g135 => ((ju_c _ _ (by decide)).trans ((w1_2 i g135).trans rfl))))
    · refine jr.lload rfl rfl ?_
      refine jr.l2i rfl ?_
      refine jr.iw (j_w v) (j_w_eq _) ?_
      have b14 : -2147483648 ≤ j_w v ∧ j_w v ≤ 2147483647 := jb_any _
      generalize j_w v = v14 at b14 ⊢
      refine jr.i2b rfl ?_
      have b15 : -2147483648 ≤ j_b v14 ∧ j_b v14 ≤ 2147483647 := jb_any _
      generalize j_b v14 = v15 at b15 ⊢
      refine jr.i2l rfl (by omega) ?_
      refine jr.goto rfl rfl ?_
      refine jr.last (i := v9) (x := v15) rfl (by decide) rfl (by decide) (by omega) (by omega) ?_
      exact jr.vreturn rfl rfl (q _ (RI.u hI_M1 (a := 676) (i := v9) (by rw [xri_row rfl rfl]; show (-9223372036854775808 : Int) ≤ _ ∧ _ ≤ (9223372036854775807 : Int); omega)) (RH.o hH_M1 (by decide) (by decide) (by decide)) (RF.o hS_M1 (by decide) (by decide))  (fun a i f598 f676 => ((ju_c _ _ f676).trans ((w1_1 a i f598).trans rfl))) (fun i g135 => ((ju_c _ _ (by decide)).trans ((w1_2 i g135).trans rfl))))
  · exact jr.vreturn rfl rfl (q _ hI_M1 hH_M1 hS_M1  (fun a i f598 f676 => ((w1_1 a i f598).trans rfl)) (fun i g135 => ((w1_2 i g135).trans rfl)))
theorem r_layHead_L14 {A : Nat → Option (Nat × (Nat → Int32))} {Q : Option Value → jm → Prop} {M0 : jm} (q : ∀ (M' : jm), RI M' → RH M' → RF M' → (∀ (a : Nat) (i : Int), a ≠ 677 → a ≠ 678 → M' a i = M0 a i) → Q none M') : ∀ (nM : Nat) (M : jm) (i : Int) (f : Int) (t : Int), RI M → RH M → RF M → (∀ (a : Nat) (i : Int), a ≠ 677 → a ≠ 678 → M a i = M0 a i) → 0 ≤ i ∧ i ≤ 11 → 0 ≤ f ∧ f ≤ 319 → 0 ≤ t ∧ t ≤ 319 → 11 - i ≤ nM → jr A 0 xm_398 14 [(3, .int (Int32.ofInt (i))), (2, .int (Int32.ofInt (f))), (1, .int (Int32.ofInt (t))), (0, .ref (598))] [] M Q := by
  intro nM
  induction nM using Nat.strongRecOn with
  | ind nM ih =>
    intro M i f t hI_M hH_M hS_M hF_M h_i h_f h_t hm
    refine jr.iload_n rfl rfl ?_
    refine jr.bipush rfl (by decide) ?_
    refine jr.icmp_ge rfl rfl (by omega) (by omega) (fun h17 => ?_) (fun h17 => ?_)
    · exact jr.vreturn rfl rfl (q _ hI_M hH_M hS_M  (fun a i f677 f678 => (hF_M a i f677 f678)))
    · refine jr.aload_n rfl rfl ?_
      refine jr.getf (i := 121) (v := .ref 678) rfl rfl (by decide) rfl (by decide) rfl rfl rfl rfl ?_
      refine jr.bipush rfl (by decide) ?_
      refine jr.iload_n rfl rfl ?_
      refine jr.imul rfl ?_
      refine jr.iload_n rfl rfl ?_
      refine jr.iadd rfl ?_
      refine jr.aload_n rfl rfl ?_
      refine jr.getf (i := 121) (v := .ref 678) rfl rfl (by decide) rfl (by decide) rfl rfl rfl rfl ?_
      refine jr.bipush rfl (by decide) ?_
      refine jr.iload_n rfl rfl ?_
      refine jr.imul rfl ?_
      refine jr.iload_n rfl rfl ?_
      refine jr.iadd rfl ?_
      obtain ⟨v1, e1⟩ : ∃ z, M 678 ((11 * f) + i) = z := ⟨_, rfl⟩
      have b1 : (-9223372036854775808) ≤ v1 ∧ v1 ≤ 9223372036854775807 := by rw [← e1]; exact (by have q := hI_M 678 ((11 * f) + i) (by decide); rw [xri_row rfl rfl] at q; exact q)
      refine jr.lald (i := ((11 * f) + i)) (x := v1) rfl (by decide) rfl (by decide) (by omega) (by omega) e1 ?_
      refine jr.last (i := ((11 * t) + i)) (x := v1) rfl (by decide) rfl (by decide) (by omega) (by omega) ?_
      refine jr.iinc rfl rfl (by decide) rfl ?_
      refine jr.goto rfl rfl ?_
      refine jr.pick [0, 1, 2, 3] rfl rfl ?_
      exact ih (nM - 1) (by omega) (ju M 678 ((11 * t) + i) v1) (i + 1) f t (RI.u hI_M (a := 678) (i := ((11 * t) + i)) (by rw [xri_row rfl rfl]; show (-9223372036854775808 : Int) ≤ _ ∧ _ ≤ (9223372036854775807 : Int); omega)) (RH.o hH_M (by decide) (by decide) (by decide)) (RF.o hS_M (by decide) (by decide))  (fun a i f677 f678 => ((ju_c _ _ f678).trans (hF_M a i f677 f678))) (by omega) (by omega) (by omega)  (by omega)
theorem r_layHead {A : Nat → Option (Nat × (Nat → Int32))} {Q : Option Value → jm → Prop} {M : jm} (hI_M : RI M) (hH_M : RH M) (hS_M : RF M) {t : Int} (h_t : 0 ≤ t ∧ t ≤ 319) {f : Int} (h_f : 0 ≤ f ∧ f ≤ 319) (q : ∀ (M' : jm), RI M' → RH M' → RF M' → (∀ (a : Nat) (i : Int), a ≠ 677 → a ≠ 678 → M' a i = M a i) → Q none M') : jc A 1 398 [.ref (598), .int (Int32.ofInt (t)), .int (Int32.ofInt (f))] M Q := by
  refine jc_of (m := xm_398) rfl (Nat.le_of_ble_eq_true rfl) rfl ?_
  refine jr.aload_n rfl rfl ?_
  refine jr.getf (i := 120) (v := .ref 677) rfl rfl (by decide) rfl (by decide) rfl rfl rfl rfl ?_
  refine jr.iload_n rfl rfl ?_
  refine jr.aload_n rfl rfl ?_
  refine jr.getf (i := 120) (v := .ref 677) rfl rfl (by decide) rfl (by decide) rfl rfl rfl rfl ?_
  refine jr.iload_n rfl rfl ?_
  obtain ⟨v1, e1⟩ : ∃ z, M 677 f = z := ⟨_, rfl⟩
  have b1 : (-1) ≤ v1 ∧ v1 ≤ 11 := by rw [← e1]; exact (by have q := hI_M 677 f (by decide); rw [xri_row rfl rfl] at q; exact q)
  refine jr.iald (i := f) (x := v1) rfl (by decide) rfl (by decide) (by omega) (by omega) e1 ?_
  refine jr.iast (i := t) (x := v1) rfl (by decide) rfl (by decide) (by omega) (by omega) ?_
  refine jr.iconst rfl ?_
  refine jr.istore_n rfl (by decide) rfl ?_
  refine jr.pick [0, 3, 2, 1] rfl rfl ?_
  exact r_layHead_L14 q 11 (ju M 677 t v1) 0 f t (RI.u hI_M (a := 677) (i := t) (by rw [xri_row rfl rfl]; show (-1 : Int) ≤ _ ∧ _ ≤ (11 : Int); omega)) (RH.o hH_M (by decide) (by decide) (by decide)) (RF.o hS_M (by decide) (by decide))  (fun a i f677 f678 => ((ju_c _ _ f677).trans rfl)) (by omega) (by omega) (by omega)  (by omega)
theorem r_copy_L292 {A : Nat → Option (Nat × (Nat → Int32))} {Q : Option Value → jm → Prop} {M0 : jm} (q : ∀ (M' : jm), RI M' → RH M' → RF M' → (∀ (a : Nat) (i : Int), a ≠ 598 → a ≠ 676 → a ≠ 677 → a ≠ 678 → M' a i = M0 a i) → (∀ (i : Int), i ≠ 135 → M' 598 i = M0 598 i) → Q none M') : ∀ (nM : Nat) (M : jm) (k : Int) (m : Int) (t : Int) (f : Int) (h : Int), RI M → RH M → RF M → (∀ (a : Nat) (i : Int), a ≠ 598 → a ≠ 676 → a ≠ 677 → a ≠ 678 → M a i = M0 a i) → (∀ (i : Int), i ≠ 135 → M 598 i = M0 598 i) → 0 ≤ k ∧ k ≤ 40 → 0 ≤ m ∧ m ≤ 40 → 0 ≤ t ∧ t ≤ 320 → 0 ≤ f ∧ f ≤ 320 → 0 ≤ h ∧ h ≤ 1 → f + m ≤ 320 → t + m ≤ 320 → 40 - k ≤ nM → jr A 1 xm_399 292 [(17, .int (Int32.ofInt (k))), (16, .int (Int32.ofInt (m))), (15, .int (Int32.ofInt (t))), (14, .int (Int32.ofInt (f))), (13, .int (Int32.ofInt (h))), (0, .ref (598))] [] M Q := by
  intro nM
  induction nM using Nat.strongRecOn with
  | ind nM ih =>
    intro M k m t f h hI_M hH_M hS_M hF_M hG_M h_k h_m h_t h_f h_h hy0 hy1 hm
    refine jr.iload rfl rfl ?_
    refine jr.iload rfl rfl ?_
    refine jr.icmp_ge rfl rfl (by omega) (by omega) (fun h296 => ?_) (fun h296 => ?_)
    · exact jr.vreturn rfl rfl (q _ hI_M hH_M hS_M  (fun a i f598 f676 f677 f678 => (hF_M a i f598 f676 f677 f678)) (fun i g135 => (hG_M i g135)))
    · refine jr.iload rfl rfl ?_
      refine jr.iload rfl rfl ?_
      refine jr.icmp_gt rfl rfl (by omega) (by omega) (fun h303 => ?_) (fun h303 => ?_)
      · refine jr.iload rfl rfl ?_
        refine jr.iconst rfl ?_
        refine jr.isub rfl ?_
        refine jr.iload rfl rfl ?_
        refine jr.isub rfl ?_
        refine jr.istore rfl (by decide) rfl ?_
        refine jr.iload rfl rfl ?_
        refine jr.if_eq rfl rfl (by omega) (fun h322 => ?_) (fun h322 => ?_)
        · refine jr.aload_n rfl rfl ?_
          refine jr.getf (i := 119) (v := .ref 676) rfl rfl (by decide) rfl (by decide) rfl rfl rfl rfl ?_
          refine jr.iload rfl rfl ?_
          refine jr.iload rfl rfl ?_
          refine jr.iadd rfl ?_
          refine jr.aload_n rfl rfl ?_
          refine jr.getf (i := 119) (v := .ref 676) rfl rfl (by decide) rfl (by decide) rfl rfl rfl rfl ?_
          refine jr.iload rfl rfl ?_
          refine jr.iload rfl rfl ?_
          refine jr.iadd rfl ?_
          obtain ⟨v1, e1⟩ : ∃ z, M 676 (f + ((m - 1) - k)) = z := ⟨_, rfl⟩
          have b1 : (-9223372036854775808) ≤ v1 ∧ v1 ≤ 9223372036854775807 := by rw [← e1]; exact (by have q := hI_M 676 (f + ((m - 1) - k)) (by decide); rw [xri_row rfl rfl] at q; exact q)
          refine jr.lald (i := (f + ((m - 1) - k))) (x := v1) rfl (by decide) rfl (by decide) (by omega) (by omega) e1 ?_
          refine jr.last (i := (t + ((m - 1) - k))) (x := v1) rfl (by decide) rfl (by decide) (by omega) (by omega) ?_
          refine jr.iinc rfl rfl (by decide) rfl ?_
          refine jr.goto rfl rfl ?_
          refine jr.pick [0, 2, 3, 4, 5, 6] rfl rfl ?_
          exact ih (nM - 1) (by omega) (ju M 676 (t + ((m - 1) - k)) v1) (k + 1) m t f h (RI.u hI_M (a := 676) (i := (t + ((m - 1) - k))) (by rw [xri_row rfl rfl]; show (-9223372036854775808 : Int) ≤ _ ∧ _ ≤ (9223372036854775807 : Int); omega)) (RH.o hH_M (by decide) (by decide) (by decide)) (RF.o hS_M (by decide) (by decide))  (fun a i f598 f676 f677 f678 => ((ju_c _ _ f676).trans (hF_M a i f598 f676 f677 f678))) (fun i g135 => ((ju_c _ _ (by decide)).trans (hG_M i g135))) (by omega) (by omega) (by omega) (by omega) (by omega) (by omega) (by omega) (by omega)
        · refine jr.aload_n rfl rfl ?_
          refine jr.iload rfl rfl ?_
          refine jr.iload rfl rfl ?_
          refine jr.iadd rfl ?_
          refine jr.iload rfl rfl ?_
          refine jr.iload rfl rfl ?_
          refine jr.iadd rfl ?_
          refine jr_v rfl rfl (Or.inl rfl) rfl rfl (by decide) rfl ⟨rfl, Nat.le_of_ble_eq_true rfl, Nat.le_of_ble_eq_true rfl⟩ rfl (jc.deep (r_layHead hI_M hH_M hS_M  (by omega) (by omega)  (fun M2 hI_M2 hH_M2 hS_M2  w2_0 => ?_)) (by decide))
          refine jr.goto rfl rfl ?_
          refine jr.iinc rfl rfl (by decide) rfl ?_
          refine jr.goto rfl rfl ?_
          refine jr.pick [0, 2, 3, 4, 5, 6] rfl rfl ?_
          exact ih (nM - 1) (by omega) M2 (k + 1) m t f h hI_M2 hH_M2 hS_M2  (fun a i f598 f676 f677 f678 => ((w2_0 a i f677 f678).trans (hF_M a i f598 f676 f677 f678))) (fun i g135 => ((w2_0 598 i (by decide) (by decide)).trans (hG_M i g135))) (by omega) (by omega) (by omega) (by omega) (by omega) (by omega) (by omega) (by omega)
      · refine jr.iload rfl rfl ?_
        refine jr.goto rfl rfl ?_
        refine jr.istore rfl (by decide) rfl ?_
        refine jr.iload rfl rfl ?_
        refine jr.if_eq rfl rfl (by omega) (fun h322 => ?_) (fun h322 => ?_)
        · refine jr.aload_n rfl rfl ?_
          refine jr.getf (i := 119) (v := .ref 676) rfl rfl (by decide) rfl (by decide) rfl rfl rfl rfl ?_
          refine jr.iload rfl rfl ?_
          refine jr.iload rfl rfl ?_
          refine jr.iadd rfl ?_
          refine jr.aload_n rfl rfl ?_
          refine jr.getf (i := 119) (v := .ref 676) rfl rfl (by decide) rfl (by decide) rfl rfl rfl rfl ?_
          refine jr.iload rfl rfl ?_
          refine jr.iload rfl rfl ?_
          refine jr.iadd rfl ?_
          obtain ⟨v3, e3⟩ : ∃ z, M 676 (f + k) = z := ⟨_, rfl⟩
          have b3 : (-9223372036854775808) ≤ v3 ∧ v3 ≤ 9223372036854775807 := by rw [← e3]; exact (by have q := hI_M 676 (f + k) (by decide); rw [xri_row rfl rfl] at q; exact q)
          refine jr.lald (i := (f + k)) (x := v3) rfl (by decide) rfl (by decide) (by omega) (by omega) e3 ?_
          refine jr.last (i := (t + k)) (x := v3) rfl (by decide) rfl (by decide) (by omega) (by omega) ?_
          refine jr.iinc rfl rfl (by decide) rfl ?_
          refine jr.goto rfl rfl ?_
          refine jr.pick [0, 2, 3, 4, 5, 6] rfl rfl ?_
          exact ih (nM - 1) (by omega) (ju M 676 (t + k) v3) (k + 1) m t f h (RI.u hI_M (a := 676) (i := (t + k)) (by rw [xri_row rfl rfl]; show (-9223372036854775808 : Int) ≤ _ ∧ _ ≤ (9223372036854775807 : Int); omega)) (RH.o hH_M (by decide) (by decide) (by decide)) (RF.o hS_M (by decide) (by decide))  (fun a i f598 f676 f677 f678 => ((ju_c _ _ f676).trans (hF_M a i f598 f676 f677 f678))) (fun i g135 => ((ju_c _ _ (by decide)).trans (hG_M i g135))) (by omega) (by omega) (by omega) (by omega) (by omega) (by omega) (by omega) (by omega)
        · refine jr.aload_n rfl rfl ?_
          refine jr.iload rfl rfl ?_
          refine jr.iload rfl rfl ?_
          refine jr.iadd rfl ?_
          refine jr.iload rfl rfl ?_
          refine jr.iload rfl rfl ?_
          refine jr.iadd rfl ?_
          refine jr_v rfl rfl (Or.inl rfl) rfl rfl (by decide) rfl ⟨rfl, Nat.le_of_ble_eq_true rfl, Nat.le_of_ble_eq_true rfl⟩ rfl (jc.deep (r_layHead hI_M hH_M hS_M  (by omega) (by omega)  (fun M4 hI_M4 hH_M4 hS_M4  w4_0 => ?_)) (by decide))
          refine jr.goto rfl rfl ?_
          refine jr.iinc rfl rfl (by decide) rfl ?_
          refine jr.goto rfl rfl ?_
          refine jr.pick [0, 2, 3, 4, 5, 6] rfl rfl ?_
          exact ih (nM - 1) (by omega) M4 (k + 1) m t f h hI_M4 hH_M4 hS_M4  (fun a i f598 f676 f677 f678 => ((w4_0 a i f677 f678).trans (hF_M a i f598 f676 f677 f678))) (fun i g135 => ((w4_0 598 i (by decide) (by decide)).trans (hG_M i g135))) (by omega) (by omega) (by omega) (by omega) (by omega) (by omega) (by omega) (by omega)
theorem r_copy_L226 {A : Nat → Option (Nat × (Nat → Int32))} {Q : Option Value → jm → Prop} {M0 : jm} (q : ∀ (M' : jm), RI M' → RH M' → RF M' → (∀ (a : Nat) (i : Int), a ≠ 598 → a ≠ 676 → a ≠ 677 → a ≠ 678 → M' a i = M0 a i) → (∀ (i : Int), i ≠ 135 → M' 598 i = M0 598 i) → Q none M') : ∀ (nM : Nat) (M : jm) (m : Int) (t : Int) (f : Int) (h : Int) (n : Int), RI M → RH M → RF M → (∀ (a : Nat) (i : Int), a ≠ 598 → a ≠ 676 → a ≠ 677 → a ≠ 678 → M a i = M0 a i) → (∀ (i : Int), i ≠ 135 → M 598 i = M0 598 i) → 0 ≤ m ∧ m ≤ 40 → 0 ≤ t ∧ t ≤ 319 → 0 ≤ f ∧ f ≤ 319 → 0 ≤ h ∧ h ≤ 1 → 0 ≤ n ∧ n ≤ 40 → f + n ≤ 320 → t + n ≤ 320 → m ≤ n → 40 - m ≤ nM → jr A 1 xm_399 226 [(16, .int (Int32.ofInt (m))), (15, .int (Int32.ofInt (t))), (14, .int (Int32.ofInt (f))), (13, .int (Int32.ofInt (h))), (9, .long (Int64.ofInt (n))), (0, .ref (598))] [] M Q := by
  intro nM
  induction nM using Nat.strongRecOn with
  | ind nM ih =>
    intro M m t f h n hI_M hH_M hS_M hF_M hG_M h_m h_t h_f h_h h_n hy0 hy1 hy2 hm
    refine jr.iload rfl rfl ?_
    refine jr.i2l rfl (by omega) ?_
    refine jr.lload rfl rfl ?_
    refine jr.lcmp_ge rfl rfl rfl (by omega) (by omega) (fun h231 => ?_) (fun h231 => ?_)
    · refine jr.aload_n rfl rfl ?_
      refine jr.iload rfl rfl ?_
      refine jr.i2l rfl (by omega) ?_
      refine jr.lload rfl rfl ?_
      refine jr.lcmp_ge rfl rfl rfl (by omega) (by omega) (fun h277 => ?_) (fun h277 => ?_)
      · refine jr.iconst rfl ?_
        refine jr.putf (i := 135) (x := 0) rfl rfl (by decide) rfl (by decide) rfl rfl rfl rfl rfl ?_
        refine jr.iconst rfl ?_
        refine jr.istore rfl (by decide) rfl ?_
        refine jr.pick [0, 1, 2, 3, 4, 6] rfl rfl ?_
        exact r_copy_L292 q 40 (ju M 598 135 0) 0 m t f h (RI.u hI_M (a := 598) (i := 135) (show (0 : Int) ≤ _ ∧ _ ≤ (8 : Int) from by omega)) (RH.o hH_M (by decide) (by decide) (by decide)) (RF.o hS_M (by decide) (by decide))  (fun a i f598 f676 f677 f678 => ((ju_c _ _ f598).trans (hF_M a i f598 f676 f677 f678))) (fun i g135 => ((ju_i _ _ g135).trans (hG_M i g135))) (by omega) (by omega) (by omega) (by omega) (by omega) (by omega) (by omega) (by omega)
      · refine jr.iconst rfl ?_
        refine jr.goto rfl rfl ?_
        refine jr.putf (i := 135) (x := 5) rfl rfl (by decide) rfl (by decide) rfl rfl rfl rfl rfl ?_
        refine jr.iconst rfl ?_
        refine jr.istore rfl (by decide) rfl ?_
        refine jr.pick [0, 1, 2, 3, 4, 6] rfl rfl ?_
        exact r_copy_L292 q 40 (ju M 598 135 5) 0 m t f h (RI.u hI_M (a := 598) (i := 135) (show (0 : Int) ≤ _ ∧ _ ≤ (8 : Int) from by omega)) (RH.o hH_M (by decide) (by decide) (by decide)) (RF.o hS_M (by decide) (by decide))  (fun a i f598 f676 f677 f678 => ((ju_c _ _ f598).trans (hF_M a i f598 f676 f677 f678))) (fun i g135 => ((ju_i _ _ g135).trans (hG_M i g135))) (by omega) (by omega) (by omega) (by omega) (by omega) (by omega) (by omega) (by omega)
    · refine jr.aload_n rfl rfl ?_
      refine jr.getf (i := 120) (v := .ref 677) rfl rfl (by decide) rfl (by decide) rfl rfl rfl rfl ?_
      refine jr.iload rfl rfl ?_
      refine jr.iload rfl rfl ?_
      refine jr.iadd rfl ?_
      obtain ⟨v1, e1⟩ : ∃ z, M 677 (f + m) = z := ⟨_, rfl⟩
      have b1 : (-1) ≤ v1 ∧ v1 ≤ 11 := by rw [← e1]; exact (by have q := hI_M 677 (f + m) (by decide); rw [xri_row rfl rfl] at q; exact q)
      refine jr.iald (i := (f + m)) (x := v1) rfl (by decide) rfl (by decide) (by omega) (by omega) e1 ?_
      refine jr.iconst rfl ?_
      refine jr.icmp_eq rfl rfl (by omega) (by omega) (fun h246 => ?_) (fun h246 => ?_)
      · refine jr.iinc rfl rfl (by decide) rfl ?_
        refine jr.goto rfl rfl ?_
        refine jr.pick [0, 1, 2, 3, 4, 5] rfl rfl ?_
        exact ih (nM - 1) (by omega) M (m + 1) t f h n hI_M hH_M hS_M  (fun a i f598 f676 f677 f678 => (hF_M a i f598 f676 f677 f678)) (fun i g135 => (hG_M i g135)) (by omega) (by omega) (by omega) (by omega) (by omega) (by omega) (by omega) (by omega) (by omega)
      · refine jr.aload_n rfl rfl ?_
        refine jr.getf (i := 120) (v := .ref 677) rfl rfl (by decide) rfl (by decide) rfl rfl rfl rfl ?_
        refine jr.iload rfl rfl ?_
        refine jr.iload rfl rfl ?_
        refine jr.iadd rfl ?_
        refine jr.iald (i := (f + m)) (x := v1) rfl (by decide) rfl (by decide) (by omega) (by omega) e1 ?_
        refine jr_s rfl rfl (Or.inl rfl) ⟨Nat.le_of_ble_eq_true rfl, Nat.le_of_ble_eq_true rfl⟩ rfl rfl (jc.deep (c_isCarried (by omega) (fun c259 => ?_) (fun c259 => ?_)) (by decide))
        · refine jr.if_eq rfl rfl (by omega) (fun h => absurd h (by decide)) (fun _ => ?_)
          refine jr.iinc rfl rfl (by decide) rfl ?_
          refine jr.goto rfl rfl ?_
          refine jr.pick [0, 1, 2, 3, 4, 5] rfl rfl ?_
          exact ih (nM - 1) (by omega) M (m + 1) t f h n hI_M hH_M hS_M  (fun a i f598 f676 f677 f678 => (hF_M a i f598 f676 f677 f678)) (fun i g135 => (hG_M i g135)) (by omega) (by omega) (by omega) (by omega) (by omega) (by omega) (by omega) (by omega) (by omega)
        · refine jr.if_eq rfl rfl (by omega) (fun _ => ?_) (fun h => absurd (by decide) h)
          refine jr.aload_n rfl rfl ?_
          refine jr.iload rfl rfl ?_
          refine jr.i2l rfl (by omega) ?_
          refine jr.lload rfl rfl ?_
          refine jr.lcmp_ge rfl rfl rfl (by omega) (by omega) (fun h277 => ?_) (fun h277 => ?_)
          · refine jr.iconst rfl ?_
            refine jr.putf (i := 135) (x := 0) rfl rfl (by decide) rfl (by decide) rfl rfl rfl rfl rfl ?_
            refine jr.iconst rfl ?_
            refine jr.istore rfl (by decide) rfl ?_
            refine jr.pick [0, 1, 2, 3, 4, 6] rfl rfl ?_
            exact r_copy_L292 q 40 (ju M 598 135 0) 0 m t f h (RI.u hI_M (a := 598) (i := 135) (show (0 : Int) ≤ _ ∧ _ ≤ (8 : Int) from by omega)) (RH.o hH_M (by decide) (by decide) (by decide)) (RF.o hS_M (by decide) (by decide))  (fun a i f598 f676 f677 f678 => ((ju_c _ _ f598).trans (hF_M a i f598 f676 f677 f678))) (fun i g135 => ((ju_i _ _ g135).trans (hG_M i g135))) (by omega) (by omega) (by omega) (by omega) (by omega) (by omega) (by omega) (by omega)
          · refine jr.iconst rfl ?_
            refine jr.goto rfl rfl ?_
            refine jr.putf (i := 135) (x := 5) rfl rfl (by decide) rfl (by decide) rfl rfl rfl rfl rfl ?_
            refine jr.iconst rfl ?_
            refine jr.istore rfl (by decide) rfl ?_
            refine jr.pick [0, 1, 2, 3, 4, 6] rfl rfl ?_
            exact r_copy_L292 q 40 (ju M 598 135 5) 0 m t f h (RI.u hI_M (a := 598) (i := 135) (show (0 : Int) ≤ _ ∧ _ ≤ (8 : Int) from by omega)) (RH.o hH_M (by decide) (by decide) (by decide)) (RF.o hS_M (by decide) (by decide))  (fun a i f598 f676 f677 f678 => ((ju_c _ _ f598).trans (hF_M a i f598 f676 f677 f678))) (fun i g135 => ((ju_i _ _ g135).trans (hG_M i g135))) (by omega) (by omega) (by omega) (by omega) (by omega) (by omega) (by omega) (by omega)
theorem r_copy {A : Nat → Option (Nat × (Nat → Int32))} {Q : Option Value → jm → Prop} {M : jm} (hI_M : RI M) (hH_M : RH M) (hS_M : RF M) {x : Int} (h_x : (-9223372036854775808) ≤ x ∧ x ≤ 9223372036854775807) {i : Int} (h_i : (-9223372036854775808) ≤ i ∧ i ≤ 9223372036854775807) {y : Int} (h_y : (-9223372036854775808) ≤ y ∧ y ≤ 9223372036854775807) {j : Int} (h_j : (-9223372036854775808) ≤ j ∧ j ≤ 9223372036854775807) {n : Int} (h_n : (-9223372036854775808) ≤ n ∧ n ≤ 9223372036854775807) (q : ∀ (M' : jm), RI M' → RH M' → RF M' → (∀ (a : Nat) (i : Int), a ≠ 598 → a ≠ 676 → a ≠ 677 → a ≠ 678 → M' a i = M a i) → (∀ (i : Int), i ≠ 135 → M' 598 i = M 598 i) → Q none M') : jc A 2 399 [.ref (598), .long (Int64.ofInt (x)), .long (Int64.ofInt (i)), .long (Int64.ofInt (y)), .long (Int64.ofInt (j)), .long (Int64.ofInt (n))] M Q := by
  refine jc_of (m := xm_399) rfl (Nat.le_of_ble_eq_true rfl) rfl ?_
  refine jr.lload_n rfl rfl ?_
  refine jr.lconst (x := 0) rfl (by decide) ?_
  refine jr.ldc2 (x := 7) rfl rfl (by decide) ?_
  refine jr_s rfl rfl (Or.inl rfl) ⟨Nat.le_of_ble_eq_true rfl, Nat.le_of_ble_eq_true rfl⟩ rfl rfl (jc.deep (c_within (by omega) (by omega) (by omega) (fun l5 u5 => ?_) (fun n5 => ?_)) (by decide))
  · refine jr.if_eq rfl rfl (by omega) (fun h => absurd h (by decide)) (fun _ => ?_)
    refine jr.lload rfl rfl ?_
    refine jr.lconst (x := 0) rfl (by decide) ?_
    refine jr.ldc2 (x := 7) rfl rfl (by decide) ?_
    refine jr_s rfl rfl (Or.inl rfl) ⟨Nat.le_of_ble_eq_true rfl, Nat.le_of_ble_eq_true rfl⟩ rfl rfl (jc.deep (c_within (by omega) (by omega) (by omega) (fun l17 u17 => ?_) (fun n17 => ?_)) (by decide))
    · refine jr.if_ne rfl rfl (by omega) (fun _ => ?_) (fun h => absurd (by decide) h)
      refine jr.lload_n rfl rfl ?_
      refine jr.l2i rfl ?_
      refine jr.istore rfl (by decide) rfl ?_
      refine jr.lload rfl rfl ?_
      refine jr.l2i rfl ?_
      refine jr.istore rfl (by decide) rfl ?_
      refine jr.aload_n rfl rfl ?_
      refine jr.getf (i := 117) (v := .ref 674) rfl rfl (by decide) rfl (by decide) rfl rfl rfl rfl ?_
      refine jr.iload rfl rfl ?_
      obtain ⟨v1, e1⟩ : ∃ z, M 674 x = z := ⟨_, rfl⟩
      have b1 : (-1) ≤ v1 ∧ v1 ≤ 6 := by rw [← e1]; exact (by have q := hI_M 674 x (by decide); rw [xri_row rfl rfl] at q; exact q)
      refine jr.iald (i := x) (x := v1) rfl (by decide) rfl (by decide) (by omega) (by omega) e1 ?_
      refine jr.iconst rfl ?_
      refine jr.icmp_eq rfl rfl (by omega) (by omega) (fun h46 => ?_) (fun h46 => ?_)
      · refine jr.aload_n rfl rfl ?_
        refine jr.iconst rfl ?_
        refine jr.putf (i := 135) (x := 1) rfl rfl (by decide) rfl (by decide) rfl rfl rfl rfl rfl ?_
        exact jr.vreturn rfl rfl (q _ (RI.u hI_M (a := 598) (i := 135) (show (0 : Int) ≤ _ ∧ _ ≤ (8 : Int) from by omega)) (RH.o hH_M (by decide) (by decide) (by decide)) (RF.o hS_M (by decide) (by decide))  (fun a i f598 f676 f677 f678 => ((ju_c _ _ f598).trans rfl)) (fun i g135 => ((ju_i _ _ g135).trans rfl)))
      · refine jr.aload_n rfl rfl ?_
        refine jr.getf (i := 117) (v := .ref 674) rfl rfl (by decide) rfl (by decide) rfl rfl rfl rfl ?_
        refine jr.iload rfl rfl ?_
        obtain ⟨v2, e2⟩ : ∃ z, M 674 y = z := ⟨_, rfl⟩
        have b2 : (-1) ≤ v2 ∧ v2 ≤ 6 := by rw [← e2]; exact (by have q := hI_M 674 y (by decide); rw [xri_row rfl rfl] at q; exact q)
        refine jr.iald (i := y) (x := v2) rfl (by decide) rfl (by decide) (by omega) (by omega) e2 ?_
        refine jr.iconst rfl ?_
        refine jr.icmp_ne rfl rfl (by omega) (by omega) (fun h57 => ?_) (fun h57 => ?_)
        · refine jr.aload_n rfl rfl ?_
          refine jr.getf (i := 117) (v := .ref 674) rfl rfl (by decide) rfl (by decide) rfl rfl rfl rfl ?_
          refine jr.iload rfl rfl ?_
          refine jr.iald (i := x) (x := v1) rfl (by decide) rfl (by decide) (by omega) (by omega) e1 ?_
          refine jr.iconst rfl ?_
          refine jr.icmp_le rfl rfl (by omega) (by omega) (fun h74 => ?_) (fun h74 => ?_)
          · refine jr.iconst rfl ?_
            refine jr.istore rfl (by decide) rfl ?_
            refine jr.iload rfl rfl ?_
            refine jr.if_ne rfl rfl (by omega) (fun h => absurd h (by decide)) (fun _ => ?_)
            refine jr.aload_n rfl rfl ?_
            refine jr.getf (i := 117) (v := .ref 674) rfl rfl (by decide) rfl (by decide) rfl rfl rfl rfl ?_
            refine jr.iload rfl rfl ?_
            refine jr.iald (i := x) (x := v1) rfl (by decide) rfl (by decide) (by omega) (by omega) e1 ?_
            refine jr.aload_n rfl rfl ?_
            refine jr.getf (i := 117) (v := .ref 674) rfl rfl (by decide) rfl (by decide) rfl rfl rfl rfl ?_
            refine jr.iload rfl rfl ?_
            refine jr.iald (i := y) (x := v2) rfl (by decide) rfl (by decide) (by omega) (by omega) e2 ?_
            refine jr.icmp_eq rfl rfl (by omega) (by omega) (fun h114 => ?_) (fun h114 => ?_)
            · refine jr.lload rfl rfl ?_
              refine jr.lconst (x := 0) rfl (by decide) ?_
              refine jr.ldc2 (x := 40) rfl rfl (by decide) ?_
              refine jr_s rfl rfl (Or.inl rfl) ⟨Nat.le_of_ble_eq_true rfl, Nat.le_of_ble_eq_true rfl⟩ rfl rfl (jc.deep (c_within (by omega) (by omega) (by omega) (fun l129 u129 => ?_) (fun n129 => ?_)) (by decide))
              · refine jr.if_eq rfl rfl (by omega) (fun h => absurd h (by decide)) (fun _ => ?_)
                refine jr.lload_n rfl rfl ?_
                refine jr.lconst (x := 0) rfl (by decide) ?_
                refine jr.aload_n rfl rfl ?_
                refine jr.getf (i := 118) (v := .ref 675) rfl rfl (by decide) rfl (by decide) rfl rfl rfl rfl ?_
                refine jr.iload rfl rfl ?_
                obtain ⟨v3, e3⟩ : ∃ z, M 675 x = z := ⟨_, rfl⟩
                have b3 : 0 ≤ v3 ∧ v3 ≤ 40 := by rw [← e3]; exact (by have q := hI_M 675 x (by decide); rw [xri_row rfl rfl] at q; exact q)
                refine jr.iald (i := x) (x := v3) rfl (by decide) rfl (by decide) (by omega) (by omega) e3 ?_
                refine jr.i2l rfl (by omega) ?_
                refine jr.lload rfl rfl ?_
                refine jr.lsub rfl ?_
                refine jr_s rfl rfl (Or.inl rfl) ⟨Nat.le_of_ble_eq_true rfl, Nat.le_of_ble_eq_true rfl⟩ rfl rfl (jc.deep (c_within (by omega) (by omega) (by omega) (fun l148 u148 => ?_) (fun n148 => ?_)) (by decide))
                · refine jr.if_eq rfl rfl (by omega) (fun h => absurd h (by decide)) (fun _ => ?_)
                  refine jr.lload rfl rfl ?_
                  refine jr.lconst (x := 0) rfl (by decide) ?_
                  refine jr.aload_n rfl rfl ?_
                  refine jr.getf (i := 118) (v := .ref 675) rfl rfl (by decide) rfl (by decide) rfl rfl rfl rfl ?_
                  refine jr.iload rfl rfl ?_
                  obtain ⟨v4, e4⟩ : ∃ z, M 675 y = z := ⟨_, rfl⟩
                  have b4 : 0 ≤ v4 ∧ v4 ≤ 40 := by rw [← e4]; exact (by have q := hI_M 675 y (by decide); rw [xri_row rfl rfl] at q; exact q)
                  refine jr.iald (i := y) (x := v4) rfl (by decide) rfl (by decide) (by omega) (by omega) e4 ?_
                  refine jr.i2l rfl (by omega) ?_
                  refine jr.lload rfl rfl ?_
                  refine jr.lsub rfl ?_
                  refine jr_s rfl rfl (Or.inl rfl) ⟨Nat.le_of_ble_eq_true rfl, Nat.le_of_ble_eq_true rfl⟩ rfl rfl (jc.deep (c_within (by omega) (by omega) (by omega) (fun l168 u168 => ?_) (fun n168 => ?_)) (by decide))
                  · refine jr.if_ne rfl rfl (by omega) (fun _ => ?_) (fun h => absurd (by decide) h)
                    refine jr.bipush rfl (by decide) ?_
                    refine jr.iload rfl rfl ?_
                    refine jr.imul rfl ?_
                    refine jr.lload_n rfl rfl ?_
                    refine jr.l2i rfl ?_
                    refine jr.iadd rfl ?_
                    refine jr.istore rfl (by decide) rfl ?_
                    refine jr.bipush rfl (by decide) ?_
                    refine jr.iload rfl rfl ?_
                    refine jr.imul rfl ?_
                    refine jr.lload rfl rfl ?_
                    refine jr.l2i rfl ?_
                    refine jr.iadd rfl ?_
                    refine jr.istore rfl (by decide) rfl ?_
                    refine jr.lload rfl rfl ?_
                    refine jr.l2i rfl ?_
                    refine jr.istore rfl (by decide) rfl ?_
                    refine jr.iload rfl rfl ?_
                    refine jr.if_eq rfl rfl (by omega) (fun _ => ?_) (fun h => absurd (by decide) h)
                    refine jr.iconst rfl ?_
                    refine jr.istore rfl (by decide) rfl ?_
                    refine jr.pick [0, 1, 2, 3, 4, 7] rfl rfl ?_
                    exact r_copy_L292 q 40 M 0 n ((40 * y) + j) ((40 * x) + i) 0 hI_M hH_M hS_M  (fun a i f598 f676 f677 f678 => rfl) (fun i g135 => rfl) (by omega) (by omega) (by omega) (by omega) (by omega) (by omega) (by omega) (by omega)
                  · refine jr.if_ne rfl rfl (by omega) (fun h => absurd h (by decide)) (fun _ => ?_)
                    refine jr.aload_n rfl rfl ?_
                    refine jr.iconst rfl ?_
                    refine jr.putf (i := 135) (x := 2) rfl rfl (by decide) rfl (by decide) rfl rfl rfl rfl rfl ?_
                    exact jr.vreturn rfl rfl (q _ (RI.u hI_M (a := 598) (i := 135) (show (0 : Int) ≤ _ ∧ _ ≤ (8 : Int) from by omega)) (RH.o hH_M (by decide) (by decide) (by decide)) (RF.o hS_M (by decide) (by decide))  (fun a i f598 f676 f677 f678 => ((ju_c _ _ f598).trans rfl)) (fun i g135 => ((ju_i _ _ g135).trans rfl)))
                · refine jr.if_eq rfl rfl (by omega) (fun _ => ?_) (fun h => absurd (by decide) h)
                  refine jr.aload_n rfl rfl ?_
                  refine jr.iconst rfl ?_
                  refine jr.putf (i := 135) (x := 2) rfl rfl (by decide) rfl (by decide) rfl rfl rfl rfl rfl ?_
                  exact jr.vreturn rfl rfl (q _ (RI.u hI_M (a := 598) (i := 135) (show (0 : Int) ≤ _ ∧ _ ≤ (8 : Int) from by omega)) (RH.o hH_M (by decide) (by decide) (by decide)) (RF.o hS_M (by decide) (by decide))  (fun a i f598 f676 f677 f678 => ((ju_c _ _ f598).trans rfl)) (fun i g135 => ((ju_i _ _ g135).trans rfl)))
              · refine jr.if_eq rfl rfl (by omega) (fun _ => ?_) (fun h => absurd (by decide) h)
                refine jr.aload_n rfl rfl ?_
                refine jr.iconst rfl ?_
                refine jr.putf (i := 135) (x := 2) rfl rfl (by decide) rfl (by decide) rfl rfl rfl rfl rfl ?_
                exact jr.vreturn rfl rfl (q _ (RI.u hI_M (a := 598) (i := 135) (show (0 : Int) ≤ _ ∧ _ ≤ (8 : Int) from by omega)) (RH.o hH_M (by decide) (by decide) (by decide)) (RF.o hS_M (by decide) (by decide))  (fun a i f598 f676 f677 f678 => ((ju_c _ _ f598).trans rfl)) (fun i g135 => ((ju_i _ _ g135).trans rfl)))
            · refine jr.aload_n rfl rfl ?_
              refine jr.iconst rfl ?_
              refine jr.putf (i := 135) (x := 5) rfl rfl (by decide) rfl (by decide) rfl rfl rfl rfl rfl ?_
              exact jr.vreturn rfl rfl (q _ (RI.u hI_M (a := 598) (i := 135) (show (0 : Int) ≤ _ ∧ _ ≤ (8 : Int) from by omega)) (RH.o hH_M (by decide) (by decide) (by decide)) (RF.o hS_M (by decide) (by decide))  (fun a i f598 f676 f677 f678 => ((ju_c _ _ f598).trans rfl)) (fun i g135 => ((ju_i _ _ g135).trans rfl)))
          · refine jr.aload_n rfl rfl ?_
            refine jr.getf (i := 117) (v := .ref 674) rfl rfl (by decide) rfl (by decide) rfl rfl rfl rfl ?_
            refine jr.iload rfl rfl ?_
            refine jr.iald (i := y) (x := v2) rfl (by decide) rfl (by decide) (by omega) (by omega) e2 ?_
            refine jr.iconst rfl ?_
            refine jr.icmp_le rfl rfl (by omega) (by omega) (fun h85 => ?_) (fun h85 => ?_)
            · refine jr.iconst rfl ?_
              refine jr.istore rfl (by decide) rfl ?_
              refine jr.iload rfl rfl ?_
              refine jr.if_ne rfl rfl (by omega) (fun h => absurd h (by decide)) (fun _ => ?_)
              refine jr.aload_n rfl rfl ?_
              refine jr.getf (i := 117) (v := .ref 674) rfl rfl (by decide) rfl (by decide) rfl rfl rfl rfl ?_
              refine jr.iload rfl rfl ?_
              refine jr.iald (i := x) (x := v1) rfl (by decide) rfl (by decide) (by omega) (by omega) e1 ?_
              refine jr.aload_n rfl rfl ?_
              refine jr.getf (i := 117) (v := .ref 674) rfl rfl (by decide) rfl (by decide) rfl rfl rfl rfl ?_
              refine jr.iload rfl rfl ?_
              refine jr.iald (i := y) (x := v2) rfl (by decide) rfl (by decide) (by omega) (by omega) e2 ?_
              refine jr.icmp_eq rfl rfl (by omega) (by omega) (fun h114 => ?_) (fun h114 => ?_)
              · exact absurd h114 (by omega)
              · refine jr.aload_n rfl rfl ?_
                refine jr.iconst rfl ?_
                refine jr.putf (i := 135) (x := 5) rfl rfl (by decide) rfl (by decide) rfl rfl rfl rfl rfl ?_
                exact jr.vreturn rfl rfl (q _ (RI.u hI_M (a := 598) (i := 135) (show (0 : Int) ≤ _ ∧ _ ≤ (8 : Int) from by omega)) (RH.o hH_M (by decide) (by decide) (by decide)) (RF.o hS_M (by decide) (by decide))  (fun a i f598 f676 f677 f678 => ((ju_c _ _ f598).trans rfl)) (fun i g135 => ((ju_i _ _ g135).trans rfl)))
            · refine jr.iconst rfl ?_
              refine jr.goto rfl rfl ?_
              refine jr.istore rfl (by decide) rfl ?_
              refine jr.iload rfl rfl ?_
              refine jr.if_ne rfl rfl (by omega) (fun _ => ?_) (fun h => absurd (by decide) h)
              refine jr.lload rfl rfl ?_
              refine jr.lconst (x := 0) rfl (by decide) ?_
              refine jr.ldc2 (x := 40) rfl rfl (by decide) ?_
              refine jr_s rfl rfl (Or.inl rfl) ⟨Nat.le_of_ble_eq_true rfl, Nat.le_of_ble_eq_true rfl⟩ rfl rfl (jc.deep (c_within (by omega) (by omega) (by omega) (fun l129 u129 => ?_) (fun n129 => ?_)) (by decide))
              · refine jr.if_eq rfl rfl (by omega) (fun h => absurd h (by decide)) (fun _ => ?_)
                refine jr.lload_n rfl rfl ?_
                refine jr.lconst (x := 0) rfl (by decide) ?_
                refine jr.aload_n rfl rfl ?_
                refine jr.getf (i := 118) (v := .ref 675) rfl rfl (by decide) rfl (by decide) rfl rfl rfl rfl ?_
                refine jr.iload rfl rfl ?_
                obtain ⟨v5, e5⟩ : ∃ z, M 675 x = z := ⟨_, rfl⟩
                have b5 : 0 ≤ v5 ∧ v5 ≤ 40 := by rw [← e5]; exact (by have q := hI_M 675 x (by decide); rw [xri_row rfl rfl] at q; exact q)
                refine jr.iald (i := x) (x := v5) rfl (by decide) rfl (by decide) (by omega) (by omega) e5 ?_
                refine jr.i2l rfl (by omega) ?_
                refine jr.lload rfl rfl ?_
                refine jr.lsub rfl ?_
                refine jr_s rfl rfl (Or.inl rfl) ⟨Nat.le_of_ble_eq_true rfl, Nat.le_of_ble_eq_true rfl⟩ rfl rfl (jc.deep (c_within (by omega) (by omega) (by omega) (fun l148 u148 => ?_) (fun n148 => ?_)) (by decide))
                · refine jr.if_eq rfl rfl (by omega) (fun h => absurd h (by decide)) (fun _ => ?_)
                  refine jr.lload rfl rfl ?_
                  refine jr.lconst (x := 0) rfl (by decide) ?_
                  refine jr.aload_n rfl rfl ?_
                  refine jr.getf (i := 118) (v := .ref 675) rfl rfl (by decide) rfl (by decide) rfl rfl rfl rfl ?_
                  refine jr.iload rfl rfl ?_
                  obtain ⟨v6, e6⟩ : ∃ z, M 675 y = z := ⟨_, rfl⟩
                  have b6 : 0 ≤ v6 ∧ v6 ≤ 40 := by rw [← e6]; exact (by have q := hI_M 675 y (by decide); rw [xri_row rfl rfl] at q; exact q)
                  refine jr.iald (i := y) (x := v6) rfl (by decide) rfl (by decide) (by omega) (by omega) e6 ?_
                  refine jr.i2l rfl (by omega) ?_
                  refine jr.lload rfl rfl ?_
                  refine jr.lsub rfl ?_
                  refine jr_s rfl rfl (Or.inl rfl) ⟨Nat.le_of_ble_eq_true rfl, Nat.le_of_ble_eq_true rfl⟩ rfl rfl (jc.deep (c_within (by omega) (by omega) (by omega) (fun l168 u168 => ?_) (fun n168 => ?_)) (by decide))
                  · refine jr.if_ne rfl rfl (by omega) (fun _ => ?_) (fun h => absurd (by decide) h)
                    refine jr.bipush rfl (by decide) ?_
                    refine jr.iload rfl rfl ?_
                    refine jr.imul rfl ?_
                    refine jr.lload_n rfl rfl ?_
                    refine jr.l2i rfl ?_
                    refine jr.iadd rfl ?_
                    refine jr.istore rfl (by decide) rfl ?_
                    refine jr.bipush rfl (by decide) ?_
                    refine jr.iload rfl rfl ?_
                    refine jr.imul rfl ?_
                    refine jr.lload rfl rfl ?_
                    refine jr.l2i rfl ?_
                    refine jr.iadd rfl ?_
                    refine jr.istore rfl (by decide) rfl ?_
                    refine jr.lload rfl rfl ?_
                    refine jr.l2i rfl ?_
                    refine jr.istore rfl (by decide) rfl ?_
                    refine jr.iload rfl rfl ?_
                    refine jr.if_eq rfl rfl (by omega) (fun h => absurd h (by decide)) (fun _ => ?_)
                    refine jr.aload_n rfl rfl ?_
                    refine jr.getf (i := 117) (v := .ref 674) rfl rfl (by decide) rfl (by decide) rfl rfl rfl rfl ?_
                    refine jr.iload rfl rfl ?_
                    refine jr.iald (i := y) (x := v2) rfl (by decide) rfl (by decide) (by omega) (by omega) e2 ?_
                    refine jr.bipush rfl (by decide) ?_
                    refine jr.icmp_ne rfl rfl (by omega) (by omega) (fun h220 => ?_) (fun h220 => ?_)
                    · refine jr.iconst rfl ?_
                      refine jr.istore rfl (by decide) rfl ?_
                      refine jr.pick [0, 1, 2, 3, 4, 7] rfl rfl ?_
                      exact r_copy_L292 q 40 M 0 n ((40 * y) + j) ((40 * x) + i) 1 hI_M hH_M hS_M  (fun a i f598 f676 f677 f678 => rfl) (fun i g135 => rfl) (by omega) (by omega) (by omega) (by omega) (by omega) (by omega) (by omega) (by omega)
                    · refine jr.iconst rfl ?_
                      refine jr.istore rfl (by decide) rfl ?_
                      refine jr.pick [0, 1, 2, 3, 11, 6] rfl rfl ?_
                      exact r_copy_L226 q 40 M 0 ((40 * y) + j) ((40 * x) + i) 1 n hI_M hH_M hS_M  (fun a i f598 f676 f677 f678 => rfl) (fun i g135 => rfl) (by omega) (by omega) (by omega) (by omega) (by omega) (by omega) (by omega) (by omega) (by omega)
                  · refine jr.if_ne rfl rfl (by omega) (fun h => absurd h (by decide)) (fun _ => ?_)
                    refine jr.aload_n rfl rfl ?_
                    refine jr.iconst rfl ?_
                    refine jr.putf (i := 135) (x := 2) rfl rfl (by decide) rfl (by decide) rfl rfl rfl rfl rfl ?_
                    exact jr.vreturn rfl rfl (q _ (RI.u hI_M (a := 598) (i := 135) (show (0 : Int) ≤ _ ∧ _ ≤ (8 : Int) from by omega)) (RH.o hH_M (by decide) (by decide) (by decide)) (RF.o hS_M (by decide) (by decide))  (fun a i f598 f676 f677 f678 => ((ju_c _ _ f598).trans rfl)) (fun i g135 => ((ju_i _ _ g135).trans rfl)))
                · refine jr.if_eq rfl rfl (by omega) (fun _ => ?_) (fun h => absurd (by decide) h)
                  refine jr.aload_n rfl rfl ?_
                  refine jr.iconst rfl ?_
                  refine jr.putf (i := 135) (x := 2) rfl rfl (by decide) rfl (by decide) rfl rfl rfl rfl rfl ?_
                  exact jr.vreturn rfl rfl (q _ (RI.u hI_M (a := 598) (i := 135) (show (0 : Int) ≤ _ ∧ _ ≤ (8 : Int) from by omega)) (RH.o hH_M (by decide) (by decide) (by decide)) (RF.o hS_M (by decide) (by decide))  (fun a i f598 f676 f677 f678 => ((ju_c _ _ f598).trans rfl)) (fun i g135 => ((ju_i _ _ g135).trans rfl)))
              · refine jr.if_eq rfl rfl (by omega) (fun _ => ?_) (fun h => absurd (by decide) h)
                refine jr.aload_n rfl rfl ?_
                refine jr.iconst rfl ?_
                refine jr.putf (i := 135) (x := 2) rfl rfl (by decide) rfl (by decide) rfl rfl rfl rfl rfl ?_
                exact jr.vreturn rfl rfl (q _ (RI.u hI_M (a := 598) (i := 135) (show (0 : Int) ≤ _ ∧ _ ≤ (8 : Int) from by omega)) (RH.o hH_M (by decide) (by decide) (by decide)) (RF.o hS_M (by decide) (by decide))  (fun a i f598 f676 f677 f678 => ((ju_c _ _ f598).trans rfl)) (fun i g135 => ((ju_i _ _ g135).trans rfl)))
        · refine jr.aload_n rfl rfl ?_
          refine jr.iconst rfl ?_
          refine jr.putf (i := 135) (x := 1) rfl rfl (by decide) rfl (by decide) rfl rfl rfl rfl rfl ?_
          exact jr.vreturn rfl rfl (q _ (RI.u hI_M (a := 598) (i := 135) (show (0 : Int) ≤ _ ∧ _ ≤ (8 : Int) from by omega)) (RH.o hH_M (by decide) (by decide) (by decide)) (RF.o hS_M (by decide) (by decide))  (fun a i f598 f676 f677 f678 => ((ju_c _ _ f598).trans rfl)) (fun i g135 => ((ju_i _ _ g135).trans rfl)))
    · refine jr.if_ne rfl rfl (by omega) (fun h => absurd h (by decide)) (fun _ => ?_)
      refine jr.aload_n rfl rfl ?_
      refine jr.iconst rfl ?_
      refine jr.putf (i := 135) (x := 2) rfl rfl (by decide) rfl (by decide) rfl rfl rfl rfl rfl ?_
      exact jr.vreturn rfl rfl (q _ (RI.u hI_M (a := 598) (i := 135) (show (0 : Int) ≤ _ ∧ _ ≤ (8 : Int) from by omega)) (RH.o hH_M (by decide) (by decide) (by decide)) (RF.o hS_M (by decide) (by decide))  (fun a i f598 f676 f677 f678 => ((ju_c _ _ f598).trans rfl)) (fun i g135 => ((ju_i _ _ g135).trans rfl)))
  · refine jr.if_eq rfl rfl (by omega) (fun _ => ?_) (fun h => absurd (by decide) h)
    refine jr.aload_n rfl rfl ?_
    refine jr.iconst rfl ?_
    refine jr.putf (i := 135) (x := 2) rfl rfl (by decide) rfl (by decide) rfl rfl rfl rfl rfl ?_
    exact jr.vreturn rfl rfl (q _ (RI.u hI_M (a := 598) (i := 135) (show (0 : Int) ≤ _ ∧ _ ≤ (8 : Int) from by omega)) (RH.o hH_M (by decide) (by decide) (by decide)) (RF.o hS_M (by decide) (by decide))  (fun a i f598 f676 f677 f678 => ((ju_c _ _ f598).trans rfl)) (fun i g135 => ((ju_i _ _ g135).trans rfl)))
theorem r_fresh_L111 {A : Nat → Option (Nat × (Nat → Int32))} {Q : Option Value → jm → Prop} {M0 : jm} (q : ∀ (M' : jm), RI M' → RH M' → RF M' → (∀ (a : Nat) (i : Int), a ≠ 598 → a ≠ 674 → a ≠ 675 → a ≠ 676 → a ≠ 677 → M' a i = M0 a i) → (∀ (i : Int), i ≠ 110 → i ≠ 135 → M' 598 i = M0 598 i) → Q none M') : ∀ (nM : Nat) (M : jm) (i : Int) (k : Int), RI M → RH M → RF M → (∀ (a : Nat) (i : Int), a ≠ 598 → a ≠ 674 → a ≠ 675 → a ≠ 676 → a ≠ 677 → M a i = M0 a i) → (∀ (i : Int), i ≠ 110 → i ≠ 135 → M 598 i = M0 598 i) → 0 ≤ i ∧ i ≤ 40 → 0 ≤ k ∧ k ≤ 7 → 40 - i ≤ nM → jr A 1 xm_400 111 [(7, .int (Int32.ofInt (i))), (1, .long (Int64.ofInt (k))), (0, .ref (598))] [] M Q := by
  intro nM
  induction nM using Nat.strongRecOn with
  | ind nM ih =>
    intro M i k hI_M hH_M hS_M hF_M hG_M h_i h_k hm
    refine jr.iload rfl rfl ?_
    refine jr.bipush rfl (by decide) ?_
    refine jr.icmp_ge rfl rfl (by omega) (by omega) (fun h115 => ?_) (fun h115 => ?_)
    · exact jr.vreturn rfl rfl (q _ hI_M hH_M hS_M  (fun a i f598 f674 f675 f676 f677 => (hF_M a i f598 f674 f675 f676 f677)) (fun i g110 g135 => (hG_M i g110 g135)))
    · refine jr.aload_n rfl rfl ?_
      refine jr.getf (i := 119) (v := .ref 676) rfl rfl (by decide) rfl (by decide) rfl rfl rfl rfl ?_
      refine jr.bipush rfl (by decide) ?_
      refine jr.lload_n rfl rfl ?_
      refine jr.l2i rfl ?_
      refine jr.imul rfl ?_
      refine jr.iload rfl rfl ?_
      refine jr.iadd rfl ?_
      refine jr.lconst (x := 0) rfl (by decide) ?_
      refine jr.last (i := ((40 * k) + i)) (x := 0) rfl (by decide) rfl (by decide) (by omega) (by omega) ?_
      refine jr.aload_n rfl rfl ?_
      refine jr.getf (i := 120) (v := .ref 677) rfl rfl (by decide) rfl (by decide) rfl rfl rfl rfl ?_
      refine jr.bipush rfl (by decide) ?_
      refine jr.lload_n rfl rfl ?_
      refine jr.l2i rfl ?_
      refine jr.imul rfl ?_
      refine jr.iload rfl rfl ?_
      refine jr.iadd rfl ?_
      refine jr.iconst rfl ?_
      refine jr.iast (i := ((40 * k) + i)) (x := (-1)) rfl (by decide) rfl (by decide) (by omega) (by omega) ?_
      refine jr.iinc rfl rfl (by decide) rfl ?_
      refine jr.goto rfl rfl ?_
      refine jr.pick [0, 1, 2] rfl rfl ?_
      exact ih (nM - 1) (by omega) (ju (ju M 676 ((40 * k) + i) 0) 677 ((40 * k) + i) (-1)) (i + 1) k (RI.u (RI.u hI_M (a := 676) (i := ((40 * k) + i)) (by rw [xri_row rfl rfl]; show (-9223372036854775808 : Int) ≤ _ ∧ _ ≤ (9223372036854775807 : Int); omega)) (a := 677) (i := ((40 * k) + i)) (by rw [xri_row rfl rfl]; show (-1 : Int) ≤ _ ∧ _ ≤ (11 : Int); omega)) (RH.o (RH.o hH_M (by decide) (by decide) (by decide)) (by decide) (by decide) (by decide)) (RF.o (RF.o hS_M (by decide) (by decide)) (by decide) (by decide))  (fun a i f598 f674 f675 f676 f677 => ((ju_c _ _ f677).trans ((ju_c _ _ f676).trans (hF_M a i f598 f674 f675 f676 f677)))) (fun i g110 g135 => ((ju_c _ _ (by decide)).trans ((ju_c _ _ (by decide)).trans (hG_M i g110 g135)))) (by omega) (by omega)  (by omega)
theorem r_fresh {A : Nat → Option (Nat × (Nat → Int32))} {Q : Option Value → jm → Prop} {M : jm} (hI_M : RI M) (hH_M : RH M) (hS_M : RF M) {k : Int} (h_k : (-9223372036854775808) ≤ k ∧ k ≤ 9223372036854775807) {s : Int} (h_s : (-9223372036854775808) ≤ s ∧ s ≤ 9223372036854775807) {n : Int} (h_n : (-9223372036854775808) ≤ n ∧ n ≤ 9223372036854775807) (q : ∀ (M' : jm), RI M' → RH M' → RF M' → (∀ (a : Nat) (i : Int), a ≠ 598 → a ≠ 674 → a ≠ 675 → a ≠ 676 → a ≠ 677 → M' a i = M a i) → (∀ (i : Int), i ≠ 110 → i ≠ 135 → M' 598 i = M 598 i) → Q none M') : jc A 2 400 [.ref (598), .long (Int64.ofInt (k)), .long (Int64.ofInt (s)), .long (Int64.ofInt (n))] M Q := by
  refine jc_of (m := xm_400) rfl (Nat.le_of_ble_eq_true rfl) rfl ?_
  refine jr.aload_n rfl rfl ?_
  refine jr.lload_n rfl rfl ?_
  refine jr.lconst (x := 0) rfl (by decide) ?_
  refine jr.ldc2 (x := 7) rfl rfl (by decide) ?_
  refine jr_s rfl rfl (Or.inl rfl) ⟨Nat.le_of_ble_eq_true rfl, Nat.le_of_ble_eq_true rfl⟩ rfl rfl (jc.deep (c_within (by omega) (by omega) (by omega) (fun l6 u6 => ?_) (fun n6 => ?_)) (by decide))
  · refine jr.if_ne rfl rfl (by omega) (fun _ => ?_) (fun h => absurd (by decide) h)
    refine jr.lload_n rfl rfl ?_
    refine jr.lconst (x := 0) rfl (by decide) ?_
    refine jr.ldc2 (x := 6) rfl rfl (by decide) ?_
    refine jr_s rfl rfl (Or.inl rfl) ⟨Nat.le_of_ble_eq_true rfl, Nat.le_of_ble_eq_true rfl⟩ rfl rfl (jc.deep (c_within (by omega) (by omega) (by omega) (fun l21 u21 => ?_) (fun n21 => ?_)) (by decide))
    · refine jr.if_ne rfl rfl (by omega) (fun _ => ?_) (fun h => absurd (by decide) h)
      refine jr.lload rfl rfl ?_
      refine jr.lconst (x := 0) rfl (by decide) ?_
      refine jr.lcmp_ge rfl rfl rfl (by omega) (by omega) (fun h35 => ?_) (fun h35 => ?_)
      · refine jr.lload rfl rfl ?_
        refine jr.ldc2 (x := 40) rfl rfl (by decide) ?_
        refine jr.lcmp_gt rfl rfl rfl (by omega) (by omega) (fun h48 => ?_) (fun h48 => ?_)
        · refine jr.bipush rfl (by decide) ?_
          refine jr.goto rfl rfl ?_
          refine jr.putf (i := 135) (x := 8) rfl rfl (by decide) rfl (by decide) rfl rfl rfl rfl rfl ?_
          refine jr.aload_n rfl rfl ?_
          refine jr.getf (i := 135) (x := 8) (v := .int (Int32.ofInt (8))) rfl rfl (by decide) rfl (by decide) rfl rfl (ju_same _ _ _ _) rfl ?_
          refine jr.if_eq rfl rfl (by omega) (fun h75 => ?_) (fun h75 => ?_)
          · refine jr.aload_n rfl rfl ?_
            refine jr.dup rfl rfl ?_
            obtain ⟨v1, e1⟩ : ∃ z, M 598 110 = z := ⟨_, rfl⟩
            have b1 : 0 ≤ v1 ∧ v1 ≤ 10000 := by rw [← e1]; exact hI_M 598 110 (by decide)
            refine jr.getf (i := 110) (x := v1) (v := .int (Int32.ofInt (v1))) rfl rfl (by decide) rfl (by decide) rfl rfl ((ju_i _ _ (by decide)).trans e1) rfl ?_
            refine jr.iconst rfl ?_
            refine jr.iadd rfl ?_
            refine jr.putf (i := 110) (x := (v1 + 1)) rfl rfl (by decide) rfl (by decide) rfl rfl rfl rfl rfl ?_
            refine jr.aload_n rfl rfl ?_
            refine jr.getf (i := 117) (v := .ref 674) rfl rfl (by decide) rfl (by decide) rfl rfl rfl rfl ?_
            refine jr.lload_n rfl rfl ?_
            refine jr.l2i rfl ?_
            refine jr.lload_n rfl rfl ?_
            refine jr.l2i rfl ?_
            refine jr.iast (i := k) (x := s) rfl (by decide) rfl (by decide) (by omega) (by omega) ?_
            refine jr.aload_n rfl rfl ?_
            refine jr.getf (i := 118) (v := .ref 675) rfl rfl (by decide) rfl (by decide) rfl rfl rfl rfl ?_
            refine jr.lload_n rfl rfl ?_
            refine jr.l2i rfl ?_
            refine jr.lload rfl rfl ?_
            refine jr.l2i rfl ?_
            refine jr.iw (j_w n) (j_w_eq _) ?_
            have b2 : -2147483648 ≤ j_w n ∧ j_w n ≤ 2147483647 := jb_any _
            generalize j_w n = v2 at b2 ⊢
            refine jr.iast (i := k) (x := v2) rfl (by decide) rfl (by decide) (by omega) (by omega) ?_
            refine jr.iconst rfl ?_
            refine jr.istore rfl (by decide) rfl ?_
            refine jr.pick [0, 2, 1] rfl rfl ?_
            exact r_fresh_L111 q 40 (ju (ju (ju (ju M 598 135 8) 598 110 (v1 + 1)) 674 k s) 675 k v2) 0 k (RI.u (RI.u (RI.u (RI.u hI_M (a := 598) (i := 135) (show (0 : Int) ≤ _ ∧ _ ≤ (8 : Int) from by omega)) (a := 598) (i := 110) (show (0 : Int) ≤ _ ∧ _ ≤ (10000 : Int) from by omega)) (a := 674) (i := k) (by rw [xri_row rfl rfl]; show (-1 : Int) ≤ _ ∧ _ ≤ (6 : Int); omega)) (a := 675) (i := k) (by rw [xri_row rfl rfl]; show (0 : Int) ≤ _ ∧ _ ≤ (40 : Int); omega)) (RH.o (RH.o (RH.o (RH.o hH_M (by decide) (by decide) (by decide)) (by decide) (by decide) (by decide)) (by decide) (by decide) (by decide)) (by decide) (by decide) (by decide)) (RF.o (RF.o (RF.o (RF.o hS_M (by decide) (by decide)) (by decide) (by decide)) (by decide) (by decide)) (by decide) (by decide))  (fun a i f598 f674 f675 f676 f677 => ((ju_c _ _ f675).trans ((ju_c _ _ f674).trans ((ju_c _ _ f598).trans ((ju_c _ _ f598).trans rfl))))) (fun i g110 g135 => ((ju_c _ _ (by decide)).trans ((ju_c _ _ (by decide)).trans ((ju_i _ _ g110).trans ((ju_i _ _ g135).trans rfl))))) (by omega) (by omega)  (by omega)
          · exact jr.vreturn rfl rfl (q _ (RI.u hI_M (a := 598) (i := 135) (show (0 : Int) ≤ _ ∧ _ ≤ (8 : Int) from by omega)) (RH.o hH_M (by decide) (by decide) (by decide)) (RF.o hS_M (by decide) (by decide))  (fun a i f598 f674 f675 f676 f677 => ((ju_c _ _ f598).trans rfl)) (fun i g110 g135 => ((ju_i _ _ g135).trans rfl)))
        · refine jr.aload_n rfl rfl ?_
          obtain ⟨v3, e3⟩ : ∃ z, M 598 110 = z := ⟨_, rfl⟩
          have b3 : 0 ≤ v3 ∧ v3 ≤ 10000 := by rw [← e3]; exact hI_M 598 110 (by decide)
          refine jr.getf (i := 110) (x := v3) (v := .int (Int32.ofInt (v3))) rfl rfl (by decide) rfl (by decide) rfl rfl e3 rfl ?_
          refine jr.sipush rfl (by decide) ?_
          refine jr.icmp_ne rfl rfl (by omega) (by omega) (fun h59 => ?_) (fun h59 => ?_)
          · refine jr.iconst rfl ?_
            refine jr.putf (i := 135) (x := 0) rfl rfl (by decide) rfl (by decide) rfl rfl rfl rfl rfl ?_
            refine jr.aload_n rfl rfl ?_
            refine jr.getf (i := 135) (x := 0) (v := .int (Int32.ofInt (0))) rfl rfl (by decide) rfl (by decide) rfl rfl (ju_same _ _ _ _) rfl ?_
            refine jr.if_eq rfl rfl (by omega) (fun h75 => ?_) (fun h75 => ?_)
            · refine jr.aload_n rfl rfl ?_
              refine jr.dup rfl rfl ?_
              refine jr.getf (i := 110) (x := v3) (v := .int (Int32.ofInt (v3))) rfl rfl (by decide) rfl (by decide) rfl rfl ((ju_i _ _ (by decide)).trans e3) rfl ?_
              refine jr.iconst rfl ?_
              refine jr.iadd rfl ?_
              refine jr.putf (i := 110) (x := (v3 + 1)) rfl rfl (by decide) rfl (by decide) rfl rfl rfl rfl rfl ?_
              refine jr.aload_n rfl rfl ?_
              refine jr.getf (i := 117) (v := .ref 674) rfl rfl (by decide) rfl (by decide) rfl rfl rfl rfl ?_
              refine jr.lload_n rfl rfl ?_
              refine jr.l2i rfl ?_
              refine jr.lload_n rfl rfl ?_
              refine jr.l2i rfl ?_
              refine jr.iast (i := k) (x := s) rfl (by decide) rfl (by decide) (by omega) (by omega) ?_
              refine jr.aload_n rfl rfl ?_
              refine jr.getf (i := 118) (v := .ref 675) rfl rfl (by decide) rfl (by decide) rfl rfl rfl rfl ?_
              refine jr.lload_n rfl rfl ?_
              refine jr.l2i rfl ?_
              refine jr.lload rfl rfl ?_
              refine jr.l2i rfl ?_
              refine jr.iast (i := k) (x := n) rfl (by decide) rfl (by decide) (by omega) (by omega) ?_
              refine jr.iconst rfl ?_
              refine jr.istore rfl (by decide) rfl ?_
              refine jr.pick [0, 2, 1] rfl rfl ?_
              exact r_fresh_L111 q 40 (ju (ju (ju (ju M 598 135 0) 598 110 (v3 + 1)) 674 k s) 675 k n) 0 k (RI.u (RI.u (RI.u (RI.u hI_M (a := 598) (i := 135) (show (0 : Int) ≤ _ ∧ _ ≤ (8 : Int) from by omega)) (a := 598) (i := 110) (show (0 : Int) ≤ _ ∧ _ ≤ (10000 : Int) from by omega)) (a := 674) (i := k) (by rw [xri_row rfl rfl]; show (-1 : Int) ≤ _ ∧ _ ≤ (6 : Int); omega)) (a := 675) (i := k) (by rw [xri_row rfl rfl]; show (0 : Int) ≤ _ ∧ _ ≤ (40 : Int); omega)) (RH.o (RH.o (RH.o (RH.o hH_M (by decide) (by decide) (by decide)) (by decide) (by decide) (by decide)) (by decide) (by decide) (by decide)) (by decide) (by decide) (by decide)) (RF.o (RF.o (RF.o (RF.o hS_M (by decide) (by decide)) (by decide) (by decide)) (by decide) (by decide)) (by decide) (by decide))  (fun a i f598 f674 f675 f676 f677 => ((ju_c _ _ f675).trans ((ju_c _ _ f674).trans ((ju_c _ _ f598).trans ((ju_c _ _ f598).trans rfl))))) (fun i g110 g135 => ((ju_c _ _ (by decide)).trans ((ju_c _ _ (by decide)).trans ((ju_i _ _ g110).trans ((ju_i _ _ g135).trans rfl))))) (by omega) (by omega)  (by omega)
            · exact jr.vreturn rfl rfl (q _ (RI.u hI_M (a := 598) (i := 135) (show (0 : Int) ≤ _ ∧ _ ≤ (8 : Int) from by omega)) (RH.o hH_M (by decide) (by decide) (by decide)) (RF.o hS_M (by decide) (by decide))  (fun a i f598 f674 f675 f676 f677 => ((ju_c _ _ f598).trans rfl)) (fun i g110 g135 => ((ju_i _ _ g135).trans rfl)))
          · refine jr.bipush rfl (by decide) ?_
            refine jr.goto rfl rfl ?_
            refine jr.putf (i := 135) (x := 8) rfl rfl (by decide) rfl (by decide) rfl rfl rfl rfl rfl ?_
            refine jr.aload_n rfl rfl ?_
            refine jr.getf (i := 135) (x := 8) (v := .int (Int32.ofInt (8))) rfl rfl (by decide) rfl (by decide) rfl rfl (ju_same _ _ _ _) rfl ?_
            refine jr.if_eq rfl rfl (by omega) (fun h75 => ?_) (fun h75 => ?_)
            · refine jr.aload_n rfl rfl ?_
              refine jr.dup rfl rfl ?_
              refine jr.getf (i := 110) (x := v3) (v := .int (Int32.ofInt (v3))) rfl rfl (by decide) rfl (by decide) rfl rfl ((ju_i _ _ (by decide)).trans e3) rfl ?_
              refine jr.iconst rfl ?_
              refine jr.iadd rfl ?_
              refine jr.putf (i := 110) (x := (v3 + 1)) rfl rfl (by decide) rfl (by decide) rfl rfl rfl rfl rfl ?_
              refine jr.aload_n rfl rfl ?_
              refine jr.getf (i := 117) (v := .ref 674) rfl rfl (by decide) rfl (by decide) rfl rfl rfl rfl ?_
              refine jr.lload_n rfl rfl ?_
              refine jr.l2i rfl ?_
              refine jr.lload_n rfl rfl ?_
              refine jr.l2i rfl ?_
              refine jr.iast (i := k) (x := s) rfl (by decide) rfl (by decide) (by omega) (by omega) ?_
              refine jr.aload_n rfl rfl ?_
              refine jr.getf (i := 118) (v := .ref 675) rfl rfl (by decide) rfl (by decide) rfl rfl rfl rfl ?_
              refine jr.lload_n rfl rfl ?_
              refine jr.l2i rfl ?_
              refine jr.lload rfl rfl ?_
              refine jr.l2i rfl ?_
              refine jr.iast (i := k) (x := n) rfl (by decide) rfl (by decide) (by omega) (by omega) ?_
              refine jr.iconst rfl ?_
              refine jr.istore rfl (by decide) rfl ?_
              refine jr.pick [0, 2, 1] rfl rfl ?_
              exact r_fresh_L111 q 40 (ju (ju (ju (ju M 598 135 8) 598 110 (v3 + 1)) 674 k s) 675 k n) 0 k (RI.u (RI.u (RI.u (RI.u hI_M (a := 598) (i := 135) (show (0 : Int) ≤ _ ∧ _ ≤ (8 : Int) from by omega)) (a := 598) (i := 110) (show (0 : Int) ≤ _ ∧ _ ≤ (10000 : Int) from by omega)) (a := 674) (i := k) (by rw [xri_row rfl rfl]; show (-1 : Int) ≤ _ ∧ _ ≤ (6 : Int); omega)) (a := 675) (i := k) (by rw [xri_row rfl rfl]; show (0 : Int) ≤ _ ∧ _ ≤ (40 : Int); omega)) (RH.o (RH.o (RH.o (RH.o hH_M (by decide) (by decide) (by decide)) (by decide) (by decide) (by decide)) (by decide) (by decide) (by decide)) (by decide) (by decide) (by decide)) (RF.o (RF.o (RF.o (RF.o hS_M (by decide) (by decide)) (by decide) (by decide)) (by decide) (by decide)) (by decide) (by decide))  (fun a i f598 f674 f675 f676 f677 => ((ju_c _ _ f675).trans ((ju_c _ _ f674).trans ((ju_c _ _ f598).trans ((ju_c _ _ f598).trans rfl))))) (fun i g110 g135 => ((ju_c _ _ (by decide)).trans ((ju_c _ _ (by decide)).trans ((ju_i _ _ g110).trans ((ju_i _ _ g135).trans rfl))))) (by omega) (by omega)  (by omega)
            · exact jr.vreturn rfl rfl (q _ (RI.u hI_M (a := 598) (i := 135) (show (0 : Int) ≤ _ ∧ _ ≤ (8 : Int) from by omega)) (RH.o hH_M (by decide) (by decide) (by decide)) (RF.o hS_M (by decide) (by decide))  (fun a i f598 f674 f675 f676 f677 => ((ju_c _ _ f598).trans rfl)) (fun i g110 g135 => ((ju_i _ _ g135).trans rfl)))
      · refine jr.iconst rfl ?_
        refine jr.goto rfl rfl ?_
        refine jr.putf (i := 135) (x := 3) rfl rfl (by decide) rfl (by decide) rfl rfl rfl rfl rfl ?_
        refine jr.aload_n rfl rfl ?_
        refine jr.getf (i := 135) (x := 3) (v := .int (Int32.ofInt (3))) rfl rfl (by decide) rfl (by decide) rfl rfl (ju_same _ _ _ _) rfl ?_
        refine jr.if_eq rfl rfl (by omega) (fun h75 => ?_) (fun h75 => ?_)
        · refine jr.aload_n rfl rfl ?_
          refine jr.dup rfl rfl ?_
          obtain ⟨v4, e4⟩ : ∃ z, M 598 110 = z := ⟨_, rfl⟩
          have b4 : 0 ≤ v4 ∧ v4 ≤ 10000 := by rw [← e4]; exact hI_M 598 110 (by decide)
          refine jr.getf (i := 110) (x := v4) (v := .int (Int32.ofInt (v4))) rfl rfl (by decide) rfl (by decide) rfl rfl ((ju_i _ _ (by decide)).trans e4) rfl ?_
          refine jr.iconst rfl ?_
          refine jr.iadd rfl ?_
          refine jr.putf (i := 110) (x := (v4 + 1)) rfl rfl (by decide) rfl (by decide) rfl rfl rfl rfl rfl ?_
          refine jr.aload_n rfl rfl ?_
          refine jr.getf (i := 117) (v := .ref 674) rfl rfl (by decide) rfl (by decide) rfl rfl rfl rfl ?_
          refine jr.lload_n rfl rfl ?_
          refine jr.l2i rfl ?_
          refine jr.lload_n rfl rfl ?_
          refine jr.l2i rfl ?_
          refine jr.iast (i := k) (x := s) rfl (by decide) rfl (by decide) (by omega) (by omega) ?_
          refine jr.aload_n rfl rfl ?_
          refine jr.getf (i := 118) (v := .ref 675) rfl rfl (by decide) rfl (by decide) rfl rfl rfl rfl ?_
          refine jr.lload_n rfl rfl ?_
          refine jr.l2i rfl ?_
          refine jr.lload rfl rfl ?_
          refine jr.l2i rfl ?_
          refine jr.iw (j_w n) (j_w_eq _) ?_
          have b5 : -2147483648 ≤ j_w n ∧ j_w n ≤ 2147483647 := jb_any _
          generalize j_w n = v5 at b5 ⊢
          refine jr.iast (i := k) (x := v5) rfl (by decide) rfl (by decide) (by omega) (by omega) ?_
          refine jr.iconst rfl ?_
          refine jr.istore rfl (by decide) rfl ?_
          refine jr.pick [0, 2, 1] rfl rfl ?_
          exact r_fresh_L111 q 40 (ju (ju (ju (ju M 598 135 3) 598 110 (v4 + 1)) 674 k s) 675 k v5) 0 k (RI.u (RI.u (RI.u (RI.u hI_M (a := 598) (i := 135) (show (0 : Int) ≤ _ ∧ _ ≤ (8 : Int) from by omega)) (a := 598) (i := 110) (show (0 : Int) ≤ _ ∧ _ ≤ (10000 : Int) from by omega)) (a := 674) (i := k) (by rw [xri_row rfl rfl]; show (-1 : Int) ≤ _ ∧ _ ≤ (6 : Int); omega)) (a := 675) (i := k) (by rw [xri_row rfl rfl]; show (0 : Int) ≤ _ ∧ _ ≤ (40 : Int); omega)) (RH.o (RH.o (RH.o (RH.o hH_M (by decide) (by decide) (by decide)) (by decide) (by decide) (by decide)) (by decide) (by decide) (by decide)) (by decide) (by decide) (by decide)) (RF.o (RF.o (RF.o (RF.o hS_M (by decide) (by decide)) (by decide) (by decide)) (by decide) (by decide)) (by decide) (by decide))  (fun a i f598 f674 f675 f676 f677 => ((ju_c _ _ f675).trans ((ju_c _ _ f674).trans ((ju_c _ _ f598).trans ((ju_c _ _ f598).trans rfl))))) (fun i g110 g135 => ((ju_c _ _ (by decide)).trans ((ju_c _ _ (by decide)).trans ((ju_i _ _ g110).trans ((ju_i _ _ g135).trans rfl))))) (by omega) (by omega)  (by omega)
        · exact jr.vreturn rfl rfl (q _ (RI.u hI_M (a := 598) (i := 135) (show (0 : Int) ≤ _ ∧ _ ≤ (8 : Int) from by omega)) (RH.o hH_M (by decide) (by decide) (by decide)) (RF.o hS_M (by decide) (by decide))  (fun a i f598 f674 f675 f676 f677 => ((ju_c _ _ f598).trans rfl)) (fun i g110 g135 => ((ju_i _ _ g135).trans rfl)))
    · refine jr.if_ne rfl rfl (by omega) (fun h => absurd h (by decide)) (fun _ => ?_)
      refine jr.bipush rfl (by decide) ?_
      refine jr.goto rfl rfl ?_
      refine jr.putf (i := 135) (x := 8) rfl rfl (by decide) rfl (by decide) rfl rfl rfl rfl rfl ?_
      refine jr.aload_n rfl rfl ?_
      refine jr.getf (i := 135) (x := 8) (v := .int (Int32.ofInt (8))) rfl rfl (by decide) rfl (by decide) rfl rfl (ju_same _ _ _ _) rfl ?_
      refine jr.if_eq rfl rfl (by omega) (fun h75 => ?_) (fun h75 => ?_)
      · refine jr.aload_n rfl rfl ?_
        refine jr.dup rfl rfl ?_
        obtain ⟨v6, e6⟩ : ∃ z, M 598 110 = z := ⟨_, rfl⟩
        have b6 : 0 ≤ v6 ∧ v6 ≤ 10000 := by rw [← e6]; exact hI_M 598 110 (by decide)
        refine jr.getf (i := 110) (x := v6) (v := .int (Int32.ofInt (v6))) rfl rfl (by decide) rfl (by decide) rfl rfl ((ju_i _ _ (by decide)).trans e6) rfl ?_
        refine jr.iconst rfl ?_
        refine jr.iadd rfl ?_
        refine jr.putf (i := 110) (x := (v6 + 1)) rfl rfl (by decide) rfl (by decide) rfl rfl rfl rfl rfl ?_
        refine jr.aload_n rfl rfl ?_
        refine jr.getf (i := 117) (v := .ref 674) rfl rfl (by decide) rfl (by decide) rfl rfl rfl rfl ?_
        refine jr.lload_n rfl rfl ?_
        refine jr.l2i rfl ?_
        refine jr.lload_n rfl rfl ?_
        refine jr.l2i rfl ?_
        refine jr.iw (j_w s) (j_w_eq _) ?_
        have b7 : -2147483648 ≤ j_w s ∧ j_w s ≤ 2147483647 := jb_any _
        generalize j_w s = v7 at b7 ⊢
        refine jr.iast (i := k) (x := v7) rfl (by decide) rfl (by decide) (by omega) (by omega) ?_
        refine jr.aload_n rfl rfl ?_
        refine jr.getf (i := 118) (v := .ref 675) rfl rfl (by decide) rfl (by decide) rfl rfl rfl rfl ?_
        refine jr.lload_n rfl rfl ?_
        refine jr.l2i rfl ?_
        refine jr.lload rfl rfl ?_
        refine jr.l2i rfl ?_
        refine jr.iw (j_w n) (j_w_eq _) ?_
        have b8 : -2147483648 ≤ j_w n ∧ j_w n ≤ 2147483647 := jb_any _
        generalize j_w n = v8 at b8 ⊢
        refine jr.iast (i := k) (x := v8) rfl (by decide) rfl (by decide) (by omega) (by omega) ?_
        refine jr.iconst rfl ?_
        refine jr.istore rfl (by decide) rfl ?_
        refine jr.pick [0, 2, 1] rfl rfl ?_
        exact r_fresh_L111 q 40 (ju (ju (ju (ju M 598 135 8) 598 110 (v6 + 1)) 674 k v7) 675 k v8) 0 k (RI.u (RI.u (RI.u (RI.u hI_M (a := 598) (i := 135) (show (0 : Int) ≤ _ ∧ _ ≤ (8 : Int) from by omega)) (a := 598) (i := 110) (show (0 : Int) ≤ _ ∧ _ ≤ (10000 : Int) from by omega)) (a := 674) (i := k) (by rw [xri_row rfl rfl]; show (-1 : Int) ≤ _ ∧ _ ≤ (6 : Int); omega)) (a := 675) (i := k) (by rw [xri_row rfl rfl]; show (0 : Int) ≤ _ ∧ _ ≤ (40 : Int); omega)) (RH.o (RH.o (RH.o (RH.o hH_M (by decide) (by decide) (by decide)) (by decide) (by decide) (by decide)) (by decide) (by decide) (by decide)) (by decide) (by decide) (by decide)) (RF.o (RF.o (RF.o (RF.o hS_M (by decide) (by decide)) (by decide) (by decide)) (by decide) (by decide)) (by decide) (by decide))  (fun a i f598 f674 f675 f676 f677 => ((ju_c _ _ f675).trans ((ju_c _ _ f674).trans ((ju_c _ _ f598).trans ((ju_c _ _ f598).trans rfl))))) (fun i g110 g135 => ((ju_c _ _ (by decide)).trans ((ju_c _ _ (by decide)).trans ((ju_i _ _ g110).trans ((ju_i _ _ g135).trans rfl))))) (by omega) (by omega)  (by omega)
      · exact jr.vreturn rfl rfl (q _ (RI.u hI_M (a := 598) (i := 135) (show (0 : Int) ≤ _ ∧ _ ≤ (8 : Int) from by omega)) (RH.o hH_M (by decide) (by decide) (by decide)) (RF.o hS_M (by decide) (by decide))  (fun a i f598 f674 f675 f676 f677 => ((ju_c _ _ f598).trans rfl)) (fun i g110 g135 => ((ju_i _ _ g135).trans rfl)))
  · refine jr.if_ne rfl rfl (by omega) (fun h => absurd h (by decide)) (fun _ => ?_)
    refine jr.iconst rfl ?_
    refine jr.goto rfl rfl ?_
    refine jr.putf (i := 135) (x := 2) rfl rfl (by decide) rfl (by decide) rfl rfl rfl rfl rfl ?_
    refine jr.aload_n rfl rfl ?_
    refine jr.getf (i := 135) (x := 2) (v := .int (Int32.ofInt (2))) rfl rfl (by decide) rfl (by decide) rfl rfl (ju_same _ _ _ _) rfl ?_
    refine jr.if_eq rfl rfl (by omega) (fun h75 => ?_) (fun h75 => ?_)
    · refine jr.aload_n rfl rfl ?_
      refine jr.dup rfl rfl ?_
      obtain ⟨v9, e9⟩ : ∃ z, M 598 110 = z := ⟨_, rfl⟩
      have b9 : 0 ≤ v9 ∧ v9 ≤ 10000 := by rw [← e9]; exact hI_M 598 110 (by decide)
      refine jr.getf (i := 110) (x := v9) (v := .int (Int32.ofInt (v9))) rfl rfl (by decide) rfl (by decide) rfl rfl ((ju_i _ _ (by decide)).trans e9) rfl ?_
      refine jr.iconst rfl ?_
      refine jr.iadd rfl ?_
      refine jr.putf (i := 110) (x := (v9 + 1)) rfl rfl (by decide) rfl (by decide) rfl rfl rfl rfl rfl ?_
      refine jr.aload_n rfl rfl ?_
      refine jr.getf (i := 117) (v := .ref 674) rfl rfl (by decide) rfl (by decide) rfl rfl rfl rfl ?_
      refine jr.lload_n rfl rfl ?_
      refine jr.l2i rfl ?_
      refine jr.iw (j_w k) (j_w_eq _) ?_
      have b10 : -2147483648 ≤ j_w k ∧ j_w k ≤ 2147483647 := jb_any _
      generalize j_w k = v10 at b10 ⊢
      refine jr.lload_n rfl rfl ?_
      refine jr.l2i rfl ?_
      refine jr.iw (j_w s) (j_w_eq _) ?_
      have b11 : -2147483648 ≤ j_w s ∧ j_w s ≤ 2147483647 := jb_any _
      generalize j_w s = v11 at b11 ⊢
      refine jr.iast (i := v10) (x := v11) rfl (by decide) rfl (by decide) (by omega) (by omega) ?_
      refine jr.aload_n rfl rfl ?_
      refine jr.getf (i := 118) (v := .ref 675) rfl rfl (by decide) rfl (by decide) rfl rfl rfl rfl ?_
      refine jr.lload_n rfl rfl ?_
      refine jr.l2i rfl ?_
      refine jr.iw (j_w k) (j_w_eq _) ?_
      have b12 : -2147483648 ≤ j_w k ∧ j_w k ≤ 2147483647 := jb_any _
      generalize j_w k = v12 at b12 ⊢
      refine jr.lload rfl rfl ?_
      refine jr.l2i rfl ?_
      refine jr.iw (j_w n) (j_w_eq _) ?_
      have b13 : -2147483648 ≤ j_w n ∧ j_w n ≤ 2147483647 := jb_any _
      generalize j_w n = v13 at b13 ⊢
      refine jr.iast (i := v12) (x := v13) rfl (by decide) rfl (by decide) (by omega) (by omega) ?_
      refine jr.iconst rfl ?_
      refine jr.istore rfl (by decide) rfl ?_
      refine jr.pick [0, 2, 1] rfl rfl ?_
      exact r_fresh_L111 q 40 (ju (ju (ju (ju M 598 135 2) 598 110 (v9 + 1)) 674 v10 v11) 675 v12 v13) 0 k (RI.u (RI.u (RI.u (RI.u hI_M (a := 598) (i := 135) (show (0 : Int) ≤ _ ∧ _ ≤ (8 : Int) from by omega)) (a := 598) (i := 110) (show (0 : Int) ≤ _ ∧ _ ≤ (10000 : Int) from by omega)) (a := 674) (i := v10) (by rw [xri_row rfl rfl]; show (-1 : Int) ≤ _ ∧ _ ≤ (6 : Int); omega)) (a := 675) (i := v12) (by rw [xri_row rfl rfl]; show (0 : Int) ≤ _ ∧ _ ≤ (40 : Int); omega)) (RH.o (RH.o (RH.o (RH.o hH_M (by decide) (by decide) (by decide)) (by decide) (by decide) (by decide)) (by decide) (by decide) (by decide)) (by decide) (by decide) (by decide)) (RF.o (RF.o (RF.o (RF.o hS_M (by decide) (by decide)) (by decide) (by decide)) (by decide) (by decide)) (by decide) (by decide))  (fun a i f598 f674 f675 f676 f677 => ((ju_c _ _ f675).trans ((ju_c _ _ f674).trans ((ju_c _ _ f598).trans ((ju_c _ _ f598).trans rfl))))) (fun i g110 g135 => ((ju_c _ _ (by decide)).trans ((ju_c _ _ (by decide)).trans ((ju_i _ _ g110).trans ((ju_i _ _ g135).trans rfl))))) (by omega) (by omega)  (by omega)
    · exact jr.vreturn rfl rfl (q _ (RI.u hI_M (a := 598) (i := 135) (show (0 : Int) ≤ _ ∧ _ ≤ (8 : Int) from by omega)) (RH.o hH_M (by decide) (by decide) (by decide)) (RF.o hS_M (by decide) (by decide))  (fun a i f598 f674 f675 f676 f677 => ((ju_c _ _ f598).trans rfl)) (fun i g110 g135 => ((ju_i _ _ g135).trans rfl)))
theorem r_list_L130 {A : Nat → Option (Nat × (Nat → Int32))} {Q : Option Value → jm → Prop} {M0 : jm} (q : ∀ (M' : jm), RI M' → RH M' → RF M' → (∀ (a : Nat) (i : Int), a ≠ 598 → a ≠ 603 → a ≠ 604 → a ≠ 605 → a ≠ 674 → a ≠ 675 → a ≠ 677 → a ≠ 678 → M' a i = M0 a i) → (∀ (i : Int), i ≠ 6 → i ≠ 10 → i ≠ 11 → i ≠ 12 → i ≠ 110 → i ≠ 135 → M' 598 i = M0 598 i) → Q none M') (nO : Nat) (ko : ∀ (M : jm) (h : Int) (k : Int), RI M → RH M → RF M → (∀ (a : Nat) (i : Int), a ≠ 598 → a ≠ 603 → a ≠ 604 → a ≠ 605 → a ≠ 674 → a ≠ 675 → a ≠ 677 → a ≠ 678 → M a i = M0 a i) → (∀ (i : Int), i ≠ 6 → i ≠ 10 → i ≠ 11 → i ≠ 12 → i ≠ 110 → i ≠ 135 → M 598 i = M0 598 i) → 0 ≤ h ∧ h ≤ 12 → 0 ≤ k ∧ k ≤ 7 → 12 - h ≤ nO → jr A 6 xm_401 97 [(3, .int (Int32.ofInt (h))), (1, .long (Int64.ofInt (k))), (0, .ref (598))] [] M Q) : ∀ (nM : Nat) (M : jm) (f : Int) (a : Int) (h : Int) (k : Int), RI M → RH M → RF M → (∀ (a : Nat) (i : Int), a ≠ 598 → a ≠ 603 → a ≠ 604 → a ≠ 605 → a ≠ 674 → a ≠ 675 → a ≠ 677 → a ≠ 678 → M a i = M0 a i) → (∀ (i : Int), i ≠ 6 → i ≠ 10 → i ≠ 11 → i ≠ 12 → i ≠ 110 → i ≠ 135 → M 598 i = M0 598 i) → 0 ≤ f ∧ f ≤ 11 → 0 ≤ a ∧ a ≤ 319 → 0 ≤ h ∧ h ≤ 11 → 0 ≤ k ∧ k ≤ 7 → 12 - (h + 1) ≤ nO → 11 - f ≤ nM → jr A 6 xm_401 130 [(5, .int (Int32.ofInt (f))), (4, .int (Int32.ofInt (a))), (3, .int (Int32.ofInt (h))), (1, .long (Int64.ofInt (k))), (0, .ref (598))] [] M Q := by
  intro nM
  induction nM using Nat.strongRecOn with
  | ind nM ih =>
    intro M f a h k hI_M hH_M hS_M hF_M hG_M h_f h_a h_h h_k hy0 hm
    have fk := fldn_le (M 603 h)
    refine jr.iload rfl rfl ?_
    refine jr.aload_n rfl rfl ?_
    refine jr.getf (i := 7) (v := .ref 603) rfl rfl (by decide) rfl (by decide) rfl rfl rfl rfl ?_
    refine jr.iload_n rfl rfl ?_
    obtain ⟨v1, e1⟩ : ∃ z, M 603 h = z := ⟨_, rfl⟩
    have b1 : 0 ≤ v1 ∧ v1 ≤ 11 := by rw [← e1]; exact (by have q := hI_M 603 h (by decide); rw [xri_row rfl rfl] at q; exact q)
    refine jr.iald (i := h) (x := v1) rfl (by decide) rfl (by decide) (by omega) (by omega) e1 ?_
    refine jr_s rfl rfl (Or.inl rfl) ⟨Nat.le_of_ble_eq_true rfl, Nat.le_of_ble_eq_true rfl⟩ rfl rfl (jc.deep (r_fields hI_M hH_M hS_M (Kp.rfl _) (by omega)  (fun r2 z2 w2_0 => ?_)) (by decide))
    refine jr.icmp_ge rfl rfl (by omega) (by omega) (fun h141 => ?_) (fun h141 => ?_)
    · refine jr.iinc rfl rfl (by decide) rfl ?_
      refine jr.goto rfl rfl ?_
      refine jr.pick [0, 3, 4] rfl rfl ?_
      exact ko M (h + 1) k hI_M hH_M hS_M  (fun a i f598 f603 f604 f605 f674 f675 f677 f678 => (hF_M a i f598 f603 f604 f605 f674 f675 f677 f678)) (fun i g6 g10 g11 g12 g110 g135 => (hG_M i g6 g10 g11 g12 g110 g135)) (by omega) (by omega)  (by omega)
    · refine jr.aload_n rfl rfl ?_
      refine jr.getf (i := 121) (v := .ref 678) rfl rfl (by decide) rfl (by decide) rfl rfl rfl rfl ?_
      refine jr.bipush rfl (by decide) ?_
      refine jr.iload rfl rfl ?_
      refine jr.imul rfl ?_
      refine jr.iload rfl rfl ?_
      refine jr.iadd rfl ?_
      refine jr.aload_n rfl rfl ?_
      refine jr.aload_n rfl rfl ?_
      obtain ⟨v3, e3⟩ : ∃ z, M 598 133 = z := ⟨_, rfl⟩
      have b3 : 0 ≤ v3 ∧ v3 ≤ 23 := by rw [← e3]; exact hI_M 598 133 (by decide)
      refine jr.getf (i := 133) (x := v3) (v := .int (Int32.ofInt (v3))) rfl rfl (by decide) rfl (by decide) rfl rfl e3 rfl ?_
      refine jr.aload_n rfl rfl ?_
      refine jr.getf (i := 7) (v := .ref 603) rfl rfl (by decide) rfl (by decide) rfl rfl rfl rfl ?_
      refine jr.iload_n rfl rfl ?_
      refine jr.iald (i := h) (x := v1) rfl (by decide) rfl (by decide) (by omega) (by omega) e1 ?_
      refine jr.aload_n rfl rfl ?_
      refine jr.getf (i := 8) (v := .ref 604) rfl rfl (by decide) rfl (by decide) rfl rfl rfl rfl ?_
      refine jr.iload_n rfl rfl ?_
      obtain ⟨v4, e4⟩ : ∃ z, M 604 h = z := ⟨_, rfl⟩
      have b4 : 0 ≤ v4 ∧ v4 ≤ 400 := by rw [← e4]; exact (by have q := hI_M 604 h (by decide); rw [xri_row rfl rfl] at q; exact q)
      refine jr.iald (i := h) (x := v4) rfl (by decide) rfl (by decide) (by omega) (by omega) e4 ?_
      refine jr.aload_n rfl rfl ?_
      refine jr.getf (i := 9) (v := .ref 605) rfl rfl (by decide) rfl (by decide) rfl rfl rfl rfl ?_
      refine jr.iload_n rfl rfl ?_
      obtain ⟨v5, e5⟩ : ∃ z, M 605 h = z := ⟨_, rfl⟩
      have b5 : 0 ≤ v5 ∧ v5 ≤ 400 := by rw [← e5]; exact (by have q := hI_M 605 h (by decide); rw [xri_row rfl rfl] at q; exact q)
      refine jr.iald (i := h) (x := v5) rfl (by decide) rfl (by decide) (by omega) (by omega) e5 ?_
      refine jr.iload rfl rfl ?_
      refine jr_v rfl rfl (Or.inl rfl) rfl rfl (by decide) rfl ⟨rfl, Nat.le_of_ble_eq_true rfl, Nat.le_of_ble_eq_true rfl⟩ rfl (jc.deep (r_valueOf hI_M hH_M hS_M (Kp.rfl _) (by omega) (by omega) (by omega) (by omega) (by omega) (by have q := (hH_M h).1; rw [e4, e1] at q; exact q) (by omega) (fun r6 z6  => ?_)) (by decide))
      refine jr.last (i := ((11 * a) + f)) (x := r6) rfl (by decide) rfl (by decide) (by omega) (by omega) ?_
      refine jr.iinc rfl rfl (by decide) rfl ?_
      refine jr.goto rfl rfl ?_
      refine jr.pick [0, 1, 2, 3, 4] rfl rfl ?_
      exact ih (nM - 1) (by omega) (ju M 678 ((11 * a) + f) r6) (f + 1) a h k (RI.u hI_M (a := 678) (i := ((11 * a) + f)) (by rw [xri_row rfl rfl]; show (-9223372036854775808 : Int) ≤ _ ∧ _ ≤ (9223372036854775807 : Int); omega)) (RH.o hH_M (by decide) (by decide) (by decide)) (RF.o hS_M (by decide) (by decide))  (fun a i f598 f603 f604 f605 f674 f675 f677 f678 => ((ju_c _ _ f678).trans (hF_M a i f598 f603 f604 f605 f674 f675 f677 f678))) (fun i g6 g10 g11 g12 g110 g135 => ((ju_c _ _ (by decide)).trans (hG_M i g6 g10 g11 g12 g110 g135))) (by omega) (by omega) (by omega) (by omega) (by omega) (by omega)
theorem r_list_L97 {A : Nat → Option (Nat × (Nat → Int32))} {Q : Option Value → jm → Prop} {M0 : jm} (q : ∀ (M' : jm), RI M' → RH M' → RF M' → (∀ (a : Nat) (i : Int), a ≠ 598 → a ≠ 603 → a ≠ 604 → a ≠ 605 → a ≠ 674 → a ≠ 675 → a ≠ 677 → a ≠ 678 → M' a i = M0 a i) → (∀ (i : Int), i ≠ 6 → i ≠ 10 → i ≠ 11 → i ≠ 12 → i ≠ 110 → i ≠ 135 → M' 598 i = M0 598 i) → Q none M') : ∀ (nM : Nat) (M : jm) (h : Int) (k : Int), RI M → RH M → RF M → (∀ (a : Nat) (i : Int), a ≠ 598 → a ≠ 603 → a ≠ 604 → a ≠ 605 → a ≠ 674 → a ≠ 675 → a ≠ 677 → a ≠ 678 → M a i = M0 a i) → (∀ (i : Int), i ≠ 6 → i ≠ 10 → i ≠ 11 → i ≠ 12 → i ≠ 110 → i ≠ 135 → M 598 i = M0 598 i) → 0 ≤ h ∧ h ≤ 12 → 0 ≤ k ∧ k ≤ 7 → 12 - h ≤ nM → jr A 6 xm_401 97 [(3, .int (Int32.ofInt (h))), (1, .long (Int64.ofInt (k))), (0, .ref (598))] [] M Q := by
  intro nM
  induction nM using Nat.strongRecOn with
  | ind nM ih =>
    intro M h k hI_M hH_M hS_M hF_M hG_M h_h h_k hm
    refine jr.iload_n rfl rfl ?_
    refine jr.aload_n rfl rfl ?_
    obtain ⟨v1, e1⟩ : ∃ z, M 598 6 = z := ⟨_, rfl⟩
    have b1 : 0 ≤ v1 ∧ v1 ≤ 12 := by rw [← e1]; exact hI_M 598 6 (by decide)
    refine jr.getf (i := 6) (x := v1) (v := .int (Int32.ofInt (v1))) rfl rfl (by decide) rfl (by decide) rfl rfl e1 rfl ?_
    refine jr.icmp_ge rfl rfl (by omega) (by omega) (fun h102 => ?_) (fun h102 => ?_)
    · exact jr.vreturn rfl rfl (q _ hI_M hH_M hS_M  (fun a i f598 f603 f604 f605 f674 f675 f677 f678 => (hF_M a i f598 f603 f604 f605 f674 f675 f677 f678)) (fun i g6 g10 g11 g12 g110 g135 => (hG_M i g6 g10 g11 g12 g110 g135)))
    · refine jr.bipush rfl (by decide) ?_
      refine jr.lload_n rfl rfl ?_
      refine jr.l2i rfl ?_
      refine jr.imul rfl ?_
      refine jr.iload_n rfl rfl ?_
      refine jr.iadd rfl ?_
      refine jr.istore rfl (by decide) rfl ?_
      refine jr.aload_n rfl rfl ?_
      refine jr.getf (i := 120) (v := .ref 677) rfl rfl (by decide) rfl (by decide) rfl rfl rfl rfl ?_
      refine jr.iload rfl rfl ?_
      refine jr.aload_n rfl rfl ?_
      refine jr.getf (i := 7) (v := .ref 603) rfl rfl (by decide) rfl (by decide) rfl rfl rfl rfl ?_
      refine jr.iload_n rfl rfl ?_
      obtain ⟨v2, e2⟩ : ∃ z, M 603 h = z := ⟨_, rfl⟩
      have b2 : 0 ≤ v2 ∧ v2 ≤ 11 := by rw [← e2]; exact (by have q := hI_M 603 h (by decide); rw [xri_row rfl rfl] at q; exact q)
      refine jr.iald (i := h) (x := v2) rfl (by decide) rfl (by decide) (by omega) (by omega) e2 ?_
      refine jr.iast (i := ((40 * k) + h)) (x := v2) rfl (by decide) rfl (by decide) (by omega) (by omega) ?_
      refine jr.iconst rfl ?_
      refine jr.istore rfl (by decide) rfl ?_
      refine jr.pick [0, 1, 2, 3, 4] rfl rfl ?_
      exact r_list_L130 q (nM - 1) (ih (nM - 1) (by omega)) 11 (ju M 677 ((40 * k) + h) v2) 0 ((40 * k) + h) h k (RI.u hI_M (a := 677) (i := ((40 * k) + h)) (by rw [xri_row rfl rfl]; show (-1 : Int) ≤ _ ∧ _ ≤ (11 : Int); omega)) (RH.o hH_M (by decide) (by decide) (by decide)) (RF.o hS_M (by decide) (by decide))  (fun a i f598 f603 f604 f605 f674 f675 f677 f678 => ((ju_c _ _ f677).trans (hF_M a i f598 f603 f604 f605 f674 f675 f677 f678))) (fun i g6 g10 g11 g12 g110 g135 => ((ju_c _ _ (by decide)).trans (hG_M i g6 g10 g11 g12 g110 g135))) (by omega) (by omega) (by omega) (by omega) (by omega) (by omega)
theorem r_list {A : Nat → Option (Nat × (Nat → Int32))} {Q : Option Value → jm → Prop} {M : jm} (hI_M : RI M) (hH_M : RH M) (hS_M : RF M) {k : Int} (h_k : (-9223372036854775808) ≤ k ∧ k ≤ 9223372036854775807) (q : ∀ (M' : jm), RI M' → RH M' → RF M' → (∀ (a : Nat) (i : Int), a ≠ 598 → a ≠ 603 → a ≠ 604 → a ≠ 605 → a ≠ 674 → a ≠ 675 → a ≠ 677 → a ≠ 678 → M' a i = M a i) → (∀ (i : Int), i ≠ 6 → i ≠ 10 → i ≠ 11 → i ≠ 12 → i ≠ 110 → i ≠ 135 → M' 598 i = M 598 i) → Q none M') : jc A 7 401 [.ref (598), .long (Int64.ofInt (k))] M Q := by
  refine jc_of (m := xm_401) rfl (Nat.le_of_ble_eq_true rfl) rfl ?_
  refine jr.aload_n rfl rfl ?_
  refine jr.lload_n rfl rfl ?_
  refine jr.lconst (x := 0) rfl (by decide) ?_
  refine jr.ldc2 (x := 7) rfl rfl (by decide) ?_
  refine jr_s rfl rfl (Or.inl rfl) ⟨Nat.le_of_ble_eq_true rfl, Nat.le_of_ble_eq_true rfl⟩ rfl rfl (jc.deep (c_within (by omega) (by omega) (by omega) (fun l6 u6 => ?_) (fun n6 => ?_)) (by decide))
  · refine jr.if_ne rfl rfl (by omega) (fun _ => ?_) (fun h => absurd (by decide) h)
    refine jr.aload_n rfl rfl ?_
    refine jr.aload_n rfl rfl ?_
    obtain ⟨v1, e1⟩ : ∃ z, M 598 133 = z := ⟨_, rfl⟩
    have b1 : 0 ≤ v1 ∧ v1 ≤ 23 := by rw [← e1]; exact hI_M 598 133 (by decide)
    refine jr.getf (i := 133) (x := v1) (v := .int (Int32.ofInt (v1))) rfl rfl (by decide) rfl (by decide) rfl rfl e1 rfl ?_
    refine jr_v rfl rfl (Or.inl rfl) rfl rfl (by decide) rfl ⟨rfl, Nat.le_of_ble_eq_true rfl, Nat.le_of_ble_eq_true rfl⟩ rfl (jc.deep (c_isThere hI_M (by omega) (fun l21 u21 t21 => ?_) (fun n21 => ?_)) (by decide))
    · refine jr.if_ne rfl rfl (by omega) (fun _ => ?_) (fun h => absurd (by decide) h)
      refine jr.aload_n rfl rfl ?_
      obtain ⟨v2, e2⟩ : ∃ z, M 598 110 = z := ⟨_, rfl⟩
      have b2 : 0 ≤ v2 ∧ v2 ≤ 10000 := by rw [← e2]; exact hI_M 598 110 (by decide)
      refine jr.getf (i := 110) (x := v2) (v := .int (Int32.ofInt (v2))) rfl rfl (by decide) rfl (by decide) rfl rfl e2 rfl ?_
      refine jr.sipush rfl (by decide) ?_
      refine jr.icmp_ne rfl rfl (by omega) (by omega) (fun h38 => ?_) (fun h38 => ?_)
      · refine jr.iconst rfl ?_
        refine jr.putf (i := 135) (x := 0) rfl rfl (by decide) rfl (by decide) rfl rfl rfl rfl rfl ?_
        refine jr.aload_n rfl rfl ?_
        refine jr.getf (i := 135) (x := 0) (v := .int (Int32.ofInt (0))) rfl rfl (by decide) rfl (by decide) rfl rfl (ju_same _ _ _ _) rfl ?_
        refine jr.if_eq rfl rfl (by omega) (fun h54 => ?_) (fun h54 => ?_)
        · refine jr.aload_n rfl rfl ?_
          refine jr.dup rfl rfl ?_
          refine jr.getf (i := 110) (x := v2) (v := .int (Int32.ofInt (v2))) rfl rfl (by decide) rfl (by decide) rfl rfl ((ju_i _ _ (by decide)).trans e2) rfl ?_
          refine jr.iconst rfl ?_
          refine jr.iadd rfl ?_
          refine jr.putf (i := 110) (x := (v2 + 1)) rfl rfl (by decide) rfl (by decide) rfl rfl rfl rfl rfl ?_
          refine jr.aload_n rfl rfl ?_
          refine jr.aload_n rfl rfl ?_
          refine jr.getf (i := 133) (x := v1) (v := .int (Int32.ofInt (v1))) rfl rfl (by decide) rfl (by decide) rfl rfl ((ju_i _ _ (by decide)).trans ((ju_i _ _ (by decide)).trans e1)) rfl ?_
          obtain ⟨v4, e4⟩ : ∃ z, M 600 v1 = z := ⟨_, rfl⟩
          have b4 : (-1) ≤ v4 ∧ v4 ≤ 400 := by rw [← e4]; exact (by have q := hI_M 600 v1 (by decide); rw [xri_row rfl rfl] at q; exact q)
          refine jr_v rfl rfl (Or.inl rfl) rfl rfl (by decide) rfl ⟨rfl, Nat.le_of_ble_eq_true rfl, Nat.le_of_ble_eq_true rfl⟩ rfl (jc.deep (r_look (RI.u (RI.u hI_M (a := 598) (i := 135) (show (0 : Int) ≤ _ ∧ _ ≤ (8 : Int) from by omega)) (a := 598) (i := 110) (show (0 : Int) ≤ _ ∧ _ ≤ (10000 : Int) from by omega)) (RH.o (RH.o hH_M (by decide) (by decide) (by decide)) (by decide) (by decide) (by decide)) (RF.o (RF.o hS_M (by decide) (by decide)) (by decide) (by decide)) (Kp.rfl _) (by omega) (by rw [((ju_c _ _ (by decide)).trans ((ju_c _ _ (by decide)).trans e4))]; omega) (fun M3 hI_M3 hH_M3 hS_M3 ht_M3 w3_0 w3_1 w3_2 => ?_)) (by decide))
          refine jr.aload_n rfl rfl ?_
          refine jr.getf (i := 117) (v := .ref 674) rfl rfl (by decide) rfl (by decide) rfl rfl rfl rfl ?_
          refine jr.lload_n rfl rfl ?_
          refine jr.l2i rfl ?_
          refine jr.iconst rfl ?_
          refine jr.iast (i := k) (x := 5) rfl (by decide) rfl (by decide) (by omega) (by omega) ?_
          refine jr.aload_n rfl rfl ?_
          refine jr.getf (i := 118) (v := .ref 675) rfl rfl (by decide) rfl (by decide) rfl rfl rfl rfl ?_
          refine jr.lload_n rfl rfl ?_
          refine jr.l2i rfl ?_
          refine jr.aload_n rfl rfl ?_
          obtain ⟨v5, e5⟩ : ∃ z, M3 598 6 = z := ⟨_, rfl⟩
          have b5 : 0 ≤ v5 ∧ v5 ≤ 12 := by rw [← e5]; exact hI_M3 598 6 (by decide)
          refine jr.getf (i := 6) (x := v5) (v := .int (Int32.ofInt (v5))) rfl rfl (by decide) rfl (by decide) rfl rfl ((ju_c _ _ (by decide)).trans e5) rfl ?_
          refine jr.iast (i := k) (x := v5) rfl (by decide) rfl (by decide) (by omega) (by omega) ?_
          refine jr.iconst rfl ?_
          refine jr.istore_n rfl (by decide) rfl ?_
          refine jr.pick [0, 2, 1] rfl rfl ?_
          exact r_list_L97 q 12 (ju (ju M3 674 k 5) 675 k v5) 0 k (RI.u (RI.u hI_M3 (a := 674) (i := k) (by rw [xri_row rfl rfl]; show (-1 : Int) ≤ _ ∧ _ ≤ (6 : Int); omega)) (a := 675) (i := k) (by rw [xri_row rfl rfl]; show (0 : Int) ≤ _ ∧ _ ≤ (40 : Int); omega)) (RH.o (RH.o hH_M3 (by decide) (by decide) (by decide)) (by decide) (by decide) (by decide)) (RF.o (RF.o hS_M3 (by decide) (by decide)) (by decide) (by decide))  (fun a i f598 f603 f604 f605 f674 f675 f677 f678 => ((ju_c _ _ f675).trans ((ju_c _ _ f674).trans ((w3_1 a i f598 f603 f604 f605).trans ((ju_c _ _ f598).trans ((ju_c _ _ f598).trans rfl)))))) (fun i g6 g10 g11 g12 g110 g135 => ((ju_c _ _ (by decide)).trans ((ju_c _ _ (by decide)).trans ((w3_2 i g6 g10 g11 g12).trans ((ju_i _ _ g110).trans ((ju_i _ _ g135).trans rfl)))))) (by omega) (by omega)  (by omega)
        · exact jr.vreturn rfl rfl (q _ (RI.u hI_M (a := 598) (i := 135) (show (0 : Int) ≤ _ ∧ _ ≤ (8 : Int) from by omega)) (RH.o hH_M (by decide) (by decide) (by decide)) (RF.o hS_M (by decide) (by decide))  (fun a i f598 f603 f604 f605 f674 f675 f677 f678 => ((ju_c _ _ f598).trans rfl)) (fun i g6 g10 g11 g12 g110 g135 => ((ju_i _ _ g135).trans rfl)))
      · refine jr.bipush rfl (by decide) ?_
        refine jr.goto rfl rfl ?_
        refine jr.putf (i := 135) (x := 8) rfl rfl (by decide) rfl (by decide) rfl rfl rfl rfl rfl ?_
        refine jr.aload_n rfl rfl ?_
        refine jr.getf (i := 135) (x := 8) (v := .int (Int32.ofInt (8))) rfl rfl (by decide) rfl (by decide) rfl rfl (ju_same _ _ _ _) rfl ?_
        refine jr.if_eq rfl rfl (by omega) (fun h54 => ?_) (fun h54 => ?_)
        · refine jr.aload_n rfl rfl ?_
          refine jr.dup rfl rfl ?_
          refine jr.getf (i := 110) (x := v2) (v := .int (Int32.ofInt (v2))) rfl rfl (by decide) rfl (by decide) rfl rfl ((ju_i _ _ (by decide)).trans e2) rfl ?_
          refine jr.iconst rfl ?_
          refine jr.iadd rfl ?_
          refine jr.putf (i := 110) (x := (v2 + 1)) rfl rfl (by decide) rfl (by decide) rfl rfl rfl rfl rfl ?_
          refine jr.aload_n rfl rfl ?_
          refine jr.aload_n rfl rfl ?_
          refine jr.getf (i := 133) (x := v1) (v := .int (Int32.ofInt (v1))) rfl rfl (by decide) rfl (by decide) rfl rfl ((ju_i _ _ (by decide)).trans ((ju_i _ _ (by decide)).trans e1)) rfl ?_
          obtain ⟨v7, e7⟩ : ∃ z, M 600 v1 = z := ⟨_, rfl⟩
          have b7 : (-1) ≤ v7 ∧ v7 ≤ 400 := by rw [← e7]; exact (by have q := hI_M 600 v1 (by decide); rw [xri_row rfl rfl] at q; exact q)
          refine jr_v rfl rfl (Or.inl rfl) rfl rfl (by decide) rfl ⟨rfl, Nat.le_of_ble_eq_true rfl, Nat.le_of_ble_eq_true rfl⟩ rfl (jc.deep (r_look (RI.u (RI.u hI_M (a := 598) (i := 135) (show (0 : Int) ≤ _ ∧ _ ≤ (8 : Int) from by omega)) (a := 598) (i := 110) (show (0 : Int) ≤ _ ∧ _ ≤ (10000 : Int) from by omega)) (RH.o (RH.o hH_M (by decide) (by decide) (by decide)) (by decide) (by decide) (by decide)) (RF.o (RF.o hS_M (by decide) (by decide)) (by decide) (by decide)) (Kp.rfl _) (by omega) (by rw [((ju_c _ _ (by decide)).trans ((ju_c _ _ (by decide)).trans e7))]; omega) (fun M6 hI_M6 hH_M6 hS_M6 ht_M6 w6_0 w6_1 w6_2 => ?_)) (by decide))
          refine jr.aload_n rfl rfl ?_
          refine jr.getf (i := 117) (v := .ref 674) rfl rfl (by decide) rfl (by decide) rfl rfl rfl rfl ?_
          refine jr.lload_n rfl rfl ?_
          refine jr.l2i rfl ?_
          refine jr.iconst rfl ?_
          refine jr.iast (i := k) (x := 5) rfl (by decide) rfl (by decide) (by omega) (by omega) ?_
          refine jr.aload_n rfl rfl ?_
          refine jr.getf (i := 118) (v := .ref 675) rfl rfl (by decide) rfl (by decide) rfl rfl rfl rfl ?_
          refine jr.lload_n rfl rfl ?_
          refine jr.l2i rfl ?_
          refine jr.aload_n rfl rfl ?_
          obtain ⟨v8, e8⟩ : ∃ z, M6 598 6 = z := ⟨_, rfl⟩
          have b8 : 0 ≤ v8 ∧ v8 ≤ 12 := by rw [← e8]; exact hI_M6 598 6 (by decide)
          refine jr.getf (i := 6) (x := v8) (v := .int (Int32.ofInt (v8))) rfl rfl (by decide) rfl (by decide) rfl rfl ((ju_c _ _ (by decide)).trans e8) rfl ?_
          refine jr.iast (i := k) (x := v8) rfl (by decide) rfl (by decide) (by omega) (by omega) ?_
          refine jr.iconst rfl ?_
          refine jr.istore_n rfl (by decide) rfl ?_
          refine jr.pick [0, 2, 1] rfl rfl ?_
          exact r_list_L97 q 12 (ju (ju M6 674 k 5) 675 k v8) 0 k (RI.u (RI.u hI_M6 (a := 674) (i := k) (by rw [xri_row rfl rfl]; show (-1 : Int) ≤ _ ∧ _ ≤ (6 : Int); omega)) (a := 675) (i := k) (by rw [xri_row rfl rfl]; show (0 : Int) ≤ _ ∧ _ ≤ (40 : Int); omega)) (RH.o (RH.o hH_M6 (by decide) (by decide) (by decide)) (by decide) (by decide) (by decide)) (RF.o (RF.o hS_M6 (by decide) (by decide)) (by decide) (by decide))  (fun a i f598 f603 f604 f605 f674 f675 f677 f678 => ((ju_c _ _ f675).trans ((ju_c _ _ f674).trans ((w6_1 a i f598 f603 f604 f605).trans ((ju_c _ _ f598).trans ((ju_c _ _ f598).trans rfl)))))) (fun i g6 g10 g11 g12 g110 g135 => ((ju_c _ _ (by decide)).trans ((ju_c _ _ (by decide)).trans ((w6_2 i g6 g10 g11 g12).trans ((ju_i _ _ g110).trans ((ju_i _ _ g135).trans rfl)))))) (by omega) (by omega)  (by omega)
        · exact jr.vreturn rfl rfl (q _ (RI.u hI_M (a := 598) (i := 135) (show (0 : Int) ≤ _ ∧ _ ≤ (8 : Int) from by omega)) (RH.o hH_M (by decide) (by decide) (by decide)) (RF.o hS_M (by decide) (by decide))  (fun a i f598 f603 f604 f605 f674 f675 f677 f678 => ((ju_c _ _ f598).trans rfl)) (fun i g6 g10 g11 g12 g110 g135 => ((ju_i _ _ g135).trans rfl)))
    · refine jr.if_ne rfl rfl (by omega) (fun h => absurd h (by decide)) (fun _ => ?_)
      refine jr.iconst rfl ?_
      refine jr.goto rfl rfl ?_
      refine jr.putf (i := 135) (x := 1) rfl rfl (by decide) rfl (by decide) rfl rfl rfl rfl rfl ?_
      refine jr.aload_n rfl rfl ?_
      refine jr.getf (i := 135) (x := 1) (v := .int (Int32.ofInt (1))) rfl rfl (by decide) rfl (by decide) rfl rfl (ju_same _ _ _ _) rfl ?_
      refine jr.if_eq rfl rfl (by omega) (fun h54 => ?_) (fun h54 => ?_)
      · refine jr.aload_n rfl rfl ?_
        refine jr.dup rfl rfl ?_
        obtain ⟨v9, e9⟩ : ∃ z, M 598 110 = z := ⟨_, rfl⟩
        have b9 : 0 ≤ v9 ∧ v9 ≤ 10000 := by rw [← e9]; exact hI_M 598 110 (by decide)
        refine jr.getf (i := 110) (x := v9) (v := .int (Int32.ofInt (v9))) rfl rfl (by decide) rfl (by decide) rfl rfl ((ju_i _ _ (by decide)).trans e9) rfl ?_
        refine jr.iconst rfl ?_
        refine jr.iadd rfl ?_
        refine jr.putf (i := 110) (x := (v9 + 1)) rfl rfl (by decide) rfl (by decide) rfl rfl rfl rfl rfl ?_
        refine jr.aload_n rfl rfl ?_
        refine jr.aload_n rfl rfl ?_
        refine jr.getf (i := 133) (x := v1) (v := .int (Int32.ofInt (v1))) rfl rfl (by decide) rfl (by decide) rfl rfl ((ju_i _ _ (by decide)).trans ((ju_i _ _ (by decide)).trans e1)) rfl ?_
        obtain ⟨v11, e11⟩ : ∃ z, M 600 v1 = z := ⟨_, rfl⟩
        have b11 : (-1) ≤ v11 ∧ v11 ≤ 400 := by rw [← e11]; exact (by have q := hI_M 600 v1 (by decide); rw [xri_row rfl rfl] at q; exact q)
        refine jr_v rfl rfl (Or.inl rfl) rfl rfl (by decide) rfl ⟨rfl, Nat.le_of_ble_eq_true rfl, Nat.le_of_ble_eq_true rfl⟩ rfl (jc.deep (r_look (RI.u (RI.u hI_M (a := 598) (i := 135) (show (0 : Int) ≤ _ ∧ _ ≤ (8 : Int) from by omega)) (a := 598) (i := 110) (show (0 : Int) ≤ _ ∧ _ ≤ (10000 : Int) from by omega)) (RH.o (RH.o hH_M (by decide) (by decide) (by decide)) (by decide) (by decide) (by decide)) (RF.o (RF.o hS_M (by decide) (by decide)) (by decide) (by decide)) (Kp.rfl _) (by omega) (by rw [((ju_c _ _ (by decide)).trans ((ju_c _ _ (by decide)).trans e11))]; omega) (fun M10 hI_M10 hH_M10 hS_M10 ht_M10 w10_0 w10_1 w10_2 => ?_)) (by decide))
        refine jr.aload_n rfl rfl ?_
        refine jr.getf (i := 117) (v := .ref 674) rfl rfl (by decide) rfl (by decide) rfl rfl rfl rfl ?_
        refine jr.lload_n rfl rfl ?_
        refine jr.l2i rfl ?_
        refine jr.iconst rfl ?_
        refine jr.iast (i := k) (x := 5) rfl (by decide) rfl (by decide) (by omega) (by omega) ?_
        refine jr.aload_n rfl rfl ?_
        refine jr.getf (i := 118) (v := .ref 675) rfl rfl (by decide) rfl (by decide) rfl rfl rfl rfl ?_
        refine jr.lload_n rfl rfl ?_
        refine jr.l2i rfl ?_
        refine jr.aload_n rfl rfl ?_
        obtain ⟨v12, e12⟩ : ∃ z, M10 598 6 = z := ⟨_, rfl⟩
        have b12 : 0 ≤ v12 ∧ v12 ≤ 12 := by rw [← e12]; exact hI_M10 598 6 (by decide)
        refine jr.getf (i := 6) (x := v12) (v := .int (Int32.ofInt (v12))) rfl rfl (by decide) rfl (by decide) rfl rfl ((ju_c _ _ (by decide)).trans e12) rfl ?_
        refine jr.iast (i := k) (x := v12) rfl (by decide) rfl (by decide) (by omega) (by omega) ?_
        refine jr.iconst rfl ?_
        refine jr.istore_n rfl (by decide) rfl ?_
        refine jr.pick [0, 2, 1] rfl rfl ?_
        exact r_list_L97 q 12 (ju (ju M10 674 k 5) 675 k v12) 0 k (RI.u (RI.u hI_M10 (a := 674) (i := k) (by rw [xri_row rfl rfl]; show (-1 : Int) ≤ _ ∧ _ ≤ (6 : Int); omega)) (a := 675) (i := k) (by rw [xri_row rfl rfl]; show (0 : Int) ≤ _ ∧ _ ≤ (40 : Int); omega)) (RH.o (RH.o hH_M10 (by decide) (by decide) (by decide)) (by decide) (by decide) (by decide)) (RF.o (RF.o hS_M10 (by decide) (by decide)) (by decide) (by decide))  (fun a i f598 f603 f604 f605 f674 f675 f677 f678 => ((ju_c _ _ f675).trans ((ju_c _ _ f674).trans ((w10_1 a i f598 f603 f604 f605).trans ((ju_c _ _ f598).trans ((ju_c _ _ f598).trans rfl)))))) (fun i g6 g10 g11 g12 g110 g135 => ((ju_c _ _ (by decide)).trans ((ju_c _ _ (by decide)).trans ((w10_2 i g6 g10 g11 g12).trans ((ju_i _ _ g110).trans ((ju_i _ _ g135).trans rfl)))))) (by omega) (by omega)  (by omega)
      · exact jr.vreturn rfl rfl (q _ (RI.u hI_M (a := 598) (i := 135) (show (0 : Int) ≤ _ ∧ _ ≤ (8 : Int) from by omega)) (RH.o hH_M (by decide) (by decide) (by decide)) (RF.o hS_M (by decide) (by decide))  (fun a i f598 f603 f604 f605 f674 f675 f677 f678 => ((ju_c _ _ f598).trans rfl)) (fun i g6 g10 g11 g12 g110 g135 => ((ju_i _ _ g135).trans rfl)))
  · refine jr.if_ne rfl rfl (by omega) (fun h => absurd h (by decide)) (fun _ => ?_)
    refine jr.iconst rfl ?_
    refine jr.goto rfl rfl ?_
    refine jr.putf (i := 135) (x := 2) rfl rfl (by decide) rfl (by decide) rfl rfl rfl rfl rfl ?_
    refine jr.aload_n rfl rfl ?_
    refine jr.getf (i := 135) (x := 2) (v := .int (Int32.ofInt (2))) rfl rfl (by decide) rfl (by decide) rfl rfl (ju_same _ _ _ _) rfl ?_
    refine jr.if_eq rfl rfl (by omega) (fun h54 => ?_) (fun h54 => ?_)
    · refine jr.aload_n rfl rfl ?_
      refine jr.dup rfl rfl ?_
      obtain ⟨v13, e13⟩ : ∃ z, M 598 110 = z := ⟨_, rfl⟩
      have b13 : 0 ≤ v13 ∧ v13 ≤ 10000 := by rw [← e13]; exact hI_M 598 110 (by decide)
      refine jr.getf (i := 110) (x := v13) (v := .int (Int32.ofInt (v13))) rfl rfl (by decide) rfl (by decide) rfl rfl ((ju_i _ _ (by decide)).trans e13) rfl ?_
      refine jr.iconst rfl ?_
      refine jr.iadd rfl ?_
      refine jr.putf (i := 110) (x := (v13 + 1)) rfl rfl (by decide) rfl (by decide) rfl rfl rfl rfl rfl ?_
      refine jr.aload_n rfl rfl ?_
      refine jr.aload_n rfl rfl ?_
      obtain ⟨v14, e14⟩ : ∃ z, M 598 133 = z := ⟨_, rfl⟩
      have b14 : 0 ≤ v14 ∧ v14 ≤ 23 := by rw [← e14]; exact hI_M 598 133 (by decide)
      refine jr.getf (i := 133) (x := v14) (v := .int (Int32.ofInt (v14))) rfl rfl (by decide) rfl (by decide) rfl rfl ((ju_i _ _ (by decide)).trans ((ju_i _ _ (by decide)).trans e14)) rfl ?_
      obtain ⟨v16, e16⟩ : ∃ z, M 600 v14 = z := ⟨_, rfl⟩
      have b16 : (-1) ≤ v16 ∧ v16 ≤ 400 := by rw [← e16]; exact (by have q := hI_M 600 v14 (by decide); rw [xri_row rfl rfl] at q; exact q)
      refine jr_v rfl rfl (Or.inl rfl) rfl rfl (by decide) rfl ⟨rfl, Nat.le_of_ble_eq_true rfl, Nat.le_of_ble_eq_true rfl⟩ rfl (jc.deep (r_look (RI.u (RI.u hI_M (a := 598) (i := 135) (show (0 : Int) ≤ _ ∧ _ ≤ (8 : Int) from by omega)) (a := 598) (i := 110) (show (0 : Int) ≤ _ ∧ _ ≤ (10000 : Int) from by omega)) (RH.o (RH.o hH_M (by decide) (by decide) (by decide)) (by decide) (by decide) (by decide)) (RF.o (RF.o hS_M (by decide) (by decide)) (by decide) (by decide)) (Kp.rfl _) (by omega) (by rw [((ju_c _ _ (by decide)).trans ((ju_c _ _ (by decide)).trans e16))]; omega) (fun M15 hI_M15 hH_M15 hS_M15 ht_M15 w15_0 w15_1 w15_2 => ?_)) (by decide))
      refine jr.aload_n rfl rfl ?_
      refine jr.getf (i := 117) (v := .ref 674) rfl rfl (by decide) rfl (by decide) rfl rfl rfl rfl ?_
      refine jr.lload_n rfl rfl ?_
      refine jr.l2i rfl ?_
      refine jr.iw (j_w k) (j_w_eq _) ?_
      have b17 : -2147483648 ≤ j_w k ∧ j_w k ≤ 2147483647 := jb_any _
      generalize j_w k = v17 at b17 ⊢
      refine jr.iconst rfl ?_
      refine jr.iast (i := v17) (x := 5) rfl (by decide) rfl (by decide) (by omega) (by omega) ?_
      refine jr.aload_n rfl rfl ?_
      refine jr.getf (i := 118) (v := .ref 675) rfl rfl (by decide) rfl (by decide) rfl rfl rfl rfl ?_
      refine jr.lload_n rfl rfl ?_
      refine jr.l2i rfl ?_
      refine jr.iw (j_w k) (j_w_eq _) ?_
      have b18 : -2147483648 ≤ j_w k ∧ j_w k ≤ 2147483647 := jb_any _
      generalize j_w k = v18 at b18 ⊢
      refine jr.aload_n rfl rfl ?_
      obtain ⟨v19, e19⟩ : ∃ z, M15 598 6 = z := ⟨_, rfl⟩
      have b19 : 0 ≤ v19 ∧ v19 ≤ 12 := by rw [← e19]; exact hI_M15 598 6 (by decide)
      refine jr.getf (i := 6) (x := v19) (v := .int (Int32.ofInt (v19))) rfl rfl (by decide) rfl (by decide) rfl rfl ((ju_c _ _ (by decide)).trans e19) rfl ?_
      refine jr.iast (i := v18) (x := v19) rfl (by decide) rfl (by decide) (by omega) (by omega) ?_
      refine jr.iconst rfl ?_
      refine jr.istore_n rfl (by decide) rfl ?_
      refine jr.pick [0, 2, 1] rfl rfl ?_
      exact r_list_L97 q 12 (ju (ju M15 674 v17 5) 675 v18 v19) 0 k (RI.u (RI.u hI_M15 (a := 674) (i := v17) (by rw [xri_row rfl rfl]; show (-1 : Int) ≤ _ ∧ _ ≤ (6 : Int); omega)) (a := 675) (i := v18) (by rw [xri_row rfl rfl]; show (0 : Int) ≤ _ ∧ _ ≤ (40 : Int); omega)) (RH.o (RH.o hH_M15 (by decide) (by decide) (by decide)) (by decide) (by decide) (by decide)) (RF.o (RF.o hS_M15 (by decide) (by decide)) (by decide) (by decide))  (fun a i f598 f603 f604 f605 f674 f675 f677 f678 => ((ju_c _ _ f675).trans ((ju_c _ _ f674).trans ((w15_1 a i f598 f603 f604 f605).trans ((ju_c _ _ f598).trans ((ju_c _ _ f598).trans rfl)))))) (fun i g6 g10 g11 g12 g110 g135 => ((ju_c _ _ (by decide)).trans ((ju_c _ _ (by decide)).trans ((w15_2 i g6 g10 g11 g12).trans ((ju_i _ _ g110).trans ((ju_i _ _ g135).trans rfl)))))) (by omega) (by omega)  (by omega)
    · exact jr.vreturn rfl rfl (q _ (RI.u hI_M (a := 598) (i := 135) (show (0 : Int) ≤ _ ∧ _ ≤ (8 : Int) from by omega)) (RH.o hH_M (by decide) (by decide) (by decide)) (RF.o hS_M (by decide) (by decide))  (fun a i f598 f603 f604 f605 f674 f675 f677 f678 => ((ju_c _ _ f598).trans rfl)) (fun i g6 g10 g11 g12 g110 g135 => ((ju_i _ _ g135).trans rfl)))
theorem r_noteWhy {A : Nat → Option (Nat × (Nat → Int32))} {Q : Option Value → jm → Prop} {M : jm} (hI_M : RI M) (hH_M : RH M) (hS_M : RF M) {w : Int} (h_w : 0 ≤ w ∧ w ≤ 5) (p0 : 1 ≤ M 598 122) (q : ∀ (M' : jm), RI M' → RH M' → RF M' → (∀ (a : Nat) (i : Int), a ≠ 598 → a ≠ 687 → M' a i = M a i) → (∀ (i : Int), i ≠ 145 → M' 598 i = M 598 i) → Q none M') : jc A 1 376 [.ref (598), .int (Int32.ofInt (w))] M Q := by
  refine jc_of (m := xm_376) rfl (Nat.le_of_ble_eq_true rfl) rfl ?_
  refine jr.aload_n rfl rfl ?_
  obtain ⟨v1, e1⟩ : ∃ z, M 598 145 = z := ⟨_, rfl⟩
  have b1 : 0 ≤ v1 ∧ v1 ≤ 40 := by rw [← e1]; exact hI_M 598 145 (by decide)
  refine jr.getf (i := 145) (x := v1) (v := .int (Int32.ofInt (v1))) rfl rfl (by decide) rfl (by decide) rfl rfl e1 rfl ?_
  refine jr.bipush rfl (by decide) ?_
  refine jr.icmp_ge rfl rfl (by omega) (by omega) (fun h6 => ?_) (fun h6 => ?_)
  · exact jr.vreturn rfl rfl (q _ hI_M hH_M hS_M  (fun a i f598 f687 => rfl) (fun i g145 => rfl))
  · refine jr.aload_n rfl rfl ?_
    refine jr.getf (i := 146) (v := .ref 687) rfl rfl (by decide) rfl (by decide) rfl rfl rfl rfl ?_
    refine jr.aload_n rfl rfl ?_
    refine jr.getf (i := 145) (x := v1) (v := .int (Int32.ofInt (v1))) rfl rfl (by decide) rfl (by decide) rfl rfl e1 rfl ?_
    refine jr.bipush rfl (by decide) ?_
    refine jr.aload_n rfl rfl ?_
    refine jr.getf (i := 123) (v := .ref 679) rfl rfl (by decide) rfl (by decide) rfl rfl rfl rfl ?_
    refine jr.aload_n rfl rfl ?_
    obtain ⟨v2, e2⟩ : ∃ z, M 598 122 = z := ⟨_, rfl⟩
    have b2 : 0 ≤ v2 ∧ v2 ≤ 9 := by rw [← e2]; exact hI_M 598 122 (by decide)
    refine jr.getf (i := 122) (x := v2) (v := .int (Int32.ofInt (v2))) rfl rfl (by decide) rfl (by decide) rfl rfl e2 rfl ?_
    refine jr.iconst rfl ?_
    refine jr.isub rfl ?_
    obtain ⟨v3, e3⟩ : ∃ z, M 679 (v2 - 1) = z := ⟨_, rfl⟩
    have b3 : 0 ≤ v3 ∧ v3 ≤ 15 := by rw [← e3]; exact (by have q := hI_M 679 (v2 - 1) (by decide); rw [xri_row rfl rfl] at q; exact q)
    refine jr.iald (i := (v2 - 1)) (x := v3) rfl (by decide) rfl (by decide) (by omega) (by omega) e3 ?_
    refine jr.imul rfl ?_
    refine jr.iload_n rfl rfl ?_
    refine jr.iadd rfl ?_
    refine jr.iast (i := v1) (x := ((100 * v3) + w)) rfl (by decide) rfl (by decide) (by omega) (by omega) ?_
    refine jr.aload_n rfl rfl ?_
    refine jr.dup rfl rfl ?_
    refine jr.getf (i := 145) (x := v1) (v := .int (Int32.ofInt (v1))) rfl rfl (by decide) rfl (by decide) rfl rfl ((ju_c _ _ (by decide)).trans e1) rfl ?_
    refine jr.iconst rfl ?_
    refine jr.iadd rfl ?_
    refine jr.putf (i := 145) (x := (v1 + 1)) rfl rfl (by decide) rfl (by decide) rfl rfl rfl rfl rfl ?_
    exact jr.vreturn rfl rfl (q _ (RI.u (RI.u hI_M (a := 687) (i := v1) (by rw [xri_row rfl rfl]; show (0 : Int) ≤ _ ∧ _ ≤ (1600 : Int); omega)) (a := 598) (i := 145) (show (0 : Int) ≤ _ ∧ _ ≤ (40 : Int) from by omega)) (RH.o (RH.o hH_M (by decide) (by decide) (by decide)) (by decide) (by decide) (by decide)) (RF.o (RF.o hS_M (by decide) (by decide)) (by decide) (by decide))  (fun a i f598 f687 => ((ju_c _ _ f598).trans ((ju_c _ _ f687).trans rfl))) (fun i g145 => ((ju_i _ _ g145).trans ((ju_c _ _ (by decide)).trans rfl))))
