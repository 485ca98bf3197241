/-! ===== the reference: contracts, 37.mb ===== -/
theorem r_mark_335 {A : Nat → Option (Nat × (Nat → Int32))} {Q : Option Value → jm → Prop} {T : jm} {M : jm} (hI_M : RI M) (hH_M : RH M) (hS_M : RF M) (ht_M : Kp T M) {x : Int} (h_x : (-2147483648) ≤ x ∧ x ≤ 2147483647) (q : ∀ (r : Int), (-9223372036854775808) ≤ r ∧ r ≤ 9223372036854775807 → Q (some (.long (Int64.ofInt r))) M) : jc A 4 335 [.ref (598), .int (Int32.ofInt (x))] M Q := by
  refine jc_of (m := xm_335) rfl (Nat.le_of_ble_eq_true rfl) rfl ?_
  refine jr.aload_n rfl rfl ?_
  refine jr.iload_n rfl rfl ?_
  refine jr_v rfl rfl (Or.inl rfl) rfl rfl (nlt rfl) rfl ⟨rfl, Nat.le_of_ble_eq_true rfl, Nat.le_of_ble_eq_true rfl⟩ rfl (jc.deep (c_isThere hI_M (by omega) (fun l2 u2 t2 => ?_) (fun n2 => ?_)) (Nat.le_of_ble_eq_true rfl))
  · refine jr.if_eq rfl rfl (by first | exact rgl rfl | omega) (fun h => absurd h (by decide)) (fun _ => ?_)
    refine jr.aload_n rfl rfl ?_
    refine jr.getf (i := 5) (v := .ref 602) rfl rfl (nlt rfl) rfl (nlt rfl) rfl rfl rfl rfl ?_
    refine jr.iload_n rfl rfl ?_
    obtain ⟨v1, e1⟩ : ∃ z, M 602 x = z := ⟨_, rfl⟩
    have b1 : (-9223372036854775808) ≤ v1 ∧ v1 ≤ 9223372036854775807 := by rw [← e1]; exact (by have q := hI_M 602 x (Nat.le_of_ble_eq_true rfl); rw [xri_row rfl rfl] at q; exact q)
    refine jr.lald (i := x) (x := v1) rfl (nlt rfl) rfl (Nat.le_of_ble_eq_true rfl) (by omega) (by omega) e1 ?_
    refine jr.goto rfl rfl ?_
    exact jr.lreturn rfl rfl (q _ (by omega) )
  · refine jr.if_eq rfl rfl (by first | exact rgl rfl | omega) (fun _ => ?_) (fun h => absurd (by decide) h)
    refine jr.lconst (x := 0) rfl (by decide) ?_
    exact jr.lreturn rfl rfl (q _ (by omega) )
theorem r_word_L378 {A : Nat → Option (Nat × (Nat → Int32))} {Q : Option Value → jm → Prop} {M0 : jm} {w0 : Int} (q : ∀ (M' : jm), RI M' → RH M' → RF M' → (25 ≤ w0 → M' 598 131 = M0 598 131 + 1 - argn w0) → (w0 < 25 → M' 598 131 = M0 598 131 + 1) → (∀ (a : Nat) (i : Int), a ≠ 598 → a ≠ 603 → a ≠ 604 → a ≠ 605 → a ≠ 624 → a ≠ 686 → M' a i = M0 a i) → (∀ (i : Int), i ≠ 6 → i ≠ 10 → i ≠ 11 → i ≠ 12 → i ≠ 59 → i ≠ 60 → i ≠ 61 → i ≠ 62 → i ≠ 63 → i ≠ 64 → i ≠ 65 → i ≠ 66 → i ≠ 131 → i ≠ 135 → M' 598 i = M0 598 i) → Q none M') : ∀ (M : jm) (v : Int) (w : Int), RI M → RH M → RF M → (∀ (a : Nat) (i : Int), a ≠ 598 → a ≠ 603 → a ≠ 604 → a ≠ 605 → a ≠ 624 → a ≠ 686 → M a i = M0 a i) → (∀ (i : Int), i ≠ 6 → i ≠ 10 → i ≠ 11 → i ≠ 12 → i ≠ 59 → i ≠ 60 → i ≠ 61 → i ≠ 62 → i ≠ 63 → i ≠ 64 → i ≠ 65 → i ≠ 66 → i ≠ 131 → i ≠ 135 → M 598 i = M0 598 i) → (-9223372036854775808) ≤ v ∧ v ≤ 9223372036854775807 → 10 ≤ w ∧ w ≤ 30 → 0 ≤ M 598 131 ∧ M 598 131 ≤ 250 ∧ ((25 ≤ w ∧ M 598 131 = M0 598 131 - argn w) ∨ (w < 25 ∧ M 598 131 = M0 598 131)) → w = w0 → jr A 8 xm_394 378 [(9, .long (Int64.ofInt (v))), (1, .int (Int32.ofInt (w))), (0, .ref (598))] [] M Q := by
    intro M v w hI_M hH_M hS_M hF_M hG_M h_v h_w hy0 hy1
    subst hy1
    refine jr.aload_n rfl rfl ?_
    refine jr.getf (i := 130) (v := .ref 686) rfl rfl (nlt rfl) rfl (nlt rfl) rfl rfl rfl rfl ?_
    refine jr.aload_n rfl rfl ?_
    obtain ⟨v1, e1⟩ : ∃ z, M 598 131 = z := ⟨_, rfl⟩
    have b1 : 0 ≤ v1 ∧ v1 ≤ 400 := by rw [← e1]; exact hI_M 598 131 (Nat.le_of_ble_eq_true rfl)
    refine jr.getf (i := 131) (x := v1) (v := .int (Int32.ofInt (v1))) rfl rfl (nlt rfl) rfl (nlt rfl) rfl rfl e1 rfl ?_
    refine jr.lload rfl rfl ?_
    refine jr.last (i := v1) (x := v) rfl (nlt rfl) rfl (Nat.le_of_ble_eq_true rfl) (by omega) (by omega) ?_
    refine jr.aload_n rfl rfl ?_
    refine jr.dup rfl rfl ?_
    refine jr.getf (i := 131) (x := v1) (v := .int (Int32.ofInt (v1))) rfl rfl (nlt rfl) rfl (nlt rfl) rfl rfl ((ju_c _ _ (by decide)).trans e1) rfl ?_
    refine jr.iconst rfl ?_
    refine jr.iadd rfl ?_
    refine jr.putf (i := 131) (x := (v1 + 1)) rfl rfl (nlt rfl) rfl (nlt rfl) rfl rfl rfl rfl rfl ?_
    have y2 : (ju (ju M 686 v1 v) 598 131 (v1 + 1)) 598 131 = v1 + 1 := (ju_same _ _ _ _)
    exact jr.vreturn rfl rfl (q _ (RI.u (RI.u hI_M (a := 686) (i := v1) (by rw [xri_row rfl rfl]; show (-9223372036854775808 : Int) ≤ _ ∧ _ ≤ (9223372036854775807 : Int); omega)) (a := 598) (i := 131) (show (0 : Int) ≤ _ ∧ _ ≤ (400 : Int) from by omega)) (RH.o (RH.o hH_M (by decide) (by decide) (by decide)) (by decide) (by decide) (by decide)) (RF.o (RF.o hS_M (by decide) (by decide)) (by decide) (by decide))  (by omega) (by omega) (fun a i f598 f603 f604 f605 f624 f686 => ((ju_c _ _ f598).trans ((ju_c _ _ f686).trans (hF_M a i f598 f603 f604 f605 f624 f686)))) (fun i g6 g10 g11 g12 g59 g60 g61 g62 g63 g64 g65 g66 g131 g135 => ((ju_i _ _ g131).trans ((ju_c _ _ (by decide)).trans (hG_M i g6 g10 g11 g12 g59 g60 g61 g62 g63 g64 g65 g66 g131 g135)))))
theorem r_word_L64 {A : Nat → Option (Nat × (Nat → Int32))} {Q : Option Value → jm → Prop} {M0 : jm} {w0 : Int} (q : ∀ (M' : jm), RI M' → RH M' → RF M' → (25 ≤ w0 → M' 598 131 = M0 598 131 + 1 - argn w0) → (w0 < 25 → M' 598 131 = M0 598 131 + 1) → (∀ (a : Nat) (i : Int), a ≠ 598 → a ≠ 603 → a ≠ 604 → a ≠ 605 → a ≠ 624 → a ≠ 686 → M' a i = M0 a i) → (∀ (i : Int), i ≠ 6 → i ≠ 10 → i ≠ 11 → i ≠ 12 → i ≠ 59 → i ≠ 60 → i ≠ 61 → i ≠ 62 → i ≠ 63 → i ≠ 64 → i ≠ 65 → i ≠ 66 → i ≠ 131 → i ≠ 135 → M' 598 i = M0 598 i) → Q none M') : ∀ (M : jm) (x : Int) (a : Int) (b : Int) (c : Int) (v : Int) (w : Int), RI M → RH M → RF M → (∀ (a : Nat) (i : Int), a ≠ 598 → a ≠ 603 → a ≠ 604 → a ≠ 605 → a ≠ 624 → a ≠ 686 → M a i = M0 a i) → (∀ (i : Int), i ≠ 6 → i ≠ 10 → i ≠ 11 → i ≠ 12 → i ≠ 59 → i ≠ 60 → i ≠ 61 → i ≠ 62 → i ≠ 63 → i ≠ 64 → i ≠ 65 → i ≠ 66 → i ≠ 131 → i ≠ 135 → M 598 i = M0 598 i) → 0 ≤ x ∧ x ≤ 3 → (-9223372036854775808) ≤ a ∧ a ≤ 9223372036854775807 → (-9223372036854775808) ≤ b ∧ b ≤ 9223372036854775807 → (-9223372036854775808) ≤ c ∧ c ≤ 9223372036854775807 → 0 ≤ v ∧ v ≤ 0 → 10 ≤ w ∧ w ≤ 30 → M 598 131 = M0 598 131 - x ∧ 0 ≤ M 598 131 ∧ M 598 131 ≤ 250 → ((25 ≤ w ∧ x = argn w) ∨ (w < 25 ∧ x = 0)) → w = w0 → jr A 8 xm_394 64 [(2, .int (Int32.ofInt (x))), (3, .long (Int64.ofInt (a))), (5, .long (Int64.ofInt (b))), (7, .long (Int64.ofInt (c))), (9, .long (Int64.ofInt (v))), (1, .int (Int32.ofInt (w))), (0, .ref (598))] [] M Q := by
    intro M x a b c v w hI_M hH_M hS_M hF_M hG_M h_x h_a h_b h_c h_v h_w hy0 hy1 hy2
    subst hy2
    refine jr.iload_n rfl rfl ?_
    refine jr.bipush rfl (jbp _ (nlt rfl)) ?_
    refine jr.icmp_eq rfl rfl (by first | (refine rgb (by assumption) ?_; exact rfl) | omega) (rgl rfl) (fun h67 => ?_) (fun h67 => ?_)
    · refine jr.aload_n rfl rfl ?_
      refine jr_v rfl rfl (Or.inl rfl) rfl rfl (nlt rfl) rfl ⟨rfl, Nat.le_of_ble_eq_true rfl, Nat.le_of_ble_eq_true rfl⟩ rfl (jc.deep (r_flowOfPacket hI_M hH_M hS_M (Kp.rfl _)   (fun r1 M1 hI_M1 hH_M1 hS_M1 ht_M1 z1 w1_0 w1_1 => ?_)) (Nat.le_of_ble_eq_true rfl))
      refine jr.goto rfl rfl ?_
      refine jr.istore (ls' := [_, _, _, _, _, _, _, _]) rfl (nlt rfl) rfl ?_
      refine jr.iload_n rfl rfl ?_
      rcases (show w = 21 by omega) with h87
      · refine jr.tsw_k 21 rfl h87 rfl ?_
        refine jr.iload rfl rfl ?_
        refine jr.i2l rfl (by omega) ?_
        refine jr.lstore (ls' := [_, _, _, _, _, _, _, _]) rfl (nlt rfl) rfl ?_
        refine jr.goto rfl rfl ?_
        obtain ⟨v2, e2⟩ : ∃ z, M 598 131 = z := ⟨_, rfl⟩
        have b2 : 0 ≤ v2 ∧ v2 ≤ 400 := by rw [← e2]; exact hI_M 598 131 (Nat.le_of_ble_eq_true rfl)
        have e3 : M1 598 131 = v2 := ((w1_1 131 (zne rfl) (zne rfl) (zne rfl) (zne rfl) (zne rfl) (zne rfl) (zne rfl) (zne rfl) (zne rfl) (zne rfl) (zne rfl) (zne rfl)).trans e2)
        refine jr.pick (ls := [_, _, _]) [0, 6, 7] rfl rfl ?_
        exact r_word_L378 q M1 r1 w hI_M1 hH_M1 hS_M1  (fun a i f598 f603 f604 f605 f624 f686 => ((w1_0 a i f598 f603 f604 f605).trans (hF_M a i f598 f603 f604 f605 f624 f686))) (fun i g6 g10 g11 g12 g59 g60 g61 g62 g63 g64 g65 g66 g131 g135 => ((w1_1 i g6 g10 g11 g12 g59 g60 g61 g62 g63 g64 g65 g66).trans (hG_M i g6 g10 g11 g12 g59 g60 g61 g62 g63 g64 g65 g66 g131 g135))) (by omega) (by omega) (by rw [e3] <;> omega) (by omega)
    · refine jr.iload_n rfl rfl ?_
      refine jr.bipush rfl (jbp _ (nlt rfl)) ?_
      refine jr.icmp_ne rfl rfl (by first | (refine rgb (by assumption) ?_; exact rfl) | omega) (rgl rfl) (fun h73 => ?_) (fun h73 => ?_)
      · refine jr.iconst rfl ?_
        refine jr.istore (ls' := [_, _, _, _, _, _, _, _]) rfl (nlt rfl) rfl ?_
        refine jr.iload_n rfl rfl ?_
        rcases (show w = 10 ∨ w = 11 ∨ w = 12 ∨ w = 13 ∨ w = 14 ∨ w = 15 ∨ w = 16 ∨ w = 17 ∨ w = 18 ∨ w = 19 ∨ w = 20 ∨ w = 21 ∨ w = 22 ∨ w = 23 ∨ w = 24 ∨ w = 25 ∨ w = 26 ∨ w = 27 ∨ w = 28 ∨ w = 29 ∨ (w ≠ 10 ∧ w ≠ 11 ∧ w ≠ 12 ∧ w ≠ 13 ∧ w ≠ 14 ∧ w ≠ 15 ∧ w ≠ 16 ∧ w ≠ 17 ∧ w ≠ 18 ∧ w ≠ 19 ∧ w ≠ 20 ∧ w ≠ 21 ∧ w ≠ 22 ∧ w ≠ 23 ∧ w ≠ 24 ∧ w ≠ 25 ∧ w ≠ 26 ∧ w ≠ 27 ∧ w ≠ 28 ∧ w ≠ 29) by omega) with h87 | h87 | h87 | h87 | h87 | h87 | h87 | h87 | h87 | h87 | h87 | h87 | h87 | h87 | h87 | h87 | h87 | h87 | h87 | h87 | h87
        · refine jr.tsw_k 10 rfl h87 rfl ?_
          refine jr.aload_n rfl rfl ?_
          refine jr.aload_n rfl rfl ?_
          refine jr.aload_n rfl rfl ?_
          obtain ⟨v4, e4⟩ : ∃ z, M 598 133 = z := ⟨_, rfl⟩
          have b4 : 0 ≤ v4 ∧ v4 ≤ 23 := by rw [← e4]; exact hI_M 598 133 (Nat.le_of_ble_eq_true rfl)
          refine jr.getf (i := 133) (x := v4) (v := .int (Int32.ofInt (v4))) rfl rfl (nlt rfl) rfl (nlt rfl) rfl rfl e4 rfl ?_
          refine jr_v rfl rfl (Or.inl rfl) rfl rfl (nlt rfl) rfl ⟨rfl, Nat.le_of_ble_eq_true rfl, Nat.le_of_ble_eq_true rfl⟩ rfl (jc.deep (r_mark_335 hI_M hH_M hS_M (Kp.rfl _) (by omega)  (fun r5 z5  => ?_)) (Nat.le_of_ble_eq_true rfl))
          refine jr_v rfl rfl (Or.inl rfl) rfl rfl (nlt rfl) rfl ⟨rfl, Nat.le_of_ble_eq_true rfl, Nat.le_of_ble_eq_true rfl⟩ rfl (jc.deep (r_needed hI_M hH_M hS_M  (by omega)  (fun r6 M6 hI_M6 hH_M6 hS_M6  z6 w6_0 w6_1 => ?_)) (Nat.le_of_ble_eq_true rfl))
          refine jr.lstore (ls' := [_, _, _, _, _, _, _, _]) rfl (nlt rfl) rfl ?_
          refine jr.goto rfl rfl ?_
          obtain ⟨v7, e7⟩ : ∃ z, M 598 131 = z := ⟨_, rfl⟩
          have b7 : 0 ≤ v7 ∧ v7 ≤ 400 := by rw [← e7]; exact hI_M 598 131 (Nat.le_of_ble_eq_true rfl)
          have e8 : M6 598 131 = v7 := ((w6_1 131 (zne rfl)).trans e7)
          refine jr.pick (ls := [_, _, _]) [0, 6, 7] rfl rfl ?_
          exact r_word_L378 q M6 r6 w hI_M6 hH_M6 hS_M6  (fun a i f598 f603 f604 f605 f624 f686 => ((w6_0 a i f598).trans (hF_M a i f598 f603 f604 f605 f624 f686))) (fun i g6 g10 g11 g12 g59 g60 g61 g62 g63 g64 g65 g66 g131 g135 => ((w6_1 i g135).trans (hG_M i g6 g10 g11 g12 g59 g60 g61 g62 g63 g64 g65 g66 g131 g135))) (by omega) (by omega) (by rw [e8] <;> omega) (by omega)
        · refine jr.tsw_k 11 rfl h87 rfl ?_
          refine jr.aload_n rfl rfl ?_
          refine jr.lload_n rfl rfl ?_
          refine jr.lload rfl rfl ?_
          refine jr.lload rfl rfl ?_
          refine jr_v rfl rfl (Or.inl rfl) rfl rfl (nlt rfl) rfl ⟨rfl, Nat.le_of_ble_eq_true rfl, Nat.le_of_ble_eq_true rfl⟩ rfl (jc.deep (r_headOf hI_M hH_M hS_M  (by omega) (by omega) (by omega)  (fun r9 M9 hI_M9 hH_M9 hS_M9  z9 w9_0 w9_1 => ?_)) (Nat.le_of_ble_eq_true rfl))
          refine jr.lstore (ls' := [_, _, _, _, _, _, _, _]) rfl (nlt rfl) rfl ?_
          obtain ⟨v10, e10⟩ : ∃ z, M 598 131 = z := ⟨_, rfl⟩
          have b10 : 0 ≤ v10 ∧ v10 ≤ 400 := by rw [← e10]; exact hI_M 598 131 (Nat.le_of_ble_eq_true rfl)
          have e11 : M9 598 131 = v10 := ((w9_1 131 (zne rfl)).trans e10)
          refine jr.pick (ls := [_, _, _]) [0, 6, 7] rfl rfl ?_
          exact r_word_L378 q M9 r9 w hI_M9 hH_M9 hS_M9  (fun a i f598 f603 f604 f605 f624 f686 => ((w9_0 a i f598).trans (hF_M a i f598 f603 f604 f605 f624 f686))) (fun i g6 g10 g11 g12 g59 g60 g61 g62 g63 g64 g65 g66 g131 g135 => ((w9_1 i g135).trans (hG_M i g6 g10 g11 g12 g59 g60 g61 g62 g63 g64 g65 g66 g131 g135))) (by omega) (by omega) (by rw [e11] <;> omega) (by omega)
        · refine jr.tsw_k 12 rfl h87 rfl ?_
          refine jr.aload_n rfl rfl ?_
          refine jr.lload_n rfl rfl ?_
          refine jr.lload rfl rfl ?_
          refine jr.lload rfl rfl ?_
          refine jr_v rfl rfl (Or.inl rfl) rfl rfl (nlt rfl) rfl ⟨rfl, Nat.le_of_ble_eq_true rfl, Nat.le_of_ble_eq_true rfl⟩ rfl (jc.deep (r_headOf hI_M hH_M hS_M  (by omega) (by omega) (by omega)  (fun r12 M12 hI_M12 hH_M12 hS_M12  z12 w12_0 w12_1 => ?_)) (Nat.le_of_ble_eq_true rfl))
          refine jr.lstore (ls' := [_, _, _, _, _, _, _, _]) rfl (nlt rfl) rfl ?_
          obtain ⟨v13, e13⟩ : ∃ z, M 598 131 = z := ⟨_, rfl⟩
          have b13 : 0 ≤ v13 ∧ v13 ≤ 400 := by rw [← e13]; exact hI_M 598 131 (Nat.le_of_ble_eq_true rfl)
          have e14 : M12 598 131 = v13 := ((w12_1 131 (zne rfl)).trans e13)
          refine jr.pick (ls := [_, _, _]) [0, 6, 7] rfl rfl ?_
          exact r_word_L378 q M12 r12 w hI_M12 hH_M12 hS_M12  (fun a i f598 f603 f604 f605 f624 f686 => ((w12_0 a i f598).trans (hF_M a i f598 f603 f604 f605 f624 f686))) (fun i g6 g10 g11 g12 g59 g60 g61 g62 g63 g64 g65 g66 g131 g135 => ((w12_1 i g135).trans (hG_M i g6 g10 g11 g12 g59 g60 g61 g62 g63 g64 g65 g66 g131 g135))) (by omega) (by omega) (by rw [e14] <;> omega) (by omega)
        · refine jr.tsw_k 13 rfl h87 rfl ?_
          refine jr.aload_n rfl rfl ?_
          refine jr.lload_n rfl rfl ?_
          refine jr.lload rfl rfl ?_
          refine jr.lload rfl rfl ?_
          refine jr_v rfl rfl (Or.inl rfl) rfl rfl (nlt rfl) rfl ⟨rfl, Nat.le_of_ble_eq_true rfl, Nat.le_of_ble_eq_true rfl⟩ rfl (jc.deep (r_headOf hI_M hH_M hS_M  (by omega) (by omega) (by omega)  (fun r15 M15 hI_M15 hH_M15 hS_M15  z15 w15_0 w15_1 => ?_)) (Nat.le_of_ble_eq_true rfl))
          refine jr.lstore (ls' := [_, _, _, _, _, _, _, _]) rfl (nlt rfl) rfl ?_
          obtain ⟨v16, e16⟩ : ∃ z, M 598 131 = z := ⟨_, rfl⟩
          have b16 : 0 ≤ v16 ∧ v16 ≤ 400 := by rw [← e16]; exact hI_M 598 131 (Nat.le_of_ble_eq_true rfl)
          have e17 : M15 598 131 = v16 := ((w15_1 131 (zne rfl)).trans e16)
          refine jr.pick (ls := [_, _, _]) [0, 6, 7] rfl rfl ?_
          exact r_word_L378 q M15 r15 w hI_M15 hH_M15 hS_M15  (fun a i f598 f603 f604 f605 f624 f686 => ((w15_0 a i f598).trans (hF_M a i f598 f603 f604 f605 f624 f686))) (fun i g6 g10 g11 g12 g59 g60 g61 g62 g63 g64 g65 g66 g131 g135 => ((w15_1 i g135).trans (hG_M i g6 g10 g11 g12 g59 g60 g61 g62 g63 g64 g65 g66 g131 g135))) (by omega) (by omega) (by rw [e17] <;> omega) (by omega)
        · refine jr.tsw_k 14 rfl h87 rfl ?_
          refine jr.aload_n rfl rfl ?_
          refine jr.lload_n rfl rfl ?_
          refine jr.lload rfl rfl ?_
          refine jr.lload rfl rfl ?_
          refine jr_v rfl rfl (Or.inl rfl) rfl rfl (nlt rfl) rfl ⟨rfl, Nat.le_of_ble_eq_true rfl, Nat.le_of_ble_eq_true rfl⟩ rfl (jc.deep (r_headOf hI_M hH_M hS_M  (by omega) (by omega) (by omega)  (fun r18 M18 hI_M18 hH_M18 hS_M18  z18 w18_0 w18_1 => ?_)) (Nat.le_of_ble_eq_true rfl))
          refine jr.lstore (ls' := [_, _, _, _, _, _, _, _]) rfl (nlt rfl) rfl ?_
          obtain ⟨v19, e19⟩ : ∃ z, M 598 131 = z := ⟨_, rfl⟩
          have b19 : 0 ≤ v19 ∧ v19 ≤ 400 := by rw [← e19]; exact hI_M 598 131 (Nat.le_of_ble_eq_true rfl)
          have e20 : M18 598 131 = v19 := ((w18_1 131 (zne rfl)).trans e19)
          refine jr.pick (ls := [_, _, _]) [0, 6, 7] rfl rfl ?_
          exact r_word_L378 q M18 r18 w hI_M18 hH_M18 hS_M18  (fun a i f598 f603 f604 f605 f624 f686 => ((w18_0 a i f598).trans (hF_M a i f598 f603 f604 f605 f624 f686))) (fun i g6 g10 g11 g12 g59 g60 g61 g62 g63 g64 g65 g66 g131 g135 => ((w18_1 i g135).trans (hG_M i g6 g10 g11 g12 g59 g60 g61 g62 g63 g64 g65 g66 g131 g135))) (by omega) (by omega) (by rw [e20] <;> omega) (by omega)
        · refine jr.tsw_k 15 rfl h87 rfl ?_
          refine jr.aload_n rfl rfl ?_
          refine jr.lload_n rfl rfl ?_
          refine jr.lload rfl rfl ?_
          refine jr.lload rfl rfl ?_
          refine jr_v rfl rfl (Or.inl rfl) rfl rfl (nlt rfl) rfl ⟨rfl, Nat.le_of_ble_eq_true rfl, Nat.le_of_ble_eq_true rfl⟩ rfl (jc.deep (r_headOf hI_M hH_M hS_M  (by omega) (by omega) (by omega)  (fun r21 M21 hI_M21 hH_M21 hS_M21  z21 w21_0 w21_1 => ?_)) (Nat.le_of_ble_eq_true rfl))
          refine jr.lstore (ls' := [_, _, _, _, _, _, _, _]) rfl (nlt rfl) rfl ?_
          obtain ⟨v22, e22⟩ : ∃ z, M 598 131 = z := ⟨_, rfl⟩
          have b22 : 0 ≤ v22 ∧ v22 ≤ 400 := by rw [← e22]; exact hI_M 598 131 (Nat.le_of_ble_eq_true rfl)
          have e23 : M21 598 131 = v22 := ((w21_1 131 (zne rfl)).trans e22)
          refine jr.pick (ls := [_, _, _]) [0, 6, 7] rfl rfl ?_
          exact r_word_L378 q M21 r21 w hI_M21 hH_M21 hS_M21  (fun a i f598 f603 f604 f605 f624 f686 => ((w21_0 a i f598).trans (hF_M a i f598 f603 f604 f605 f624 f686))) (fun i g6 g10 g11 g12 g59 g60 g61 g62 g63 g64 g65 g66 g131 g135 => ((w21_1 i g135).trans (hG_M i g6 g10 g11 g12 g59 g60 g61 g62 g63 g64 g65 g66 g131 g135))) (by omega) (by omega) (by rw [e23] <;> omega) (by omega)
        · refine jr.tsw_k 16 rfl h87 rfl ?_
          refine jr.aload_n rfl rfl ?_
          refine jr.lload_n rfl rfl ?_
          refine jr.lload rfl rfl ?_
          refine jr.lload rfl rfl ?_
          refine jr_v rfl rfl (Or.inl rfl) rfl rfl (nlt rfl) rfl ⟨rfl, Nat.le_of_ble_eq_true rfl, Nat.le_of_ble_eq_true rfl⟩ rfl (jc.deep (r_headOf hI_M hH_M hS_M  (by omega) (by omega) (by omega)  (fun r24 M24 hI_M24 hH_M24 hS_M24  z24 w24_0 w24_1 => ?_)) (Nat.le_of_ble_eq_true rfl))
          refine jr.lstore (ls' := [_, _, _, _, _, _, _, _]) rfl (nlt rfl) rfl ?_
          obtain ⟨v25, e25⟩ : ∃ z, M 598 131 = z := ⟨_, rfl⟩
          have b25 : 0 ≤ v25 ∧ v25 ≤ 400 := by rw [← e25]; exact hI_M 598 131 (Nat.le_of_ble_eq_true rfl)
          have e26 : M24 598 131 = v25 := ((w24_1 131 (zne rfl)).trans e25)
          refine jr.pick (ls := [_, _, _]) [0, 6, 7] rfl rfl ?_
          exact r_word_L378 q M24 r24 w hI_M24 hH_M24 hS_M24  (fun a i f598 f603 f604 f605 f624 f686 => ((w24_0 a i f598).trans (hF_M a i f598 f603 f604 f605 f624 f686))) (fun i g6 g10 g11 g12 g59 g60 g61 g62 g63 g64 g65 g66 g131 g135 => ((w24_1 i g135).trans (hG_M i g6 g10 g11 g12 g59 g60 g61 g62 g63 g64 g65 g66 g131 g135))) (by omega) (by omega) (by rw [e26] <;> omega) (by omega)
        · refine jr.tsw_k 17 rfl h87 rfl ?_
          refine jr.aload_n rfl rfl ?_
          refine jr.lload_n rfl rfl ?_
          refine jr.lload rfl rfl ?_
          refine jr.lload rfl rfl ?_
          refine jr_v rfl rfl (Or.inl rfl) rfl rfl (nlt rfl) rfl ⟨rfl, Nat.le_of_ble_eq_true rfl, Nat.le_of_ble_eq_true rfl⟩ rfl (jc.deep (r_headOf hI_M hH_M hS_M  (by omega) (by omega) (by omega)  (fun r27 M27 hI_M27 hH_M27 hS_M27  z27 w27_0 w27_1 => ?_)) (Nat.le_of_ble_eq_true rfl))
          refine jr.lstore (ls' := [_, _, _, _, _, _, _, _]) rfl (nlt rfl) rfl ?_
          obtain ⟨v28, e28⟩ : ∃ z, M 598 131 = z := ⟨_, rfl⟩
          have b28 : 0 ≤ v28 ∧ v28 ≤ 400 := by rw [← e28]; exact hI_M 598 131 (Nat.le_of_ble_eq_true rfl)
          have e29 : M27 598 131 = v28 := ((w27_1 131 (zne rfl)).trans e28)
          refine jr.pick (ls := [_, _, _]) [0, 6, 7] rfl rfl ?_
          exact r_word_L378 q M27 r27 w hI_M27 hH_M27 hS_M27  (fun a i f598 f603 f604 f605 f624 f686 => ((w27_0 a i f598).trans (hF_M a i f598 f603 f604 f605 f624 f686))) (fun i g6 g10 g11 g12 g59 g60 g61 g62 g63 g64 g65 g66 g131 g135 => ((w27_1 i g135).trans (hG_M i g6 g10 g11 g12 g59 g60 g61 g62 g63 g64 g65 g66 g131 g135))) (by omega) (by omega) (by rw [e29] <;> omega) (by omega)
        · refine jr.tsw_k 18 rfl h87 rfl ?_
          refine jr.aload_n rfl rfl ?_
          refine jr.lload_n rfl rfl ?_
          refine jr.lload rfl rfl ?_
          refine jr.lload rfl rfl ?_
          refine jr_v rfl rfl (Or.inl rfl) rfl rfl (nlt rfl) rfl ⟨rfl, Nat.le_of_ble_eq_true rfl, Nat.le_of_ble_eq_true rfl⟩ rfl (jc.deep (r_headOf hI_M hH_M hS_M  (by omega) (by omega) (by omega)  (fun r30 M30 hI_M30 hH_M30 hS_M30  z30 w30_0 w30_1 => ?_)) (Nat.le_of_ble_eq_true rfl))
          refine jr.lstore (ls' := [_, _, _, _, _, _, _, _]) rfl (nlt rfl) rfl ?_
          obtain ⟨v31, e31⟩ : ∃ z, M 598 131 = z := ⟨_, rfl⟩
          have b31 : 0 ≤ v31 ∧ v31 ≤ 400 := by rw [← e31]; exact hI_M 598 131 (Nat.le_of_ble_eq_true rfl)
          have e32 : M30 598 131 = v31 := ((w30_1 131 (zne rfl)).trans e31)
          refine jr.pick (ls := [_, _, _]) [0, 6, 7] rfl rfl ?_
          exact r_word_L378 q M30 r30 w hI_M30 hH_M30 hS_M30  (fun a i f598 f603 f604 f605 f624 f686 => ((w30_0 a i f598).trans (hF_M a i f598 f603 f604 f605 f624 f686))) (fun i g6 g10 g11 g12 g59 g60 g61 g62 g63 g64 g65 g66 g131 g135 => ((w30_1 i g135).trans (hG_M i g6 g10 g11 g12 g59 g60 g61 g62 g63 g64 g65 g66 g131 g135))) (by omega) (by omega) (by rw [e32] <;> omega) (by omega)
        · refine jr.tsw_k 19 rfl h87 rfl ?_
          refine jr.aload_n rfl rfl ?_
          obtain ⟨v33, e33⟩ : ∃ z, M 598 2 = z := ⟨_, rfl⟩
          have b33 : 0 ≤ v33 ∧ v33 ≤ 2000000 := by rw [← e33]; exact hI_M 598 2 (Nat.le_of_ble_eq_true rfl)
          refine jr.getf (i := 2) (x := v33) (v := .int (Int32.ofInt (v33))) rfl rfl (nlt rfl) rfl (nlt rfl) rfl rfl e33 rfl ?_
          refine jr.i2l rfl (by omega) ?_
          refine jr.lstore (ls' := [_, _, _, _, _, _, _, _]) rfl (nlt rfl) rfl ?_
          refine jr.goto rfl rfl ?_
          obtain ⟨v34, e34⟩ : ∃ z, M 598 131 = z := ⟨_, rfl⟩
          have b34 : 0 ≤ v34 ∧ v34 ≤ 400 := by rw [← e34]; exact hI_M 598 131 (Nat.le_of_ble_eq_true rfl)
          refine jr.pick (ls := [_, _, _]) [0, 6, 7] rfl rfl ?_
          exact r_word_L378 q M v33 w hI_M hH_M hS_M  (fun a i f598 f603 f604 f605 f624 f686 => (hF_M a i f598 f603 f604 f605 f624 f686)) (fun i g6 g10 g11 g12 g59 g60 g61 g62 g63 g64 g65 g66 g131 g135 => (hG_M i g6 g10 g11 g12 g59 g60 g61 g62 g63 g64 g65 g66 g131 g135)) (by omega) (by omega) (by rw [e34] <;> omega) (by omega)
        · refine jr.tsw_k 20 rfl h87 rfl ?_
          refine jr.aload_n rfl rfl ?_
          refine jr.aload_n rfl rfl ?_
          refine jr.aload_n rfl rfl ?_
          obtain ⟨v35, e35⟩ : ∃ z, M 598 133 = z := ⟨_, rfl⟩
          have b35 : 0 ≤ v35 ∧ v35 ≤ 23 := by rw [← e35]; exact hI_M 598 133 (Nat.le_of_ble_eq_true rfl)
          refine jr.getf (i := 133) (x := v35) (v := .int (Int32.ofInt (v35))) rfl rfl (nlt rfl) rfl (nlt rfl) rfl rfl e35 rfl ?_
          refine jr_v rfl rfl (Or.inl rfl) rfl rfl (nlt rfl) rfl ⟨rfl, Nat.le_of_ble_eq_true rfl, Nat.le_of_ble_eq_true rfl⟩ rfl (jc.deep (c_isThere hI_M (by omega) (fun l213 u213 t213 => ?_) (fun n213 => ?_)) (Nat.le_of_ble_eq_true rfl))
          · refine jr.if_eq rfl rfl (by first | exact rgl rfl | omega) (fun h => absurd h (by decide)) (fun _ => ?_)
            refine jr.aload_n rfl rfl ?_
            refine jr.getf (i := 3) (v := .ref 600) rfl rfl (nlt rfl) rfl (nlt rfl) rfl rfl rfl rfl ?_
            refine jr.aload_n rfl rfl ?_
            refine jr.getf (i := 133) (x := v35) (v := .int (Int32.ofInt (v35))) rfl rfl (nlt rfl) rfl (nlt rfl) rfl rfl e35 rfl ?_
            obtain ⟨v36, e36⟩ : ∃ z, M 600 v35 = z := ⟨_, rfl⟩
            have b36 : (-1) ≤ v36 ∧ v36 ≤ 400 := by rw [← e36]; exact (by have q := hI_M 600 v35 (Nat.le_of_ble_eq_true rfl); rw [xri_row rfl rfl] at q; exact q)
            refine jr.iald (i := v35) (x := v36) rfl (nlt rfl) rfl (Nat.le_of_ble_eq_true rfl) (by omega) (by omega) e36 ?_
            refine jr.i2l rfl (by omega) ?_
            refine jr.goto rfl rfl ?_
            refine jr_v rfl rfl (Or.inl rfl) rfl rfl (nlt rfl) rfl ⟨rfl, Nat.le_of_ble_eq_true rfl, Nat.le_of_ble_eq_true rfl⟩ rfl (jc.deep (r_needed hI_M hH_M hS_M  (by omega)  (fun r37 M37 hI_M37 hH_M37 hS_M37  z37 w37_0 w37_1 => ?_)) (Nat.le_of_ble_eq_true rfl))
            refine jr.lstore (ls' := [_, _, _, _, _, _, _, _]) rfl (nlt rfl) rfl ?_
            refine jr.goto rfl rfl ?_
            obtain ⟨v38, e38⟩ : ∃ z, M 598 131 = z := ⟨_, rfl⟩
            have b38 : 0 ≤ v38 ∧ v38 ≤ 400 := by rw [← e38]; exact hI_M 598 131 (Nat.le_of_ble_eq_true rfl)
            have e39 : M37 598 131 = v38 := ((w37_1 131 (zne rfl)).trans e38)
            refine jr.pick (ls := [_, _, _]) [0, 6, 7] rfl rfl ?_
            exact r_word_L378 q M37 r37 w hI_M37 hH_M37 hS_M37  (fun a i f598 f603 f604 f605 f624 f686 => ((w37_0 a i f598).trans (hF_M a i f598 f603 f604 f605 f624 f686))) (fun i g6 g10 g11 g12 g59 g60 g61 g62 g63 g64 g65 g66 g131 g135 => ((w37_1 i g135).trans (hG_M i g6 g10 g11 g12 g59 g60 g61 g62 g63 g64 g65 g66 g131 g135))) (by omega) (by omega) (by rw [e39] <;> omega) (by omega)
          · refine jr.if_eq rfl rfl (by first | exact rgl rfl | omega) (fun _ => ?_) (fun h => absurd (by decide) h)
            refine jr.lconst (x := 0) rfl (by decide) ?_
            refine jr_v rfl rfl (Or.inl rfl) rfl rfl (nlt rfl) rfl ⟨rfl, Nat.le_of_ble_eq_true rfl, Nat.le_of_ble_eq_true rfl⟩ rfl (jc.deep (r_needed hI_M hH_M hS_M  (by omega)  (fun r40 M40 hI_M40 hH_M40 hS_M40  z40 w40_0 w40_1 => ?_)) (Nat.le_of_ble_eq_true rfl))
            refine jr.lstore (ls' := [_, _, _, _, _, _, _, _]) rfl (nlt rfl) rfl ?_
            refine jr.goto rfl rfl ?_
            obtain ⟨v41, e41⟩ : ∃ z, M 598 131 = z := ⟨_, rfl⟩
            have b41 : 0 ≤ v41 ∧ v41 ≤ 400 := by rw [← e41]; exact hI_M 598 131 (Nat.le_of_ble_eq_true rfl)
            have e42 : M40 598 131 = v41 := ((w40_1 131 (zne rfl)).trans e41)
            refine jr.pick (ls := [_, _, _]) [0, 6, 7] rfl rfl ?_
            exact r_word_L378 q M40 r40 w hI_M40 hH_M40 hS_M40  (fun a i f598 f603 f604 f605 f624 f686 => ((w40_0 a i f598).trans (hF_M a i f598 f603 f604 f605 f624 f686))) (fun i g6 g10 g11 g12 g59 g60 g61 g62 g63 g64 g65 g66 g131 g135 => ((w40_1 i g135).trans (hG_M i g6 g10 g11 g12 g59 g60 g61 g62 g63 g64 g65 g66 g131 g135))) (by omega) (by omega) (by rw [e42] <;> omega) (by omega)
        · refine jr.tsw_k 21 rfl h87 rfl ?_
          refine jr.iload rfl rfl ?_
          refine jr.i2l rfl (by omega) ?_
          refine jr.lstore (ls' := [_, _, _, _, _, _, _, _]) rfl (nlt rfl) rfl ?_
          refine jr.goto rfl rfl ?_
          obtain ⟨v43, e43⟩ : ∃ z, M 598 131 = z := ⟨_, rfl⟩
          have b43 : 0 ≤ v43 ∧ v43 ≤ 400 := by rw [← e43]; exact hI_M 598 131 (Nat.le_of_ble_eq_true rfl)
          refine jr.pick (ls := [_, _, _]) [0, 6, 7] rfl rfl ?_
          exact r_word_L378 q M (-1) w hI_M hH_M hS_M  (fun a i f598 f603 f604 f605 f624 f686 => (hF_M a i f598 f603 f604 f605 f624 f686)) (fun i g6 g10 g11 g12 g59 g60 g61 g62 g63 g64 g65 g66 g131 g135 => (hG_M i g6 g10 g11 g12 g59 g60 g61 g62 g63 g64 g65 g66 g131 g135)) (by omega) (by omega) (by rw [e43] <;> omega) (by omega)
        · refine jr.tsw_k 22 rfl h87 rfl ?_
          refine jr.iload rfl rfl ?_
          refine jr.iconst rfl ?_
          refine jr.icmp_ne rfl rfl (by first | exact rgl rfl | omega) (rgl rfl) (fun h => absurd h (by decide)) (fun _ => ?_)
          refine jr.ldc2 (x := (-1)) rfl rfl (by decide) ?_
          refine jr.goto rfl rfl ?_
          refine jr.lstore (ls' := [_, _, _, _, _, _, _, _]) rfl (nlt rfl) rfl ?_
          refine jr.goto rfl rfl ?_
          obtain ⟨v44, e44⟩ : ∃ z, M 598 131 = z := ⟨_, rfl⟩
          have b44 : 0 ≤ v44 ∧ v44 ≤ 400 := by rw [← e44]; exact hI_M 598 131 (Nat.le_of_ble_eq_true rfl)
          refine jr.pick (ls := [_, _, _]) [0, 6, 7] rfl rfl ?_
          exact r_word_L378 q M (-1) w hI_M hH_M hS_M  (fun a i f598 f603 f604 f605 f624 f686 => (hF_M a i f598 f603 f604 f605 f624 f686)) (fun i g6 g10 g11 g12 g59 g60 g61 g62 g63 g64 g65 g66 g131 g135 => (hG_M i g6 g10 g11 g12 g59 g60 g61 g62 g63 g64 g65 g66 g131 g135)) (by omega) (by omega) (by rw [e44] <;> omega) (by omega)
        · refine jr.tsw_k 23 rfl h87 rfl ?_
          refine jr.aload_n rfl rfl ?_
          obtain ⟨v45, e45⟩ : ∃ z, M 598 134 = z := ⟨_, rfl⟩
          have b45 : 0 ≤ v45 ∧ v45 ≤ 8 := by rw [← e45]; exact hI_M 598 134 (Nat.le_of_ble_eq_true rfl)
          refine jr.getf (i := 134) (x := v45) (v := .int (Int32.ofInt (v45))) rfl rfl (nlt rfl) rfl (nlt rfl) rfl rfl e45 rfl ?_
          refine jr.i2l rfl (by omega) ?_
          refine jr.lstore (ls' := [_, _, _, _, _, _, _, _]) rfl (nlt rfl) rfl ?_
          refine jr.goto rfl rfl ?_
          obtain ⟨v46, e46⟩ : ∃ z, M 598 131 = z := ⟨_, rfl⟩
          have b46 : 0 ≤ v46 ∧ v46 ≤ 400 := by rw [← e46]; exact hI_M 598 131 (Nat.le_of_ble_eq_true rfl)
          refine jr.pick (ls := [_, _, _]) [0, 6, 7] rfl rfl ?_
          exact r_word_L378 q M v45 w hI_M hH_M hS_M  (fun a i f598 f603 f604 f605 f624 f686 => (hF_M a i f598 f603 f604 f605 f624 f686)) (fun i g6 g10 g11 g12 g59 g60 g61 g62 g63 g64 g65 g66 g131 g135 => (hG_M i g6 g10 g11 g12 g59 g60 g61 g62 g63 g64 g65 g66 g131 g135)) (by omega) (by omega) (by rw [e46] <;> omega) (by omega)
        · refine jr.tsw_k 24 rfl h87 rfl ?_
          refine jr.aload_n rfl rfl ?_
          refine jr.lload_n rfl rfl ?_
          refine jr.lload rfl rfl ?_
          refine jr.lload rfl rfl ?_
          refine jr_v rfl rfl (Or.inl rfl) rfl rfl (nlt rfl) rfl ⟨rfl, Nat.le_of_ble_eq_true rfl, Nat.le_of_ble_eq_true rfl⟩ rfl (jc.deep (r_headOf hI_M hH_M hS_M  (by omega) (by omega) (by omega)  (fun r47 M47 hI_M47 hH_M47 hS_M47  z47 w47_0 w47_1 => ?_)) (Nat.le_of_ble_eq_true rfl))
          refine jr.lstore (ls' := [_, _, _, _, _, _, _, _]) rfl (nlt rfl) rfl ?_
          obtain ⟨v48, e48⟩ : ∃ z, M 598 131 = z := ⟨_, rfl⟩
          have b48 : 0 ≤ v48 ∧ v48 ≤ 400 := by rw [← e48]; exact hI_M 598 131 (Nat.le_of_ble_eq_true rfl)
          have e49 : M47 598 131 = v48 := ((w47_1 131 (zne rfl)).trans e48)
          refine jr.pick (ls := [_, _, _]) [0, 6, 7] rfl rfl ?_
          exact r_word_L378 q M47 r47 w hI_M47 hH_M47 hS_M47  (fun a i f598 f603 f604 f605 f624 f686 => ((w47_0 a i f598).trans (hF_M a i f598 f603 f604 f605 f624 f686))) (fun i g6 g10 g11 g12 g59 g60 g61 g62 g63 g64 g65 g66 g131 g135 => ((w47_1 i g135).trans (hG_M i g6 g10 g11 g12 g59 g60 g61 g62 g63 g64 g65 g66 g131 g135))) (by omega) (by omega) (by rw [e49] <;> omega) (by omega)
        · refine jr.tsw_k 25 rfl h87 rfl ?_
          refine jr.aload_n rfl rfl ?_
          refine jr.lload_n rfl rfl ?_
          refine jr_v rfl rfl (Or.inl rfl) rfl rfl (nlt rfl) rfl ⟨rfl, Nat.le_of_ble_eq_true rfl, Nat.le_of_ble_eq_true rfl⟩ rfl (jc.deep (r_byteAt hI_M hH_M hS_M  (by omega)  (fun r50 M50 hI_M50 hH_M50 hS_M50  z50 w50_0 w50_1 => ?_)) (Nat.le_of_ble_eq_true rfl))
          refine jr.lstore (ls' := [_, _, _, _, _, _, _, _]) rfl (nlt rfl) rfl ?_
          refine jr.goto rfl rfl ?_
          obtain ⟨v51, e51⟩ : ∃ z, M 598 131 = z := ⟨_, rfl⟩
          have b51 : 0 ≤ v51 ∧ v51 ≤ 400 := by rw [← e51]; exact hI_M 598 131 (Nat.le_of_ble_eq_true rfl)
          have e52 : M50 598 131 = v51 := ((w50_1 131 (zne rfl)).trans e51)
          refine jr.pick (ls := [_, _, _]) [0, 6, 7] rfl rfl ?_
          exact r_word_L378 q M50 r50 w hI_M50 hH_M50 hS_M50  (fun a i f598 f603 f604 f605 f624 f686 => ((w50_0 a i f598).trans (hF_M a i f598 f603 f604 f605 f624 f686))) (fun i g6 g10 g11 g12 g59 g60 g61 g62 g63 g64 g65 g66 g131 g135 => ((w50_1 i g135).trans (hG_M i g6 g10 g11 g12 g59 g60 g61 g62 g63 g64 g65 g66 g131 g135))) (by omega) (by omega) (by rw [e52] <;> omega) (by omega)
        · refine jr.tsw_k 26 rfl h87 rfl ?_
          refine jr.aload_n rfl rfl ?_
          refine jr.lload_n rfl rfl ?_
          refine jr_v rfl rfl (Or.inl rfl) rfl rfl (nlt rfl) rfl ⟨rfl, Nat.le_of_ble_eq_true rfl, Nat.le_of_ble_eq_true rfl⟩ rfl (jc.deep (r_spend hI_M hH_M hS_M  (by omega)  (fun r53 M53 hI_M53 hH_M53 hS_M53  z53 w53_0 w53_1 => ?_)) (Nat.le_of_ble_eq_true rfl))
          refine jr.lstore (ls' := [_, _, _, _, _, _, _, _]) rfl (nlt rfl) rfl ?_
          refine jr.goto rfl rfl ?_
          obtain ⟨v54, e54⟩ : ∃ z, M 598 131 = z := ⟨_, rfl⟩
          have b54 : 0 ≤ v54 ∧ v54 ≤ 400 := by rw [← e54]; exact hI_M 598 131 (Nat.le_of_ble_eq_true rfl)
          have e55 : M53 598 131 = v54 := ((w53_1 131 (zne rfl)).trans e54)
          refine jr.pick (ls := [_, _, _]) [0, 6, 7] rfl rfl ?_
          exact r_word_L378 q M53 r53 w hI_M53 hH_M53 hS_M53  (fun a i f598 f603 f604 f605 f624 f686 => ((w53_0 a i f598 f624).trans (hF_M a i f598 f603 f604 f605 f624 f686))) (fun i g6 g10 g11 g12 g59 g60 g61 g62 g63 g64 g65 g66 g131 g135 => ((w53_1 i g135).trans (hG_M i g6 g10 g11 g12 g59 g60 g61 g62 g63 g64 g65 g66 g131 g135))) (by omega) (by omega) (by rw [e55] <;> omega) (by omega)
        · refine jr.tsw_k 27 rfl h87 rfl ?_
          refine jr.aload_n rfl rfl ?_
          refine jr.lload_n rfl rfl ?_
          refine jr_v rfl rfl (Or.inl rfl) rfl rfl (nlt rfl) rfl ⟨rfl, Nat.le_of_ble_eq_true rfl, Nat.le_of_ble_eq_true rfl⟩ rfl (jc.deep (r_rowFor hI_M hH_M hS_M  (by omega)  (fun r56 M56 hI_M56 hH_M56 hS_M56  z56 w56_0 w56_1 w56_2 => ?_)) (Nat.le_of_ble_eq_true rfl))
          refine jr.istore (ls' := [_, _, _, _, _, _, _, _, _]) rfl (nlt rfl) rfl ?_
          refine jr.aload_n rfl rfl ?_
          obtain ⟨v57, e57⟩ : ∃ z, M56 598 135 = z := ⟨_, rfl⟩
          have b57 : 0 ≤ v57 ∧ v57 ≤ 8 := by rw [← e57]; exact hI_M56 598 135 (Nat.le_of_ble_eq_true rfl)
          refine jr.getf (i := 135) (x := v57) (v := .int (Int32.ofInt (v57))) rfl rfl (nlt rfl) rfl (nlt rfl) rfl rfl e57 rfl ?_
          refine jr.if_ne rfl rfl (by first | (refine rgb (by assumption) ?_; exact rfl) | omega) (fun h315 => ?_) (fun h315 => ?_)
          · have sx315 : (1 : Int) ≤ v57 := by omega
            clear h315
            refine jr.lconst (x := 0) rfl (by decide) ?_
            refine jr.lstore (ls' := [_, _, _, _, _, _, _, _, _]) rfl (nlt rfl) rfl ?_
            refine jr.goto rfl rfl ?_
            obtain ⟨v58, e58⟩ : ∃ z, M 598 131 = z := ⟨_, rfl⟩
            have b58 : 0 ≤ v58 ∧ v58 ≤ 400 := by rw [← e58]; exact hI_M 598 131 (Nat.le_of_ble_eq_true rfl)
            have e59 : M56 598 131 = v58 := ((w56_2 131 (zne rfl)).trans e58)
            refine jr.pick (ls := [_, _, _]) [0, 7, 8] rfl rfl ?_
            exact r_word_L378 q M56 0 w hI_M56 hH_M56 hS_M56  (fun a i f598 f603 f604 f605 f624 f686 => ((w56_1 a i f598).trans (hF_M a i f598 f603 f604 f605 f624 f686))) (fun i g6 g10 g11 g12 g59 g60 g61 g62 g63 g64 g65 g66 g131 g135 => ((w56_2 i g135).trans (hG_M i g6 g10 g11 g12 g59 g60 g61 g62 g63 g64 g65 g66 g131 g135))) (by omega) (by omega) (by rw [e59] <;> omega) (by omega)
          · refine jr.aload_n rfl rfl ?_
            refine jr.getf (i := 118) (v := .ref 675) rfl rfl (nlt rfl) rfl (nlt rfl) rfl rfl rfl rfl ?_
            refine jr.iload rfl rfl ?_
            obtain ⟨v60, e60⟩ : ∃ z, M 675 r56 = z := ⟨_, rfl⟩
            have b60 : 0 ≤ v60 ∧ v60 ≤ 40 := by rw [← e60]; exact (by have q := hI_M 675 r56 (Nat.le_of_ble_eq_true rfl); rw [xri_row rfl rfl] at q; exact q)
            have e61 : M56 675 r56 = v60 := ((w56_1 675 r56 (nne rfl)).trans e60)
            refine jr.iald (i := r56) (x := v60) rfl (nlt rfl) rfl (Nat.le_of_ble_eq_true rfl) (by omega) (by omega) e61 ?_
            refine jr.i2l rfl (by omega) ?_
            refine jr.goto rfl rfl ?_
            refine jr.lstore (ls' := [_, _, _, _, _, _, _, _, _]) rfl (nlt rfl) rfl ?_
            refine jr.goto rfl rfl ?_
            obtain ⟨v62, e62⟩ : ∃ z, M 598 131 = z := ⟨_, rfl⟩
            have b62 : 0 ≤ v62 ∧ v62 ≤ 400 := by rw [← e62]; exact hI_M 598 131 (Nat.le_of_ble_eq_true rfl)
            have e63 : M56 598 131 = v62 := ((w56_2 131 (zne rfl)).trans e62)
            refine jr.pick (ls := [_, _, _]) [0, 7, 8] rfl rfl ?_
            exact r_word_L378 q M56 v60 w hI_M56 hH_M56 hS_M56  (fun a i f598 f603 f604 f605 f624 f686 => ((w56_1 a i f598).trans (hF_M a i f598 f603 f604 f605 f624 f686))) (fun i g6 g10 g11 g12 g59 g60 g61 g62 g63 g64 g65 g66 g131 g135 => ((w56_2 i g135).trans (hG_M i g6 g10 g11 g12 g59 g60 g61 g62 g63 g64 g65 g66 g131 g135))) (by omega) (by omega) (by rw [e63] <;> omega) (by omega)
        · refine jr.tsw_k 28 rfl h87 rfl ?_
          refine jr.aload_n rfl rfl ?_
          refine jr.lload_n rfl rfl ?_
          refine jr.lload rfl rfl ?_
          refine jr_v rfl rfl (Or.inl rfl) rfl rfl (nlt rfl) rfl ⟨rfl, Nat.le_of_ble_eq_true rfl, Nat.le_of_ble_eq_true rfl⟩ rfl (jc.deep (r_isIn hI_M hH_M hS_M  (by omega) (by omega)  (fun r64 M64 hI_M64 hH_M64 hS_M64  z64 w64_0 w64_1 w64_2 => ?_)) (Nat.le_of_ble_eq_true rfl))
          refine jr.if_eq rfl rfl (by first | (refine rgb (by assumption) ?_; exact rfl) | omega) (fun h342 => ?_) (fun h342 => ?_)
          · refine jr.lconst (x := 0) rfl (by decide) ?_
            refine jr.lstore (ls' := [_, _, _, _, _, _, _, _]) rfl (nlt rfl) rfl ?_
            refine jr.goto rfl rfl ?_
            obtain ⟨v65, e65⟩ : ∃ z, M 598 131 = z := ⟨_, rfl⟩
            have b65 : 0 ≤ v65 ∧ v65 ≤ 400 := by rw [← e65]; exact hI_M 598 131 (Nat.le_of_ble_eq_true rfl)
            have e66 : M64 598 131 = v65 := ((w64_2 131 (zne rfl)).trans e65)
            refine jr.pick (ls := [_, _, _]) [0, 6, 7] rfl rfl ?_
            exact r_word_L378 q M64 0 w hI_M64 hH_M64 hS_M64  (fun a i f598 f603 f604 f605 f624 f686 => ((w64_1 a i f598).trans (hF_M a i f598 f603 f604 f605 f624 f686))) (fun i g6 g10 g11 g12 g59 g60 g61 g62 g63 g64 g65 g66 g131 g135 => ((w64_2 i g135).trans (hG_M i g6 g10 g11 g12 g59 g60 g61 g62 g63 g64 g65 g66 g131 g135))) (by omega) (by omega) (by rw [e66] <;> omega) (by omega)
          · have sx342 : (1 : Int) ≤ r64 := by omega
            clear h342
            refine jr.lconst (x := 1) rfl (by decide) ?_
            refine jr.goto rfl rfl ?_
            refine jr.lstore (ls' := [_, _, _, _, _, _, _, _]) rfl (nlt rfl) rfl ?_
            refine jr.goto rfl rfl ?_
            obtain ⟨v67, e67⟩ : ∃ z, M 598 131 = z := ⟨_, rfl⟩
            have b67 : 0 ≤ v67 ∧ v67 ≤ 400 := by rw [← e67]; exact hI_M 598 131 (Nat.le_of_ble_eq_true rfl)
            have e68 : M64 598 131 = v67 := ((w64_2 131 (zne rfl)).trans e67)
            refine jr.pick (ls := [_, _, _]) [0, 6, 7] rfl rfl ?_
            exact r_word_L378 q M64 1 w hI_M64 hH_M64 hS_M64  (fun a i f598 f603 f604 f605 f624 f686 => ((w64_1 a i f598).trans (hF_M a i f598 f603 f604 f605 f624 f686))) (fun i g6 g10 g11 g12 g59 g60 g61 g62 g63 g64 g65 g66 g131 g135 => ((w64_2 i g135).trans (hG_M i g6 g10 g11 g12 g59 g60 g61 g62 g63 g64 g65 g66 g131 g135))) (by omega) (by omega) (by rw [e68] <;> omega) (by omega)
        · refine jr.tsw_k 29 rfl h87 rfl ?_
          refine jr.aload_n rfl rfl ?_
          refine jr.lload_n rfl rfl ?_
          refine jr.lload rfl rfl ?_
          refine jr_v rfl rfl (Or.inl rfl) rfl rfl (nlt rfl) rfl ⟨rfl, Nat.le_of_ble_eq_true rfl, Nat.le_of_ble_eq_true rfl⟩ rfl (jc.deep (r_itemOf hI_M hH_M hS_M  (by omega) (by omega)  (fun r69 M69 hI_M69 hH_M69 hS_M69  z69 w69_0 w69_1 w69_2 => ?_)) (Nat.le_of_ble_eq_true rfl))
          refine jr.lstore (ls' := [_, _, _, _, _, _, _, _]) rfl (nlt rfl) rfl ?_
          refine jr.goto rfl rfl ?_
          obtain ⟨v70, e70⟩ : ∃ z, M 598 131 = z := ⟨_, rfl⟩
          have b70 : 0 ≤ v70 ∧ v70 ≤ 400 := by rw [← e70]; exact hI_M 598 131 (Nat.le_of_ble_eq_true rfl)
          have e71 : M69 598 131 = v70 := ((w69_2 131 (zne rfl)).trans e70)
          refine jr.pick (ls := [_, _, _]) [0, 6, 7] rfl rfl ?_
          exact r_word_L378 q M69 r69 w hI_M69 hH_M69 hS_M69  (fun a i f598 f603 f604 f605 f624 f686 => ((w69_1 a i f598).trans (hF_M a i f598 f603 f604 f605 f624 f686))) (fun i g6 g10 g11 g12 g59 g60 g61 g62 g63 g64 g65 g66 g131 g135 => ((w69_2 i g135).trans (hG_M i g6 g10 g11 g12 g59 g60 g61 g62 g63 g64 g65 g66 g131 g135))) (by omega) (by omega) (by rw [e71] <;> omega) (by omega)
        · refine jr.tsw_d rfl (by omega) (by omega) rfl ?_
          refine jr.aload_n rfl rfl ?_
          refine jr.lload_n rfl rfl ?_
          refine jr.lload rfl rfl ?_
          refine jr.lload rfl rfl ?_
          refine jr_v rfl rfl (Or.inl rfl) rfl rfl (nlt rfl) rfl ⟨rfl, Nat.le_of_ble_eq_true rfl, Nat.le_of_ble_eq_true rfl⟩ rfl (jc.deep (r_headOf hI_M hH_M hS_M  (by omega) (by omega) (by omega)  (fun r72 M72 hI_M72 hH_M72 hS_M72  z72 w72_0 w72_1 => ?_)) (Nat.le_of_ble_eq_true rfl))
          refine jr.lstore (ls' := [_, _, _, _, _, _, _, _]) rfl (nlt rfl) rfl ?_
          obtain ⟨v73, e73⟩ : ∃ z, M 598 131 = z := ⟨_, rfl⟩
          have b73 : 0 ≤ v73 ∧ v73 ≤ 400 := by rw [← e73]; exact hI_M 598 131 (Nat.le_of_ble_eq_true rfl)
          have e74 : M72 598 131 = v73 := ((w72_1 131 (zne rfl)).trans e73)
          refine jr.pick (ls := [_, _, _]) [0, 6, 7] rfl rfl ?_
          exact r_word_L378 q M72 r72 w hI_M72 hH_M72 hS_M72  (fun a i f598 f603 f604 f605 f624 f686 => ((w72_0 a i f598).trans (hF_M a i f598 f603 f604 f605 f624 f686))) (fun i g6 g10 g11 g12 g59 g60 g61 g62 g63 g64 g65 g66 g131 g135 => ((w72_1 i g135).trans (hG_M i g6 g10 g11 g12 g59 g60 g61 g62 g63 g64 g65 g66 g131 g135))) (by omega) (by omega) (by rw [e74] <;> omega) (by omega)
      · refine jr.aload_n rfl rfl ?_
        refine jr_v rfl rfl (Or.inl rfl) rfl rfl (nlt rfl) rfl ⟨rfl, Nat.le_of_ble_eq_true rfl, Nat.le_of_ble_eq_true rfl⟩ rfl (jc.deep (r_flowOfPacket hI_M hH_M hS_M (Kp.rfl _)   (fun r75 M75 hI_M75 hH_M75 hS_M75 ht_M75 z75 w75_0 w75_1 => ?_)) (Nat.le_of_ble_eq_true rfl))
        refine jr.goto rfl rfl ?_
        refine jr.istore (ls' := [_, _, _, _, _, _, _, _]) rfl (nlt rfl) rfl ?_
        refine jr.iload_n rfl rfl ?_
        rcases (show w = 22 by omega) with h87
        · refine jr.tsw_k 22 rfl h87 rfl ?_
          refine jr.iload rfl rfl ?_
          refine jr.iconst rfl ?_
          refine jr.icmp_ne rfl rfl (by first | (refine rgb (by assumption) ?_; exact rfl) | omega) (rgl rfl) (fun h252 => ?_) (fun h252 => ?_)
          · have sx252 : (0 : Int) ≤ r75 := by omega
            clear h252
            refine jr.aload_n rfl rfl ?_
            refine jr.getf (i := 50) (v := .ref 638) rfl rfl (nlt rfl) rfl (nlt rfl) rfl rfl rfl rfl ?_
            refine jr.iload rfl rfl ?_
            obtain ⟨v76, e76⟩ : ∃ z, M 638 r75 = z := ⟨_, rfl⟩
            have b76 : 0 ≤ v76 ∧ v76 ≤ 15 := by rw [← e76]; exact (by have q := hI_M 638 r75 (Nat.le_of_ble_eq_true rfl); rw [xri_row rfl rfl] at q; exact q)
            have e77 : M75 638 r75 = v76 := ((w75_0 638 r75 (nne rfl) (nne rfl) (nne rfl) (nne rfl)).trans e76)
            refine jr.iald (i := r75) (x := v76) rfl (nlt rfl) rfl (Nat.le_of_ble_eq_true rfl) (by omega) (by omega) e77 ?_
            refine jr.i2l rfl (by omega) ?_
            refine jr.lstore (ls' := [_, _, _, _, _, _, _, _]) rfl (nlt rfl) rfl ?_
            refine jr.goto rfl rfl ?_
            obtain ⟨v78, e78⟩ : ∃ z, M 598 131 = z := ⟨_, rfl⟩
            have b78 : 0 ≤ v78 ∧ v78 ≤ 400 := by rw [← e78]; exact hI_M 598 131 (Nat.le_of_ble_eq_true rfl)
            have e79 : M75 598 131 = v78 := ((w75_1 131 (zne rfl) (zne rfl) (zne rfl) (zne rfl) (zne rfl) (zne rfl) (zne rfl) (zne rfl) (zne rfl) (zne rfl) (zne rfl) (zne rfl)).trans e78)
            refine jr.pick (ls := [_, _, _]) [0, 6, 7] rfl rfl ?_
            exact r_word_L378 q M75 v76 w hI_M75 hH_M75 hS_M75  (fun a i f598 f603 f604 f605 f624 f686 => ((w75_0 a i f598 f603 f604 f605).trans (hF_M a i f598 f603 f604 f605 f624 f686))) (fun i g6 g10 g11 g12 g59 g60 g61 g62 g63 g64 g65 g66 g131 g135 => ((w75_1 i g6 g10 g11 g12 g59 g60 g61 g62 g63 g64 g65 g66).trans (hG_M i g6 g10 g11 g12 g59 g60 g61 g62 g63 g64 g65 g66 g131 g135))) (by omega) (by omega) (by rw [e79] <;> omega) (by omega)
          · refine jr.ldc2 (x := (-1)) rfl rfl (by decide) ?_
            refine jr.goto rfl rfl ?_
            refine jr.lstore (ls' := [_, _, _, _, _, _, _, _]) rfl (nlt rfl) rfl ?_
            refine jr.goto rfl rfl ?_
            obtain ⟨v80, e80⟩ : ∃ z, M 598 131 = z := ⟨_, rfl⟩
            have b80 : 0 ≤ v80 ∧ v80 ≤ 400 := by rw [← e80]; exact hI_M 598 131 (Nat.le_of_ble_eq_true rfl)
            have e81 : M75 598 131 = v80 := ((w75_1 131 (zne rfl) (zne rfl) (zne rfl) (zne rfl) (zne rfl) (zne rfl) (zne rfl) (zne rfl) (zne rfl) (zne rfl) (zne rfl) (zne rfl)).trans e80)
            refine jr.pick (ls := [_, _, _]) [0, 6, 7] rfl rfl ?_
            exact r_word_L378 q M75 (-1) w hI_M75 hH_M75 hS_M75  (fun a i f598 f603 f604 f605 f624 f686 => ((w75_0 a i f598 f603 f604 f605).trans (hF_M a i f598 f603 f604 f605 f624 f686))) (fun i g6 g10 g11 g12 g59 g60 g61 g62 g63 g64 g65 g66 g131 g135 => ((w75_1 i g6 g10 g11 g12 g59 g60 g61 g62 g63 g64 g65 g66).trans (hG_M i g6 g10 g11 g12 g59 g60 g61 g62 g63 g64 g65 g66 g131 g135))) (by omega) (by omega) (by rw [e81] <;> omega) (by omega)
theorem r_word {A : Nat → Option (Nat × (Nat → Int32))} {Q : Option Value → jm → Prop} {M : jm} (hI_M : RI M) (hH_M : RH M) (hS_M : RF M) {w : Int} (h_w : 10 ≤ w ∧ w ≤ 30) (p0 : (25 ≤ w → argn w ≤ M 598 131)) (p1 : M 598 131 ≤ 250) (q : ∀ (M' : jm), RI M' → RH M' → RF M' → (25 ≤ w → M' 598 131 = M 598 131 + 1 - argn w) → (w < 25 → M' 598 131 = M 598 131 + 1) → (∀ (a : Nat) (i : Int), a ≠ 598 → a ≠ 603 → a ≠ 604 → a ≠ 605 → a ≠ 624 → a ≠ 686 → M' a i = M a i) → (∀ (i : Int), i ≠ 6 → i ≠ 10 → i ≠ 11 → i ≠ 12 → i ≠ 59 → i ≠ 60 → i ≠ 61 → i ≠ 62 → i ≠ 63 → i ≠ 64 → i ≠ 65 → i ≠ 66 → i ≠ 131 → i ≠ 135 → M' 598 i = M 598 i) → Q none M') : jc A 9 394 [.ref (598), .int (Int32.ofInt (w))] M Q := by
  have al := argn_le w
  refine jc_of (m := xm_394) rfl (Nat.le_of_ble_eq_true rfl) rfl ?_
  refine jr.iload_n rfl rfl ?_
  refine jr.bipush rfl (jbp _ (nlt rfl)) ?_
  refine jr.icmp_lt rfl rfl (by first | (refine rgb (by assumption) ?_; exact rfl) | omega) (rgl rfl) (fun h3 => ?_) (fun h3 => ?_)
  · refine jr.iconst rfl ?_
    refine jr.istore_n (ls' := [_, _, _]) rfl (nlt rfl) rfl ?_
    refine jr.aload_n rfl rfl ?_
    refine jr.dup rfl rfl ?_
    obtain ⟨v1, e1⟩ : ∃ z, M 598 131 = z := ⟨_, rfl⟩
    have b1 : 0 ≤ v1 ∧ v1 ≤ 400 := by rw [← e1]; exact hI_M 598 131 (Nat.le_of_ble_eq_true rfl)
    refine jr.getf (i := 131) (x := v1) (v := .int (Int32.ofInt (v1))) rfl rfl (nlt rfl) rfl (nlt rfl) rfl rfl e1 rfl ?_
    refine jr.iload_n rfl rfl ?_
    refine jr.isub rfl ?_
    refine jr.putf (i := 131) (x := (v1 - 0)) rfl rfl (nlt rfl) rfl (nlt rfl) rfl rfl rfl rfl rfl ?_
    refine jr.aload_n rfl rfl ?_
    refine jr.getf (i := 130) (v := .ref 686) rfl rfl (nlt rfl) rfl (nlt rfl) rfl rfl rfl rfl ?_
    refine jr.aload_n rfl rfl ?_
    refine jr.getf (i := 131) (x := (v1 - 0)) (v := .int (Int32.ofInt (v1 - 0))) rfl rfl (nlt rfl) rfl (nlt rfl) rfl rfl (ju_same _ _ _ _) rfl ?_
    obtain ⟨v2, e2⟩ : ∃ z, M 686 (v1 - 0) = z := ⟨_, rfl⟩
    have b2 : (-9223372036854775808) ≤ v2 ∧ v2 ≤ 9223372036854775807 := by rw [← e2]; exact (by have q := hI_M 686 (v1 - 0) (Nat.le_of_ble_eq_true rfl); rw [xri_row rfl rfl] at q; exact q)
    refine jr.lald (i := (v1 - 0)) (x := v2) rfl (nlt rfl) rfl (Nat.le_of_ble_eq_true rfl) (by omega) (by omega) ((ju_c _ _ (by decide)).trans e2) ?_
    refine jr.lstore_n (ls' := [_, _, _, _]) rfl (nlt rfl) rfl ?_
    refine jr.aload_n rfl rfl ?_
    refine jr.getf (i := 130) (v := .ref 686) rfl rfl (nlt rfl) rfl (nlt rfl) rfl rfl rfl rfl ?_
    refine jr.aload_n rfl rfl ?_
    refine jr.getf (i := 131) (x := (v1 - 0)) (v := .int (Int32.ofInt (v1 - 0))) rfl rfl (nlt rfl) rfl (nlt rfl) rfl rfl (ju_same _ _ _ _) rfl ?_
    refine jr.iconst rfl ?_
    refine jr.iadd rfl ?_
    obtain ⟨v3, e3⟩ : ∃ z, M 686 ((v1 - 0) + 1) = z := ⟨_, rfl⟩
    have b3 : (-9223372036854775808) ≤ v3 ∧ v3 ≤ 9223372036854775807 := by rw [← e3]; exact (by have q := hI_M 686 ((v1 - 0) + 1) (by decide); rw [xri_row rfl rfl] at q; exact q)
    refine jr.lald (i := ((v1 - 0) + 1)) (x := v3) rfl (nlt rfl) rfl (Nat.le_of_ble_eq_true rfl) (by omega) (by omega) ((ju_c _ _ (by decide)).trans e3) ?_
    refine jr.lstore (ls' := [_, _, _, _, _]) rfl (nlt rfl) rfl ?_
    refine jr.aload_n rfl rfl ?_
    refine jr.getf (i := 130) (v := .ref 686) rfl rfl (nlt rfl) rfl (nlt rfl) rfl rfl rfl rfl ?_
    refine jr.aload_n rfl rfl ?_
    refine jr.getf (i := 131) (x := (v1 - 0)) (v := .int (Int32.ofInt (v1 - 0))) rfl rfl (nlt rfl) rfl (nlt rfl) rfl rfl (ju_same _ _ _ _) rfl ?_
    refine jr.iconst rfl ?_
    refine jr.iadd rfl ?_
    obtain ⟨v4, e4⟩ : ∃ z, M 686 ((v1 - 0) + 2) = z := ⟨_, rfl⟩
    have b4 : (-9223372036854775808) ≤ v4 ∧ v4 ≤ 9223372036854775807 := by rw [← e4]; exact (by have q := hI_M 686 ((v1 - 0) + 2) (by decide); rw [xri_row rfl rfl] at q; exact q)
    refine jr.lald (i := ((v1 - 0) + 2)) (x := v4) rfl (nlt rfl) rfl (Nat.le_of_ble_eq_true rfl) (by omega) (by omega) ((ju_c _ _ (by decide)).trans e4) ?_
    refine jr.lstore (ls' := [_, _, _, _, _, _]) rfl (nlt rfl) rfl ?_
    refine jr.lconst (x := 0) rfl (by decide) ?_
    refine jr.lstore (ls' := [_, _, _, _, _, _, _]) rfl (nlt rfl) rfl ?_
    refine jr.pick (ls := [_, _, _, _, _, _, _]) [4, 3, 2, 1, 0, 6, 5] rfl rfl ?_
    exact r_word_L64 q (ju M 598 131 (v1 - 0)) 0 v2 v3 v4 0 w (RI.u hI_M (a := 598) (i := 131) (show (0 : Int) ≤ _ ∧ _ ≤ (400 : Int) from by omega)) (RH.o hH_M (by decide) (by decide) (by decide)) (RF.o hS_M (by decide) (by decide))  (fun a i f598 f603 f604 f605 f624 f686 => ((ju_c _ _ f598).trans rfl)) (fun i g6 g10 g11 g12 g59 g60 g61 g62 g63 g64 g65 g66 g131 g135 => ((ju_i _ _ g131).trans rfl)) (by omega) (by omega) (by omega) (by omega) (by omega) (by omega) (by rw [(ju_same _ _ _ _)] <;> omega) (by omega) (by omega)
  · refine jr.iload_n rfl rfl ?_
    refine jr_s rfl rfl (Or.inl rfl) ⟨Nat.le_of_ble_eq_true rfl, Nat.le_of_ble_eq_true rfl⟩ rfl rfl (jc.deep (r_argsOf hI_M hH_M hS_M (Kp.rfl _) (by omega)  (fun r5 z5 w5_0 => ?_)) (Nat.le_of_ble_eq_true rfl))
    refine jr.goto rfl rfl ?_
    refine jr.istore_n (ls' := [_, _, _]) rfl (nlt rfl) rfl ?_
    refine jr.aload_n rfl rfl ?_
    refine jr.dup rfl rfl ?_
    obtain ⟨v6, e6⟩ : ∃ z, M 598 131 = z := ⟨_, rfl⟩
    have b6 : 0 ≤ v6 ∧ v6 ≤ 400 := by rw [← e6]; exact hI_M 598 131 (Nat.le_of_ble_eq_true rfl)
    refine jr.getf (i := 131) (x := v6) (v := .int (Int32.ofInt (v6))) rfl rfl (nlt rfl) rfl (nlt rfl) rfl rfl e6 rfl ?_
    refine jr.iload_n rfl rfl ?_
    refine jr.isub rfl ?_
    refine jr.putf (i := 131) (x := (v6 - r5)) rfl rfl (nlt rfl) rfl (nlt rfl) rfl rfl rfl rfl rfl ?_
    refine jr.aload_n rfl rfl ?_
    refine jr.getf (i := 130) (v := .ref 686) rfl rfl (nlt rfl) rfl (nlt rfl) rfl rfl rfl rfl ?_
    refine jr.aload_n rfl rfl ?_
    refine jr.getf (i := 131) (x := (v6 - r5)) (v := .int (Int32.ofInt (v6 - r5))) rfl rfl (nlt rfl) rfl (nlt rfl) rfl rfl (ju_same _ _ _ _) rfl ?_
    obtain ⟨v7, e7⟩ : ∃ z, M 686 (v6 - r5) = z := ⟨_, rfl⟩
    have b7 : (-9223372036854775808) ≤ v7 ∧ v7 ≤ 9223372036854775807 := by rw [← e7]; exact (by have q := hI_M 686 (v6 - r5) (Nat.le_of_ble_eq_true rfl); rw [xri_row rfl rfl] at q; exact q)
    refine jr.lald (i := (v6 - r5)) (x := v7) rfl (nlt rfl) rfl (Nat.le_of_ble_eq_true rfl) (by omega) (by omega) ((ju_c _ _ (by decide)).trans e7) ?_
    refine jr.lstore_n (ls' := [_, _, _, _]) rfl (nlt rfl) rfl ?_
    refine jr.aload_n rfl rfl ?_
    refine jr.getf (i := 130) (v := .ref 686) rfl rfl (nlt rfl) rfl (nlt rfl) rfl rfl rfl rfl ?_
    refine jr.aload_n rfl rfl ?_
    refine jr.getf (i := 131) (x := (v6 - r5)) (v := .int (Int32.ofInt (v6 - r5))) rfl rfl (nlt rfl) rfl (nlt rfl) rfl rfl (ju_same _ _ _ _) rfl ?_
    refine jr.iconst rfl ?_
    refine jr.iadd rfl ?_
    obtain ⟨v8, e8⟩ : ∃ z, M 686 ((v6 - r5) + 1) = z := ⟨_, rfl⟩
    have b8 : (-9223372036854775808) ≤ v8 ∧ v8 ≤ 9223372036854775807 := by rw [← e8]; exact (by have q := hI_M 686 ((v6 - r5) + 1) (by decide); rw [xri_row rfl rfl] at q; exact q)
    refine jr.lald (i := ((v6 - r5) + 1)) (x := v8) rfl (nlt rfl) rfl (Nat.le_of_ble_eq_true rfl) (by omega) (by omega) ((ju_c _ _ (by decide)).trans e8) ?_
    refine jr.lstore (ls' := [_, _, _, _, _]) rfl (nlt rfl) rfl ?_
    refine jr.aload_n rfl rfl ?_
    refine jr.getf (i := 130) (v := .ref 686) rfl rfl (nlt rfl) rfl (nlt rfl) rfl rfl rfl rfl ?_
    refine jr.aload_n rfl rfl ?_
    refine jr.getf (i := 131) (x := (v6 - r5)) (v := .int (Int32.ofInt (v6 - r5))) rfl rfl (nlt rfl) rfl (nlt rfl) rfl rfl (ju_same _ _ _ _) rfl ?_
    refine jr.iconst rfl ?_
    refine jr.iadd rfl ?_
    obtain ⟨v9, e9⟩ : ∃ z, M 686 ((v6 - r5) + 2) = z := ⟨_, rfl⟩
    have b9 : (-9223372036854775808) ≤ v9 ∧ v9 ≤ 9223372036854775807 := by rw [← e9]; exact (by have q := hI_M 686 ((v6 - r5) + 2) (by decide); rw [xri_row rfl rfl] at q; exact q)
    refine jr.lald (i := ((v6 - r5) + 2)) (x := v9) rfl (nlt rfl) rfl (Nat.le_of_ble_eq_true rfl) (by omega) (by omega) ((ju_c _ _ (by decide)).trans e9) ?_
    refine jr.lstore (ls' := [_, _, _, _, _, _]) rfl (nlt rfl) rfl ?_
    refine jr.lconst (x := 0) rfl (by decide) ?_
    refine jr.lstore (ls' := [_, _, _, _, _, _, _]) rfl (nlt rfl) rfl ?_
    refine jr.pick (ls := [_, _, _, _, _, _, _]) [4, 3, 2, 1, 0, 6, 5] rfl rfl ?_
    exact r_word_L64 q (ju M 598 131 (v6 - r5)) r5 v7 v8 v9 0 w (RI.u hI_M (a := 598) (i := 131) (show (0 : Int) ≤ _ ∧ _ ≤ (400 : Int) from by omega)) (RH.o hH_M (by decide) (by decide) (by decide)) (RF.o hS_M (by decide) (by decide))  (fun a i f598 f603 f604 f605 f624 f686 => ((ju_c _ _ f598).trans rfl)) (fun i g6 g10 g11 g12 g59 g60 g61 g62 g63 g64 g65 g66 g131 g135 => ((ju_i _ _ g131).trans rfl)) (by omega) (by omega) (by omega) (by omega) (by omega) (by omega) (by rw [(ju_same _ _ _ _)] <;> omega) (by omega) (by omega)
theorem r_bySign_L291 {A : Nat → Option (Nat × (Nat → Int32))} {Q : Option Value → jm → Prop} {M0 : jm} (q : ∀ (M' : jm), RI M' → RH M' → RF M' → M' 598 131 = M0 598 131 - 1 → (∀ (a : Nat) (i : Int), a ≠ 598 → a ≠ 686 → M' a i = M0 a i) → (∀ (i : Int), i ≠ 131 → i ≠ 135 → M' 598 i = M0 598 i) → Q none M') : ∀ (M : jm) (x : Int), RI M → RH M → RF M → (∀ (a : Nat) (i : Int), a ≠ 598 → a ≠ 686 → M a i = M0 a i) → (∀ (i : Int), i ≠ 131 → i ≠ 135 → M 598 i = M0 598 i) → (-9223372036854775808) ≤ x ∧ x ≤ 9223372036854775807 → 1 ≤ M 598 131 ∧ M 598 131 ≤ 250 ∧ M 598 131 = M0 598 131 - 1 → jr A 0 xm_382 291 [(4, .long (Int64.ofInt (x))), (0, .ref (598))] [] M Q := by
    intro M x hI_M hH_M hS_M hF_M hG_M h_x hy0
    refine jr.aload_n rfl rfl ?_
    refine jr.getf (i := 130) (v := .ref 686) rfl rfl (nlt rfl) rfl (nlt rfl) rfl rfl rfl rfl ?_
    refine jr.aload_n rfl rfl ?_
    obtain ⟨v1, e1⟩ : ∃ z, M 598 131 = z := ⟨_, rfl⟩
    have b1 : 0 ≤ v1 ∧ v1 ≤ 400 := by rw [← e1]; exact hI_M 598 131 (Nat.le_of_ble_eq_true rfl)
    refine jr.getf (i := 131) (x := v1) (v := .int (Int32.ofInt (v1))) rfl rfl (nlt rfl) rfl (nlt rfl) rfl rfl e1 rfl ?_
    refine jr.iconst rfl ?_
    refine jr.isub rfl ?_
    refine jr.lload rfl rfl ?_
    refine jr.last (i := (v1 - 1)) (x := x) rfl (nlt rfl) rfl (Nat.le_of_ble_eq_true rfl) (by omega) (by omega) ?_
    have y2 : (ju M 686 (v1 - 1) x) 598 131 = v1 := ((ju_c _ _ (by decide)).trans e1)
    exact jr.vreturn rfl rfl (q _ (RI.u hI_M (a := 686) (i := (v1 - 1)) (by rw [xri_row rfl rfl]; show (-9223372036854775808 : Int) ≤ _ ∧ _ ≤ (9223372036854775807 : Int); omega)) (RH.o hH_M (by decide) (by decide) (by decide)) (RF.o hS_M (by decide) (by decide))  (by omega) (fun a i f598 f686 => ((ju_c _ _ f686).trans (hF_M a i f598 f686))) (fun i g131 g135 => ((ju_c _ _ (by decide)).trans (hG_M i g131 g135))))
theorem r_bySign {A : Nat → Option (Nat × (Nat → Int32))} {Q : Option Value → jm → Prop} {M : jm} (hI_M : RI M) (hH_M : RH M) (hS_M : RF M) {s : Int} (h_s : 0 ≤ s ∧ s ≤ 300) (p0 : 2 ≤ M 598 131 ∧ M 598 131 ≤ 250) (q : ∀ (M' : jm), RI M' → RH M' → RF M' → M' 598 131 = M 598 131 - 1 → (∀ (a : Nat) (i : Int), a ≠ 598 → a ≠ 686 → M' a i = M a i) → (∀ (i : Int), i ≠ 131 → i ≠ 135 → M' 598 i = M 598 i) → Q none M') : jc A 1 382 [.ref (598), .int (Int32.ofInt (s))] M Q := by
  refine jc_of (m := xm_382) rfl (Nat.le_of_ble_eq_true rfl) rfl ?_
  refine jr.aload_n rfl rfl ?_
  refine jr.dup rfl rfl ?_
  obtain ⟨v1, e1⟩ : ∃ z, M 598 131 = z := ⟨_, rfl⟩
  have b1 : 0 ≤ v1 ∧ v1 ≤ 400 := by rw [← e1]; exact hI_M 598 131 (Nat.le_of_ble_eq_true rfl)
  refine jr.getf (i := 131) (x := v1) (v := .int (Int32.ofInt (v1))) rfl rfl (nlt rfl) rfl (nlt rfl) rfl rfl e1 rfl ?_
  refine jr.iconst rfl ?_
  refine jr.isub rfl ?_
  refine jr.putf (i := 131) (x := (v1 - 1)) rfl rfl (nlt rfl) rfl (nlt rfl) rfl rfl rfl rfl rfl ?_
  refine jr.aload_n rfl rfl ?_
  refine jr.getf (i := 130) (v := .ref 686) rfl rfl (nlt rfl) rfl (nlt rfl) rfl rfl rfl rfl ?_
  refine jr.aload_n rfl rfl ?_
  refine jr.getf (i := 131) (x := (v1 - 1)) (v := .int (Int32.ofInt (v1 - 1))) rfl rfl (nlt rfl) rfl (nlt rfl) rfl rfl (ju_same _ _ _ _) rfl ?_
  obtain ⟨v2, e2⟩ : ∃ z, M 686 (v1 - 1) = z := ⟨_, rfl⟩
  have b2 : (-9223372036854775808) ≤ v2 ∧ v2 ≤ 9223372036854775807 := by rw [← e2]; exact (by have q := hI_M 686 (v1 - 1) (Nat.le_of_ble_eq_true rfl); rw [xri_row rfl rfl] at q; exact q)
  refine jr.lald (i := (v1 - 1)) (x := v2) rfl (nlt rfl) rfl (Nat.le_of_ble_eq_true rfl) (by omega) (by omega) ((ju_c _ _ (by decide)).trans e2) ?_
  refine jr.lstore_n (ls' := [_, _, _]) rfl (nlt rfl) rfl ?_
  refine jr.aload_n rfl rfl ?_
  refine jr.getf (i := 130) (v := .ref 686) rfl rfl (nlt rfl) rfl (nlt rfl) rfl rfl rfl rfl ?_
  refine jr.aload_n rfl rfl ?_
  refine jr.getf (i := 131) (x := (v1 - 1)) (v := .int (Int32.ofInt (v1 - 1))) rfl rfl (nlt rfl) rfl (nlt rfl) rfl rfl (ju_same _ _ _ _) rfl ?_
  refine jr.iconst rfl ?_
  refine jr.isub rfl ?_
  obtain ⟨v3, e3⟩ : ∃ z, M 686 ((v1 - 1) - 1) = z := ⟨_, rfl⟩
  have b3 : (-9223372036854775808) ≤ v3 ∧ v3 ≤ 9223372036854775807 := by rw [← e3]; exact (by have q := hI_M 686 ((v1 - 1) - 1) (by decide); rw [xri_row rfl rfl] at q; exact q)
  refine jr.lald (i := ((v1 - 1) - 1)) (x := v3) rfl (nlt rfl) rfl (Nat.le_of_ble_eq_true rfl) (by omega) (by omega) ((ju_c _ _ (by decide)).trans e3) ?_
  refine jr.lstore (ls' := [_, _, _, _]) rfl (nlt rfl) rfl ?_
  refine jr.iload_n rfl rfl ?_
  refine jr.bipush rfl (jbp _ (nlt rfl)) ?_
  refine jr.icmp_eq rfl rfl (by first | (refine rgb (by assumption) ?_; exact rfl) | omega) (rgl rfl) (fun h36 => ?_) (fun h36 => ?_)
  · refine jr.lload_n rfl rfl ?_
    refine jr.lconst (x := 0) rfl (by decide) ?_
    refine jr.lcmp_ne rfl rfl rfl (by omega) (by omega) (fun h47 => ?_) (fun h47 => ?_)
    · refine jr.iload_n rfl rfl ?_
      rcases (show s = 47 by omega) with h59
      · refine jr.tsw_k 47 rfl h59 rfl ?_
        refine jr.lload_n rfl rfl ?_
        refine jr.ldc2 (x := (-1)) rfl rfl (by decide) ?_
        refine jr.lcmp_ne rfl rfl rfl (by omega) (by omega) (fun h203 => ?_) (fun h203 => ?_)
        · refine jr.lload rfl rfl ?_
          refine jr.lload_n rfl rfl ?_
          refine jr.ldiv rfl (jl_nz (by omega)) ?_
          have b4 : -9223372036854775808 ≤ jl_div v3 v2 ∧ jl_div v3 v2 ≤ 9223372036854775807 := jbl_any _
          generalize jl_div v3 v2 = v4 at b4 ⊢
          refine jr.lstore (ls' := [_, _, _, _]) rfl (nlt rfl) rfl ?_
          refine jr.goto rfl rfl ?_
          refine jr.pick (ls := [_, _]) [0, 2] rfl rfl ?_
          exact r_bySign_L291 q (ju M 598 131 (v1 - 1)) v4 (RI.u hI_M (a := 598) (i := 131) (show (0 : Int) ≤ _ ∧ _ ≤ (400 : Int) from by omega)) (RH.o hH_M (by decide) (by decide) (by decide)) (RF.o hS_M (by decide) (by decide))  (fun a i f598 f686 => ((ju_c _ _ f598).trans rfl)) (fun i g131 g135 => ((ju_i _ _ g131).trans rfl)) (by omega) (by rw [(ju_same _ _ _ _)] <;> omega)
        · refine jr.lload rfl rfl ?_
          refine jr.lneg rfl ?_
          refine jr.lw (jl_w (-v3)) (jl_w_eq _) ?_
          have b5 : -9223372036854775808 ≤ jl_w (-v3) ∧ jl_w (-v3) ≤ 9223372036854775807 := jbl_any _
          generalize jl_w (-v3) = v5 at b5 ⊢
          refine jr.goto rfl rfl ?_
          refine jr.lstore (ls' := [_, _, _, _]) rfl (nlt rfl) rfl ?_
          refine jr.goto rfl rfl ?_
          refine jr.pick (ls := [_, _]) [0, 2] rfl rfl ?_
          exact r_bySign_L291 q (ju M 598 131 (v1 - 1)) v5 (RI.u hI_M (a := 598) (i := 131) (show (0 : Int) ≤ _ ∧ _ ≤ (400 : Int) from by omega)) (RH.o hH_M (by decide) (by decide) (by decide)) (RF.o hS_M (by decide) (by decide))  (fun a i f598 f686 => ((ju_c _ _ f598).trans rfl)) (fun i g131 g135 => ((ju_i _ _ g131).trans rfl)) (by omega) (by rw [(ju_same _ _ _ _)] <;> omega)
    · refine jr.aload_n rfl rfl ?_
      refine jr.bipush rfl (jbp _ (nlt rfl)) ?_
      refine jr.putf (i := 135) (x := 6) rfl rfl (nlt rfl) rfl (nlt rfl) rfl rfl rfl rfl rfl ?_
      have y6 : (ju (ju M 598 131 (v1 - 1)) 598 135 6) 598 131 = v1 - 1 := ((ju_i _ _ (zne (by decide))).trans (ju_same _ _ _ _))
      exact jr.vreturn rfl rfl (q _ (RI.u (RI.u hI_M (a := 598) (i := 131) (show (0 : Int) ≤ _ ∧ _ ≤ (400 : Int) from by omega)) (a := 598) (i := 135) (show (0 : Int) ≤ _ ∧ _ ≤ (8 : Int) from by omega)) (RH.o (RH.o hH_M (by decide) (by decide) (by decide)) (by decide) (by decide) (by decide)) (RF.o (RF.o hS_M (by decide) (by decide)) (by decide) (by decide))  (by omega) (fun a i f598 f686 => ((ju_c _ _ f598).trans ((ju_c _ _ f598).trans rfl))) (fun i g131 g135 => ((ju_i _ _ g135).trans ((ju_i _ _ g131).trans rfl))))
  · refine jr.iload_n rfl rfl ?_
    refine jr.bipush rfl (jbp _ (nlt rfl)) ?_
    refine jr.icmp_ne rfl rfl (by first | (refine rgb (by assumption) ?_; exact rfl) | omega) (rgl rfl) (fun h42 => ?_) (fun h42 => ?_)
    · refine jr.iload_n rfl rfl ?_
      rcases (show s = 37 ∨ s = 38 ∨ s = 39 ∨ s = 40 ∨ s = 41 ∨ s = 42 ∨ s = 43 ∨ s = 44 ∨ s = 45 ∨ s = 46 ∨ s = 47 ∨ s = 48 ∨ s = 49 ∨ s = 50 ∨ s = 51 ∨ s = 52 ∨ s = 53 ∨ s = 54 ∨ s = 55 ∨ s = 56 ∨ s = 57 ∨ s = 58 ∨ s = 59 ∨ s = 60 ∨ s = 61 ∨ (s ≠ 37 ∧ s ≠ 38 ∧ s ≠ 39 ∧ s ≠ 40 ∧ s ≠ 41 ∧ s ≠ 42 ∧ s ≠ 43 ∧ s ≠ 44 ∧ s ≠ 45 ∧ s ≠ 46 ∧ s ≠ 47 ∧ s ≠ 48 ∧ s ≠ 49 ∧ s ≠ 50 ∧ s ≠ 51 ∧ s ≠ 52 ∧ s ≠ 53 ∧ s ≠ 54 ∧ s ≠ 55 ∧ s ≠ 56 ∧ s ≠ 57 ∧ s ≠ 58 ∧ s ≠ 59 ∧ s ≠ 60 ∧ s ≠ 61) by omega) with h59 | h59 | h59 | h59 | h59 | h59 | h59 | h59 | h59 | h59 | h59 | h59 | h59 | h59 | h59 | h59 | h59 | h59 | h59 | h59 | h59 | h59 | h59 | h59 | h59 | h59
      · refine jr.tsw_k 37 rfl h59 rfl ?_
        refine jr.lload_n rfl rfl ?_
        refine jr.ldc2 (x := (-1)) rfl rfl (by decide) ?_
        refine jr.lcmp_ne rfl rfl rfl (by omega) (by omega) (fun h226 => ?_) (fun h226 => ?_)
        · refine jr.lload rfl rfl ?_
          refine jr.lload_n rfl rfl ?_
          refine jr.lrem rfl (jl_nz (by omega)) ?_
          have b7 : -9223372036854775808 ≤ jl_rem v3 v2 ∧ jl_rem v3 v2 ≤ 9223372036854775807 := jbl_any _
          generalize jl_rem v3 v2 = v7 at b7 ⊢
          refine jr.lstore (ls' := [_, _, _, _]) rfl (nlt rfl) rfl ?_
          refine jr.goto rfl rfl ?_
          refine jr.pick (ls := [_, _]) [0, 2] rfl rfl ?_
          exact r_bySign_L291 q (ju M 598 131 (v1 - 1)) v7 (RI.u hI_M (a := 598) (i := 131) (show (0 : Int) ≤ _ ∧ _ ≤ (400 : Int) from by omega)) (RH.o hH_M (by decide) (by decide) (by decide)) (RF.o hS_M (by decide) (by decide))  (fun a i f598 f686 => ((ju_c _ _ f598).trans rfl)) (fun i g131 g135 => ((ju_i _ _ g131).trans rfl)) (by omega) (by rw [(ju_same _ _ _ _)] <;> omega)
        · refine jr.lconst (x := 0) rfl (by decide) ?_
          refine jr.goto rfl rfl ?_
          refine jr.lstore (ls' := [_, _, _, _]) rfl (nlt rfl) rfl ?_
          refine jr.goto rfl rfl ?_
          refine jr.pick (ls := [_, _]) [0, 2] rfl rfl ?_
          exact r_bySign_L291 q (ju M 598 131 (v1 - 1)) 0 (RI.u hI_M (a := 598) (i := 131) (show (0 : Int) ≤ _ ∧ _ ≤ (400 : Int) from by omega)) (RH.o hH_M (by decide) (by decide) (by decide)) (RF.o hS_M (by decide) (by decide))  (fun a i f598 f686 => ((ju_c _ _ f598).trans rfl)) (fun i g131 g135 => ((ju_i _ _ g131).trans rfl)) (by omega) (by rw [(ju_same _ _ _ _)] <;> omega)
      · refine jr.tsw_k 38 rfl h59 rfl ?_
        refine jr.lload rfl rfl ?_
        refine jr.lload_n rfl rfl ?_
        refine jr.lcmp_le rfl rfl rfl (by omega) (by omega) (fun h280 => ?_) (fun h280 => ?_)
        · refine jr.lconst (x := 0) rfl (by decide) ?_
          refine jr.lstore (ls' := [_, _, _, _]) rfl (nlt rfl) rfl ?_
          refine jr.pick (ls := [_, _]) [0, 2] rfl rfl ?_
          exact r_bySign_L291 q (ju M 598 131 (v1 - 1)) 0 (RI.u hI_M (a := 598) (i := 131) (show (0 : Int) ≤ _ ∧ _ ≤ (400 : Int) from by omega)) (RH.o hH_M (by decide) (by decide) (by decide)) (RF.o hS_M (by decide) (by decide))  (fun a i f598 f686 => ((ju_c _ _ f598).trans rfl)) (fun i g131 g135 => ((ju_i _ _ g131).trans rfl)) (by omega) (by rw [(ju_same _ _ _ _)] <;> omega)
        · refine jr.lconst (x := 1) rfl (by decide) ?_
          refine jr.goto rfl rfl ?_
          refine jr.lstore (ls' := [_, _, _, _]) rfl (nlt rfl) rfl ?_
          refine jr.pick (ls := [_, _]) [0, 2] rfl rfl ?_
          exact r_bySign_L291 q (ju M 598 131 (v1 - 1)) 1 (RI.u hI_M (a := 598) (i := 131) (show (0 : Int) ≤ _ ∧ _ ≤ (400 : Int) from by omega)) (RH.o hH_M (by decide) (by decide) (by decide)) (RF.o hS_M (by decide) (by decide))  (fun a i f598 f686 => ((ju_c _ _ f598).trans rfl)) (fun i g131 g135 => ((ju_i _ _ g131).trans rfl)) (by omega) (by rw [(ju_same _ _ _ _)] <;> omega)
      · refine jr.tsw_k 39 rfl h59 rfl ?_
        refine jr.lload rfl rfl ?_
        refine jr.lload_n rfl rfl ?_
        refine jr.lcmp_le rfl rfl rfl (by omega) (by omega) (fun h280 => ?_) (fun h280 => ?_)
        · refine jr.lconst (x := 0) rfl (by decide) ?_
          refine jr.lstore (ls' := [_, _, _, _]) rfl (nlt rfl) rfl ?_
          refine jr.pick (ls := [_, _]) [0, 2] rfl rfl ?_
          exact r_bySign_L291 q (ju M 598 131 (v1 - 1)) 0 (RI.u hI_M (a := 598) (i := 131) (show (0 : Int) ≤ _ ∧ _ ≤ (400 : Int) from by omega)) (RH.o hH_M (by decide) (by decide) (by decide)) (RF.o hS_M (by decide) (by decide))  (fun a i f598 f686 => ((ju_c _ _ f598).trans rfl)) (fun i g131 g135 => ((ju_i _ _ g131).trans rfl)) (by omega) (by rw [(ju_same _ _ _ _)] <;> omega)
        · refine jr.lconst (x := 1) rfl (by decide) ?_
          refine jr.goto rfl rfl ?_
          refine jr.lstore (ls' := [_, _, _, _]) rfl (nlt rfl) rfl ?_
          refine jr.pick (ls := [_, _]) [0, 2] rfl rfl ?_
          exact r_bySign_L291 q (ju M 598 131 (v1 - 1)) 1 (RI.u hI_M (a := 598) (i := 131) (show (0 : Int) ≤ _ ∧ _ ≤ (400 : Int) from by omega)) (RH.o hH_M (by decide) (by decide) (by decide)) (RF.o hS_M (by decide) (by decide))  (fun a i f598 f686 => ((ju_c _ _ f598).trans rfl)) (fun i g131 g135 => ((ju_i _ _ g131).trans rfl)) (by omega) (by rw [(ju_same _ _ _ _)] <;> omega)
      · refine jr.tsw_k 40 rfl h59 rfl ?_
        refine jr.lload rfl rfl ?_
        refine jr.lload_n rfl rfl ?_
        refine jr.lcmp_le rfl rfl rfl (by omega) (by omega) (fun h280 => ?_) (fun h280 => ?_)
        · refine jr.lconst (x := 0) rfl (by decide) ?_
          refine jr.lstore (ls' := [_, _, _, _]) rfl (nlt rfl) rfl ?_
          refine jr.pick (ls := [_, _]) [0, 2] rfl rfl ?_
          exact r_bySign_L291 q (ju M 598 131 (v1 - 1)) 0 (RI.u hI_M (a := 598) (i := 131) (show (0 : Int) ≤ _ ∧ _ ≤ (400 : Int) from by omega)) (RH.o hH_M (by decide) (by decide) (by decide)) (RF.o hS_M (by decide) (by decide))  (fun a i f598 f686 => ((ju_c _ _ f598).trans rfl)) (fun i g131 g135 => ((ju_i _ _ g131).trans rfl)) (by omega) (by rw [(ju_same _ _ _ _)] <;> omega)
        · refine jr.lconst (x := 1) rfl (by decide) ?_
          refine jr.goto rfl rfl ?_
          refine jr.lstore (ls' := [_, _, _, _]) rfl (nlt rfl) rfl ?_
          refine jr.pick (ls := [_, _]) [0, 2] rfl rfl ?_
          exact r_bySign_L291 q (ju M 598 131 (v1 - 1)) 1 (RI.u hI_M (a := 598) (i := 131) (show (0 : Int) ≤ _ ∧ _ ≤ (400 : Int) from by omega)) (RH.o hH_M (by decide) (by decide) (by decide)) (RF.o hS_M (by decide) (by decide))  (fun a i f598 f686 => ((ju_c _ _ f598).trans rfl)) (fun i g131 g135 => ((ju_i _ _ g131).trans rfl)) (by omega) (by rw [(ju_same _ _ _ _)] <;> omega)
      · refine jr.tsw_k 41 rfl h59 rfl ?_
        refine jr.lload rfl rfl ?_
        refine jr.lload_n rfl rfl ?_
        refine jr.lcmp_le rfl rfl rfl (by omega) (by omega) (fun h280 => ?_) (fun h280 => ?_)
        · refine jr.lconst (x := 0) rfl (by decide) ?_
          refine jr.lstore (ls' := [_, _, _, _]) rfl (nlt rfl) rfl ?_
          refine jr.pick (ls := [_, _]) [0, 2] rfl rfl ?_
          exact r_bySign_L291 q (ju M 598 131 (v1 - 1)) 0 (RI.u hI_M (a := 598) (i := 131) (show (0 : Int) ≤ _ ∧ _ ≤ (400 : Int) from by omega)) (RH.o hH_M (by decide) (by decide) (by decide)) (RF.o hS_M (by decide) (by decide))  (fun a i f598 f686 => ((ju_c _ _ f598).trans rfl)) (fun i g131 g135 => ((ju_i _ _ g131).trans rfl)) (by omega) (by rw [(ju_same _ _ _ _)] <;> omega)
        · refine jr.lconst (x := 1) rfl (by decide) ?_
          refine jr.goto rfl rfl ?_
          refine jr.lstore (ls' := [_, _, _, _]) rfl (nlt rfl) rfl ?_
          refine jr.pick (ls := [_, _]) [0, 2] rfl rfl ?_
          exact r_bySign_L291 q (ju M 598 131 (v1 - 1)) 1 (RI.u hI_M (a := 598) (i := 131) (show (0 : Int) ≤ _ ∧ _ ≤ (400 : Int) from by omega)) (RH.o hH_M (by decide) (by decide) (by decide)) (RF.o hS_M (by decide) (by decide))  (fun a i f598 f686 => ((ju_c _ _ f598).trans rfl)) (fun i g131 g135 => ((ju_i _ _ g131).trans rfl)) (by omega) (by rw [(ju_same _ _ _ _)] <;> omega)
      · refine jr.tsw_k 42 rfl h59 rfl ?_
        refine jr.lload rfl rfl ?_
        refine jr.lload_n rfl rfl ?_
        refine jr.lmul rfl ?_
        refine jr.lw (jl_w (v3 * v2)) (jl_w_eq _) ?_
        have b8 : -9223372036854775808 ≤ jl_w (v3 * v2) ∧ jl_w (v3 * v2) ≤ 9223372036854775807 := jbl_any _
        generalize jl_w (v3 * v2) = v8 at b8 ⊢
        refine jr.lstore (ls' := [_, _, _, _]) rfl (nlt rfl) rfl ?_
        refine jr.goto rfl rfl ?_
        refine jr.pick (ls := [_, _]) [0, 2] rfl rfl ?_
        exact r_bySign_L291 q (ju M 598 131 (v1 - 1)) v8 (RI.u hI_M (a := 598) (i := 131) (show (0 : Int) ≤ _ ∧ _ ≤ (400 : Int) from by omega)) (RH.o hH_M (by decide) (by decide) (by decide)) (RF.o hS_M (by decide) (by decide))  (fun a i f598 f686 => ((ju_c _ _ f598).trans rfl)) (fun i g131 g135 => ((ju_i _ _ g131).trans rfl)) (by omega) (by rw [(ju_same _ _ _ _)] <;> omega)
      · refine jr.tsw_k 43 rfl h59 rfl ?_
        refine jr.lload rfl rfl ?_
        refine jr.lload_n rfl rfl ?_
        refine jr.ladd rfl ?_
        refine jr.lw (jl_w (v3 + v2)) (jl_w_eq _) ?_
        have b9 : -9223372036854775808 ≤ jl_w (v3 + v2) ∧ jl_w (v3 + v2) ≤ 9223372036854775807 := jbl_any _
        generalize jl_w (v3 + v2) = v9 at b9 ⊢
        refine jr.lstore (ls' := [_, _, _, _]) rfl (nlt rfl) rfl ?_
        refine jr.goto rfl rfl ?_
        refine jr.pick (ls := [_, _]) [0, 2] rfl rfl ?_
        exact r_bySign_L291 q (ju M 598 131 (v1 - 1)) v9 (RI.u hI_M (a := 598) (i := 131) (show (0 : Int) ≤ _ ∧ _ ≤ (400 : Int) from by omega)) (RH.o hH_M (by decide) (by decide) (by decide)) (RF.o hS_M (by decide) (by decide))  (fun a i f598 f686 => ((ju_c _ _ f598).trans rfl)) (fun i g131 g135 => ((ju_i _ _ g131).trans rfl)) (by omega) (by rw [(ju_same _ _ _ _)] <;> omega)
      · refine jr.tsw_k 44 rfl h59 rfl ?_
        refine jr.lload rfl rfl ?_
        refine jr.lload_n rfl rfl ?_
        refine jr.lcmp_le rfl rfl rfl (by omega) (by omega) (fun h280 => ?_) (fun h280 => ?_)
        · refine jr.lconst (x := 0) rfl (by decide) ?_
          refine jr.lstore (ls' := [_, _, _, _]) rfl (nlt rfl) rfl ?_
          refine jr.pick (ls := [_, _]) [0, 2] rfl rfl ?_
          exact r_bySign_L291 q (ju M 598 131 (v1 - 1)) 0 (RI.u hI_M (a := 598) (i := 131) (show (0 : Int) ≤ _ ∧ _ ≤ (400 : Int) from by omega)) (RH.o hH_M (by decide) (by decide) (by decide)) (RF.o hS_M (by decide) (by decide))  (fun a i f598 f686 => ((ju_c _ _ f598).trans rfl)) (fun i g131 g135 => ((ju_i _ _ g131).trans rfl)) (by omega) (by rw [(ju_same _ _ _ _)] <;> omega)
        · refine jr.lconst (x := 1) rfl (by decide) ?_
          refine jr.goto rfl rfl ?_
          refine jr.lstore (ls' := [_, _, _, _]) rfl (nlt rfl) rfl ?_
          refine jr.pick (ls := [_, _]) [0, 2] rfl rfl ?_
          exact r_bySign_L291 q (ju M 598 131 (v1 - 1)) 1 (RI.u hI_M (a := 598) (i := 131) (show (0 : Int) ≤ _ ∧ _ ≤ (400 : Int) from by omega)) (RH.o hH_M (by decide) (by decide) (by decide)) (RF.o hS_M (by decide) (by decide))  (fun a i f598 f686 => ((ju_c _ _ f598).trans rfl)) (fun i g131 g135 => ((ju_i _ _ g131).trans rfl)) (by omega) (by rw [(ju_same _ _ _ _)] <;> omega)
      · refine jr.tsw_k 45 rfl h59 rfl ?_
        refine jr.lload rfl rfl ?_
        refine jr.lload_n rfl rfl ?_
        refine jr.lsub rfl ?_
        refine jr.lw (jl_w (v3 - v2)) (jl_w_eq _) ?_
        have b10 : -9223372036854775808 ≤ jl_w (v3 - v2) ∧ jl_w (v3 - v2) ≤ 9223372036854775807 := jbl_any _
        generalize jl_w (v3 - v2) = v10 at b10 ⊢
        refine jr.lstore (ls' := [_, _, _, _]) rfl (nlt rfl) rfl ?_
        refine jr.goto rfl rfl ?_
        refine jr.pick (ls := [_, _]) [0, 2] rfl rfl ?_
        exact r_bySign_L291 q (ju M 598 131 (v1 - 1)) v10 (RI.u hI_M (a := 598) (i := 131) (show (0 : Int) ≤ _ ∧ _ ≤ (400 : Int) from by omega)) (RH.o hH_M (by decide) (by decide) (by decide)) (RF.o hS_M (by decide) (by decide))  (fun a i f598 f686 => ((ju_c _ _ f598).trans rfl)) (fun i g131 g135 => ((ju_i _ _ g131).trans rfl)) (by omega) (by rw [(ju_same _ _ _ _)] <;> omega)
      · refine jr.tsw_k 46 rfl h59 rfl ?_
        refine jr.lload rfl rfl ?_
        refine jr.lload_n rfl rfl ?_
        refine jr.lcmp_le rfl rfl rfl (by omega) (by omega) (fun h280 => ?_) (fun h280 => ?_)
        · refine jr.lconst (x := 0) rfl (by decide) ?_
          refine jr.lstore (ls' := [_, _, _, _]) rfl (nlt rfl) rfl ?_
          refine jr.pick (ls := [_, _]) [0, 2] rfl rfl ?_
          exact r_bySign_L291 q (ju M 598 131 (v1 - 1)) 0 (RI.u hI_M (a := 598) (i := 131) (show (0 : Int) ≤ _ ∧ _ ≤ (400 : Int) from by omega)) (RH.o hH_M (by decide) (by decide) (by decide)) (RF.o hS_M (by decide) (by decide))  (fun a i f598 f686 => ((ju_c _ _ f598).trans rfl)) (fun i g131 g135 => ((ju_i _ _ g131).trans rfl)) (by omega) (by rw [(ju_same _ _ _ _)] <;> omega)
        · refine jr.lconst (x := 1) rfl (by decide) ?_
          refine jr.goto rfl rfl ?_
          refine jr.lstore (ls' := [_, _, _, _]) rfl (nlt rfl) rfl ?_
          refine jr.pick (ls := [_, _]) [0, 2] rfl rfl ?_
          exact r_bySign_L291 q (ju M 598 131 (v1 - 1)) 1 (RI.u hI_M (a := 598) (i := 131) (show (0 : Int) ≤ _ ∧ _ ≤ (400 : Int) from by omega)) (RH.o hH_M (by decide) (by decide) (by decide)) (RF.o hS_M (by decide) (by decide))  (fun a i f598 f686 => ((ju_c _ _ f598).trans rfl)) (fun i g131 g135 => ((ju_i _ _ g131).trans rfl)) (by omega) (by rw [(ju_same _ _ _ _)] <;> omega)
      · refine jr.tsw_k 47 rfl h59 rfl ?_
        refine jr.lload_n rfl rfl ?_
        refine jr.ldc2 (x := (-1)) rfl rfl (by decide) ?_
        refine jr.lcmp_ne rfl rfl rfl (by omega) (by omega) (fun h203 => ?_) (fun h203 => ?_)
        · refine jr.lload rfl rfl ?_
          refine jr.lload_n rfl rfl ?_
          refine jr.ldiv rfl (jl_nz (by omega)) ?_
          have b11 : -9223372036854775808 ≤ jl_div v3 v2 ∧ jl_div v3 v2 ≤ 9223372036854775807 := jbl_any _
          generalize jl_div v3 v2 = v11 at b11 ⊢
          refine jr.lstore (ls' := [_, _, _, _]) rfl (nlt rfl) rfl ?_
          refine jr.goto rfl rfl ?_
          refine jr.pick (ls := [_, _]) [0, 2] rfl rfl ?_
          exact r_bySign_L291 q (ju M 598 131 (v1 - 1)) v11 (RI.u hI_M (a := 598) (i := 131) (show (0 : Int) ≤ _ ∧ _ ≤ (400 : Int) from by omega)) (RH.o hH_M (by decide) (by decide) (by decide)) (RF.o hS_M (by decide) (by decide))  (fun a i f598 f686 => ((ju_c _ _ f598).trans rfl)) (fun i g131 g135 => ((ju_i _ _ g131).trans rfl)) (by omega) (by rw [(ju_same _ _ _ _)] <;> omega)
        · refine jr.lload rfl rfl ?_
          refine jr.lneg rfl ?_
          refine jr.lw (jl_w (-v3)) (jl_w_eq _) ?_
          have b12 : -9223372036854775808 ≤ jl_w (-v3) ∧ jl_w (-v3) ≤ 9223372036854775807 := jbl_any _
          generalize jl_w (-v3) = v12 at b12 ⊢
          refine jr.goto rfl rfl ?_
          refine jr.lstore (ls' := [_, _, _, _]) rfl (nlt rfl) rfl ?_
          refine jr.goto rfl rfl ?_
          refine jr.pick (ls := [_, _]) [0, 2] rfl rfl ?_
          exact r_bySign_L291 q (ju M 598 131 (v1 - 1)) v12 (RI.u hI_M (a := 598) (i := 131) (show (0 : Int) ≤ _ ∧ _ ≤ (400 : Int) from by omega)) (RH.o hH_M (by decide) (by decide) (by decide)) (RF.o hS_M (by decide) (by decide))  (fun a i f598 f686 => ((ju_c _ _ f598).trans rfl)) (fun i g131 g135 => ((ju_i _ _ g131).trans rfl)) (by omega) (by rw [(ju_same _ _ _ _)] <;> omega)
      · refine jr.tsw_k 48 rfl h59 rfl ?_
        refine jr.lload rfl rfl ?_
        refine jr.lload_n rfl rfl ?_
        refine jr.lcmp_le rfl rfl rfl (by omega) (by omega) (fun h280 => ?_) (fun h280 => ?_)
        · refine jr.lconst (x := 0) rfl (by decide) ?_
          refine jr.lstore (ls' := [_, _, _, _]) rfl (nlt rfl) rfl ?_
          refine jr.pick (ls := [_, _]) [0, 2] rfl rfl ?_
          exact r_bySign_L291 q (ju M 598 131 (v1 - 1)) 0 (RI.u hI_M (a := 598) (i := 131) (show (0 : Int) ≤ _ ∧ _ ≤ (400 : Int) from by omega)) (RH.o hH_M (by decide) (by decide) (by decide)) (RF.o hS_M (by decide) (by decide))  (fun a i f598 f686 => ((ju_c _ _ f598).trans rfl)) (fun i g131 g135 => ((ju_i _ _ g131).trans rfl)) (by omega) (by rw [(ju_same _ _ _ _)] <;> omega)
        · refine jr.lconst (x := 1) rfl (by decide) ?_
          refine jr.goto rfl rfl ?_
          refine jr.lstore (ls' := [_, _, _, _]) rfl (nlt rfl) rfl ?_
          refine jr.pick (ls := [_, _]) [0, 2] rfl rfl ?_
          exact r_bySign_L291 q (ju M 598 131 (v1 - 1)) 1 (RI.u hI_M (a := 598) (i := 131) (show (0 : Int) ≤ _ ∧ _ ≤ (400 : Int) from by omega)) (RH.o hH_M (by decide) (by decide) (by decide)) (RF.o hS_M (by decide) (by decide))  (fun a i f598 f686 => ((ju_c _ _ f598).trans rfl)) (fun i g131 g135 => ((ju_i _ _ g131).trans rfl)) (by omega) (by rw [(ju_same _ _ _ _)] <;> omega)
      · refine jr.tsw_k 49 rfl h59 rfl ?_
        refine jr.lload rfl rfl ?_
        refine jr.lload_n rfl rfl ?_
        refine jr.lcmp_le rfl rfl rfl (by omega) (by omega) (fun h280 => ?_) (fun h280 => ?_)
        · refine jr.lconst (x := 0) rfl (by decide) ?_
          refine jr.lstore (ls' := [_, _, _, _]) rfl (nlt rfl) rfl ?_
          refine jr.pick (ls := [_, _]) [0, 2] rfl rfl ?_
          exact r_bySign_L291 q (ju M 598 131 (v1 - 1)) 0 (RI.u hI_M (a := 598) (i := 131) (show (0 : Int) ≤ _ ∧ _ ≤ (400 : Int) from by omega)) (RH.o hH_M (by decide) (by decide) (by decide)) (RF.o hS_M (by decide) (by decide))  (fun a i f598 f686 => ((ju_c _ _ f598).trans rfl)) (fun i g131 g135 => ((ju_i _ _ g131).trans rfl)) (by omega) (by rw [(ju_same _ _ _ _)] <;> omega)
        · refine jr.lconst (x := 1) rfl (by decide) ?_
          refine jr.goto rfl rfl ?_
          refine jr.lstore (ls' := [_, _, _, _]) rfl (nlt rfl) rfl ?_
          refine jr.pick (ls := [_, _]) [0, 2] rfl rfl ?_
          exact r_bySign_L291 q (ju M 598 131 (v1 - 1)) 1 (RI.u hI_M (a := 598) (i := 131) (show (0 : Int) ≤ _ ∧ _ ≤ (400 : Int) from by omega)) (RH.o hH_M (by decide) (by decide) (by decide)) (RF.o hS_M (by decide) (by decide))  (fun a i f598 f686 => ((ju_c _ _ f598).trans rfl)) (fun i g131 g135 => ((ju_i _ _ g131).trans rfl)) (by omega) (by rw [(ju_same _ _ _ _)] <;> omega)
      · refine jr.tsw_k 50 rfl h59 rfl ?_
        refine jr.lload rfl rfl ?_
        refine jr.lload_n rfl rfl ?_
        refine jr.lcmp_le rfl rfl rfl (by omega) (by omega) (fun h280 => ?_) (fun h280 => ?_)
        · refine jr.lconst (x := 0) rfl (by decide) ?_
          refine jr.lstore (ls' := [_, _, _, _]) rfl (nlt rfl) rfl ?_
          refine jr.pick (ls := [_, _]) [0, 2] rfl rfl ?_
          exact r_bySign_L291 q (ju M 598 131 (v1 - 1)) 0 (RI.u hI_M (a := 598) (i := 131) (show (0 : Int) ≤ _ ∧ _ ≤ (400 : Int) from by omega)) (RH.o hH_M (by decide) (by decide) (by decide)) (RF.o hS_M (by decide) (by decide))  (fun a i f598 f686 => ((ju_c _ _ f598).trans rfl)) (fun i g131 g135 => ((ju_i _ _ g131).trans rfl)) (by omega) (by rw [(ju_same _ _ _ _)] <;> omega)
        · refine jr.lconst (x := 1) rfl (by decide) ?_
          refine jr.goto rfl rfl ?_
          refine jr.lstore (ls' := [_, _, _, _]) rfl (nlt rfl) rfl ?_
          refine jr.pick (ls := [_, _]) [0, 2] rfl rfl ?_
          exact r_bySign_L291 q (ju M 598 131 (v1 - 1)) 1 (RI.u hI_M (a := 598) (i := 131) (show (0 : Int) ≤ _ ∧ _ ≤ (400 : Int) from by omega)) (RH.o hH_M (by decide) (by decide) (by decide)) (RF.o hS_M (by decide) (by decide))  (fun a i f598 f686 => ((ju_c _ _ f598).trans rfl)) (fun i g131 g135 => ((ju_i _ _ g131).trans rfl)) (by omega) (by rw [(ju_same _ _ _ _)] <;> omega)
      · refine jr.tsw_k 51 rfl h59 rfl ?_
        refine jr.lload rfl rfl ?_
        refine jr.lload_n rfl rfl ?_
        refine jr.lcmp_le rfl rfl rfl (by omega) (by omega) (fun h280 => ?_) (fun h280 => ?_)
        · refine jr.lconst (x := 0) rfl (by decide) ?_
          refine jr.lstore (ls' := [_, _, _, _]) rfl (nlt rfl) rfl ?_
          refine jr.pick (ls := [_, _]) [0, 2] rfl rfl ?_
          exact r_bySign_L291 q (ju M 598 131 (v1 - 1)) 0 (RI.u hI_M (a := 598) (i := 131) (show (0 : Int) ≤ _ ∧ _ ≤ (400 : Int) from by omega)) (RH.o hH_M (by decide) (by decide) (by decide)) (RF.o hS_M (by decide) (by decide))  (fun a i f598 f686 => ((ju_c _ _ f598).trans rfl)) (fun i g131 g135 => ((ju_i _ _ g131).trans rfl)) (by omega) (by rw [(ju_same _ _ _ _)] <;> omega)
        · refine jr.lconst (x := 1) rfl (by decide) ?_
          refine jr.goto rfl rfl ?_
          refine jr.lstore (ls' := [_, _, _, _]) rfl (nlt rfl) rfl ?_
          refine jr.pick (ls := [_, _]) [0, 2] rfl rfl ?_
          exact r_bySign_L291 q (ju M 598 131 (v1 - 1)) 1 (RI.u hI_M (a := 598) (i := 131) (show (0 : Int) ≤ _ ∧ _ ≤ (400 : Int) from by omega)) (RH.o hH_M (by decide) (by decide) (by decide)) (RF.o hS_M (by decide) (by decide))  (fun a i f598 f686 => ((ju_c _ _ f598).trans rfl)) (fun i g131 g135 => ((ju_i _ _ g131).trans rfl)) (by omega) (by rw [(ju_same _ _ _ _)] <;> omega)
      · refine jr.tsw_k 52 rfl h59 rfl ?_
        refine jr.lload rfl rfl ?_
        refine jr.lload_n rfl rfl ?_
        refine jr.lcmp_le rfl rfl rfl (by omega) (by omega) (fun h280 => ?_) (fun h280 => ?_)
        · refine jr.lconst (x := 0) rfl (by decide) ?_
          refine jr.lstore (ls' := [_, _, _, _]) rfl (nlt rfl) rfl ?_
          refine jr.pick (ls := [_, _]) [0, 2] rfl rfl ?_
          exact r_bySign_L291 q (ju M 598 131 (v1 - 1)) 0 (RI.u hI_M (a := 598) (i := 131) (show (0 : Int) ≤ _ ∧ _ ≤ (400 : Int) from by omega)) (RH.o hH_M (by decide) (by decide) (by decide)) (RF.o hS_M (by decide) (by decide))  (fun a i f598 f686 => ((ju_c _ _ f598).trans rfl)) (fun i g131 g135 => ((ju_i _ _ g131).trans rfl)) (by omega) (by rw [(ju_same _ _ _ _)] <;> omega)
        · refine jr.lconst (x := 1) rfl (by decide) ?_
          refine jr.goto rfl rfl ?_
          refine jr.lstore (ls' := [_, _, _, _]) rfl (nlt rfl) rfl ?_
          refine jr.pick (ls := [_, _]) [0, 2] rfl rfl ?_
          exact r_bySign_L291 q (ju M 598 131 (v1 - 1)) 1 (RI.u hI_M (a := 598) (i := 131) (show (0 : Int) ≤ _ ∧ _ ≤ (400 : Int) from by omega)) (RH.o hH_M (by decide) (by decide) (by decide)) (RF.o hS_M (by decide) (by decide))  (fun a i f598 f686 => ((ju_c _ _ f598).trans rfl)) (fun i g131 g135 => ((ju_i _ _ g131).trans rfl)) (by omega) (by rw [(ju_same _ _ _ _)] <;> omega)
      · refine jr.tsw_k 53 rfl h59 rfl ?_
        refine jr.lload rfl rfl ?_
        refine jr.lload_n rfl rfl ?_
        refine jr.lcmp_le rfl rfl rfl (by omega) (by omega) (fun h280 => ?_) (fun h280 => ?_)
        · refine jr.lconst (x := 0) rfl (by decide) ?_
          refine jr.lstore (ls' := [_, _, _, _]) rfl (nlt rfl) rfl ?_
          refine jr.pick (ls := [_, _]) [0, 2] rfl rfl ?_
          exact r_bySign_L291 q (ju M 598 131 (v1 - 1)) 0 (RI.u hI_M (a := 598) (i := 131) (show (0 : Int) ≤ _ ∧ _ ≤ (400 : Int) from by omega)) (RH.o hH_M (by decide) (by decide) (by decide)) (RF.o hS_M (by decide) (by decide))  (fun a i f598 f686 => ((ju_c _ _ f598).trans rfl)) (fun i g131 g135 => ((ju_i _ _ g131).trans rfl)) (by omega) (by rw [(ju_same _ _ _ _)] <;> omega)
        · refine jr.lconst (x := 1) rfl (by decide) ?_
          refine jr.goto rfl rfl ?_
          refine jr.lstore (ls' := [_, _, _, _]) rfl (nlt rfl) rfl ?_
          refine jr.pick (ls := [_, _]) [0, 2] rfl rfl ?_
          exact r_bySign_L291 q (ju M 598 131 (v1 - 1)) 1 (RI.u hI_M (a := 598) (i := 131) (show (0 : Int) ≤ _ ∧ _ ≤ (400 : Int) from by omega)) (RH.o hH_M (by decide) (by decide) (by decide)) (RF.o hS_M (by decide) (by decide))  (fun a i f598 f686 => ((ju_c _ _ f598).trans rfl)) (fun i g131 g135 => ((ju_i _ _ g131).trans rfl)) (by omega) (by rw [(ju_same _ _ _ _)] <;> omega)
      · refine jr.tsw_k 54 rfl h59 rfl ?_
        refine jr.lload rfl rfl ?_
        refine jr.lload_n rfl rfl ?_
        refine jr.lcmp_le rfl rfl rfl (by omega) (by omega) (fun h280 => ?_) (fun h280 => ?_)
        · refine jr.lconst (x := 0) rfl (by decide) ?_
          refine jr.lstore (ls' := [_, _, _, _]) rfl (nlt rfl) rfl ?_
          refine jr.pick (ls := [_, _]) [0, 2] rfl rfl ?_
          exact r_bySign_L291 q (ju M 598 131 (v1 - 1)) 0 (RI.u hI_M (a := 598) (i := 131) (show (0 : Int) ≤ _ ∧ _ ≤ (400 : Int) from by omega)) (RH.o hH_M (by decide) (by decide) (by decide)) (RF.o hS_M (by decide) (by decide))  (fun a i f598 f686 => ((ju_c _ _ f598).trans rfl)) (fun i g131 g135 => ((ju_i _ _ g131).trans rfl)) (by omega) (by rw [(ju_same _ _ _ _)] <;> omega)
        · refine jr.lconst (x := 1) rfl (by decide) ?_
          refine jr.goto rfl rfl ?_
          refine jr.lstore (ls' := [_, _, _, _]) rfl (nlt rfl) rfl ?_
          refine jr.pick (ls := [_, _]) [0, 2] rfl rfl ?_
          exact r_bySign_L291 q (ju M 598 131 (v1 - 1)) 1 (RI.u hI_M (a := 598) (i := 131) (show (0 : Int) ≤ _ ∧ _ ≤ (400 : Int) from by omega)) (RH.o hH_M (by decide) (by decide) (by decide)) (RF.o hS_M (by decide) (by decide))  (fun a i f598 f686 => ((ju_c _ _ f598).trans rfl)) (fun i g131 g135 => ((ju_i _ _ g131).trans rfl)) (by omega) (by rw [(ju_same _ _ _ _)] <;> omega)
      · refine jr.tsw_k 55 rfl h59 rfl ?_
        refine jr.lload rfl rfl ?_
        refine jr.lload_n rfl rfl ?_
        refine jr.lcmp_le rfl rfl rfl (by omega) (by omega) (fun h280 => ?_) (fun h280 => ?_)
        · refine jr.lconst (x := 0) rfl (by decide) ?_
          refine jr.lstore (ls' := [_, _, _, _]) rfl (nlt rfl) rfl ?_
          refine jr.pick (ls := [_, _]) [0, 2] rfl rfl ?_
          exact r_bySign_L291 q (ju M 598 131 (v1 - 1)) 0 (RI.u hI_M (a := 598) (i := 131) (show (0 : Int) ≤ _ ∧ _ ≤ (400 : Int) from by omega)) (RH.o hH_M (by decide) (by decide) (by decide)) (RF.o hS_M (by decide) (by decide))  (fun a i f598 f686 => ((ju_c _ _ f598).trans rfl)) (fun i g131 g135 => ((ju_i _ _ g131).trans rfl)) (by omega) (by rw [(ju_same _ _ _ _)] <;> omega)
        · refine jr.lconst (x := 1) rfl (by decide) ?_
          refine jr.goto rfl rfl ?_
          refine jr.lstore (ls' := [_, _, _, _]) rfl (nlt rfl) rfl ?_
          refine jr.pick (ls := [_, _]) [0, 2] rfl rfl ?_
          exact r_bySign_L291 q (ju M 598 131 (v1 - 1)) 1 (RI.u hI_M (a := 598) (i := 131) (show (0 : Int) ≤ _ ∧ _ ≤ (400 : Int) from by omega)) (RH.o hH_M (by decide) (by decide) (by decide)) (RF.o hS_M (by decide) (by decide))  (fun a i f598 f686 => ((ju_c _ _ f598).trans rfl)) (fun i g131 g135 => ((ju_i _ _ g131).trans rfl)) (by omega) (by rw [(ju_same _ _ _ _)] <;> omega)
      · refine jr.tsw_k 56 rfl h59 rfl ?_
        refine jr.lload rfl rfl ?_
        refine jr.lload_n rfl rfl ?_
        refine jr.lcmp_le rfl rfl rfl (by omega) (by omega) (fun h280 => ?_) (fun h280 => ?_)
        · refine jr.lconst (x := 0) rfl (by decide) ?_
          refine jr.lstore (ls' := [_, _, _, _]) rfl (nlt rfl) rfl ?_
          refine jr.pick (ls := [_, _]) [0, 2] rfl rfl ?_
          exact r_bySign_L291 q (ju M 598 131 (v1 - 1)) 0 (RI.u hI_M (a := 598) (i := 131) (show (0 : Int) ≤ _ ∧ _ ≤ (400 : Int) from by omega)) (RH.o hH_M (by decide) (by decide) (by decide)) (RF.o hS_M (by decide) (by decide))  (fun a i f598 f686 => ((ju_c _ _ f598).trans rfl)) (fun i g131 g135 => ((ju_i _ _ g131).trans rfl)) (by omega) (by rw [(ju_same _ _ _ _)] <;> omega)
        · refine jr.lconst (x := 1) rfl (by decide) ?_
          refine jr.goto rfl rfl ?_
          refine jr.lstore (ls' := [_, _, _, _]) rfl (nlt rfl) rfl ?_
          refine jr.pick (ls := [_, _]) [0, 2] rfl rfl ?_
          exact r_bySign_L291 q (ju M 598 131 (v1 - 1)) 1 (RI.u hI_M (a := 598) (i := 131) (show (0 : Int) ≤ _ ∧ _ ≤ (400 : Int) from by omega)) (RH.o hH_M (by decide) (by decide) (by decide)) (RF.o hS_M (by decide) (by decide))  (fun a i f598 f686 => ((ju_c _ _ f598).trans rfl)) (fun i g131 g135 => ((ju_i _ _ g131).trans rfl)) (by omega) (by rw [(ju_same _ _ _ _)] <;> omega)
      · refine jr.tsw_k 57 rfl h59 rfl ?_
        refine jr.lload rfl rfl ?_
        refine jr.lload_n rfl rfl ?_
        refine jr.lcmp_le rfl rfl rfl (by omega) (by omega) (fun h280 => ?_) (fun h280 => ?_)
        · refine jr.lconst (x := 0) rfl (by decide) ?_
          refine jr.lstore (ls' := [_, _, _, _]) rfl (nlt rfl) rfl ?_
          refine jr.pick (ls := [_, _]) [0, 2] rfl rfl ?_
          exact r_bySign_L291 q (ju M 598 131 (v1 - 1)) 0 (RI.u hI_M (a := 598) (i := 131) (show (0 : Int) ≤ _ ∧ _ ≤ (400 : Int) from by omega)) (RH.o hH_M (by decide) (by decide) (by decide)) (RF.o hS_M (by decide) (by decide))  (fun a i f598 f686 => ((ju_c _ _ f598).trans rfl)) (fun i g131 g135 => ((ju_i _ _ g131).trans rfl)) (by omega) (by rw [(ju_same _ _ _ _)] <;> omega)
        · refine jr.lconst (x := 1) rfl (by decide) ?_
          refine jr.goto rfl rfl ?_
          refine jr.lstore (ls' := [_, _, _, _]) rfl (nlt rfl) rfl ?_
          refine jr.pick (ls := [_, _]) [0, 2] rfl rfl ?_
          exact r_bySign_L291 q (ju M 598 131 (v1 - 1)) 1 (RI.u hI_M (a := 598) (i := 131) (show (0 : Int) ≤ _ ∧ _ ≤ (400 : Int) from by omega)) (RH.o hH_M (by decide) (by decide) (by decide)) (RF.o hS_M (by decide) (by decide))  (fun a i f598 f686 => ((ju_c _ _ f598).trans rfl)) (fun i g131 g135 => ((ju_i _ _ g131).trans rfl)) (by omega) (by rw [(ju_same _ _ _ _)] <;> omega)
      · refine jr.tsw_k 58 rfl h59 rfl ?_
        refine jr.lload rfl rfl ?_
        refine jr.lload_n rfl rfl ?_
        refine jr.lcmp_le rfl rfl rfl (by omega) (by omega) (fun h280 => ?_) (fun h280 => ?_)
        · refine jr.lconst (x := 0) rfl (by decide) ?_
          refine jr.lstore (ls' := [_, _, _, _]) rfl (nlt rfl) rfl ?_
          refine jr.pick (ls := [_, _]) [0, 2] rfl rfl ?_
          exact r_bySign_L291 q (ju M 598 131 (v1 - 1)) 0 (RI.u hI_M (a := 598) (i := 131) (show (0 : Int) ≤ _ ∧ _ ≤ (400 : Int) from by omega)) (RH.o hH_M (by decide) (by decide) (by decide)) (RF.o hS_M (by decide) (by decide))  (fun a i f598 f686 => ((ju_c _ _ f598).trans rfl)) (fun i g131 g135 => ((ju_i _ _ g131).trans rfl)) (by omega) (by rw [(ju_same _ _ _ _)] <;> omega)
        · refine jr.lconst (x := 1) rfl (by decide) ?_
          refine jr.goto rfl rfl ?_
          refine jr.lstore (ls' := [_, _, _, _]) rfl (nlt rfl) rfl ?_
          refine jr.pick (ls := [_, _]) [0, 2] rfl rfl ?_
          exact r_bySign_L291 q (ju M 598 131 (v1 - 1)) 1 (RI.u hI_M (a := 598) (i := 131) (show (0 : Int) ≤ _ ∧ _ ≤ (400 : Int) from by omega)) (RH.o hH_M (by decide) (by decide) (by decide)) (RF.o hS_M (by decide) (by decide))  (fun a i f598 f686 => ((ju_c _ _ f598).trans rfl)) (fun i g131 g135 => ((ju_i _ _ g131).trans rfl)) (by omega) (by rw [(ju_same _ _ _ _)] <;> omega)
      · refine jr.tsw_k 59 rfl h59 rfl ?_
        refine jr.lload rfl rfl ?_
        refine jr.lload_n rfl rfl ?_
        refine jr.lcmp_le rfl rfl rfl (by omega) (by omega) (fun h280 => ?_) (fun h280 => ?_)
        · refine jr.lconst (x := 0) rfl (by decide) ?_
          refine jr.lstore (ls' := [_, _, _, _]) rfl (nlt rfl) rfl ?_
          refine jr.pick (ls := [_, _]) [0, 2] rfl rfl ?_
          exact r_bySign_L291 q (ju M 598 131 (v1 - 1)) 0 (RI.u hI_M (a := 598) (i := 131) (show (0 : Int) ≤ _ ∧ _ ≤ (400 : Int) from by omega)) (RH.o hH_M (by decide) (by decide) (by decide)) (RF.o hS_M (by decide) (by decide))  (fun a i f598 f686 => ((ju_c _ _ f598).trans rfl)) (fun i g131 g135 => ((ju_i _ _ g131).trans rfl)) (by omega) (by rw [(ju_same _ _ _ _)] <;> omega)
        · refine jr.lconst (x := 1) rfl (by decide) ?_
          refine jr.goto rfl rfl ?_
          refine jr.lstore (ls' := [_, _, _, _]) rfl (nlt rfl) rfl ?_
          refine jr.pick (ls := [_, _]) [0, 2] rfl rfl ?_
          exact r_bySign_L291 q (ju M 598 131 (v1 - 1)) 1 (RI.u hI_M (a := 598) (i := 131) (show (0 : Int) ≤ _ ∧ _ ≤ (400 : Int) from by omega)) (RH.o hH_M (by decide) (by decide) (by decide)) (RF.o hS_M (by decide) (by decide))  (fun a i f598 f686 => ((ju_c _ _ f598).trans rfl)) (fun i g131 g135 => ((ju_i _ _ g131).trans rfl)) (by omega) (by rw [(ju_same _ _ _ _)] <;> omega)
      · refine jr.tsw_k 60 rfl h59 rfl ?_
        refine jr.lload rfl rfl ?_
        refine jr.lload_n rfl rfl ?_
        refine jr.lcmp_ge rfl rfl rfl (by omega) (by omega) (fun h263 => ?_) (fun h263 => ?_)
        · refine jr.lconst (x := 0) rfl (by decide) ?_
          refine jr.lstore (ls' := [_, _, _, _]) rfl (nlt rfl) rfl ?_
          refine jr.goto rfl rfl ?_
          refine jr.pick (ls := [_, _]) [0, 2] rfl rfl ?_
          exact r_bySign_L291 q (ju M 598 131 (v1 - 1)) 0 (RI.u hI_M (a := 598) (i := 131) (show (0 : Int) ≤ _ ∧ _ ≤ (400 : Int) from by omega)) (RH.o hH_M (by decide) (by decide) (by decide)) (RF.o hS_M (by decide) (by decide))  (fun a i f598 f686 => ((ju_c _ _ f598).trans rfl)) (fun i g131 g135 => ((ju_i _ _ g131).trans rfl)) (by omega) (by rw [(ju_same _ _ _ _)] <;> omega)
        · refine jr.lconst (x := 1) rfl (by decide) ?_
          refine jr.goto rfl rfl ?_
          refine jr.lstore (ls' := [_, _, _, _]) rfl (nlt rfl) rfl ?_
          refine jr.goto rfl rfl ?_
          refine jr.pick (ls := [_, _]) [0, 2] rfl rfl ?_
          exact r_bySign_L291 q (ju M 598 131 (v1 - 1)) 1 (RI.u hI_M (a := 598) (i := 131) (show (0 : Int) ≤ _ ∧ _ ≤ (400 : Int) from by omega)) (RH.o hH_M (by decide) (by decide) (by decide)) (RF.o hS_M (by decide) (by decide))  (fun a i f598 f686 => ((ju_c _ _ f598).trans rfl)) (fun i g131 g135 => ((ju_i _ _ g131).trans rfl)) (by omega) (by rw [(ju_same _ _ _ _)] <;> omega)
      · refine jr.tsw_k 61 rfl h59 rfl ?_
        refine jr.lload rfl rfl ?_
        refine jr.lload_n rfl rfl ?_
        refine jr.lcmp_ne rfl rfl rfl (by omega) (by omega) (fun h246 => ?_) (fun h246 => ?_)
        · refine jr.lconst (x := 0) rfl (by decide) ?_
          refine jr.lstore (ls' := [_, _, _, _]) rfl (nlt rfl) rfl ?_
          refine jr.goto rfl rfl ?_
          refine jr.pick (ls := [_, _]) [0, 2] rfl rfl ?_
          exact r_bySign_L291 q (ju M 598 131 (v1 - 1)) 0 (RI.u hI_M (a := 598) (i := 131) (show (0 : Int) ≤ _ ∧ _ ≤ (400 : Int) from by omega)) (RH.o hH_M (by decide) (by decide) (by decide)) (RF.o hS_M (by decide) (by decide))  (fun a i f598 f686 => ((ju_c _ _ f598).trans rfl)) (fun i g131 g135 => ((ju_i _ _ g131).trans rfl)) (by omega) (by rw [(ju_same _ _ _ _)] <;> omega)
        · refine jr.lconst (x := 1) rfl (by decide) ?_
          refine jr.goto rfl rfl ?_
          refine jr.lstore (ls' := [_, _, _, _]) rfl (nlt rfl) rfl ?_
          refine jr.goto rfl rfl ?_
          refine jr.pick (ls := [_, _]) [0, 2] rfl rfl ?_
          exact r_bySign_L291 q (ju M 598 131 (v1 - 1)) 1 (RI.u hI_M (a := 598) (i := 131) (show (0 : Int) ≤ _ ∧ _ ≤ (400 : Int) from by omega)) (RH.o hH_M (by decide) (by decide) (by decide)) (RF.o hS_M (by decide) (by decide))  (fun a i f598 f686 => ((ju_c _ _ f598).trans rfl)) (fun i g131 g135 => ((ju_i _ _ g131).trans rfl)) (by omega) (by rw [(ju_same _ _ _ _)] <;> omega)
      · refine jr.tsw_d rfl (by omega) (by omega) rfl ?_
        refine jr.lload rfl rfl ?_
        refine jr.lload_n rfl rfl ?_
        refine jr.lcmp_le rfl rfl rfl (by omega) (by omega) (fun h280 => ?_) (fun h280 => ?_)
        · refine jr.lconst (x := 0) rfl (by decide) ?_
          refine jr.lstore (ls' := [_, _, _, _]) rfl (nlt rfl) rfl ?_
          refine jr.pick (ls := [_, _]) [0, 2] rfl rfl ?_
          exact r_bySign_L291 q (ju M 598 131 (v1 - 1)) 0 (RI.u hI_M (a := 598) (i := 131) (show (0 : Int) ≤ _ ∧ _ ≤ (400 : Int) from by omega)) (RH.o hH_M (by decide) (by decide) (by decide)) (RF.o hS_M (by decide) (by decide))  (fun a i f598 f686 => ((ju_c _ _ f598).trans rfl)) (fun i g131 g135 => ((ju_i _ _ g131).trans rfl)) (by omega) (by rw [(ju_same _ _ _ _)] <;> omega)
        · refine jr.lconst (x := 1) rfl (by decide) ?_
          refine jr.goto rfl rfl ?_
          refine jr.lstore (ls' := [_, _, _, _]) rfl (nlt rfl) rfl ?_
          refine jr.pick (ls := [_, _]) [0, 2] rfl rfl ?_
          exact r_bySign_L291 q (ju M 598 131 (v1 - 1)) 1 (RI.u hI_M (a := 598) (i := 131) (show (0 : Int) ≤ _ ∧ _ ≤ (400 : Int) from by omega)) (RH.o hH_M (by decide) (by decide) (by decide)) (RF.o hS_M (by decide) (by decide))  (fun a i f598 f686 => ((ju_c _ _ f598).trans rfl)) (fun i g131 g135 => ((ju_i _ _ g131).trans rfl)) (by omega) (by rw [(ju_same _ _ _ _)] <;> omega)
    · refine jr.lload_n rfl rfl ?_
      refine jr.lconst (x := 0) rfl (by decide) ?_
      refine jr.lcmp_ne rfl rfl rfl (by omega) (by omega) (fun h47 => ?_) (fun h47 => ?_)
      · refine jr.iload_n rfl rfl ?_
        rcases (show s = 37 by omega) with h59
        · refine jr.tsw_k 37 rfl h59 rfl ?_
          refine jr.lload_n rfl rfl ?_
          refine jr.ldc2 (x := (-1)) rfl rfl (by decide) ?_
          refine jr.lcmp_ne rfl rfl rfl (by omega) (by omega) (fun h226 => ?_) (fun h226 => ?_)
          · refine jr.lload rfl rfl ?_
            refine jr.lload_n rfl rfl ?_
            refine jr.lrem rfl (jl_nz (by omega)) ?_
            have b13 : -9223372036854775808 ≤ jl_rem v3 v2 ∧ jl_rem v3 v2 ≤ 9223372036854775807 := jbl_any _
            generalize jl_rem v3 v2 = v13 at b13 ⊢
            refine jr.lstore (ls' := [_, _, _, _]) rfl (nlt rfl) rfl ?_
            refine jr.goto rfl rfl ?_
            refine jr.pick (ls := [_, _]) [0, 2] rfl rfl ?_
            exact r_bySign_L291 q (ju M 598 131 (v1 - 1)) v13 (RI.u hI_M (a := 598) (i := 131) (show (0 : Int) ≤ _ ∧ _ ≤ (400 : Int) from by omega)) (RH.o hH_M (by decide) (by decide) (by decide)) (RF.o hS_M (by decide) (by decide))  (fun a i f598 f686 => ((ju_c _ _ f598).trans rfl)) (fun i g131 g135 => ((ju_i _ _ g131).trans rfl)) (by omega) (by rw [(ju_same _ _ _ _)] <;> omega)
          · refine jr.lconst (x := 0) rfl (by decide) ?_
            refine jr.goto rfl rfl ?_
            refine jr.lstore (ls' := [_, _, _, _]) rfl (nlt rfl) rfl ?_
            refine jr.goto rfl rfl ?_
            refine jr.pick (ls := [_, _]) [0, 2] rfl rfl ?_
            exact r_bySign_L291 q (ju M 598 131 (v1 - 1)) 0 (RI.u hI_M (a := 598) (i := 131) (show (0 : Int) ≤ _ ∧ _ ≤ (400 : Int) from by omega)) (RH.o hH_M (by decide) (by decide) (by decide)) (RF.o hS_M (by decide) (by decide))  (fun a i f598 f686 => ((ju_c _ _ f598).trans rfl)) (fun i g131 g135 => ((ju_i _ _ g131).trans rfl)) (by omega) (by rw [(ju_same _ _ _ _)] <;> omega)
      · refine jr.aload_n rfl rfl ?_
        refine jr.bipush rfl (jbp _ (nlt rfl)) ?_
        refine jr.putf (i := 135) (x := 6) rfl rfl (nlt rfl) rfl (nlt rfl) rfl rfl rfl rfl rfl ?_
        have y14 : (ju (ju M 598 131 (v1 - 1)) 598 135 6) 598 131 = v1 - 1 := ((ju_i _ _ (zne (by decide))).trans (ju_same _ _ _ _))
        exact jr.vreturn rfl rfl (q _ (RI.u (RI.u hI_M (a := 598) (i := 131) (show (0 : Int) ≤ _ ∧ _ ≤ (400 : Int) from by omega)) (a := 598) (i := 135) (show (0 : Int) ≤ _ ∧ _ ≤ (8 : Int) from by omega)) (RH.o (RH.o hH_M (by decide) (by decide) (by decide)) (by decide) (by decide) (by decide)) (RF.o (RF.o hS_M (by decide) (by decide)) (by decide) (by decide))  (by omega) (fun a i f598 f686 => ((ju_c _ _ f598).trans ((ju_c _ _ f598).trans rfl))) (fun i g131 g135 => ((ju_i _ _ g135).trans ((ju_i _ _ g131).trans rfl))))
theorem r_learn_L40 {A : Nat → Option (Nat × (Nat → Int32))} {Q : Option Value → jm → Prop} {M0 : jm} (q : ∀ (M' : jm), RI M' → RH M' → RF M' → (∀ (a : Nat) (i : Int), a ≠ 598 → a ≠ 672 → a ≠ 673 → M' a i = M0 a i) → (∀ (i : Int), i ≠ 135 → M' 598 i = M0 598 i) → Q none M') : ∀ (nM : Nat) (M : jm) (i : Int) (s : Int) (v : Int), RI M → RH M → RF M → (∀ (a : Nat) (i : Int), a ≠ 598 → a ≠ 672 → a ≠ 673 → M a i = M0 a i) → (∀ (i : Int), i ≠ 135 → M 598 i = M0 598 i) → 0 ≤ i ∧ i ≤ 15 → 0 ≤ s ∧ s ≤ 3 → (-9223372036854775808) ≤ v ∧ v ≤ 9223372036854775807 → 16 ≤ M 672 s ∧ M 672 s ≤ 16 → 15 - i ≤ nM → jr A 2 xm_396 40 [(7, .int (Int32.ofInt (i))), (6, .int (Int32.ofInt (s))), (3, .long (Int64.ofInt (v))), (0, .ref (598))] [] M Q := by
  intro nM
  induction nM using Nat.strongRecOn with
  | ind nM ih =>
    intro M i s v hI_M hH_M hS_M hF_M hG_M h_i h_s h_v hy0 hm
    refine jr.iload rfl rfl ?_
    refine jr.bipush rfl (jbp _ (nlt rfl)) ?_
    refine jr.icmp_ge rfl rfl (by first | (refine rgb (by assumption) ?_; exact rfl) | omega) (rgl rfl) (fun h44 => ?_) (fun h44 => ?_)
    · refine jr.aload_n rfl rfl ?_
      refine jr.getf (i := 115) (v := .ref 672) rfl rfl (nlt rfl) rfl (nlt rfl) rfl rfl rfl rfl ?_
      refine jr.iload rfl rfl ?_
      refine jr.dup2 rfl ⟨rfl, rfl⟩ ?_
      obtain ⟨v1, e1⟩ : ∃ z, M 672 s = z := ⟨_, rfl⟩
      have b1 : 0 ≤ v1 ∧ v1 ≤ 16 := by rw [← e1]; exact (by have q := hI_M 672 s (Nat.le_of_ble_eq_true rfl); rw [xri_row rfl rfl] at q; exact q)
      refine jr.iald (i := s) (x := v1) rfl (nlt rfl) rfl (Nat.le_of_ble_eq_true rfl) (by omega) (by omega) e1 ?_
      refine jr.iconst rfl ?_
      refine jr.isub rfl ?_
      refine jr.iast (i := s) (x := (v1 - 1)) rfl (nlt rfl) rfl (Nat.le_of_ble_eq_true rfl) (by omega) (by omega) ?_
      refine jr.aload_n rfl rfl ?_
      refine jr.getf (i := 116) (v := .ref 673) rfl rfl (nlt rfl) rfl (nlt rfl) rfl rfl rfl rfl ?_
      refine jr.bipush rfl (jbp _ (nlt rfl)) ?_
      refine jr.iload rfl rfl ?_
      refine jr.imul rfl ?_
      refine jr.aload_n rfl rfl ?_
      refine jr.getf (i := 115) (v := .ref 672) rfl rfl (nlt rfl) rfl (nlt rfl) rfl rfl rfl rfl ?_
      refine jr.iload rfl rfl ?_
      refine jr.iald (i := s) (x := (v1 - 1)) rfl (nlt rfl) rfl (Nat.le_of_ble_eq_true rfl) (by omega) (by omega) (ju_same _ _ _ _) ?_
      refine jr.iadd rfl ?_
      refine jr.lload_n rfl rfl ?_
      refine jr.last (i := ((16 * s) + (v1 - 1))) (x := v) rfl (nlt rfl) rfl (Nat.le_of_ble_eq_true rfl) (by omega) (by omega) ?_
      refine jr.aload_n rfl rfl ?_
      refine jr.getf (i := 115) (v := .ref 672) rfl rfl (nlt rfl) rfl (nlt rfl) rfl rfl rfl rfl ?_
      refine jr.iload rfl rfl ?_
      refine jr.dup2 rfl ⟨rfl, rfl⟩ ?_
      refine jr.iald (i := s) (x := (v1 - 1)) rfl (nlt rfl) rfl (Nat.le_of_ble_eq_true rfl) (by omega) (by omega) ((ju_c _ _ (by decide)).trans (ju_same _ _ _ _)) ?_
      refine jr.iconst rfl ?_
      refine jr.iadd rfl ?_
      refine jr.iast (i := s) (x := ((v1 - 1) + 1)) rfl (nlt rfl) rfl (Nat.le_of_ble_eq_true rfl) (by omega) (by omega) ?_
      exact jr.vreturn rfl rfl (q _ (RI.u (RI.u (RI.u hI_M (a := 672) (i := s) (by rw [xri_row rfl rfl]; show (0 : Int) ≤ _ ∧ _ ≤ (16 : Int); omega)) (a := 673) (i := ((16 * s) + (v1 - 1))) (by rw [xri_row rfl rfl]; show (-9223372036854775808 : Int) ≤ _ ∧ _ ≤ (9223372036854775807 : Int); omega)) (a := 672) (i := s) (by rw [xri_row rfl rfl]; show (0 : Int) ≤ _ ∧ _ ≤ (16 : Int); omega)) (RH.o (RH.o (RH.o hH_M (by decide) (by decide) (by decide)) (by decide) (by decide) (by decide)) (by decide) (by decide) (by decide)) (RF.o (RF.o (RF.o hS_M (by decide) (by decide)) (by decide) (by decide)) (by decide) (by decide))  (fun a i f598 f672 f673 => ((ju_c _ _ f672).trans ((ju_c _ _ f673).trans ((ju_c _ _ f672).trans (hF_M a i f598 f672 f673))))) (fun i g135 => ((ju_c _ _ (by decide)).trans ((ju_c _ _ (by decide)).trans ((ju_c _ _ (by decide)).trans (hG_M i g135))))))
    · refine jr.aload_n rfl rfl ?_
      refine jr.getf (i := 116) (v := .ref 673) rfl rfl (nlt rfl) rfl (nlt rfl) rfl rfl rfl rfl ?_
      refine jr.bipush rfl (jbp _ (nlt rfl)) ?_
      refine jr.iload rfl rfl ?_
      refine jr.imul rfl ?_
      refine jr.iload rfl rfl ?_
      refine jr.iadd rfl ?_
      refine jr.aload_n rfl rfl ?_
      refine jr.getf (i := 116) (v := .ref 673) rfl rfl (nlt rfl) rfl (nlt rfl) rfl rfl rfl rfl ?_
      refine jr.bipush rfl (jbp _ (nlt rfl)) ?_
      refine jr.iload rfl rfl ?_
      refine jr.imul rfl ?_
      refine jr.iload rfl rfl ?_
      refine jr.iadd rfl ?_
      refine jr.iconst rfl ?_
      refine jr.iadd rfl ?_
      obtain ⟨v2, e2⟩ : ∃ z, M 673 (((16 * s) + i) + 1) = z := ⟨_, rfl⟩
      have b2 : (-9223372036854775808) ≤ v2 ∧ v2 ≤ 9223372036854775807 := by rw [← e2]; exact (by have q := hI_M 673 (((16 * s) + i) + 1) (by decide); rw [xri_row rfl rfl] at q; exact q)
      refine jr.lald (i := (((16 * s) + i) + 1)) (x := v2) rfl (nlt rfl) rfl (Nat.le_of_ble_eq_true rfl) (by omega) (by omega) e2 ?_
      refine jr.last (i := ((16 * s) + i)) (x := v2) rfl (nlt rfl) rfl (Nat.le_of_ble_eq_true rfl) (by omega) (by omega) ?_
      refine jr.iinc (ls' := [_, _, _, _]) rfl rfl (nlt rfl) rfl ?_
      refine jr.goto rfl rfl ?_
      obtain ⟨v3, e3⟩ : ∃ z, M 672 s = z := ⟨_, rfl⟩
      have b3 : 0 ≤ v3 ∧ v3 ≤ 16 := by rw [← e3]; exact (by have q := hI_M 672 s (Nat.le_of_ble_eq_true rfl); rw [xri_row rfl rfl] at q; exact q)
      refine jr.pick (ls := [_, _, _, _]) [0, 1, 2, 3] rfl rfl ?_
      exact ih (nM - 1) (by omega) (ju M 673 ((16 * s) + i) v2) (i + 1) s v (RI.u hI_M (a := 673) (i := ((16 * s) + i)) (by rw [xri_row rfl rfl]; show (-9223372036854775808 : Int) ≤ _ ∧ _ ≤ (9223372036854775807 : Int); omega)) (RH.o hH_M (by decide) (by decide) (by decide)) (RF.o hS_M (by decide) (by decide))  (fun a i f598 f672 f673 => ((ju_c _ _ f673).trans (hF_M a i f598 f672 f673))) (fun i g135 => ((ju_c _ _ (by decide)).trans (hG_M i g135))) (by omega) (by omega) (by omega) (by rw [((ju_c _ _ (by decide)).trans e3)]; omega) (by omega)
theorem r_learn {A : Nat → Option (Nat × (Nat → Int32))} {Q : Option Value → jm → Prop} {M : jm} (hI_M : RI M) (hH_M : RH M) (hS_M : RF M) {k : Int} (h_k : (-9223372036854775808) ≤ k ∧ k ≤ 9223372036854775807) {v : Int} (h_v : (-9223372036854775808) ≤ v ∧ v ≤ 9223372036854775807) (q : ∀ (M' : jm), RI M' → RH M' → RF M' → (∀ (a : Nat) (i : Int), a ≠ 598 → a ≠ 672 → a ≠ 673 → M' a i = M a i) → (∀ (i : Int), i ≠ 135 → M' 598 i = M 598 i) → Q none M') : jc A 3 396 [.ref (598), .long (Int64.ofInt (k)), .long (Int64.ofInt (v))] M Q := by
  refine jc_of (m := xm_396) rfl (Nat.le_of_ble_eq_true rfl) rfl ?_
  refine jr.aload_n rfl rfl ?_
  refine jr.lload_n rfl rfl ?_
  refine jr.lload_n rfl rfl ?_
  refine jr_v rfl rfl (Or.inl rfl) rfl rfl (nlt rfl) rfl ⟨rfl, Nat.le_of_ble_eq_true rfl, Nat.le_of_ble_eq_true rfl⟩ rfl (jc.deep (r_isIn hI_M hH_M hS_M  (by omega) (by omega)  (fun r1 M1 hI_M1 hH_M1 hS_M1  z1 w1_0 w1_1 w1_2 => ?_)) (Nat.le_of_ble_eq_true rfl))
  refine jr.istore (ls' := [_, _, _, _]) rfl (nlt rfl) rfl ?_
  refine jr.aload_n rfl rfl ?_
  obtain ⟨v2, e2⟩ : ∃ z, M1 598 135 = z := ⟨_, rfl⟩
  have b2 : 0 ≤ v2 ∧ v2 ≤ 8 := by rw [← e2]; exact hI_M1 598 135 (Nat.le_of_ble_eq_true rfl)
  refine jr.getf (i := 135) (x := v2) (v := .int (Int32.ofInt (v2))) rfl rfl (nlt rfl) rfl (nlt rfl) rfl rfl e2 rfl ?_
  refine jr.if_ne rfl rfl (by first | (refine rgb (by assumption) ?_; exact rfl) | omega) (fun h12 => ?_) (fun h12 => ?_)
  · have sx12 : (1 : Int) ≤ v2 := by omega
    clear h12
    exact jr.vreturn rfl rfl (q _ hI_M1 hH_M1 hS_M1  (fun a i f598 f672 f673 => ((w1_1 a i f598).trans rfl)) (fun i g135 => ((w1_2 i g135).trans rfl)))
  · refine jr.iload rfl rfl ?_
    refine jr.if_eq rfl rfl (by first | (refine rgb (by assumption) ?_; exact rfl) | omega) (fun h17 => ?_) (fun h17 => ?_)
    · refine jr.lload_n rfl rfl ?_
      refine jr.l2i rfl ?_
      refine jr.istore (ls' := [_, _, _, _, _]) rfl (nlt rfl) rfl ?_
      refine jr.aload_n rfl rfl ?_
      refine jr.getf (i := 115) (v := .ref 672) rfl rfl (nlt rfl) rfl (nlt rfl) rfl rfl rfl rfl ?_
      refine jr.iload rfl rfl ?_
      obtain ⟨v3, e3⟩ : ∃ z, M 672 k = z := ⟨_, rfl⟩
      have b3 : 0 ≤ v3 ∧ v3 ≤ 16 := by rw [← e3]; exact (by have q := hI_M 672 k (Nat.le_of_ble_eq_true rfl); rw [xri_row rfl rfl] at q; exact q)
      have e4 : M1 672 k = v3 := ((w1_1 672 k (nne rfl)).trans e3)
      refine jr.iald (i := k) (x := v3) rfl (nlt rfl) rfl (Nat.le_of_ble_eq_true rfl) (by omega) (by omega) e4 ?_
      refine jr.bipush rfl (jbp _ (nlt rfl)) ?_
      refine jr.icmp_ne rfl rfl (by first | (refine rgb (by assumption) ?_; exact rfl) | omega) (rgl rfl) (fun h34 => ?_) (fun h34 => ?_)
      · have sx34 : v3 ≤ (15 : Int) := by omega
        clear h34
        refine jr.aload_n rfl rfl ?_
        refine jr.getf (i := 116) (v := .ref 673) rfl rfl (nlt rfl) rfl (nlt rfl) rfl rfl rfl rfl ?_
        refine jr.bipush rfl (jbp _ (nlt rfl)) ?_
        refine jr.iload rfl rfl ?_
        refine jr.imul rfl ?_
        refine jr.aload_n rfl rfl ?_
        refine jr.getf (i := 115) (v := .ref 672) rfl rfl (nlt rfl) rfl (nlt rfl) rfl rfl rfl rfl ?_
        refine jr.iload rfl rfl ?_
        refine jr.iald (i := k) (x := v3) rfl (nlt rfl) rfl (Nat.le_of_ble_eq_true rfl) (by omega) (by omega) e4 ?_
        refine jr.iadd rfl ?_
        refine jr.lload_n rfl rfl ?_
        refine jr.last (i := ((16 * k) + v3)) (x := v) rfl (nlt rfl) rfl (Nat.le_of_ble_eq_true rfl) (by omega) (by omega) ?_
        refine jr.aload_n rfl rfl ?_
        refine jr.getf (i := 115) (v := .ref 672) rfl rfl (nlt rfl) rfl (nlt rfl) rfl rfl rfl rfl ?_
        refine jr.iload rfl rfl ?_
        refine jr.dup2 rfl ⟨rfl, rfl⟩ ?_
        refine jr.iald (i := k) (x := v3) rfl (nlt rfl) rfl (Nat.le_of_ble_eq_true rfl) (by omega) (by omega) ((ju_c _ _ (by decide)).trans e4) ?_
        refine jr.iconst rfl ?_
        refine jr.iadd rfl ?_
        refine jr.iast (i := k) (x := (v3 + 1)) rfl (nlt rfl) rfl (Nat.le_of_ble_eq_true rfl) (by omega) (by omega) ?_
        exact jr.vreturn rfl rfl (q _ (RI.u (RI.u hI_M1 (a := 673) (i := ((16 * k) + v3)) (by rw [xri_row rfl rfl]; show (-9223372036854775808 : Int) ≤ _ ∧ _ ≤ (9223372036854775807 : Int); omega)) (a := 672) (i := k) (by rw [xri_row rfl rfl]; show (0 : Int) ≤ _ ∧ _ ≤ (16 : Int); omega)) (RH.o (RH.o hH_M1 (by decide) (by decide) (by decide)) (by decide) (by decide) (by decide)) (RF.o (RF.o hS_M1 (by decide) (by decide)) (by decide) (by decide))  (fun a i f598 f672 f673 => ((ju_c _ _ f672).trans ((ju_c _ _ f673).trans ((w1_1 a i f598).trans rfl)))) (fun i g135 => ((ju_c _ _ (by decide)).trans ((ju_c _ _ (by decide)).trans ((w1_2 i g135).trans rfl)))))
      · refine jr.iconst rfl ?_
        refine jr.istore (ls' := [_, _, _, _, _, _]) rfl (nlt rfl) rfl ?_
        refine jr.pick (ls := [_, _, _, _]) [0, 1, 5, 3] rfl rfl ?_
        exact r_learn_L40 q 15 M1 0 k v hI_M1 hH_M1 hS_M1  (fun a i f598 f672 f673 => ((w1_1 a i f598).trans rfl)) (fun i g135 => ((w1_2 i g135).trans rfl)) (by omega) (by omega) (by omega) (by rw [e4]; omega) (by omega)
    · have sx17 : (1 : Int) ≤ r1 := by omega
      clear h17
      exact jr.vreturn rfl rfl (q _ hI_M1 hH_M1 hS_M1  (fun a i f598 f672 f673 => ((w1_1 a i f598).trans rfl)) (fun i g135 => ((w1_2 i g135).trans rfl)))
theorem r_put {A : Nat → Option (Nat × (Nat → Int32))} {Q : Option Value → jm → Prop} {M : jm} (hI_M : RI M) (hH_M : RH M) (hS_M : RF M) {k : Int} (h_k : (-9223372036854775808) ≤ k ∧ k ≤ 9223372036854775807) {i : Int} (h_i : (-9223372036854775808) ≤ i ∧ i ≤ 9223372036854775807) {v : Int} (h_v : (-9223372036854775808) ≤ v ∧ v ≤ 9223372036854775807) (q : ∀ (M' : jm), RI M' → RH M' → RF M' → (∀ (a : Nat) (i : Int), a ≠ 598 → a ≠ 676 → M' a i = M a i) → (∀ (i : Int), i ≠ 135 → M' 598 i = M 598 i) → Q none M') : jc A 4 397 [.ref (598), .long (Int64.ofInt (k)), .long (Int64.ofInt (i)), .long (Int64.ofInt (v))] M Q := by
  refine jc_of (m := xm_397) rfl (Nat.le_of_ble_eq_true rfl) rfl ?_
  refine jr.aload_n rfl rfl ?_
  refine jr.lload_n rfl rfl ?_
  refine jr.lload_n rfl rfl ?_
  refine jr_v rfl rfl (Or.inl rfl) rfl rfl (nlt rfl) rfl ⟨rfl, Nat.le_of_ble_eq_true rfl, Nat.le_of_ble_eq_true rfl⟩ rfl (jc.deep (r_itemOf hI_M hH_M hS_M  (by omega) (by omega)  (fun r1 M1 hI_M1 hH_M1 hS_M1  z1 w1_0 w1_1 w1_2 => ?_)) (Nat.le_of_ble_eq_true rfl))
  refine jr.lstore (ls' := [_, _, _, _, _]) rfl (nlt rfl) rfl ?_
  refine jr.aload_n rfl rfl ?_
  obtain ⟨v2, e2⟩ : ∃ z, M1 598 135 = z := ⟨_, rfl⟩
  have b2 : 0 ≤ v2 ∧ v2 ≤ 8 := by rw [← e2]; exact hI_M1 598 135 (Nat.le_of_ble_eq_true rfl)
  refine jr.getf (i := 135) (x := v2) (v := .int (Int32.ofInt (v2))) rfl rfl (nlt rfl) rfl (nlt rfl) rfl rfl e2 rfl ?_
  refine jr.if_eq rfl rfl (by first | (refine rgb (by assumption) ?_; exact rfl) | omega) (fun h12 => ?_) (fun h12 => ?_)
  · refine jr.aload_n rfl rfl ?_
    refine jr.getf (i := 117) (v := .ref 674) rfl rfl (nlt rfl) rfl (nlt rfl) rfl rfl rfl rfl ?_
    refine jr.lload_n rfl rfl ?_
    refine jr.l2i rfl ?_
    obtain ⟨v3, e3⟩ : ∃ z, M 674 k = z := ⟨_, rfl⟩
    have b3 : (-1) ≤ v3 ∧ v3 ≤ 6 := by rw [← e3]; exact (by have q := hI_M 674 k (Nat.le_of_ble_eq_true rfl); rw [xri_row rfl rfl] at q; exact q)
    have e4 : M1 674 k = v3 := ((w1_1 674 k (nne rfl)).trans e3)
    refine jr.iald (i := k) (x := v3) rfl (nlt rfl) rfl (Nat.le_of_ble_eq_true rfl) (by omega) (by omega) e4 ?_
    refine jr.istore (ls' := [_, _, _, _, _, _]) rfl (nlt rfl) rfl ?_
    refine jr.bipush rfl (jbp _ (nlt rfl)) ?_
    refine jr.lload_n rfl rfl ?_
    refine jr.l2i rfl ?_
    refine jr.imul rfl ?_
    refine jr.lload_n rfl rfl ?_
    refine jr.l2i rfl ?_
    refine jr.iadd rfl ?_
    refine jr.istore (ls' := [_, _, _, _, _, _, _]) rfl (nlt rfl) rfl ?_
    refine jr.aload_n rfl rfl ?_
    refine jr.getf (i := 119) (v := .ref 676) rfl rfl (nlt rfl) rfl (nlt rfl) rfl rfl rfl rfl ?_
    refine jr.iload rfl rfl ?_
    refine jr.iload rfl rfl ?_
    refine jr.if_ne rfl rfl (by first | (refine rgb (by assumption) ?_; exact rfl) | omega) (fun h43 => ?_) (fun h43 => ?_)
    · refine jr.iload rfl rfl ?_
      refine jr.iconst rfl ?_
      refine jr.icmp_ne rfl rfl (by first | (refine rgb (by assumption) ?_; exact rfl) | omega) (rgl rfl) (fun h57 => ?_) (fun h57 => ?_)
      · refine jr.iload rfl rfl ?_
        refine jr.iconst rfl ?_
        refine jr.icmp_ne rfl rfl (by first | (refine rgb (by assumption) ?_; exact rfl) | omega) (rgl rfl) (fun h71 => ?_) (fun h71 => ?_)
        · refine jr.iload rfl rfl ?_
          refine jr.iconst rfl ?_
          refine jr.icmp_ne rfl rfl (by first | (refine rgb (by assumption) ?_; exact rfl) | omega) (rgl rfl) (fun h86 => ?_) (fun h86 => ?_)
          · refine jr.lload rfl rfl ?_
            refine jr.last (i := ((40 * k) + i)) (x := v) rfl (nlt rfl) rfl (Nat.le_of_ble_eq_true rfl) (by omega) (by omega) ?_
            exact jr.vreturn rfl rfl (q _ (RI.u hI_M1 (a := 676) (i := ((40 * k) + i)) (by rw [xri_row rfl rfl]; show (-9223372036854775808 : Int) ≤ _ ∧ _ ≤ (9223372036854775807 : Int); omega)) (RH.o hH_M1 (by decide) (by decide) (by decide)) (RF.o hS_M1 (by decide) (by decide))  (fun a i f598 f676 => ((ju_c _ _ f676).trans ((w1_1 a i f598).trans rfl))) (fun i g135 => ((ju_c _ _ (by decide)).trans ((w1_2 i g135).trans rfl))))
          · refine jr.lload rfl rfl ?_
            refine jr.l2i rfl ?_
            refine jr.iw (j_w v) (j_w_eq _) ?_
            have b5 : -2147483648 ≤ j_w v ∧ j_w v ≤ 2147483647 := jb_any _
            generalize j_w v = v5 at b5 ⊢
            refine jr.i2l rfl (by omega) ?_
            refine jr.goto rfl rfl ?_
            refine jr.last (i := ((40 * k) + i)) (x := v5) rfl (nlt rfl) rfl (Nat.le_of_ble_eq_true rfl) (by omega) (by omega) ?_
            exact jr.vreturn rfl rfl (q _ (RI.u hI_M1 (a := 676) (i := ((40 * k) + i)) (by rw [xri_row rfl rfl]; show (-9223372036854775808 : Int) ≤ _ ∧ _ ≤ (9223372036854775807 : Int); omega)) (RH.o hH_M1 (by decide) (by decide) (by decide)) (RF.o hS_M1 (by decide) (by decide))  (fun a i f598 f676 => ((ju_c _ _ f676).trans ((w1_1 a i f598).trans rfl))) (fun i g135 => ((ju_c _ _ (by decide)).trans ((w1_2 i g135).trans rfl))))
        · refine jr.lload rfl rfl ?_
          refine jr.ldc2 (x := 65535) rfl rfl (by decide) ?_
          refine jr.land rfl ?_
          have b6 : 0 ≤ jl_and v 65535 ∧ jl_and v 65535 ≤ 65535 := jl_and_le (by decide)
          generalize jl_and v 65535 = v6 at b6 ⊢
          refine jr.goto rfl rfl ?_
          refine jr.last (i := ((40 * k) + i)) (x := v6) rfl (nlt rfl) rfl (Nat.le_of_ble_eq_true rfl) (by omega) (by omega) ?_
          exact jr.vreturn rfl rfl (q _ (RI.u hI_M1 (a := 676) (i := ((40 * k) + i)) (by rw [xri_row rfl rfl]; show (-9223372036854775808 : Int) ≤ _ ∧ _ ≤ (9223372036854775807 : Int); omega)) (RH.o hH_M1 (by decide) (by decide) (by decide)) (RF.o hS_M1 (by decide) (by decide))  (fun a i f598 f676 => ((ju_c _ _ f676).trans ((w1_1 a i f598).trans rfl))) (fun i g135 => ((ju_c _ _ (by decide)).trans ((w1_2 i g135).trans rfl))))
      · refine jr.lload rfl rfl ?_
        refine jr.l2i rfl ?_
        refine jr.iw (j_w v) (j_w_eq _) ?_
        have b7 : -2147483648 ≤ j_w v ∧ j_w v ≤ 2147483647 := jb_any _
        generalize j_w v = v7 at b7 ⊢
        refine jr.i2s rfl ?_
        have b8 : -2147483648 ≤ j_s v7 ∧ j_s v7 ≤ 2147483647 := jb_any _
        generalize j_s v7 = v8 at b8 ⊢
        refine jr.i2l rfl (by omega) ?_
        refine jr.goto rfl rfl ?_
        refine jr.last (i := ((40 * k) + i)) (x := v8) rfl (nlt rfl) rfl (Nat.le_of_ble_eq_true rfl) (by omega) (by omega) ?_
        exact jr.vreturn rfl rfl (q _ (RI.u hI_M1 (a := 676) (i := ((40 * k) + i)) (by rw [xri_row rfl rfl]; show (-9223372036854775808 : Int) ≤ _ ∧ _ ≤ (9223372036854775807 : Int); omega)) (RH.o hH_M1 (by decide) (by decide) (by decide)) (RF.o hS_M1 (by decide) (by decide))  (fun a i f598 f676 => ((ju_c _ _ f676).trans ((w1_1 a i f598).trans rfl))) (fun i g135 => ((ju_c _ _ (by decide)).trans ((w1_2 i g135).trans rfl))))
    · refine jr.lload rfl rfl ?_
      refine jr.l2i rfl ?_
      refine jr.iw (j_w v) (j_w_eq _) ?_
      have b9 : -2147483648 ≤ j_w v ∧ j_w v ≤ 2147483647 := jb_any _
      generalize j_w v = v9 at b9 ⊢
      refine jr.i2b rfl ?_
      have b10 : -2147483648 ≤ j_b v9 ∧ j_b v9 ≤ 2147483647 := jb_any _
      generalize j_b v9 = v10 at b10 ⊢
      refine jr.i2l rfl (by omega) ?_
      refine jr.goto rfl rfl ?_
      refine jr.last (i := ((40 * k) + i)) (x := v10) rfl (nlt rfl) rfl (Nat.le_of_ble_eq_true rfl) (by omega) (by omega) ?_
      exact jr.vreturn rfl rfl (q _ (RI.u hI_M1 (a := 676) (i := ((40 * k) + i)) (by rw [xri_row rfl rfl]; show (-9223372036854775808 : Int) ≤ _ ∧ _ ≤ (9223372036854775807 : Int); omega)) (RH.o hH_M1 (by decide) (by decide) (by decide)) (RF.o hS_M1 (by decide) (by decide))  (fun a i f598 f676 => ((ju_c _ _ f676).trans ((w1_1 a i f598).trans rfl))) (fun i g135 => ((ju_c _ _ (by decide)).trans ((w1_2 i g135).trans rfl))))
  · have sx12 : (1 : Int) ≤ v2 := by omega
    clear h12
    exact jr.vreturn rfl rfl (q _ hI_M1 hH_M1 hS_M1  (fun a i f598 f676 => ((w1_1 a i f598).trans rfl)) (fun i g135 => ((w1_2 i g135).trans rfl)))
theorem r_layHead_L14 {A : Nat → Option (Nat × (Nat → Int32))} {Q : Option Value → jm → Prop} {M0 : jm} (q : ∀ (M' : jm), RI M' → RH M' → RF M' → (∀ (a : Nat) (i : Int), a ≠ 677 → a ≠ 678 → M' a i = M0 a i) → Q none M') : ∀ (nM : Nat) (M : jm) (i : Int) (f : Int) (t : Int), RI M → RH M → RF M → (∀ (a : Nat) (i : Int), a ≠ 677 → a ≠ 678 → M a i = M0 a i) → 0 ≤ i ∧ i ≤ 11 → 0 ≤ f ∧ f ≤ 319 → 0 ≤ t ∧ t ≤ 319 → 11 - i ≤ nM → jr A 0 xm_398 14 [(3, .int (Int32.ofInt (i))), (2, .int (Int32.ofInt (f))), (1, .int (Int32.ofInt (t))), (0, .ref (598))] [] M Q := by
  intro nM
  induction nM using Nat.strongRecOn with
  | ind nM ih =>
    intro M i f t hI_M hH_M hS_M hF_M h_i h_f h_t hm
    refine jr.iload_n rfl rfl ?_
    refine jr.bipush rfl (jbp _ (nlt rfl)) ?_
    refine jr.icmp_ge rfl rfl (by first | (refine rgb (by assumption) ?_; exact rfl) | omega) (rgl rfl) (fun h17 => ?_) (fun h17 => ?_)
    · exact jr.vreturn rfl rfl (q _ hI_M hH_M hS_M  (fun a i f677 f678 => (hF_M a i f677 f678)))
    · refine jr.aload_n rfl rfl ?_
      refine jr.getf (i := 121) (v := .ref 678) rfl rfl (nlt rfl) rfl (nlt rfl) rfl rfl rfl rfl ?_
      refine jr.bipush rfl (jbp _ (nlt rfl)) ?_
      refine jr.iload_n rfl rfl ?_
      refine jr.imul rfl ?_
      refine jr.iload_n rfl rfl ?_
      refine jr.iadd rfl ?_
      refine jr.aload_n rfl rfl ?_
      refine jr.getf (i := 121) (v := .ref 678) rfl rfl (nlt rfl) rfl (nlt rfl) rfl rfl rfl rfl ?_
      refine jr.bipush rfl (jbp _ (nlt rfl)) ?_
      refine jr.iload_n rfl rfl ?_
      refine jr.imul rfl ?_
      refine jr.iload_n rfl rfl ?_
      refine jr.iadd rfl ?_
      obtain ⟨v1, e1⟩ : ∃ z, M 678 ((11 * f) + i) = z := ⟨_, rfl⟩
      have b1 : (-9223372036854775808) ≤ v1 ∧ v1 ≤ 9223372036854775807 := by rw [← e1]; exact (by have q := hI_M 678 ((11 * f) + i) (by decide); rw [xri_row rfl rfl] at q; exact q)
      refine jr.lald (i := ((11 * f) + i)) (x := v1) rfl (nlt rfl) rfl (Nat.le_of_ble_eq_true rfl) (by omega) (by omega) e1 ?_
      refine jr.last (i := ((11 * t) + i)) (x := v1) rfl (nlt rfl) rfl (Nat.le_of_ble_eq_true rfl) (by omega) (by omega) ?_
      refine jr.iinc (ls' := [_, _, _, _]) rfl rfl (nlt rfl) rfl ?_
      refine jr.goto rfl rfl ?_
      refine jr.pick (ls := [_, _, _, _]) [0, 1, 2, 3] rfl rfl ?_
      exact ih (nM - 1) (by omega) (ju M 678 ((11 * t) + i) v1) (i + 1) f t (RI.u hI_M (a := 678) (i := ((11 * t) + i)) (by rw [xri_row rfl rfl]; show (-9223372036854775808 : Int) ≤ _ ∧ _ ≤ (9223372036854775807 : Int); omega)) (RH.o hH_M (by decide) (by decide) (by decide)) (RF.o hS_M (by decide) (by decide))  (fun a i f677 f678 => ((ju_c _ _ f678).trans (hF_M a i f677 f678))) (by omega) (by omega) (by omega)  (by omega)
theorem r_layHead {A : Nat → Option (Nat × (Nat → Int32))} {Q : Option Value → jm → Prop} {M : jm} (hI_M : RI M) (hH_M : RH M) (hS_M : RF M) {t : Int} (h_t : 0 ≤ t ∧ t ≤ 319) {f : Int} (h_f : 0 ≤ f ∧ f ≤ 319) (q : ∀ (M' : jm), RI M' → RH M' → RF M' → (∀ (a : Nat) (i : Int), a ≠ 677 → a ≠ 678 → M' a i = M a i) → Q none M') : jc A 1 398 [.ref (598), .int (Int32.ofInt (t)), .int (Int32.ofInt (f))] M Q := by
  refine jc_of (m := xm_398) rfl (Nat.le_of_ble_eq_true rfl) rfl ?_
  refine jr.aload_n rfl rfl ?_
  refine jr.getf (i := 120) (v := .ref 677) rfl rfl (nlt rfl) rfl (nlt rfl) rfl rfl rfl rfl ?_
  refine jr.iload_n rfl rfl ?_
  refine jr.aload_n rfl rfl ?_
  refine jr.getf (i := 120) (v := .ref 677) rfl rfl (nlt rfl) rfl (nlt rfl) rfl rfl rfl rfl ?_
  refine jr.iload_n rfl rfl ?_
  obtain ⟨v1, e1⟩ : ∃ z, M 677 f = z := ⟨_, rfl⟩
  have b1 : (-1) ≤ v1 ∧ v1 ≤ 11 := by rw [← e1]; exact (by have q := hI_M 677 f (Nat.le_of_ble_eq_true rfl); rw [xri_row rfl rfl] at q; exact q)
  refine jr.iald (i := f) (x := v1) rfl (nlt rfl) rfl (Nat.le_of_ble_eq_true rfl) (by omega) (by omega) e1 ?_
  refine jr.iast (i := t) (x := v1) rfl (nlt rfl) rfl (Nat.le_of_ble_eq_true rfl) (by omega) (by omega) ?_
  refine jr.iconst rfl ?_
  refine jr.istore_n (ls' := [_, _, _, _]) rfl (nlt rfl) rfl ?_
  refine jr.pick (ls := [_, _, _, _]) [0, 3, 2, 1] rfl rfl ?_
  exact r_layHead_L14 q 11 (ju M 677 t v1) 0 f t (RI.u hI_M (a := 677) (i := t) (by rw [xri_row rfl rfl]; show (-1 : Int) ≤ _ ∧ _ ≤ (11 : Int); omega)) (RH.o hH_M (by decide) (by decide) (by decide)) (RF.o hS_M (by decide) (by decide))  (fun a i f677 f678 => ((ju_c _ _ f677).trans rfl)) (by omega) (by omega) (by omega)  (by omega)
theorem r_copy_L292 {A : Nat → Option (Nat × (Nat → Int32))} {Q : Option Value → jm → Prop} {M0 : jm} (q : ∀ (M' : jm), RI M' → RH M' → RF M' → (∀ (a : Nat) (i : Int), a ≠ 598 → a ≠ 676 → a ≠ 677 → a ≠ 678 → M' a i = M0 a i) → (∀ (i : Int), i ≠ 135 → M' 598 i = M0 598 i) → Q none M') : ∀ (nM : Nat) (M : jm) (k : Int) (m : Int) (t : Int) (f : Int) (h : Int), RI M → RH M → RF M → (∀ (a : Nat) (i : Int), a ≠ 598 → a ≠ 676 → a ≠ 677 → a ≠ 678 → M a i = M0 a i) → (∀ (i : Int), i ≠ 135 → M 598 i = M0 598 i) → 0 ≤ k ∧ k ≤ 40 → 0 ≤ m ∧ m ≤ 40 → 0 ≤ t ∧ t ≤ 320 → 0 ≤ f ∧ f ≤ 320 → 0 ≤ h ∧ h ≤ 1 → f + m ≤ 320 → t + m ≤ 320 → 40 - k ≤ nM → jr A 1 xm_399 292 [(17, .int (Int32.ofInt (k))), (16, .int (Int32.ofInt (m))), (15, .int (Int32.ofInt (t))), (14, .int (Int32.ofInt (f))), (13, .int (Int32.ofInt (h))), (0, .ref (598))] [] M Q := by
  intro nM
  induction nM using Nat.strongRecOn with
  | ind nM ih =>
    intro M k m t f h hI_M hH_M hS_M hF_M hG_M h_k h_m h_t h_f h_h hy0 hy1 hm
    refine jr.iload rfl rfl ?_
    refine jr.iload rfl rfl ?_
    refine jr.icmp_ge rfl rfl (by first | (refine rgb (by assumption) ?_; exact rfl) | omega) (by first | (refine rgb (by assumption) ?_; exact rfl) | omega) (fun h296 => ?_) (fun h296 => ?_)
    · exact jr.vreturn rfl rfl (q _ hI_M hH_M hS_M  (fun a i f598 f676 f677 f678 => (hF_M a i f598 f676 f677 f678)) (fun i g135 => (hG_M i g135)))
    · refine jr.iload rfl rfl ?_
      refine jr.iload rfl rfl ?_
      refine jr.icmp_gt rfl rfl (by first | (refine rgb (by assumption) ?_; exact rfl) | omega) (by first | (refine rgb (by assumption) ?_; exact rfl) | omega) (fun h303 => ?_) (fun h303 => ?_)
      · refine jr.iload rfl rfl ?_
        refine jr.iconst rfl ?_
        refine jr.isub rfl ?_
        refine jr.iload rfl rfl ?_
        refine jr.isub rfl ?_
        refine jr.istore (ls' := [_, _, _, _, _, _, _]) rfl (nlt rfl) rfl ?_
        refine jr.iload rfl rfl ?_
        refine jr.if_eq rfl rfl (by first | (refine rgb (by assumption) ?_; exact rfl) | omega) (fun h322 => ?_) (fun h322 => ?_)
        · refine jr.aload_n rfl rfl ?_
          refine jr.getf (i := 119) (v := .ref 676) rfl rfl (nlt rfl) rfl (nlt rfl) rfl rfl rfl rfl ?_
          refine jr.iload rfl rfl ?_
          refine jr.iload rfl rfl ?_
          refine jr.iadd rfl ?_
          refine jr.aload_n rfl rfl ?_
          refine jr.getf (i := 119) (v := .ref 676) rfl rfl (nlt rfl) rfl (nlt rfl) rfl rfl rfl rfl ?_
          refine jr.iload rfl rfl ?_
          refine jr.iload rfl rfl ?_
          refine jr.iadd rfl ?_
          obtain ⟨v1, e1⟩ : ∃ z, M 676 (f + ((m - 1) - k)) = z := ⟨_, rfl⟩
          have b1 : (-9223372036854775808) ≤ v1 ∧ v1 ≤ 9223372036854775807 := by rw [← e1]; exact (by have q := hI_M 676 (f + ((m - 1) - k)) (by decide); rw [xri_row rfl rfl] at q; exact q)
          refine jr.lald (i := (f + ((m - 1) - k))) (x := v1) rfl (nlt rfl) rfl (Nat.le_of_ble_eq_true rfl) (by omega) (by omega) e1 ?_
          refine jr.last (i := (t + ((m - 1) - k))) (x := v1) rfl (nlt rfl) rfl (Nat.le_of_ble_eq_true rfl) (by omega) (by omega) ?_
          refine jr.iinc (ls' := [_, _, _, _, _, _, _]) rfl rfl (nlt rfl) rfl ?_
          refine jr.goto rfl rfl ?_
          refine jr.pick (ls := [_, _, _, _, _, _]) [0, 2, 3, 4, 5, 6] rfl rfl ?_
          exact ih (nM - 1) (by omega) (ju M 676 (t + ((m - 1) - k)) v1) (k + 1) m t f h (RI.u hI_M (a := 676) (i := (t + ((m - 1) - k))) (by rw [xri_row rfl rfl]; show (-9223372036854775808 : Int) ≤ _ ∧ _ ≤ (9223372036854775807 : Int); omega)) (RH.o hH_M (by decide) (by decide) (by decide)) (RF.o hS_M (by decide) (by decide))  (fun a i f598 f676 f677 f678 => ((ju_c _ _ f676).trans (hF_M a i f598 f676 f677 f678))) (fun i g135 => ((ju_c _ _ (by decide)).trans (hG_M i g135))) (by omega) (by omega) (by omega) (by omega) (by omega) (by omega) (by omega) (by omega)
        · have sx322 : (1 : Int) ≤ h := by omega
          clear h322
          refine jr.aload_n rfl rfl ?_
          refine jr.iload rfl rfl ?_
          refine jr.iload rfl rfl ?_
          refine jr.iadd rfl ?_
          refine jr.iload rfl rfl ?_
          refine jr.iload rfl rfl ?_
          refine jr.iadd rfl ?_
          refine jr_v rfl rfl (Or.inl rfl) rfl rfl (nlt rfl) rfl ⟨rfl, Nat.le_of_ble_eq_true rfl, Nat.le_of_ble_eq_true rfl⟩ rfl (jc.deep (r_layHead hI_M hH_M hS_M  (by omega) (by omega)  (fun M2 hI_M2 hH_M2 hS_M2  w2_0 => ?_)) (Nat.le_of_ble_eq_true rfl))
          refine jr.goto rfl rfl ?_
          refine jr.iinc (ls' := [_, _, _, _, _, _, _]) rfl rfl (nlt rfl) rfl ?_
          refine jr.goto rfl rfl ?_
          refine jr.pick (ls := [_, _, _, _, _, _]) [0, 2, 3, 4, 5, 6] rfl rfl ?_
          exact ih (nM - 1) (by omega) M2 (k + 1) m t f h hI_M2 hH_M2 hS_M2  (fun a i f598 f676 f677 f678 => ((w2_0 a i f677 f678).trans (hF_M a i f598 f676 f677 f678))) (fun i g135 => ((w2_0 598 i (nne rfl) (nne rfl)).trans (hG_M i g135))) (by omega) (by omega) (by omega) (by omega) (by omega) (by omega) (by omega) (by omega)
      · refine jr.iload rfl rfl ?_
        refine jr.goto rfl rfl ?_
        refine jr.istore (ls' := [_, _, _, _, _, _, _]) rfl (nlt rfl) rfl ?_
        refine jr.iload rfl rfl ?_
        refine jr.if_eq rfl rfl (by first | (refine rgb (by assumption) ?_; exact rfl) | omega) (fun h322 => ?_) (fun h322 => ?_)
        · refine jr.aload_n rfl rfl ?_
          refine jr.getf (i := 119) (v := .ref 676) rfl rfl (nlt rfl) rfl (nlt rfl) rfl rfl rfl rfl ?_
          refine jr.iload rfl rfl ?_
          refine jr.iload rfl rfl ?_
          refine jr.iadd rfl ?_
          refine jr.aload_n rfl rfl ?_
          refine jr.getf (i := 119) (v := .ref 676) rfl rfl (nlt rfl) rfl (nlt rfl) rfl rfl rfl rfl ?_
          refine jr.iload rfl rfl ?_
          refine jr.iload rfl rfl ?_
          refine jr.iadd rfl ?_
          obtain ⟨v3, e3⟩ : ∃ z, M 676 (f + k) = z := ⟨_, rfl⟩
          have b3 : (-9223372036854775808) ≤ v3 ∧ v3 ≤ 9223372036854775807 := by rw [← e3]; exact (by have q := hI_M 676 (f + k) (Nat.le_of_ble_eq_true rfl); rw [xri_row rfl rfl] at q; exact q)
          refine jr.lald (i := (f + k)) (x := v3) rfl (nlt rfl) rfl (Nat.le_of_ble_eq_true rfl) (by omega) (by omega) e3 ?_
          refine jr.last (i := (t + k)) (x := v3) rfl (nlt rfl) rfl (Nat.le_of_ble_eq_true rfl) (by omega) (by omega) ?_
          refine jr.iinc (ls' := [_, _, _, _, _, _, _]) rfl rfl (nlt rfl) rfl ?_
          refine jr.goto rfl rfl ?_
          refine jr.pick (ls := [_, _, _, _, _, _]) [0, 2, 3, 4, 5, 6] rfl rfl ?_
          exact ih (nM - 1) (by omega) (ju M 676 (t + k) v3) (k + 1) m t f h (RI.u hI_M (a := 676) (i := (t + k)) (by rw [xri_row rfl rfl]; show (-9223372036854775808 : Int) ≤ _ ∧ _ ≤ (9223372036854775807 : Int); omega)) (RH.o hH_M (by decide) (by decide) (by decide)) (RF.o hS_M (by decide) (by decide))  (fun a i f598 f676 f677 f678 => ((ju_c _ _ f676).trans (hF_M a i f598 f676 f677 f678))) (fun i g135 => ((ju_c _ _ (by decide)).trans (hG_M i g135))) (by omega) (by omega) (by omega) (by omega) (by omega) (by omega) (by omega) (by omega)
        · have sx322 : (1 : Int) ≤ h := by omega
          clear h322
          refine jr.aload_n rfl rfl ?_
          refine jr.iload rfl rfl ?_
          refine jr.iload rfl rfl ?_
          refine jr.iadd rfl ?_
          refine jr.iload rfl rfl ?_
          refine jr.iload rfl rfl ?_
          refine jr.iadd rfl ?_
          refine jr_v rfl rfl (Or.inl rfl) rfl rfl (nlt rfl) rfl ⟨rfl, Nat.le_of_ble_eq_true rfl, Nat.le_of_ble_eq_true rfl⟩ rfl (jc.deep (r_layHead hI_M hH_M hS_M  (by omega) (by omega)  (fun M4 hI_M4 hH_M4 hS_M4  w4_0 => ?_)) (Nat.le_of_ble_eq_true rfl))
          refine jr.goto rfl rfl ?_
          refine jr.iinc (ls' := [_, _, _, _, _, _, _]) rfl rfl (nlt rfl) rfl ?_
          refine jr.goto rfl rfl ?_
          refine jr.pick (ls := [_, _, _, _, _, _]) [0, 2, 3, 4, 5, 6] rfl rfl ?_
          exact ih (nM - 1) (by omega) M4 (k + 1) m t f h hI_M4 hH_M4 hS_M4  (fun a i f598 f676 f677 f678 => ((w4_0 a i f677 f678).trans (hF_M a i f598 f676 f677 f678))) (fun i g135 => ((w4_0 598 i (nne rfl) (nne rfl)).trans (hG_M i g135))) (by omega) (by omega) (by omega) (by omega) (by omega) (by omega) (by omega) (by omega)
theorem r_copy_L226 {A : Nat → Option (Nat × (Nat → Int32))} {Q : Option Value → jm → Prop} {M0 : jm} (q : ∀ (M' : jm), RI M' → RH M' → RF M' → (∀ (a : Nat) (i : Int), a ≠ 598 → a ≠ 676 → a ≠ 677 → a ≠ 678 → M' a i = M0 a i) → (∀ (i : Int), i ≠ 135 → M' 598 i = M0 598 i) → Q none M') : ∀ (nM : Nat) (M : jm) (m : Int) (t : Int) (f : Int) (h : Int) (n : Int), RI M → RH M → RF M → (∀ (a : Nat) (i : Int), a ≠ 598 → a ≠ 676 → a ≠ 677 → a ≠ 678 → M a i = M0 a i) → (∀ (i : Int), i ≠ 135 → M 598 i = M0 598 i) → 0 ≤ m ∧ m ≤ 40 → 0 ≤ t ∧ t ≤ 320 → 0 ≤ f ∧ f ≤ 320 → 0 ≤ h ∧ h ≤ 1 → 0 ≤ n ∧ n ≤ 40 → f + n ≤ 320 → t + n ≤ 320 → m ≤ n → 40 - m ≤ nM → jr A 1 xm_399 226 [(16, .int (Int32.ofInt (m))), (15, .int (Int32.ofInt (t))), (14, .int (Int32.ofInt (f))), (13, .int (Int32.ofInt (h))), (9, .long (Int64.ofInt (n))), (0, .ref (598))] [] M Q := by
  intro nM
  induction nM using Nat.strongRecOn with
  | ind nM ih =>
    intro M m t f h n hI_M hH_M hS_M hF_M hG_M h_m h_t h_f h_h h_n hy0 hy1 hy2 hm
    refine jr.iload rfl rfl ?_
    refine jr.i2l rfl (by omega) ?_
    refine jr.lload rfl rfl ?_
    refine jr.lcmp_ge rfl rfl rfl (by omega) (by omega) (fun h231 => ?_) (fun h231 => ?_)
    · refine jr.aload_n rfl rfl ?_
      refine jr.iload rfl rfl ?_
      refine jr.i2l rfl (by omega) ?_
      refine jr.lload rfl rfl ?_
      refine jr.lcmp_ge rfl rfl rfl (by omega) (by omega) (fun h277 => ?_) (fun h277 => ?_)
      · refine jr.iconst rfl ?_
        refine jr.putf (i := 135) (x := 0) rfl rfl (nlt rfl) rfl (nlt rfl) rfl rfl rfl rfl rfl ?_
        refine jr.iconst rfl ?_
        refine jr.istore (ls' := [_, _, _, _, _, _, _]) rfl (nlt rfl) rfl ?_
        refine jr.pick (ls := [_, _, _, _, _, _]) [0, 1, 2, 3, 4, 6] rfl rfl ?_
        exact r_copy_L292 q 40 (ju M 598 135 0) 0 m t f h (RI.u hI_M (a := 598) (i := 135) (show (0 : Int) ≤ _ ∧ _ ≤ (8 : Int) from by omega)) (RH.o hH_M (by decide) (by decide) (by decide)) (RF.o hS_M (by decide) (by decide))  (fun a i f598 f676 f677 f678 => ((ju_c _ _ f598).trans (hF_M a i f598 f676 f677 f678))) (fun i g135 => ((ju_i _ _ g135).trans (hG_M i g135))) (by omega) (by omega) (by omega) (by omega) (by omega) (by omega) (by omega) (by omega)
      · refine jr.iconst rfl ?_
        refine jr.goto rfl rfl ?_
        refine jr.putf (i := 135) (x := 5) rfl rfl (nlt rfl) rfl (nlt rfl) rfl rfl rfl rfl rfl ?_
        refine jr.iconst rfl ?_
        refine jr.istore (ls' := [_, _, _, _, _, _, _]) rfl (nlt rfl) rfl ?_
        refine jr.pick (ls := [_, _, _, _, _, _]) [0, 1, 2, 3, 4, 6] rfl rfl ?_
        exact r_copy_L292 q 40 (ju M 598 135 5) 0 m t f h (RI.u hI_M (a := 598) (i := 135) (show (0 : Int) ≤ _ ∧ _ ≤ (8 : Int) from by omega)) (RH.o hH_M (by decide) (by decide) (by decide)) (RF.o hS_M (by decide) (by decide))  (fun a i f598 f676 f677 f678 => ((ju_c _ _ f598).trans (hF_M a i f598 f676 f677 f678))) (fun i g135 => ((ju_i _ _ g135).trans (hG_M i g135))) (by omega) (by omega) (by omega) (by omega) (by omega) (by omega) (by omega) (by omega)
    · refine jr.aload_n rfl rfl ?_
      refine jr.getf (i := 120) (v := .ref 677) rfl rfl (nlt rfl) rfl (nlt rfl) rfl rfl rfl rfl ?_
      refine jr.iload rfl rfl ?_
      refine jr.iload rfl rfl ?_
      refine jr.iadd rfl ?_
      obtain ⟨v1, e1⟩ : ∃ z, M 677 (f + m) = z := ⟨_, rfl⟩
      have b1 : (-1) ≤ v1 ∧ v1 ≤ 11 := by rw [← e1]; exact (by have q := hI_M 677 (f + m) (Nat.le_of_ble_eq_true rfl); rw [xri_row rfl rfl] at q; exact q)
      refine jr.iald (i := (f + m)) (x := v1) rfl (nlt rfl) rfl (Nat.le_of_ble_eq_true rfl) (by omega) (by omega) e1 ?_
      refine jr.iconst rfl ?_
      refine jr.icmp_eq rfl rfl (by first | (refine rgb (by assumption) ?_; exact rfl) | omega) (rgl rfl) (fun h246 => ?_) (fun h246 => ?_)
      · refine jr.iinc (ls' := [_, _, _, _, _, _]) rfl rfl (nlt rfl) rfl ?_
        refine jr.goto rfl rfl ?_
        refine jr.pick (ls := [_, _, _, _, _, _]) [0, 1, 2, 3, 4, 5] rfl rfl ?_
        exact ih (nM - 1) (by omega) M (m + 1) t f h n hI_M hH_M hS_M  (fun a i f598 f676 f677 f678 => (hF_M a i f598 f676 f677 f678)) (fun i g135 => (hG_M i g135)) (by omega) (by omega) (by omega) (by omega) (by omega) (by omega) (by omega) (by omega) (by omega)
      · refine jr.aload_n rfl rfl ?_
        refine jr.getf (i := 120) (v := .ref 677) rfl rfl (nlt rfl) rfl (nlt rfl) rfl rfl rfl rfl ?_
        refine jr.iload rfl rfl ?_
        refine jr.iload rfl rfl ?_
        refine jr.iadd rfl ?_
        refine jr.iald (i := (f + m)) (x := v1) rfl (nlt rfl) rfl (Nat.le_of_ble_eq_true rfl) (by omega) (by omega) e1 ?_
        refine jr_s rfl rfl (Or.inl rfl) ⟨Nat.le_of_ble_eq_true rfl, Nat.le_of_ble_eq_true rfl⟩ rfl rfl (jc.deep (c_isCarried (by omega) (fun c259 => ?_) (fun c259 => ?_)) (Nat.le_of_ble_eq_true rfl))
        · refine jr.if_eq rfl rfl (by first | exact rgl rfl | omega) (fun h => absurd h (by decide)) (fun _ => ?_)
          refine jr.iinc (ls' := [_, _, _, _, _, _]) rfl rfl (nlt rfl) rfl ?_
          refine jr.goto rfl rfl ?_
          refine jr.pick (ls := [_, _, _, _, _, _]) [0, 1, 2, 3, 4, 5] rfl rfl ?_
          exact ih (nM - 1) (by omega) M (m + 1) t f h n hI_M hH_M hS_M  (fun a i f598 f676 f677 f678 => (hF_M a i f598 f676 f677 f678)) (fun i g135 => (hG_M i g135)) (by omega) (by omega) (by omega) (by omega) (by omega) (by omega) (by omega) (by omega) (by omega)
        · refine jr.if_eq rfl rfl (by first | exact rgl rfl | omega) (fun _ => ?_) (fun h => absurd (by decide) h)
          refine jr.aload_n rfl rfl ?_
          refine jr.iload rfl rfl ?_
          refine jr.i2l rfl (by omega) ?_
          refine jr.lload rfl rfl ?_
          refine jr.lcmp_ge rfl rfl rfl (by omega) (by omega) (fun h277 => ?_) (fun h277 => ?_)
          · refine jr.iconst rfl ?_
            refine jr.putf (i := 135) (x := 0) rfl rfl (nlt rfl) rfl (nlt rfl) rfl rfl rfl rfl rfl ?_
            refine jr.iconst rfl ?_
            refine jr.istore (ls' := [_, _, _, _, _, _, _]) rfl (nlt rfl) rfl ?_
            refine jr.pick (ls := [_, _, _, _, _, _]) [0, 1, 2, 3, 4, 6] rfl rfl ?_
            exact r_copy_L292 q 40 (ju M 598 135 0) 0 m t f h (RI.u hI_M (a := 598) (i := 135) (show (0 : Int) ≤ _ ∧ _ ≤ (8 : Int) from by omega)) (RH.o hH_M (by decide) (by decide) (by decide)) (RF.o hS_M (by decide) (by decide))  (fun a i f598 f676 f677 f678 => ((ju_c _ _ f598).trans (hF_M a i f598 f676 f677 f678))) (fun i g135 => ((ju_i _ _ g135).trans (hG_M i g135))) (by omega) (by omega) (by omega) (by omega) (by omega) (by omega) (by omega) (by omega)
          · refine jr.iconst rfl ?_
            refine jr.goto rfl rfl ?_
            refine jr.putf (i := 135) (x := 5) rfl rfl (nlt rfl) rfl (nlt rfl) rfl rfl rfl rfl rfl ?_
            refine jr.iconst rfl ?_
            refine jr.istore (ls' := [_, _, _, _, _, _, _]) rfl (nlt rfl) rfl ?_
            refine jr.pick (ls := [_, _, _, _, _, _]) [0, 1, 2, 3, 4, 6] rfl rfl ?_
            exact r_copy_L292 q 40 (ju M 598 135 5) 0 m t f h (RI.u hI_M (a := 598) (i := 135) (show (0 : Int) ≤ _ ∧ _ ≤ (8 : Int) from by omega)) (RH.o hH_M (by decide) (by decide) (by decide)) (RF.o hS_M (by decide) (by decide))  (fun a i f598 f676 f677 f678 => ((ju_c _ _ f598).trans (hF_M a i f598 f676 f677 f678))) (fun i g135 => ((ju_i _ _ g135).trans (hG_M i g135))) (by omega) (by omega) (by omega) (by omega) (by omega) (by omega) (by omega) (by omega)
theorem r_copy_L180 {A : Nat → Option (Nat × (Nat → Int32))} {Q : Option Value → jm → Prop} {M0 : jm} (q : ∀ (M' : jm), RI M' → RH M' → RF M' → (∀ (a : Nat) (i : Int), a ≠ 598 → a ≠ 676 → a ≠ 677 → a ≠ 678 → M' a i = M0 a i) → (∀ (i : Int), i ≠ 135 → M' 598 i = M0 598 i) → Q none M') : ∀ (M : jm) (h : Int) (b : Int) (a : Int) (n : Int) (j : Int) (i : Int), RI M → RH M → RF M → (∀ (a : Nat) (i : Int), a ≠ 598 → a ≠ 676 → a ≠ 677 → a ≠ 678 → M a i = M0 a i) → (∀ (i : Int), i ≠ 135 → M 598 i = M0 598 i) → 0 ≤ h ∧ h ≤ 1 → 0 ≤ b ∧ b ≤ 7 → 0 ≤ a ∧ a ≤ 7 → 0 ≤ n ∧ n ≤ 40 → 0 ≤ j ∧ j ≤ 40 → 0 ≤ i ∧ i ≤ 40 → i + n ≤ 40 → j + n ≤ 40 → jr A 1 xm_399 180 [(13, .int (Int32.ofInt (h))), (12, .int (Int32.ofInt (b))), (11, .int (Int32.ofInt (a))), (9, .long (Int64.ofInt (n))), (7, .long (Int64.ofInt (j))), (3, .long (Int64.ofInt (i))), (0, .ref (598))] [] M Q := by
    intro M h b a n j i hI_M hH_M hS_M hF_M hG_M h_h h_b h_a h_n h_j h_i hy0 hy1
    refine jr.bipush rfl (jbp _ (nlt rfl)) ?_
    refine jr.iload rfl rfl ?_
    refine jr.imul rfl ?_
    refine jr.lload_n rfl rfl ?_
    refine jr.l2i rfl ?_
    refine jr.iadd rfl ?_
    refine jr.istore (ls' := [_, _, _, _, _, _, _, _]) rfl (nlt rfl) rfl ?_
    refine jr.bipush rfl (jbp _ (nlt rfl)) ?_
    refine jr.iload rfl rfl ?_
    refine jr.imul rfl ?_
    refine jr.lload rfl rfl ?_
    refine jr.l2i rfl ?_
    refine jr.iadd rfl ?_
    refine jr.istore (ls' := [_, _, _, _, _, _, _, _, _]) rfl (nlt rfl) rfl ?_
    refine jr.lload rfl rfl ?_
    refine jr.l2i rfl ?_
    refine jr.istore (ls' := [_, _, _, _, _, _, _, _, _, _]) rfl (nlt rfl) rfl ?_
    refine jr.iload rfl rfl ?_
    refine jr.if_eq rfl rfl (by first | (refine rgb (by assumption) ?_; exact rfl) | omega) (fun h208 => ?_) (fun h208 => ?_)
    · refine jr.iconst rfl ?_
      refine jr.istore (ls' := [_, _, _, _, _, _, _, _, _, _, _]) rfl (nlt rfl) rfl ?_
      refine jr.pick (ls := [_, _, _, _, _, _]) [0, 1, 2, 3, 4, 10] rfl rfl ?_
      exact r_copy_L292 q 40 M 0 n ((40 * b) + j) ((40 * a) + i) h hI_M hH_M hS_M  (fun a i f598 f676 f677 f678 => (hF_M a i f598 f676 f677 f678)) (fun i g135 => (hG_M i g135)) (by omega) (by omega) (by omega) (by omega) (by omega) (by omega) (by omega) (by omega)
    · have sx208 : (1 : Int) ≤ h := by omega
      clear h208
      refine jr.aload_n rfl rfl ?_
      refine jr.getf (i := 117) (v := .ref 674) rfl rfl (nlt rfl) rfl (nlt rfl) rfl rfl rfl rfl ?_
      refine jr.iload rfl rfl ?_
      obtain ⟨v1, e1⟩ : ∃ z, M 674 b = z := ⟨_, rfl⟩
      have b1 : (-1) ≤ v1 ∧ v1 ≤ 6 := by rw [← e1]; exact (by have q := hI_M 674 b (Nat.le_of_ble_eq_true rfl); rw [xri_row rfl rfl] at q; exact q)
      refine jr.iald (i := b) (x := v1) rfl (nlt rfl) rfl (Nat.le_of_ble_eq_true rfl) (by omega) (by omega) e1 ?_
      refine jr.bipush rfl (jbp _ (nlt rfl)) ?_
      refine jr.icmp_ne rfl rfl (by first | (refine rgb (by assumption) ?_; exact rfl) | omega) (rgl rfl) (fun h220 => ?_) (fun h220 => ?_)
      · have sx220 : v1 ≤ (5 : Int) := by omega
        clear h220
        refine jr.iconst rfl ?_
        refine jr.istore (ls' := [_, _, _, _, _, _, _, _, _, _, _]) rfl (nlt rfl) rfl ?_
        refine jr.pick (ls := [_, _, _, _, _, _]) [0, 1, 2, 3, 4, 10] rfl rfl ?_
        exact r_copy_L292 q 40 M 0 n ((40 * b) + j) ((40 * a) + i) h hI_M hH_M hS_M  (fun a i f598 f676 f677 f678 => (hF_M a i f598 f676 f677 f678)) (fun i g135 => (hG_M i g135)) (by omega) (by omega) (by omega) (by omega) (by omega) (by omega) (by omega) (by omega)
      · refine jr.iconst rfl ?_
        refine jr.istore (ls' := [_, _, _, _, _, _, _, _, _, _]) rfl (nlt rfl) rfl ?_
        refine jr.pick (ls := [_, _, _, _, _, _]) [0, 1, 2, 3, 6, 9] rfl rfl ?_
        exact r_copy_L226 q 40 M 0 ((40 * b) + j) ((40 * a) + i) h n hI_M hH_M hS_M  (fun a i f598 f676 f677 f678 => (hF_M a i f598 f676 f677 f678)) (fun i g135 => (hG_M i g135)) (by omega) (by omega) (by omega) (by omega) (by omega) (by omega) (by omega) (by omega) (by omega)
theorem r_copy_L123 {A : Nat → Option (Nat × (Nat → Int32))} {Q : Option Value → jm → Prop} {M0 : jm} (q : ∀ (M' : jm), RI M' → RH M' → RF M' → (∀ (a : Nat) (i : Int), a ≠ 598 → a ≠ 676 → a ≠ 677 → a ≠ 678 → M' a i = M0 a i) → (∀ (i : Int), i ≠ 135 → M' 598 i = M0 598 i) → Q none M') : ∀ (M : jm) (h : Int) (b : Int) (a : Int) (n : Int) (j : Int) (i : Int), RI M → RH M → RF M → (∀ (a : Nat) (i : Int), a ≠ 598 → a ≠ 676 → a ≠ 677 → a ≠ 678 → M a i = M0 a i) → (∀ (i : Int), i ≠ 135 → M 598 i = M0 598 i) → 0 ≤ h ∧ h ≤ 1 → 0 ≤ b ∧ b ≤ 7 → 0 ≤ a ∧ a ≤ 7 → (-9223372036854775808) ≤ n ∧ n ≤ 9223372036854775807 → (-9223372036854775808) ≤ j ∧ j ≤ 9223372036854775807 → (-9223372036854775808) ≤ i ∧ i ≤ 9223372036854775807 → jr A 1 xm_399 123 [(13, .int (Int32.ofInt (h))), (12, .int (Int32.ofInt (b))), (11, .int (Int32.ofInt (a))), (9, .long (Int64.ofInt (n))), (7, .long (Int64.ofInt (j))), (3, .long (Int64.ofInt (i))), (0, .ref (598))] [] M Q := by
    intro M h b a n j i hI_M hH_M hS_M hF_M hG_M h_h h_b h_a h_n h_j h_i
    refine jr.lload rfl rfl ?_
    refine jr.lconst (x := 0) rfl (by decide) ?_
    refine jr.ldc2 (x := 40) rfl rfl (by decide) ?_
    refine jr_s rfl rfl (Or.inl rfl) ⟨Nat.le_of_ble_eq_true rfl, Nat.le_of_ble_eq_true rfl⟩ rfl rfl (jc.deep (c_within (by omega) (by omega) (by omega) (fun l129 u129 => ?_) (fun n129 => ?_)) (Nat.le_of_ble_eq_true rfl))
    · refine jr.if_eq rfl rfl (by first | exact rgl rfl | omega) (fun h => absurd h (by decide)) (fun _ => ?_)
      refine jr.lload_n rfl rfl ?_
      refine jr.lconst (x := 0) rfl (by decide) ?_
      refine jr.aload_n rfl rfl ?_
      refine jr.getf (i := 118) (v := .ref 675) rfl rfl (nlt rfl) rfl (nlt rfl) rfl rfl rfl rfl ?_
      refine jr.iload rfl rfl ?_
      obtain ⟨v1, e1⟩ : ∃ z, M 675 a = z := ⟨_, rfl⟩
      have b1 : 0 ≤ v1 ∧ v1 ≤ 40 := by rw [← e1]; exact (by have q := hI_M 675 a (Nat.le_of_ble_eq_true rfl); rw [xri_row rfl rfl] at q; exact q)
      refine jr.iald (i := a) (x := v1) rfl (nlt rfl) rfl (Nat.le_of_ble_eq_true rfl) (by omega) (by omega) e1 ?_
      refine jr.i2l rfl (by omega) ?_
      refine jr.lload rfl rfl ?_
      refine jr.lsub rfl ?_
      refine jr_s rfl rfl (Or.inl rfl) ⟨Nat.le_of_ble_eq_true rfl, Nat.le_of_ble_eq_true rfl⟩ rfl rfl (jc.deep (c_within (by omega) (by omega) (by omega) (fun l148 u148 => ?_) (fun n148 => ?_)) (Nat.le_of_ble_eq_true rfl))
      · refine jr.if_eq rfl rfl (by first | exact rgl rfl | omega) (fun h => absurd h (by decide)) (fun _ => ?_)
        refine jr.lload rfl rfl ?_
        refine jr.lconst (x := 0) rfl (by decide) ?_
        refine jr.aload_n rfl rfl ?_
        refine jr.getf (i := 118) (v := .ref 675) rfl rfl (nlt rfl) rfl (nlt rfl) rfl rfl rfl rfl ?_
        refine jr.iload rfl rfl ?_
        obtain ⟨v2, e2⟩ : ∃ z, M 675 b = z := ⟨_, rfl⟩
        have b2 : 0 ≤ v2 ∧ v2 ≤ 40 := by rw [← e2]; exact (by have q := hI_M 675 b (Nat.le_of_ble_eq_true rfl); rw [xri_row rfl rfl] at q; exact q)
        refine jr.iald (i := b) (x := v2) rfl (nlt rfl) rfl (Nat.le_of_ble_eq_true rfl) (by omega) (by omega) e2 ?_
        refine jr.i2l rfl (by omega) ?_
        refine jr.lload rfl rfl ?_
        refine jr.lsub rfl ?_
        refine jr_s rfl rfl (Or.inl rfl) ⟨Nat.le_of_ble_eq_true rfl, Nat.le_of_ble_eq_true rfl⟩ rfl rfl (jc.deep (c_within (by omega) (by omega) (by omega) (fun l168 u168 => ?_) (fun n168 => ?_)) (Nat.le_of_ble_eq_true rfl))
        · refine jr.if_ne rfl rfl (by first | exact rgl rfl | omega) (fun _ => ?_) (fun h => absurd (by decide) h)
          refine jr.pick (ls := [_, _, _, _, _, _, _]) [0, 1, 2, 3, 4, 5, 6] rfl rfl ?_
          exact r_copy_L180 q M h b a n j i hI_M hH_M hS_M  (fun a i f598 f676 f677 f678 => (hF_M a i f598 f676 f677 f678)) (fun i g135 => (hG_M i g135)) (by omega) (by omega) (by omega) (by omega) (by omega) (by omega) (by omega) (by omega)
        · refine jr.if_ne rfl rfl (by first | exact rgl rfl | omega) (fun h => absurd h (by decide)) (fun _ => ?_)
          refine jr.aload_n rfl rfl ?_
          refine jr.iconst rfl ?_
          refine jr.putf (i := 135) (x := 2) rfl rfl (nlt rfl) rfl (nlt rfl) rfl rfl rfl rfl rfl ?_
          exact jr.vreturn rfl rfl (q _ (RI.u hI_M (a := 598) (i := 135) (show (0 : Int) ≤ _ ∧ _ ≤ (8 : Int) from by omega)) (RH.o hH_M (by decide) (by decide) (by decide)) (RF.o hS_M (by decide) (by decide))  (fun a i f598 f676 f677 f678 => ((ju_c _ _ f598).trans (hF_M a i f598 f676 f677 f678))) (fun i g135 => ((ju_i _ _ g135).trans (hG_M i g135))))
      · refine jr.if_eq rfl rfl (by first | exact rgl rfl | omega) (fun _ => ?_) (fun h => absurd (by decide) h)
        refine jr.aload_n rfl rfl ?_
        refine jr.iconst rfl ?_
        refine jr.putf (i := 135) (x := 2) rfl rfl (nlt rfl) rfl (nlt rfl) rfl rfl rfl rfl rfl ?_
        exact jr.vreturn rfl rfl (q _ (RI.u hI_M (a := 598) (i := 135) (show (0 : Int) ≤ _ ∧ _ ≤ (8 : Int) from by omega)) (RH.o hH_M (by decide) (by decide) (by decide)) (RF.o hS_M (by decide) (by decide))  (fun a i f598 f676 f677 f678 => ((ju_c _ _ f598).trans (hF_M a i f598 f676 f677 f678))) (fun i g135 => ((ju_i _ _ g135).trans (hG_M i g135))))
    · refine jr.if_eq rfl rfl (by first | exact rgl rfl | omega) (fun _ => ?_) (fun h => absurd (by decide) h)
      refine jr.aload_n rfl rfl ?_
      refine jr.iconst rfl ?_
      refine jr.putf (i := 135) (x := 2) rfl rfl (nlt rfl) rfl (nlt rfl) rfl rfl rfl rfl rfl ?_
      exact jr.vreturn rfl rfl (q _ (RI.u hI_M (a := 598) (i := 135) (show (0 : Int) ≤ _ ∧ _ ≤ (8 : Int) from by omega)) (RH.o hH_M (by decide) (by decide) (by decide)) (RF.o hS_M (by decide) (by decide))  (fun a i f598 f676 f677 f678 => ((ju_c _ _ f598).trans (hF_M a i f598 f676 f677 f678))) (fun i g135 => ((ju_i _ _ g135).trans (hG_M i g135))))
theorem r_copy {A : Nat → Option (Nat × (Nat → Int32))} {Q : Option Value → jm → Prop} {M : jm} (hI_M : RI M) (hH_M : RH M) (hS_M : RF M) {x : Int} (h_x : (-9223372036854775808) ≤ x ∧ x ≤ 9223372036854775807) {i : Int} (h_i : (-9223372036854775808) ≤ i ∧ i ≤ 9223372036854775807) {y : Int} (h_y : (-9223372036854775808) ≤ y ∧ y ≤ 9223372036854775807) {j : Int} (h_j : (-9223372036854775808) ≤ j ∧ j ≤ 9223372036854775807) {n : Int} (h_n : (-9223372036854775808) ≤ n ∧ n ≤ 9223372036854775807) (q : ∀ (M' : jm), RI M' → RH M' → RF M' → (∀ (a : Nat) (i : Int), a ≠ 598 → a ≠ 676 → a ≠ 677 → a ≠ 678 → M' a i = M a i) → (∀ (i : Int), i ≠ 135 → M' 598 i = M 598 i) → Q none M') : jc A 2 399 [.ref (598), .long (Int64.ofInt (x)), .long (Int64.ofInt (i)), .long (Int64.ofInt (y)), .long (Int64.ofInt (j)), .long (Int64.ofInt (n))] M Q := by
  refine jc_of (m := xm_399) rfl (Nat.le_of_ble_eq_true rfl) rfl ?_
  refine jr.lload_n rfl rfl ?_
  refine jr.lconst (x := 0) rfl (by decide) ?_
  refine jr.ldc2 (x := 7) rfl rfl (by decide) ?_
  refine jr_s rfl rfl (Or.inl rfl) ⟨Nat.le_of_ble_eq_true rfl, Nat.le_of_ble_eq_true rfl⟩ rfl rfl (jc.deep (c_within (by omega) (by omega) (by omega) (fun l5 u5 => ?_) (fun n5 => ?_)) (Nat.le_of_ble_eq_true rfl))
  · refine jr.if_eq rfl rfl (by first | exact rgl rfl | omega) (fun h => absurd h (by decide)) (fun _ => ?_)
    refine jr.lload rfl rfl ?_
    refine jr.lconst (x := 0) rfl (by decide) ?_
    refine jr.ldc2 (x := 7) rfl rfl (by decide) ?_
    refine jr_s rfl rfl (Or.inl rfl) ⟨Nat.le_of_ble_eq_true rfl, Nat.le_of_ble_eq_true rfl⟩ rfl rfl (jc.deep (c_within (by omega) (by omega) (by omega) (fun l17 u17 => ?_) (fun n17 => ?_)) (Nat.le_of_ble_eq_true rfl))
    · refine jr.if_ne rfl rfl (by first | exact rgl rfl | omega) (fun _ => ?_) (fun h => absurd (by decide) h)
      refine jr.lload_n rfl rfl ?_
      refine jr.l2i rfl ?_
      refine jr.istore (ls' := [_, _, _, _, _, _, _]) rfl (nlt rfl) rfl ?_
      refine jr.lload rfl rfl ?_
      refine jr.l2i rfl ?_
      refine jr.istore (ls' := [_, _, _, _, _, _, _, _]) rfl (nlt rfl) rfl ?_
      refine jr.aload_n rfl rfl ?_
      refine jr.getf (i := 117) (v := .ref 674) rfl rfl (nlt rfl) rfl (nlt rfl) rfl rfl rfl rfl ?_
      refine jr.iload rfl rfl ?_
      obtain ⟨v1, e1⟩ : ∃ z, M 674 x = z := ⟨_, rfl⟩
      have b1 : (-1) ≤ v1 ∧ v1 ≤ 6 := by rw [← e1]; exact (by have q := hI_M 674 x (Nat.le_of_ble_eq_true rfl); rw [xri_row rfl rfl] at q; exact q)
      refine jr.iald (i := x) (x := v1) rfl (nlt rfl) rfl (Nat.le_of_ble_eq_true rfl) (by omega) (by omega) e1 ?_
      refine jr.iconst rfl ?_
      refine jr.icmp_eq rfl rfl (by first | (refine rgb (by assumption) ?_; exact rfl) | omega) (rgl rfl) (fun h46 => ?_) (fun h46 => ?_)
      · refine jr.aload_n rfl rfl ?_
        refine jr.iconst rfl ?_
        refine jr.putf (i := 135) (x := 1) rfl rfl (nlt rfl) rfl (nlt rfl) rfl rfl rfl rfl rfl ?_
        exact jr.vreturn rfl rfl (q _ (RI.u hI_M (a := 598) (i := 135) (show (0 : Int) ≤ _ ∧ _ ≤ (8 : Int) from by omega)) (RH.o hH_M (by decide) (by decide) (by decide)) (RF.o hS_M (by decide) (by decide))  (fun a i f598 f676 f677 f678 => ((ju_c _ _ f598).trans rfl)) (fun i g135 => ((ju_i _ _ g135).trans rfl)))
      · have sx46 : (0 : Int) ≤ v1 := by omega
        clear h46
        refine jr.aload_n rfl rfl ?_
        refine jr.getf (i := 117) (v := .ref 674) rfl rfl (nlt rfl) rfl (nlt rfl) rfl rfl rfl rfl ?_
        refine jr.iload rfl rfl ?_
        obtain ⟨v2, e2⟩ : ∃ z, M 674 y = z := ⟨_, rfl⟩
        have b2 : (-1) ≤ v2 ∧ v2 ≤ 6 := by rw [← e2]; exact (by have q := hI_M 674 y (Nat.le_of_ble_eq_true rfl); rw [xri_row rfl rfl] at q; exact q)
        refine jr.iald (i := y) (x := v2) rfl (nlt rfl) rfl (Nat.le_of_ble_eq_true rfl) (by omega) (by omega) e2 ?_
        refine jr.iconst rfl ?_
        refine jr.icmp_ne rfl rfl (by first | (refine rgb (by assumption) ?_; exact rfl) | omega) (rgl rfl) (fun h57 => ?_) (fun h57 => ?_)
        · have sx57 : (0 : Int) ≤ v2 := by omega
          clear h57
          refine jr.aload_n rfl rfl ?_
          refine jr.getf (i := 117) (v := .ref 674) rfl rfl (nlt rfl) rfl (nlt rfl) rfl rfl rfl rfl ?_
          refine jr.iload rfl rfl ?_
          refine jr.iald (i := x) (x := v1) rfl (nlt rfl) rfl (Nat.le_of_ble_eq_true rfl) (by omega) (by omega) e1 ?_
          refine jr.iconst rfl ?_
          refine jr.icmp_le rfl rfl (by first | (refine rgb (by assumption) ?_; exact rfl) | omega) (rgl rfl) (fun h74 => ?_) (fun h74 => ?_)
          · refine jr.iconst rfl ?_
            refine jr.istore (ls' := [_, _, _, _, _, _, _, _, _]) rfl (nlt rfl) rfl ?_
            refine jr.iload rfl rfl ?_
            refine jr.if_ne rfl rfl (by first | exact rgl rfl | omega) (fun h => absurd h (by decide)) (fun _ => ?_)
            refine jr.aload_n rfl rfl ?_
            refine jr.getf (i := 117) (v := .ref 674) rfl rfl (nlt rfl) rfl (nlt rfl) rfl rfl rfl rfl ?_
            refine jr.iload rfl rfl ?_
            refine jr.iald (i := x) (x := v1) rfl (nlt rfl) rfl (Nat.le_of_ble_eq_true rfl) (by omega) (by omega) e1 ?_
            refine jr.aload_n rfl rfl ?_
            refine jr.getf (i := 117) (v := .ref 674) rfl rfl (nlt rfl) rfl (nlt rfl) rfl rfl rfl rfl ?_
            refine jr.iload rfl rfl ?_
            refine jr.iald (i := y) (x := v2) rfl (nlt rfl) rfl (Nat.le_of_ble_eq_true rfl) (by omega) (by omega) e2 ?_
            refine jr.icmp_eq rfl rfl (by first | (refine rgb (by assumption) ?_; exact rfl) | omega) (by first | (refine rgb (by assumption) ?_; exact rfl) | omega) (fun h114 => ?_) (fun h114 => ?_)
            · refine jr.pick (ls := [_, _, _, _, _, _, _]) [0, 1, 2, 8, 7, 5, 3] rfl rfl ?_
              exact r_copy_L123 q M 0 y x n j i hI_M hH_M hS_M  (fun a i f598 f676 f677 f678 => rfl) (fun i g135 => rfl) (by omega) (by omega) (by omega) (by omega) (by omega) (by omega) 
            · refine jr.aload_n rfl rfl ?_
              refine jr.iconst rfl ?_
              refine jr.putf (i := 135) (x := 5) rfl rfl (nlt rfl) rfl (nlt rfl) rfl rfl rfl rfl rfl ?_
              exact jr.vreturn rfl rfl (q _ (RI.u hI_M (a := 598) (i := 135) (show (0 : Int) ≤ _ ∧ _ ≤ (8 : Int) from by omega)) (RH.o hH_M (by decide) (by decide) (by decide)) (RF.o hS_M (by decide) (by decide))  (fun a i f598 f676 f677 f678 => ((ju_c _ _ f598).trans rfl)) (fun i g135 => ((ju_i _ _ g135).trans rfl)))
          · refine jr.aload_n rfl rfl ?_
            refine jr.getf (i := 117) (v := .ref 674) rfl rfl (nlt rfl) rfl (nlt rfl) rfl rfl rfl rfl ?_
            refine jr.iload rfl rfl ?_
            refine jr.iald (i := y) (x := v2) rfl (nlt rfl) rfl (Nat.le_of_ble_eq_true rfl) (by omega) (by omega) e2 ?_
            refine jr.iconst rfl ?_
            refine jr.icmp_le rfl rfl (by first | (refine rgb (by assumption) ?_; exact rfl) | omega) (rgl rfl) (fun h85 => ?_) (fun h85 => ?_)
            · refine jr.iconst rfl ?_
              refine jr.istore (ls' := [_, _, _, _, _, _, _, _, _]) rfl (nlt rfl) rfl ?_
              refine jr.iload rfl rfl ?_
              refine jr.if_ne rfl rfl (by first | exact rgl rfl | omega) (fun h => absurd h (by decide)) (fun _ => ?_)
              refine jr.aload_n rfl rfl ?_
              refine jr.getf (i := 117) (v := .ref 674) rfl rfl (nlt rfl) rfl (nlt rfl) rfl rfl rfl rfl ?_
              refine jr.iload rfl rfl ?_
              refine jr.iald (i := x) (x := v1) rfl (nlt rfl) rfl (Nat.le_of_ble_eq_true rfl) (by omega) (by omega) e1 ?_
              refine jr.aload_n rfl rfl ?_
              refine jr.getf (i := 117) (v := .ref 674) rfl rfl (nlt rfl) rfl (nlt rfl) rfl rfl rfl rfl ?_
              refine jr.iload rfl rfl ?_
              refine jr.iald (i := y) (x := v2) rfl (nlt rfl) rfl (Nat.le_of_ble_eq_true rfl) (by omega) (by omega) e2 ?_
              refine jr.icmp_eq rfl rfl (by first | (refine rgb (by assumption) ?_; exact rfl) | omega) (by first | (refine rgb (by assumption) ?_; exact rfl) | omega) (fun h114 => ?_) (fun h114 => ?_)
              · exact absurd h114 (by omega)
              · refine jr.aload_n rfl rfl ?_
                refine jr.iconst rfl ?_
                refine jr.putf (i := 135) (x := 5) rfl rfl (nlt rfl) rfl (nlt rfl) rfl rfl rfl rfl rfl ?_
                exact jr.vreturn rfl rfl (q _ (RI.u hI_M (a := 598) (i := 135) (show (0 : Int) ≤ _ ∧ _ ≤ (8 : Int) from by omega)) (RH.o hH_M (by decide) (by decide) (by decide)) (RF.o hS_M (by decide) (by decide))  (fun a i f598 f676 f677 f678 => ((ju_c _ _ f598).trans rfl)) (fun i g135 => ((ju_i _ _ g135).trans rfl)))
            · refine jr.iconst rfl ?_
              refine jr.goto rfl rfl ?_
              refine jr.istore (ls' := [_, _, _, _, _, _, _, _, _]) rfl (nlt rfl) rfl ?_
              refine jr.iload rfl rfl ?_
              refine jr.if_ne rfl rfl (by first | exact rgl rfl | omega) (fun _ => ?_) (fun h => absurd (by decide) h)
              refine jr.pick (ls := [_, _, _, _, _, _, _]) [0, 1, 2, 8, 7, 5, 3] rfl rfl ?_
              exact r_copy_L123 q M 1 y x n j i hI_M hH_M hS_M  (fun a i f598 f676 f677 f678 => rfl) (fun i g135 => rfl) (by omega) (by omega) (by omega) (by omega) (by omega) (by omega) 
        · refine jr.aload_n rfl rfl ?_
          refine jr.iconst rfl ?_
          refine jr.putf (i := 135) (x := 1) rfl rfl (nlt rfl) rfl (nlt rfl) rfl rfl rfl rfl rfl ?_
          exact jr.vreturn rfl rfl (q _ (RI.u hI_M (a := 598) (i := 135) (show (0 : Int) ≤ _ ∧ _ ≤ (8 : Int) from by omega)) (RH.o hH_M (by decide) (by decide) (by decide)) (RF.o hS_M (by decide) (by decide))  (fun a i f598 f676 f677 f678 => ((ju_c _ _ f598).trans rfl)) (fun i g135 => ((ju_i _ _ g135).trans rfl)))
    · refine jr.if_ne rfl rfl (by first | exact rgl rfl | omega) (fun h => absurd h (by decide)) (fun _ => ?_)
      refine jr.aload_n rfl rfl ?_
      refine jr.iconst rfl ?_
      refine jr.putf (i := 135) (x := 2) rfl rfl (nlt rfl) rfl (nlt rfl) rfl rfl rfl rfl rfl ?_
      exact jr.vreturn rfl rfl (q _ (RI.u hI_M (a := 598) (i := 135) (show (0 : Int) ≤ _ ∧ _ ≤ (8 : Int) from by omega)) (RH.o hH_M (by decide) (by decide) (by decide)) (RF.o hS_M (by decide) (by decide))  (fun a i f598 f676 f677 f678 => ((ju_c _ _ f598).trans rfl)) (fun i g135 => ((ju_i _ _ g135).trans rfl)))
  · refine jr.if_eq rfl rfl (by first | exact rgl rfl | omega) (fun _ => ?_) (fun h => absurd (by decide) h)
    refine jr.aload_n rfl rfl ?_
    refine jr.iconst rfl ?_
    refine jr.putf (i := 135) (x := 2) rfl rfl (nlt rfl) rfl (nlt rfl) rfl rfl rfl rfl rfl ?_
    exact jr.vreturn rfl rfl (q _ (RI.u hI_M (a := 598) (i := 135) (show (0 : Int) ≤ _ ∧ _ ≤ (8 : Int) from by omega)) (RH.o hH_M (by decide) (by decide) (by decide)) (RF.o hS_M (by decide) (by decide))  (fun a i f598 f676 f677 f678 => ((ju_c _ _ f598).trans rfl)) (fun i g135 => ((ju_i _ _ g135).trans rfl)))
theorem r_fresh_L111 {A : Nat → Option (Nat × (Nat → Int32))} {Q : Option Value → jm → Prop} {M0 : jm} (q : ∀ (M' : jm), RI M' → RH M' → RF M' → (∀ (a : Nat) (i : Int), a ≠ 598 → a ≠ 674 → a ≠ 675 → a ≠ 676 → a ≠ 677 → M' a i = M0 a i) → (∀ (i : Int), i ≠ 110 → i ≠ 135 → M' 598 i = M0 598 i) → Q none M') : ∀ (nM : Nat) (M : jm) (i : Int) (k : Int), RI M → RH M → RF M → (∀ (a : Nat) (i : Int), a ≠ 598 → a ≠ 674 → a ≠ 675 → a ≠ 676 → a ≠ 677 → M a i = M0 a i) → (∀ (i : Int), i ≠ 110 → i ≠ 135 → M 598 i = M0 598 i) → 0 ≤ i ∧ i ≤ 40 → 0 ≤ k ∧ k ≤ 7 → 40 - i ≤ nM → jr A 1 xm_400 111 [(7, .int (Int32.ofInt (i))), (1, .long (Int64.ofInt (k))), (0, .ref (598))] [] M Q := by
  intro nM
  induction nM using Nat.strongRecOn with
  | ind nM ih =>
    intro M i k hI_M hH_M hS_M hF_M hG_M h_i h_k hm
    refine jr.iload rfl rfl ?_
    refine jr.bipush rfl (jbp _ (nlt rfl)) ?_
    refine jr.icmp_ge rfl rfl (by first | (refine rgb (by assumption) ?_; exact rfl) | omega) (rgl rfl) (fun h115 => ?_) (fun h115 => ?_)
    · exact jr.vreturn rfl rfl (q _ hI_M hH_M hS_M  (fun a i f598 f674 f675 f676 f677 => (hF_M a i f598 f674 f675 f676 f677)) (fun i g110 g135 => (hG_M i g110 g135)))
    · refine jr.aload_n rfl rfl ?_
      refine jr.getf (i := 119) (v := .ref 676) rfl rfl (nlt rfl) rfl (nlt rfl) rfl rfl rfl rfl ?_
      refine jr.bipush rfl (jbp _ (nlt rfl)) ?_
      refine jr.lload_n rfl rfl ?_
      refine jr.l2i rfl ?_
      refine jr.imul rfl ?_
      refine jr.iload rfl rfl ?_
      refine jr.iadd rfl ?_
      refine jr.lconst (x := 0) rfl (by decide) ?_
      refine jr.last (i := ((40 * k) + i)) (x := 0) rfl (nlt rfl) rfl (Nat.le_of_ble_eq_true rfl) (by omega) (by omega) ?_
      refine jr.aload_n rfl rfl ?_
      refine jr.getf (i := 120) (v := .ref 677) rfl rfl (nlt rfl) rfl (nlt rfl) rfl rfl rfl rfl ?_
      refine jr.bipush rfl (jbp _ (nlt rfl)) ?_
      refine jr.lload_n rfl rfl ?_
      refine jr.l2i rfl ?_
      refine jr.imul rfl ?_
      refine jr.iload rfl rfl ?_
      refine jr.iadd rfl ?_
      refine jr.iconst rfl ?_
      refine jr.iast (i := ((40 * k) + i)) (x := (-1)) rfl (nlt rfl) rfl (Nat.le_of_ble_eq_true rfl) (by omega) (by omega) ?_
      refine jr.iinc (ls' := [_, _, _]) rfl rfl (nlt rfl) rfl ?_
      refine jr.goto rfl rfl ?_
      refine jr.pick (ls := [_, _, _]) [0, 1, 2] rfl rfl ?_
      exact ih (nM - 1) (by omega) (ju (ju M 676 ((40 * k) + i) 0) 677 ((40 * k) + i) (-1)) (i + 1) k (RI.u (RI.u hI_M (a := 676) (i := ((40 * k) + i)) (by rw [xri_row rfl rfl]; show (-9223372036854775808 : Int) ≤ _ ∧ _ ≤ (9223372036854775807 : Int); omega)) (a := 677) (i := ((40 * k) + i)) (by rw [xri_row rfl rfl]; show (-1 : Int) ≤ _ ∧ _ ≤ (11 : Int); omega)) (RH.o (RH.o hH_M (by decide) (by decide) (by decide)) (by decide) (by decide) (by decide)) (RF.o (RF.o hS_M (by decide) (by decide)) (by decide) (by decide))  (fun a i f598 f674 f675 f676 f677 => ((ju_c _ _ f677).trans ((ju_c _ _ f676).trans (hF_M a i f598 f674 f675 f676 f677)))) (fun i g110 g135 => ((ju_c _ _ (by decide)).trans ((ju_c _ _ (by decide)).trans (hG_M i g110 g135)))) (by omega) (by omega)  (by omega)
theorem r_fresh {A : Nat → Option (Nat × (Nat → Int32))} {Q : Option Value → jm → Prop} {M : jm} (hI_M : RI M) (hH_M : RH M) (hS_M : RF M) {k : Int} (h_k : (-9223372036854775808) ≤ k ∧ k ≤ 9223372036854775807) {s : Int} (h_s : (-9223372036854775808) ≤ s ∧ s ≤ 9223372036854775807) {n : Int} (h_n : (-9223372036854775808) ≤ n ∧ n ≤ 9223372036854775807) (q : ∀ (M' : jm), RI M' → RH M' → RF M' → (∀ (a : Nat) (i : Int), a ≠ 598 → a ≠ 674 → a ≠ 675 → a ≠ 676 → a ≠ 677 → M' a i = M a i) → (∀ (i : Int), i ≠ 110 → i ≠ 135 → M' 598 i = M 598 i) → Q none M') : jc A 2 400 [.ref (598), .long (Int64.ofInt (k)), .long (Int64.ofInt (s)), .long (Int64.ofInt (n))] M Q := by
  refine jc_of (m := xm_400) rfl (Nat.le_of_ble_eq_true rfl) rfl ?_
  refine jr.aload_n rfl rfl ?_
  refine jr.lload_n rfl rfl ?_
  refine jr.lconst (x := 0) rfl (by decide) ?_
  refine jr.ldc2 (x := 7) rfl rfl (by decide) ?_
  refine jr_s rfl rfl (Or.inl rfl) ⟨Nat.le_of_ble_eq_true rfl, Nat.le_of_ble_eq_true rfl⟩ rfl rfl (jc.deep (c_within (by omega) (by omega) (by omega) (fun l6 u6 => ?_) (fun n6 => ?_)) (Nat.le_of_ble_eq_true rfl))
  · refine jr.if_ne rfl rfl (by first | exact rgl rfl | omega) (fun _ => ?_) (fun h => absurd (by decide) h)
    refine jr.lload_n rfl rfl ?_
    refine jr.lconst (x := 0) rfl (by decide) ?_
    refine jr.ldc2 (x := 6) rfl rfl (by decide) ?_
    refine jr_s rfl rfl (Or.inl rfl) ⟨Nat.le_of_ble_eq_true rfl, Nat.le_of_ble_eq_true rfl⟩ rfl rfl (jc.deep (c_within (by omega) (by omega) (by omega) (fun l21 u21 => ?_) (fun n21 => ?_)) (Nat.le_of_ble_eq_true rfl))
    · refine jr.if_ne rfl rfl (by first | exact rgl rfl | omega) (fun _ => ?_) (fun h => absurd (by decide) h)
      refine jr.lload rfl rfl ?_
      refine jr.lconst (x := 0) rfl (by decide) ?_
      refine jr.lcmp_ge rfl rfl rfl (by omega) (by omega) (fun h35 => ?_) (fun h35 => ?_)
      · refine jr.lload rfl rfl ?_
        refine jr.ldc2 (x := 40) rfl rfl (by decide) ?_
        refine jr.lcmp_gt rfl rfl rfl (by omega) (by omega) (fun h48 => ?_) (fun h48 => ?_)
        · refine jr.bipush rfl (jbp _ (nlt rfl)) ?_
          refine jr.goto rfl rfl ?_
          refine jr.putf (i := 135) (x := 8) rfl rfl (nlt rfl) rfl (nlt rfl) rfl rfl rfl rfl rfl ?_
          refine jr.aload_n rfl rfl ?_
          refine jr.getf (i := 135) (x := 8) (v := .int (Int32.ofInt (8))) rfl rfl (nlt rfl) rfl (nlt rfl) rfl rfl (ju_same _ _ _ _) rfl ?_
          refine jr.if_eq rfl rfl (by first | (refine rgb (by assumption) ?_; exact rfl) | omega) (fun h75 => ?_) (fun h75 => ?_)
          · refine jr.aload_n rfl rfl ?_
            refine jr.dup rfl rfl ?_
            obtain ⟨v1, e1⟩ : ∃ z, M 598 110 = z := ⟨_, rfl⟩
            have b1 : 0 ≤ v1 ∧ v1 ≤ 10000 := by rw [← e1]; exact hI_M 598 110 (Nat.le_of_ble_eq_true rfl)
            refine jr.getf (i := 110) (x := v1) (v := .int (Int32.ofInt (v1))) rfl rfl (nlt rfl) rfl (nlt rfl) rfl rfl ((ju_i _ _ (zne (by decide))).trans e1) rfl ?_
            refine jr.iconst rfl ?_
            refine jr.iadd rfl ?_
            refine jr.putf (i := 110) (x := (v1 + 1)) rfl rfl (nlt rfl) rfl (nlt rfl) rfl rfl rfl rfl rfl ?_
            refine jr.aload_n rfl rfl ?_
            refine jr.getf (i := 117) (v := .ref 674) rfl rfl (nlt rfl) rfl (nlt rfl) rfl rfl rfl rfl ?_
            refine jr.lload_n rfl rfl ?_
            refine jr.l2i rfl ?_
            refine jr.lload_n rfl rfl ?_
            refine jr.l2i rfl ?_
            refine jr.iast (i := k) (x := s) rfl (nlt rfl) rfl (Nat.le_of_ble_eq_true rfl) (by omega) (by omega) ?_
            refine jr.aload_n rfl rfl ?_
            refine jr.getf (i := 118) (v := .ref 675) rfl rfl (nlt rfl) rfl (nlt rfl) rfl rfl rfl rfl ?_
            refine jr.lload_n rfl rfl ?_
            refine jr.l2i rfl ?_
            refine jr.lload rfl rfl ?_
            refine jr.l2i rfl ?_
            refine jr.iw (j_w n) (j_w_eq _) ?_
            have b2 : -2147483648 ≤ j_w n ∧ j_w n ≤ 2147483647 := jb_any _
            generalize j_w n = v2 at b2 ⊢
            refine jr.iast (i := k) (x := v2) rfl (nlt rfl) rfl (Nat.le_of_ble_eq_true rfl) (by omega) (by omega) ?_
            refine jr.iconst rfl ?_
            refine jr.istore (ls' := [_, _, _, _, _]) rfl (nlt rfl) rfl ?_
            refine jr.pick (ls := [_, _, _]) [0, 2, 1] rfl rfl ?_
            exact r_fresh_L111 q 40 (ju (ju (ju (ju M 598 135 8) 598 110 (v1 + 1)) 674 k s) 675 k v2) 0 k (RI.u (RI.u (RI.u (RI.u hI_M (a := 598) (i := 135) (show (0 : Int) ≤ _ ∧ _ ≤ (8 : Int) from by omega)) (a := 598) (i := 110) (show (0 : Int) ≤ _ ∧ _ ≤ (10000 : Int) from by omega)) (a := 674) (i := k) (by rw [xri_row rfl rfl]; show (-1 : Int) ≤ _ ∧ _ ≤ (6 : Int); omega)) (a := 675) (i := k) (by rw [xri_row rfl rfl]; show (0 : Int) ≤ _ ∧ _ ≤ (40 : Int); omega)) (RH.o (RH.o (RH.o (RH.o hH_M (by decide) (by decide) (by decide)) (by decide) (by decide) (by decide)) (by decide) (by decide) (by decide)) (by decide) (by decide) (by decide)) (RF.o (RF.o (RF.o (RF.o hS_M (by decide) (by decide)) (by decide) (by decide)) (by decide) (by decide)) (by decide) (by decide))  (fun a i f598 f674 f675 f676 f677 => ((ju_c _ _ f675).trans ((ju_c _ _ f674).trans ((ju_c _ _ f598).trans ((ju_c _ _ f598).trans rfl))))) (fun i g110 g135 => ((ju_c _ _ (by decide)).trans ((ju_c _ _ (by decide)).trans ((ju_i _ _ g110).trans ((ju_i _ _ g135).trans rfl))))) (by omega) (by omega)  (by omega)
          · exact jr.vreturn rfl rfl (q _ (RI.u hI_M (a := 598) (i := 135) (show (0 : Int) ≤ _ ∧ _ ≤ (8 : Int) from by omega)) (RH.o hH_M (by decide) (by decide) (by decide)) (RF.o hS_M (by decide) (by decide))  (fun a i f598 f674 f675 f676 f677 => ((ju_c _ _ f598).trans rfl)) (fun i g110 g135 => ((ju_i _ _ g135).trans rfl)))
        · refine jr.aload_n rfl rfl ?_
          obtain ⟨v3, e3⟩ : ∃ z, M 598 110 = z := ⟨_, rfl⟩
          have b3 : 0 ≤ v3 ∧ v3 ≤ 10000 := by rw [← e3]; exact hI_M 598 110 (Nat.le_of_ble_eq_true rfl)
          refine jr.getf (i := 110) (x := v3) (v := .int (Int32.ofInt (v3))) rfl rfl (nlt rfl) rfl (nlt rfl) rfl rfl e3 rfl ?_
          refine jr.sipush rfl (by decide) ?_
          refine jr.icmp_ne rfl rfl (by first | (refine rgb (by assumption) ?_; exact rfl) | omega) (rgl rfl) (fun h59 => ?_) (fun h59 => ?_)
          · refine jr.iconst rfl ?_
            refine jr.putf (i := 135) (x := 0) rfl rfl (nlt rfl) rfl (nlt rfl) rfl rfl rfl rfl rfl ?_
            refine jr.aload_n rfl rfl ?_
            refine jr.getf (i := 135) (x := 0) (v := .int (Int32.ofInt (0))) rfl rfl (nlt rfl) rfl (nlt rfl) rfl rfl (ju_same _ _ _ _) rfl ?_
            refine jr.if_eq rfl rfl (by first | (refine rgb (by assumption) ?_; exact rfl) | omega) (fun h75 => ?_) (fun h75 => ?_)
            · refine jr.aload_n rfl rfl ?_
              refine jr.dup rfl rfl ?_
              refine jr.getf (i := 110) (x := v3) (v := .int (Int32.ofInt (v3))) rfl rfl (nlt rfl) rfl (nlt rfl) rfl rfl ((ju_i _ _ (zne (by decide))).trans e3) rfl ?_
              refine jr.iconst rfl ?_
              refine jr.iadd rfl ?_
              refine jr.putf (i := 110) (x := (v3 + 1)) rfl rfl (nlt rfl) rfl (nlt rfl) rfl rfl rfl rfl rfl ?_
              refine jr.aload_n rfl rfl ?_
              refine jr.getf (i := 117) (v := .ref 674) rfl rfl (nlt rfl) rfl (nlt rfl) rfl rfl rfl rfl ?_
              refine jr.lload_n rfl rfl ?_
              refine jr.l2i rfl ?_
              refine jr.lload_n rfl rfl ?_
              refine jr.l2i rfl ?_
              refine jr.iast (i := k) (x := s) rfl (nlt rfl) rfl (Nat.le_of_ble_eq_true rfl) (by omega) (by omega) ?_
              refine jr.aload_n rfl rfl ?_
              refine jr.getf (i := 118) (v := .ref 675) rfl rfl (nlt rfl) rfl (nlt rfl) rfl rfl rfl rfl ?_
              refine jr.lload_n rfl rfl ?_
              refine jr.l2i rfl ?_
              refine jr.lload rfl rfl ?_
              refine jr.l2i rfl ?_
              refine jr.iast (i := k) (x := n) rfl (nlt rfl) rfl (Nat.le_of_ble_eq_true rfl) (by omega) (by omega) ?_
              refine jr.iconst rfl ?_
              refine jr.istore (ls' := [_, _, _, _, _]) rfl (nlt rfl) rfl ?_
              refine jr.pick (ls := [_, _, _]) [0, 2, 1] rfl rfl ?_
              exact r_fresh_L111 q 40 (ju (ju (ju (ju M 598 135 0) 598 110 (v3 + 1)) 674 k s) 675 k n) 0 k (RI.u (RI.u (RI.u (RI.u hI_M (a := 598) (i := 135) (show (0 : Int) ≤ _ ∧ _ ≤ (8 : Int) from by omega)) (a := 598) (i := 110) (show (0 : Int) ≤ _ ∧ _ ≤ (10000 : Int) from by omega)) (a := 674) (i := k) (by rw [xri_row rfl rfl]; show (-1 : Int) ≤ _ ∧ _ ≤ (6 : Int); omega)) (a := 675) (i := k) (by rw [xri_row rfl rfl]; show (0 : Int) ≤ _ ∧ _ ≤ (40 : Int); omega)) (RH.o (RH.o (RH.o (RH.o hH_M (by decide) (by decide) (by decide)) (by decide) (by decide) (by decide)) (by decide) (by decide) (by decide)) (by decide) (by decide) (by decide)) (RF.o (RF.o (RF.o (RF.o hS_M (by decide) (by decide)) (by decide) (by decide)) (by decide) (by decide)) (by decide) (by decide))  (fun a i f598 f674 f675 f676 f677 => ((ju_c _ _ f675).trans ((ju_c _ _ f674).trans ((ju_c _ _ f598).trans ((ju_c _ _ f598).trans rfl))))) (fun i g110 g135 => ((ju_c _ _ (by decide)).trans ((ju_c _ _ (by decide)).trans ((ju_i _ _ g110).trans ((ju_i _ _ g135).trans rfl))))) (by omega) (by omega)  (by omega)
            · exact jr.vreturn rfl rfl (q _ (RI.u hI_M (a := 598) (i := 135) (show (0 : Int) ≤ _ ∧ _ ≤ (8 : Int) from by omega)) (RH.o hH_M (by decide) (by decide) (by decide)) (RF.o hS_M (by decide) (by decide))  (fun a i f598 f674 f675 f676 f677 => ((ju_c _ _ f598).trans rfl)) (fun i g110 g135 => ((ju_i _ _ g135).trans rfl)))
          · refine jr.bipush rfl (jbp _ (nlt rfl)) ?_
            refine jr.goto rfl rfl ?_
            refine jr.putf (i := 135) (x := 8) rfl rfl (nlt rfl) rfl (nlt rfl) rfl rfl rfl rfl rfl ?_
            refine jr.aload_n rfl rfl ?_
            refine jr.getf (i := 135) (x := 8) (v := .int (Int32.ofInt (8))) rfl rfl (nlt rfl) rfl (nlt rfl) rfl rfl (ju_same _ _ _ _) rfl ?_
            refine jr.if_eq rfl rfl (by first | (refine rgb (by assumption) ?_; exact rfl) | omega) (fun h75 => ?_) (fun h75 => ?_)
            · refine jr.aload_n rfl rfl ?_
              refine jr.dup rfl rfl ?_
              refine jr.getf (i := 110) (x := v3) (v := .int (Int32.ofInt (v3))) rfl rfl (nlt rfl) rfl (nlt rfl) rfl rfl ((ju_i _ _ (zne (by decide))).trans e3) rfl ?_
              refine jr.iconst rfl ?_
              refine jr.iadd rfl ?_
              refine jr.putf (i := 110) (x := (v3 + 1)) rfl rfl (nlt rfl) rfl (nlt rfl) rfl rfl rfl rfl rfl ?_
              refine jr.aload_n rfl rfl ?_
              refine jr.getf (i := 117) (v := .ref 674) rfl rfl (nlt rfl) rfl (nlt rfl) rfl rfl rfl rfl ?_
              refine jr.lload_n rfl rfl ?_
              refine jr.l2i rfl ?_
              refine jr.lload_n rfl rfl ?_
              refine jr.l2i rfl ?_
              refine jr.iast (i := k) (x := s) rfl (nlt rfl) rfl (Nat.le_of_ble_eq_true rfl) (by omega) (by omega) ?_
              refine jr.aload_n rfl rfl ?_
              refine jr.getf (i := 118) (v := .ref 675) rfl rfl (nlt rfl) rfl (nlt rfl) rfl rfl rfl rfl ?_
              refine jr.lload_n rfl rfl ?_
              refine jr.l2i rfl ?_
              refine jr.lload rfl rfl ?_
              refine jr.l2i rfl ?_
              refine jr.iast (i := k) (x := n) rfl (nlt rfl) rfl (Nat.le_of_ble_eq_true rfl) (by omega) (by omega) ?_
              refine jr.iconst rfl ?_
              refine jr.istore (ls' := [_, _, _, _, _]) rfl (nlt rfl) rfl ?_
              refine jr.pick (ls := [_, _, _]) [0, 2, 1] rfl rfl ?_
              exact r_fresh_L111 q 40 (ju (ju (ju (ju M 598 135 8) 598 110 (v3 + 1)) 674 k s) 675 k n) 0 k (RI.u (RI.u (RI.u (RI.u hI_M (a := 598) (i := 135) (show (0 : Int) ≤ _ ∧ _ ≤ (8 : Int) from by omega)) (a := 598) (i := 110) (show (0 : Int) ≤ _ ∧ _ ≤ (10000 : Int) from by omega)) (a := 674) (i := k) (by rw [xri_row rfl rfl]; show (-1 : Int) ≤ _ ∧ _ ≤ (6 : Int); omega)) (a := 675) (i := k) (by rw [xri_row rfl rfl]; show (0 : Int) ≤ _ ∧ _ ≤ (40 : Int); omega)) (RH.o (RH.o (RH.o (RH.o hH_M (by decide) (by decide) (by decide)) (by decide) (by decide) (by decide)) (by decide) (by decide) (by decide)) (by decide) (by decide) (by decide)) (RF.o (RF.o (RF.o (RF.o hS_M (by decide) (by decide)) (by decide) (by decide)) (by decide) (by decide)) (by decide) (by decide))  (fun a i f598 f674 f675 f676 f677 => ((ju_c _ _ f675).trans ((ju_c _ _ f674).trans ((ju_c _ _ f598).trans ((ju_c _ _ f598).trans rfl))))) (fun i g110 g135 => ((ju_c _ _ (by decide)).trans ((ju_c _ _ (by decide)).trans ((ju_i _ _ g110).trans ((ju_i _ _ g135).trans rfl))))) (by omega) (by omega)  (by omega)
            · exact jr.vreturn rfl rfl (q _ (RI.u hI_M (a := 598) (i := 135) (show (0 : Int) ≤ _ ∧ _ ≤ (8 : Int) from by omega)) (RH.o hH_M (by decide) (by decide) (by decide)) (RF.o hS_M (by decide) (by decide))  (fun a i f598 f674 f675 f676 f677 => ((ju_c _ _ f598).trans rfl)) (fun i g110 g135 => ((ju_i _ _ g135).trans rfl)))
      · refine jr.iconst rfl ?_
        refine jr.goto rfl rfl ?_
        refine jr.putf (i := 135) (x := 3) rfl rfl (nlt rfl) rfl (nlt rfl) rfl rfl rfl rfl rfl ?_
        refine jr.aload_n rfl rfl ?_
        refine jr.getf (i := 135) (x := 3) (v := .int (Int32.ofInt (3))) rfl rfl (nlt rfl) rfl (nlt rfl) rfl rfl (ju_same _ _ _ _) rfl ?_
        refine jr.if_eq rfl rfl (by first | (refine rgb (by assumption) ?_; exact rfl) | omega) (fun h75 => ?_) (fun h75 => ?_)
        · refine jr.aload_n rfl rfl ?_
          refine jr.dup rfl rfl ?_
          obtain ⟨v4, e4⟩ : ∃ z, M 598 110 = z := ⟨_, rfl⟩
          have b4 : 0 ≤ v4 ∧ v4 ≤ 10000 := by rw [← e4]; exact hI_M 598 110 (Nat.le_of_ble_eq_true rfl)
          refine jr.getf (i := 110) (x := v4) (v := .int (Int32.ofInt (v4))) rfl rfl (nlt rfl) rfl (nlt rfl) rfl rfl ((ju_i _ _ (zne (by decide))).trans e4) rfl ?_
          refine jr.iconst rfl ?_
          refine jr.iadd rfl ?_
          refine jr.putf (i := 110) (x := (v4 + 1)) rfl rfl (nlt rfl) rfl (nlt rfl) rfl rfl rfl rfl rfl ?_
          refine jr.aload_n rfl rfl ?_
          refine jr.getf (i := 117) (v := .ref 674) rfl rfl (nlt rfl) rfl (nlt rfl) rfl rfl rfl rfl ?_
          refine jr.lload_n rfl rfl ?_
          refine jr.l2i rfl ?_
          refine jr.lload_n rfl rfl ?_
          refine jr.l2i rfl ?_
          refine jr.iast (i := k) (x := s) rfl (nlt rfl) rfl (Nat.le_of_ble_eq_true rfl) (by omega) (by omega) ?_
          refine jr.aload_n rfl rfl ?_
          refine jr.getf (i := 118) (v := .ref 675) rfl rfl (nlt rfl) rfl (nlt rfl) rfl rfl rfl rfl ?_
          refine jr.lload_n rfl rfl ?_
          refine jr.l2i rfl ?_
          refine jr.lload rfl rfl ?_
          refine jr.l2i rfl ?_
          refine jr.iw (j_w n) (j_w_eq _) ?_
          have b5 : -2147483648 ≤ j_w n ∧ j_w n ≤ 2147483647 := jb_any _
          generalize j_w n = v5 at b5 ⊢
          refine jr.iast (i := k) (x := v5) rfl (nlt rfl) rfl (Nat.le_of_ble_eq_true rfl) (by omega) (by omega) ?_
          refine jr.iconst rfl ?_
          refine jr.istore (ls' := [_, _, _, _, _]) rfl (nlt rfl) rfl ?_
          refine jr.pick (ls := [_, _, _]) [0, 2, 1] rfl rfl ?_
          exact r_fresh_L111 q 40 (ju (ju (ju (ju M 598 135 3) 598 110 (v4 + 1)) 674 k s) 675 k v5) 0 k (RI.u (RI.u (RI.u (RI.u hI_M (a := 598) (i := 135) (show (0 : Int) ≤ _ ∧ _ ≤ (8 : Int) from by omega)) (a := 598) (i := 110) (show (0 : Int) ≤ _ ∧ _ ≤ (10000 : Int) from by omega)) (a := 674) (i := k) (by rw [xri_row rfl rfl]; show (-1 : Int) ≤ _ ∧ _ ≤ (6 : Int); omega)) (a := 675) (i := k) (by rw [xri_row rfl rfl]; show (0 : Int) ≤ _ ∧ _ ≤ (40 : Int); omega)) (RH.o (RH.o (RH.o (RH.o hH_M (by decide) (by decide) (by decide)) (by decide) (by decide) (by decide)) (by decide) (by decide) (by decide)) (by decide) (by decide) (by decide)) (RF.o (RF.o (RF.o (RF.o hS_M (by decide) (by decide)) (by decide) (by decide)) (by decide) (by decide)) (by decide) (by decide))  (fun a i f598 f674 f675 f676 f677 => ((ju_c _ _ f675).trans ((ju_c _ _ f674).trans ((ju_c _ _ f598).trans ((ju_c _ _ f598).trans rfl))))) (fun i g110 g135 => ((ju_c _ _ (by decide)).trans ((ju_c _ _ (by decide)).trans ((ju_i _ _ g110).trans ((ju_i _ _ g135).trans rfl))))) (by omega) (by omega)  (by omega)
        · exact jr.vreturn rfl rfl (q _ (RI.u hI_M (a := 598) (i := 135) (show (0 : Int) ≤ _ ∧ _ ≤ (8 : Int) from by omega)) (RH.o hH_M (by decide) (by decide) (by decide)) (RF.o hS_M (by decide) (by decide))  (fun a i f598 f674 f675 f676 f677 => ((ju_c _ _ f598).trans rfl)) (fun i g110 g135 => ((ju_i _ _ g135).trans rfl)))
    · refine jr.if_ne rfl rfl (by first | exact rgl rfl | omega) (fun h => absurd h (by decide)) (fun _ => ?_)
      refine jr.bipush rfl (jbp _ (nlt rfl)) ?_
      refine jr.goto rfl rfl ?_
      refine jr.putf (i := 135) (x := 8) rfl rfl (nlt rfl) rfl (nlt rfl) rfl rfl rfl rfl rfl ?_
      refine jr.aload_n rfl rfl ?_
      refine jr.getf (i := 135) (x := 8) (v := .int (Int32.ofInt (8))) rfl rfl (nlt rfl) rfl (nlt rfl) rfl rfl (ju_same _ _ _ _) rfl ?_
      refine jr.if_eq rfl rfl (by first | (refine rgb (by assumption) ?_; exact rfl) | omega) (fun h75 => ?_) (fun h75 => ?_)
      · refine jr.aload_n rfl rfl ?_
        refine jr.dup rfl rfl ?_
        obtain ⟨v6, e6⟩ : ∃ z, M 598 110 = z := ⟨_, rfl⟩
        have b6 : 0 ≤ v6 ∧ v6 ≤ 10000 := by rw [← e6]; exact hI_M 598 110 (Nat.le_of_ble_eq_true rfl)
        refine jr.getf (i := 110) (x := v6) (v := .int (Int32.ofInt (v6))) rfl rfl (nlt rfl) rfl (nlt rfl) rfl rfl ((ju_i _ _ (zne (by decide))).trans e6) rfl ?_
        refine jr.iconst rfl ?_
        refine jr.iadd rfl ?_
        refine jr.putf (i := 110) (x := (v6 + 1)) rfl rfl (nlt rfl) rfl (nlt rfl) rfl rfl rfl rfl rfl ?_
        refine jr.aload_n rfl rfl ?_
        refine jr.getf (i := 117) (v := .ref 674) rfl rfl (nlt rfl) rfl (nlt rfl) rfl rfl rfl rfl ?_
        refine jr.lload_n rfl rfl ?_
        refine jr.l2i rfl ?_
        refine jr.lload_n rfl rfl ?_
        refine jr.l2i rfl ?_
        refine jr.iw (j_w s) (j_w_eq _) ?_
        have b7 : -2147483648 ≤ j_w s ∧ j_w s ≤ 2147483647 := jb_any _
        generalize j_w s = v7 at b7 ⊢
        refine jr.iast (i := k) (x := v7) rfl (nlt rfl) rfl (Nat.le_of_ble_eq_true rfl) (by omega) (by omega) ?_
        refine jr.aload_n rfl rfl ?_
        refine jr.getf (i := 118) (v := .ref 675) rfl rfl (nlt rfl) rfl (nlt rfl) rfl rfl rfl rfl ?_
        refine jr.lload_n rfl rfl ?_
        refine jr.l2i rfl ?_
        refine jr.lload rfl rfl ?_
        refine jr.l2i rfl ?_
        refine jr.iw (j_w n) (j_w_eq _) ?_
        have b8 : -2147483648 ≤ j_w n ∧ j_w n ≤ 2147483647 := jb_any _
        generalize j_w n = v8 at b8 ⊢
        refine jr.iast (i := k) (x := v8) rfl (nlt rfl) rfl (Nat.le_of_ble_eq_true rfl) (by omega) (by omega) ?_
        refine jr.iconst rfl ?_
        refine jr.istore (ls' := [_, _, _, _, _]) rfl (nlt rfl) rfl ?_
        refine jr.pick (ls := [_, _, _]) [0, 2, 1] rfl rfl ?_
        exact r_fresh_L111 q 40 (ju (ju (ju (ju M 598 135 8) 598 110 (v6 + 1)) 674 k v7) 675 k v8) 0 k (RI.u (RI.u (RI.u (RI.u hI_M (a := 598) (i := 135) (show (0 : Int) ≤ _ ∧ _ ≤ (8 : Int) from by omega)) (a := 598) (i := 110) (show (0 : Int) ≤ _ ∧ _ ≤ (10000 : Int) from by omega)) (a := 674) (i := k) (by rw [xri_row rfl rfl]; show (-1 : Int) ≤ _ ∧ _ ≤ (6 : Int); omega)) (a := 675) (i := k) (by rw [xri_row rfl rfl]; show (0 : Int) ≤ _ ∧ _ ≤ (40 : Int); omega)) (RH.o (RH.o (RH.o (RH.o hH_M (by decide) (by decide) (by decide)) (by decide) (by decide) (by decide)) (by decide) (by decide) (by decide)) (by decide) (by decide) (by decide)) (RF.o (RF.o (RF.o (RF.o hS_M (by decide) (by decide)) (by decide) (by decide)) (by decide) (by decide)) (by decide) (by decide))  (fun a i f598 f674 f675 f676 f677 => ((ju_c _ _ f675).trans ((ju_c _ _ f674).trans ((ju_c _ _ f598).trans ((ju_c _ _ f598).trans rfl))))) (fun i g110 g135 => ((ju_c _ _ (by decide)).trans ((ju_c _ _ (by decide)).trans ((ju_i _ _ g110).trans ((ju_i _ _ g135).trans rfl))))) (by omega) (by omega)  (by omega)
      · exact jr.vreturn rfl rfl (q _ (RI.u hI_M (a := 598) (i := 135) (show (0 : Int) ≤ _ ∧ _ ≤ (8 : Int) from by omega)) (RH.o hH_M (by decide) (by decide) (by decide)) (RF.o hS_M (by decide) (by decide))  (fun a i f598 f674 f675 f676 f677 => ((ju_c _ _ f598).trans rfl)) (fun i g110 g135 => ((ju_i _ _ g135).trans rfl)))
  · refine jr.if_ne rfl rfl (by first | exact rgl rfl | omega) (fun h => absurd h (by decide)) (fun _ => ?_)
    refine jr.iconst rfl ?_
    refine jr.goto rfl rfl ?_
    refine jr.putf (i := 135) (x := 2) rfl rfl (nlt rfl) rfl (nlt rfl) rfl rfl rfl rfl rfl ?_
    refine jr.aload_n rfl rfl ?_
    refine jr.getf (i := 135) (x := 2) (v := .int (Int32.ofInt (2))) rfl rfl (nlt rfl) rfl (nlt rfl) rfl rfl (ju_same _ _ _ _) rfl ?_
    refine jr.if_eq rfl rfl (by first | (refine rgb (by assumption) ?_; exact rfl) | omega) (fun h75 => ?_) (fun h75 => ?_)
    · refine jr.aload_n rfl rfl ?_
      refine jr.dup rfl rfl ?_
      obtain ⟨v9, e9⟩ : ∃ z, M 598 110 = z := ⟨_, rfl⟩
      have b9 : 0 ≤ v9 ∧ v9 ≤ 10000 := by rw [← e9]; exact hI_M 598 110 (Nat.le_of_ble_eq_true rfl)
      refine jr.getf (i := 110) (x := v9) (v := .int (Int32.ofInt (v9))) rfl rfl (nlt rfl) rfl (nlt rfl) rfl rfl ((ju_i _ _ (zne (by decide))).trans e9) rfl ?_
      refine jr.iconst rfl ?_
      refine jr.iadd rfl ?_
      refine jr.putf (i := 110) (x := (v9 + 1)) rfl rfl (nlt rfl) rfl (nlt rfl) rfl rfl rfl rfl rfl ?_
      refine jr.aload_n rfl rfl ?_
      refine jr.getf (i := 117) (v := .ref 674) rfl rfl (nlt rfl) rfl (nlt rfl) rfl rfl rfl rfl ?_
      refine jr.lload_n rfl rfl ?_
      refine jr.l2i rfl ?_
      refine jr.iw (j_w k) (j_w_eq _) ?_
      have b10 : -2147483648 ≤ j_w k ∧ j_w k ≤ 2147483647 := jb_any _
      generalize j_w k = v10 at b10 ⊢
      refine jr.lload_n rfl rfl ?_
      refine jr.l2i rfl ?_
      refine jr.iw (j_w s) (j_w_eq _) ?_
      have b11 : -2147483648 ≤ j_w s ∧ j_w s ≤ 2147483647 := jb_any _
      generalize j_w s = v11 at b11 ⊢
      refine jr.iast (i := v10) (x := v11) rfl (nlt rfl) rfl (Nat.le_of_ble_eq_true rfl) (by omega) (by omega) ?_
      refine jr.aload_n rfl rfl ?_
      refine jr.getf (i := 118) (v := .ref 675) rfl rfl (nlt rfl) rfl (nlt rfl) rfl rfl rfl rfl ?_
      refine jr.lload_n rfl rfl ?_
      refine jr.l2i rfl ?_
      refine jr.iw (j_w k) (j_w_eq _) ?_
      have b12 : -2147483648 ≤ j_w k ∧ j_w k ≤ 2147483647 := jb_any _
      generalize j_w k = v12 at b12 ⊢
      refine jr.lload rfl rfl ?_
      refine jr.l2i rfl ?_
      refine jr.iw (j_w n) (j_w_eq _) ?_
      have b13 : -2147483648 ≤ j_w n ∧ j_w n ≤ 2147483647 := jb_any _
      generalize j_w n = v13 at b13 ⊢
      refine jr.iast (i := v12) (x := v13) rfl (nlt rfl) rfl (Nat.le_of_ble_eq_true rfl) (by omega) (by omega) ?_
      refine jr.iconst rfl ?_
      refine jr.istore (ls' := [_, _, _, _, _]) rfl (nlt rfl) rfl ?_
      refine jr.pick (ls := [_, _, _]) [0, 2, 1] rfl rfl ?_
      exact r_fresh_L111 q 40 (ju (ju (ju (ju M 598 135 2) 598 110 (v9 + 1)) 674 v10 v11) 675 v12 v13) 0 k (RI.u (RI.u (RI.u (RI.u hI_M (a := 598) (i := 135) (show (0 : Int) ≤ _ ∧ _ ≤ (8 : Int) from by omega)) (a := 598) (i := 110) (show (0 : Int) ≤ _ ∧ _ ≤ (10000 : Int) from by omega)) (a := 674) (i := v10) (by rw [xri_row rfl rfl]; show (-1 : Int) ≤ _ ∧ _ ≤ (6 : Int); omega)) (a := 675) (i := v12) (by rw [xri_row rfl rfl]; show (0 : Int) ≤ _ ∧ _ ≤ (40 : Int); omega)) (RH.o (RH.o (RH.o (RH.o hH_M (by decide) (by decide) (by decide)) (by decide) (by decide) (by decide)) (by decide) (by decide) (by decide)) (by decide) (by decide) (by decide)) (RF.o (RF.o (RF.o (RF.o hS_M (by decide) (by decide)) (by decide) (by decide)) (by decide) (by decide)) (by decide) (by decide))  (fun a i f598 f674 f675 f676 f677 => ((ju_c _ _ f675).trans ((ju_c _ _ f674).trans ((ju_c _ _ f598).trans ((ju_c _ _ f598).trans rfl))))) (fun i g110 g135 => ((ju_c _ _ (by decide)).trans ((ju_c _ _ (by decide)).trans ((ju_i _ _ g110).trans ((ju_i _ _ g135).trans rfl))))) (by omega) (by omega)  (by omega)
    · exact jr.vreturn rfl rfl (q _ (RI.u hI_M (a := 598) (i := 135) (show (0 : Int) ≤ _ ∧ _ ≤ (8 : Int) from by omega)) (RH.o hH_M (by decide) (by decide) (by decide)) (RF.o hS_M (by decide) (by decide))  (fun a i f598 f674 f675 f676 f677 => ((ju_c _ _ f598).trans rfl)) (fun i g110 g135 => ((ju_i _ _ g135).trans rfl)))
theorem r_list_L130 {A : Nat → Option (Nat × (Nat → Int32))} {Q : Option Value → jm → Prop} {M0 : jm} (q : ∀ (M' : jm), RI M' → RH M' → RF M' → (∀ (a : Nat) (i : Int), a ≠ 598 → a ≠ 603 → a ≠ 604 → a ≠ 605 → a ≠ 674 → a ≠ 675 → a ≠ 677 → a ≠ 678 → M' a i = M0 a i) → (∀ (i : Int), i ≠ 6 → i ≠ 10 → i ≠ 11 → i ≠ 12 → i ≠ 110 → i ≠ 135 → M' 598 i = M0 598 i) → Q none M') (nO : Nat) (ko : ∀ (M : jm) (h : Int) (k : Int), RI M → RH M → RF M → (∀ (a : Nat) (i : Int), a ≠ 598 → a ≠ 603 → a ≠ 604 → a ≠ 605 → a ≠ 674 → a ≠ 675 → a ≠ 677 → a ≠ 678 → M a i = M0 a i) → (∀ (i : Int), i ≠ 6 → i ≠ 10 → i ≠ 11 → i ≠ 12 → i ≠ 110 → i ≠ 135 → M 598 i = M0 598 i) → 0 ≤ h ∧ h ≤ 12 → 0 ≤ k ∧ k ≤ 7 → 12 - h ≤ nO → jr A 6 xm_401 97 [(3, .int (Int32.ofInt (h))), (1, .long (Int64.ofInt (k))), (0, .ref (598))] [] M Q) : ∀ (nM : Nat) (M : jm) (f : Int) (a : Int) (h : Int) (k : Int), RI M → RH M → RF M → (∀ (a : Nat) (i : Int), a ≠ 598 → a ≠ 603 → a ≠ 604 → a ≠ 605 → a ≠ 674 → a ≠ 675 → a ≠ 677 → a ≠ 678 → M a i = M0 a i) → (∀ (i : Int), i ≠ 6 → i ≠ 10 → i ≠ 11 → i ≠ 12 → i ≠ 110 → i ≠ 135 → M 598 i = M0 598 i) → 0 ≤ f ∧ f ≤ 11 → 0 ≤ a ∧ a ≤ 319 → 0 ≤ h ∧ h ≤ 11 → 0 ≤ k ∧ k ≤ 7 → 12 - (h + 1) ≤ nO → 11 - f ≤ nM → jr A 6 xm_401 130 [(5, .int (Int32.ofInt (f))), (4, .int (Int32.ofInt (a))), (3, .int (Int32.ofInt (h))), (1, .long (Int64.ofInt (k))), (0, .ref (598))] [] M Q := by
  intro nM
  induction nM using Nat.strongRecOn with
  | ind nM ih =>
    intro M f a h k hI_M hH_M hS_M hF_M hG_M h_f h_a h_h h_k hy0 hm
    have fk := fldn_le (M 603 h)
    refine jr.iload rfl rfl ?_
    refine jr.aload_n rfl rfl ?_
    refine jr.getf (i := 7) (v := .ref 603) rfl rfl (nlt rfl) rfl (nlt rfl) rfl rfl rfl rfl ?_
    refine jr.iload_n rfl rfl ?_
    obtain ⟨v1, e1⟩ : ∃ z, M 603 h = z := ⟨_, rfl⟩
    have b1 : 0 ≤ v1 ∧ v1 ≤ 11 := by rw [← e1]; exact (by have q := hI_M 603 h (Nat.le_of_ble_eq_true rfl); rw [xri_row rfl rfl] at q; exact q)
    refine jr.iald (i := h) (x := v1) rfl (nlt rfl) rfl (Nat.le_of_ble_eq_true rfl) (by omega) (by omega) e1 ?_
    refine jr_s rfl rfl (Or.inl rfl) ⟨Nat.le_of_ble_eq_true rfl, Nat.le_of_ble_eq_true rfl⟩ rfl rfl (jc.deep (r_fields hI_M hH_M hS_M (Kp.rfl _) (by omega)  (fun r2 z2 w2_0 => ?_)) (Nat.le_of_ble_eq_true rfl))
    refine jr.icmp_ge rfl rfl (by first | (refine rgb (by assumption) ?_; exact rfl) | omega) (by first | (refine rgb (by assumption) ?_; exact rfl) | omega) (fun h141 => ?_) (fun h141 => ?_)
    · refine jr.iinc (ls' := [_, _, _, _, _]) rfl rfl (nlt rfl) rfl ?_
      refine jr.goto rfl rfl ?_
      refine jr.pick (ls := [_, _, _]) [0, 3, 4] rfl rfl ?_
      exact ko M (h + 1) k hI_M hH_M hS_M  (fun a i f598 f603 f604 f605 f674 f675 f677 f678 => (hF_M a i f598 f603 f604 f605 f674 f675 f677 f678)) (fun i g6 g10 g11 g12 g110 g135 => (hG_M i g6 g10 g11 g12 g110 g135)) (by omega) (by omega)  (by omega)
    · refine jr.aload_n rfl rfl ?_
      refine jr.getf (i := 121) (v := .ref 678) rfl rfl (nlt rfl) rfl (nlt rfl) rfl rfl rfl rfl ?_
      refine jr.bipush rfl (jbp _ (nlt rfl)) ?_
      refine jr.iload rfl rfl ?_
      refine jr.imul rfl ?_
      refine jr.iload rfl rfl ?_
      refine jr.iadd rfl ?_
      refine jr.aload_n rfl rfl ?_
      refine jr.aload_n rfl rfl ?_
      obtain ⟨v3, e3⟩ : ∃ z, M 598 133 = z := ⟨_, rfl⟩
      have b3 : 0 ≤ v3 ∧ v3 ≤ 23 := by rw [← e3]; exact hI_M 598 133 (Nat.le_of_ble_eq_true rfl)
      refine jr.getf (i := 133) (x := v3) (v := .int (Int32.ofInt (v3))) rfl rfl (nlt rfl) rfl (nlt rfl) rfl rfl e3 rfl ?_
      refine jr.aload_n rfl rfl ?_
      refine jr.getf (i := 7) (v := .ref 603) rfl rfl (nlt rfl) rfl (nlt rfl) rfl rfl rfl rfl ?_
      refine jr.iload_n rfl rfl ?_
      refine jr.iald (i := h) (x := v1) rfl (nlt rfl) rfl (Nat.le_of_ble_eq_true rfl) (by omega) (by omega) e1 ?_
      refine jr.aload_n rfl rfl ?_
      refine jr.getf (i := 8) (v := .ref 604) rfl rfl (nlt rfl) rfl (nlt rfl) rfl rfl rfl rfl ?_
      refine jr.iload_n rfl rfl ?_
      obtain ⟨v4, e4⟩ : ∃ z, M 604 h = z := ⟨_, rfl⟩
      have b4 : 0 ≤ v4 ∧ v4 ≤ 400 := by rw [← e4]; exact (by have q := hI_M 604 h (Nat.le_of_ble_eq_true rfl); rw [xri_row rfl rfl] at q; exact q)
      refine jr.iald (i := h) (x := v4) rfl (nlt rfl) rfl (Nat.le_of_ble_eq_true rfl) (by omega) (by omega) e4 ?_
      refine jr.aload_n rfl rfl ?_
      refine jr.getf (i := 9) (v := .ref 605) rfl rfl (nlt rfl) rfl (nlt rfl) rfl rfl rfl rfl ?_
      refine jr.iload_n rfl rfl ?_
      obtain ⟨v5, e5⟩ : ∃ z, M 605 h = z := ⟨_, rfl⟩
      have b5 : 0 ≤ v5 ∧ v5 ≤ 400 := by rw [← e5]; exact (by have q := hI_M 605 h (Nat.le_of_ble_eq_true rfl); rw [xri_row rfl rfl] at q; exact q)
      refine jr.iald (i := h) (x := v5) rfl (nlt rfl) rfl (Nat.le_of_ble_eq_true rfl) (by omega) (by omega) e5 ?_
      refine jr.iload rfl rfl ?_
      refine jr_v rfl rfl (Or.inl rfl) rfl rfl (nlt rfl) rfl ⟨rfl, Nat.le_of_ble_eq_true rfl, Nat.le_of_ble_eq_true rfl⟩ rfl (jc.deep (r_valueOf hI_M hH_M hS_M (Kp.rfl _) (by omega) (by omega) (by omega) (by omega) (by omega) (by have q := (hH_M h).1; rw [e4, e1] at q; exact q) (by omega) (fun r6 z6  => ?_)) (Nat.le_of_ble_eq_true rfl))
      refine jr.last (i := ((11 * a) + f)) (x := r6) rfl (nlt rfl) rfl (Nat.le_of_ble_eq_true rfl) (by omega) (by omega) ?_
      refine jr.iinc (ls' := [_, _, _, _, _]) rfl rfl (nlt rfl) rfl ?_
      refine jr.goto rfl rfl ?_
      refine jr.pick (ls := [_, _, _, _, _]) [0, 1, 2, 3, 4] rfl rfl ?_
      exact ih (nM - 1) (by omega) (ju M 678 ((11 * a) + f) r6) (f + 1) a h k (RI.u hI_M (a := 678) (i := ((11 * a) + f)) (by rw [xri_row rfl rfl]; show (-9223372036854775808 : Int) ≤ _ ∧ _ ≤ (9223372036854775807 : Int); omega)) (RH.o hH_M (by decide) (by decide) (by decide)) (RF.o hS_M (by decide) (by decide))  (fun a i f598 f603 f604 f605 f674 f675 f677 f678 => ((ju_c _ _ f678).trans (hF_M a i f598 f603 f604 f605 f674 f675 f677 f678))) (fun i g6 g10 g11 g12 g110 g135 => ((ju_c _ _ (by decide)).trans (hG_M i g6 g10 g11 g12 g110 g135))) (by omega) (by omega) (by omega) (by omega) (by omega) (by omega)
theorem r_list_L97 {A : Nat → Option (Nat × (Nat → Int32))} {Q : Option Value → jm → Prop} {M0 : jm} (q : ∀ (M' : jm), RI M' → RH M' → RF M' → (∀ (a : Nat) (i : Int), a ≠ 598 → a ≠ 603 → a ≠ 604 → a ≠ 605 → a ≠ 674 → a ≠ 675 → a ≠ 677 → a ≠ 678 → M' a i = M0 a i) → (∀ (i : Int), i ≠ 6 → i ≠ 10 → i ≠ 11 → i ≠ 12 → i ≠ 110 → i ≠ 135 → M' 598 i = M0 598 i) → Q none M') : ∀ (nM : Nat) (M : jm) (h : Int) (k : Int), RI M → RH M → RF M → (∀ (a : Nat) (i : Int), a ≠ 598 → a ≠ 603 → a ≠ 604 → a ≠ 605 → a ≠ 674 → a ≠ 675 → a ≠ 677 → a ≠ 678 → M a i = M0 a i) → (∀ (i : Int), i ≠ 6 → i ≠ 10 → i ≠ 11 → i ≠ 12 → i ≠ 110 → i ≠ 135 → M 598 i = M0 598 i) → 0 ≤ h ∧ h ≤ 12 → 0 ≤ k ∧ k ≤ 7 → 12 - h ≤ nM → jr A 6 xm_401 97 [(3, .int (Int32.ofInt (h))), (1, .long (Int64.ofInt (k))), (0, .ref (598))] [] M Q := by
  intro nM
  induction nM using Nat.strongRecOn with
  | ind nM ih =>
    intro M h k hI_M hH_M hS_M hF_M hG_M h_h h_k hm
    refine jr.iload_n rfl rfl ?_
    refine jr.aload_n rfl rfl ?_
    obtain ⟨v1, e1⟩ : ∃ z, M 598 6 = z := ⟨_, rfl⟩
    have b1 : 0 ≤ v1 ∧ v1 ≤ 12 := by rw [← e1]; exact hI_M 598 6 (Nat.le_of_ble_eq_true rfl)
    refine jr.getf (i := 6) (x := v1) (v := .int (Int32.ofInt (v1))) rfl rfl (nlt rfl) rfl (nlt rfl) rfl rfl e1 rfl ?_
    refine jr.icmp_ge rfl rfl (by first | (refine rgb (by assumption) ?_; exact rfl) | omega) (by first | (refine rgb (by assumption) ?_; exact rfl) | omega) (fun h102 => ?_) (fun h102 => ?_)
    · exact jr.vreturn rfl rfl (q _ hI_M hH_M hS_M  (fun a i f598 f603 f604 f605 f674 f675 f677 f678 => (hF_M a i f598 f603 f604 f605 f674 f675 f677 f678)) (fun i g6 g10 g11 g12 g110 g135 => (hG_M i g6 g10 g11 g12 g110 g135)))
    · refine jr.bipush rfl (jbp _ (nlt rfl)) ?_
      refine jr.lload_n rfl rfl ?_
      refine jr.l2i rfl ?_
      refine jr.imul rfl ?_
      refine jr.iload_n rfl rfl ?_
      refine jr.iadd rfl ?_
      refine jr.istore (ls' := [_, _, _, _]) rfl (nlt rfl) rfl ?_
      refine jr.aload_n rfl rfl ?_
      refine jr.getf (i := 120) (v := .ref 677) rfl rfl (nlt rfl) rfl (nlt rfl) rfl rfl rfl rfl ?_
      refine jr.iload rfl rfl ?_
      refine jr.aload_n rfl rfl ?_
      refine jr.getf (i := 7) (v := .ref 603) rfl rfl (nlt rfl) rfl (nlt rfl) rfl rfl rfl rfl ?_
      refine jr.iload_n rfl rfl ?_
      obtain ⟨v2, e2⟩ : ∃ z, M 603 h = z := ⟨_, rfl⟩
      have b2 : 0 ≤ v2 ∧ v2 ≤ 11 := by rw [← e2]; exact (by have q := hI_M 603 h (Nat.le_of_ble_eq_true rfl); rw [xri_row rfl rfl] at q; exact q)
      refine jr.iald (i := h) (x := v2) rfl (nlt rfl) rfl (Nat.le_of_ble_eq_true rfl) (by omega) (by omega) e2 ?_
      refine jr.iast (i := ((40 * k) + h)) (x := v2) rfl (nlt rfl) rfl (Nat.le_of_ble_eq_true rfl) (by omega) (by omega) ?_
      refine jr.iconst rfl ?_
      refine jr.istore (ls' := [_, _, _, _, _]) rfl (nlt rfl) rfl ?_
      refine jr.pick (ls := [_, _, _, _, _]) [0, 1, 2, 3, 4] rfl rfl ?_
      exact r_list_L130 q (nM - 1) (ih (nM - 1) (by omega)) 11 (ju M 677 ((40 * k) + h) v2) 0 ((40 * k) + h) h k (RI.u hI_M (a := 677) (i := ((40 * k) + h)) (by rw [xri_row rfl rfl]; show (-1 : Int) ≤ _ ∧ _ ≤ (11 : Int); omega)) (RH.o hH_M (by decide) (by decide) (by decide)) (RF.o hS_M (by decide) (by decide))  (fun a i f598 f603 f604 f605 f674 f675 f677 f678 => ((ju_c _ _ f677).trans (hF_M a i f598 f603 f604 f605 f674 f675 f677 f678))) (fun i g6 g10 g11 g12 g110 g135 => ((ju_c _ _ (by decide)).trans (hG_M i g6 g10 g11 g12 g110 g135))) (by omega) (by omega) (by omega) (by omega) (by omega) (by omega)
theorem r_list {A : Nat → Option (Nat × (Nat → Int32))} {Q : Option Value → jm → Prop} {M : jm} (hI_M : RI M) (hH_M : RH M) (hS_M : RF M) {k : Int} (h_k : (-9223372036854775808) ≤ k ∧ k ≤ 9223372036854775807) (q : ∀ (M' : jm), RI M' → RH M' → RF M' → (∀ (a : Nat) (i : Int), a ≠ 598 → a ≠ 603 → a ≠ 604 → a ≠ 605 → a ≠ 674 → a ≠ 675 → a ≠ 677 → a ≠ 678 → M' a i = M a i) → (∀ (i : Int), i ≠ 6 → i ≠ 10 → i ≠ 11 → i ≠ 12 → i ≠ 110 → i ≠ 135 → M' 598 i = M 598 i) → Q none M') : jc A 7 401 [.ref (598), .long (Int64.ofInt (k))] M Q := by
  refine jc_of (m := xm_401) rfl (Nat.le_of_ble_eq_true rfl) rfl ?_
  refine jr.aload_n rfl rfl ?_
  refine jr.lload_n rfl rfl ?_
  refine jr.lconst (x := 0) rfl (by decide) ?_
  refine jr.ldc2 (x := 7) rfl rfl (by decide) ?_
  refine jr_s rfl rfl (Or.inl rfl) ⟨Nat.le_of_ble_eq_true rfl, Nat.le_of_ble_eq_true rfl⟩ rfl rfl (jc.deep (c_within (by omega) (by omega) (by omega) (fun l6 u6 => ?_) (fun n6 => ?_)) (Nat.le_of_ble_eq_true rfl))
  · refine jr.if_ne rfl rfl (by first | exact rgl rfl | omega) (fun _ => ?_) (fun h => absurd (by decide) h)
    refine jr.aload_n rfl rfl ?_
    refine jr.aload_n rfl rfl ?_
    obtain ⟨v1, e1⟩ : ∃ z, M 598 133 = z := ⟨_, rfl⟩
    have b1 : 0 ≤ v1 ∧ v1 ≤ 23 := by rw [← e1]; exact hI_M 598 133 (Nat.le_of_ble_eq_true rfl)
    refine jr.getf (i := 133) (x := v1) (v := .int (Int32.ofInt (v1))) rfl rfl (nlt rfl) rfl (nlt rfl) rfl rfl e1 rfl ?_
    refine jr_v rfl rfl (Or.inl rfl) rfl rfl (nlt rfl) rfl ⟨rfl, Nat.le_of_ble_eq_true rfl, Nat.le_of_ble_eq_true rfl⟩ rfl (jc.deep (c_isThere hI_M (by omega) (fun l21 u21 t21 => ?_) (fun n21 => ?_)) (Nat.le_of_ble_eq_true rfl))
    · refine jr.if_ne rfl rfl (by first | exact rgl rfl | omega) (fun _ => ?_) (fun h => absurd (by decide) h)
      refine jr.aload_n rfl rfl ?_
      obtain ⟨v2, e2⟩ : ∃ z, M 598 110 = z := ⟨_, rfl⟩
      have b2 : 0 ≤ v2 ∧ v2 ≤ 10000 := by rw [← e2]; exact hI_M 598 110 (Nat.le_of_ble_eq_true rfl)
      refine jr.getf (i := 110) (x := v2) (v := .int (Int32.ofInt (v2))) rfl rfl (nlt rfl) rfl (nlt rfl) rfl rfl e2 rfl ?_
      refine jr.sipush rfl (by decide) ?_
      refine jr.icmp_ne rfl rfl (by first | (refine rgb (by assumption) ?_; exact rfl) | omega) (rgl rfl) (fun h38 => ?_) (fun h38 => ?_)
      · have sx38 : v2 ≤ (9999 : Int) := by omega
        clear h38
        refine jr.iconst rfl ?_
        refine jr.putf (i := 135) (x := 0) rfl rfl (nlt rfl) rfl (nlt rfl) rfl rfl rfl rfl rfl ?_
        refine jr.aload_n rfl rfl ?_
        refine jr.getf (i := 135) (x := 0) (v := .int (Int32.ofInt (0))) rfl rfl (nlt rfl) rfl (nlt rfl) rfl rfl (ju_same _ _ _ _) rfl ?_
        refine jr.if_eq rfl rfl (by first | (refine rgb (by assumption) ?_; exact rfl) | omega) (fun h54 => ?_) (fun h54 => ?_)
        · refine jr.aload_n rfl rfl ?_
          refine jr.dup rfl rfl ?_
          refine jr.getf (i := 110) (x := v2) (v := .int (Int32.ofInt (v2))) rfl rfl (nlt rfl) rfl (nlt rfl) rfl rfl ((ju_i _ _ (zne (by decide))).trans e2) rfl ?_
          refine jr.iconst rfl ?_
          refine jr.iadd rfl ?_
          refine jr.putf (i := 110) (x := (v2 + 1)) rfl rfl (nlt rfl) rfl (nlt rfl) rfl rfl rfl rfl rfl ?_
          refine jr.aload_n rfl rfl ?_
          refine jr.aload_n rfl rfl ?_
          refine jr.getf (i := 133) (x := v1) (v := .int (Int32.ofInt (v1))) rfl rfl (nlt rfl) rfl (nlt rfl) rfl rfl ((ju_i _ _ (zne (by decide))).trans ((ju_i _ _ (zne (by decide))).trans e1)) rfl ?_
          obtain ⟨v4, e4⟩ : ∃ z, M 600 v1 = z := ⟨_, rfl⟩
          have b4 : (-1) ≤ v4 ∧ v4 ≤ 400 := by rw [← e4]; exact (by have q := hI_M 600 v1 (Nat.le_of_ble_eq_true rfl); rw [xri_row rfl rfl] at q; exact q)
          refine jr_v rfl rfl (Or.inl rfl) rfl rfl (nlt rfl) rfl ⟨rfl, Nat.le_of_ble_eq_true rfl, Nat.le_of_ble_eq_true rfl⟩ rfl (jc.deep (r_look (RI.u (RI.u hI_M (a := 598) (i := 135) (show (0 : Int) ≤ _ ∧ _ ≤ (8 : Int) from by omega)) (a := 598) (i := 110) (show (0 : Int) ≤ _ ∧ _ ≤ (10000 : Int) from by omega)) (RH.o (RH.o hH_M (by decide) (by decide) (by decide)) (by decide) (by decide) (by decide)) (RF.o (RF.o hS_M (by decide) (by decide)) (by decide) (by decide)) (Kp.rfl _) (by omega) (by rw [((ju_c _ _ (by decide)).trans ((ju_c _ _ (by decide)).trans e4))]; omega) (fun M3 hI_M3 hH_M3 hS_M3 ht_M3 w3_0 w3_1 w3_2 => ?_)) (Nat.le_of_ble_eq_true rfl))
          refine jr.aload_n rfl rfl ?_
          refine jr.getf (i := 117) (v := .ref 674) rfl rfl (nlt rfl) rfl (nlt rfl) rfl rfl rfl rfl ?_
          refine jr.lload_n rfl rfl ?_
          refine jr.l2i rfl ?_
          refine jr.iconst rfl ?_
          refine jr.iast (i := k) (x := 5) rfl (nlt rfl) rfl (Nat.le_of_ble_eq_true rfl) (by omega) (by omega) ?_
          refine jr.aload_n rfl rfl ?_
          refine jr.getf (i := 118) (v := .ref 675) rfl rfl (nlt rfl) rfl (nlt rfl) rfl rfl rfl rfl ?_
          refine jr.lload_n rfl rfl ?_
          refine jr.l2i rfl ?_
          refine jr.aload_n rfl rfl ?_
          obtain ⟨v5, e5⟩ : ∃ z, M3 598 6 = z := ⟨_, rfl⟩
          have b5 : 0 ≤ v5 ∧ v5 ≤ 12 := by rw [← e5]; exact hI_M3 598 6 (Nat.le_of_ble_eq_true rfl)
          refine jr.getf (i := 6) (x := v5) (v := .int (Int32.ofInt (v5))) rfl rfl (nlt rfl) rfl (nlt rfl) rfl rfl ((ju_c _ _ (by decide)).trans e5) rfl ?_
          refine jr.iast (i := k) (x := v5) rfl (nlt rfl) rfl (Nat.le_of_ble_eq_true rfl) (by omega) (by omega) ?_
          refine jr.iconst rfl ?_
          refine jr.istore_n (ls' := [_, _, _]) rfl (nlt rfl) rfl ?_
          refine jr.pick (ls := [_, _, _]) [0, 2, 1] rfl rfl ?_
          exact r_list_L97 q 12 (ju (ju M3 674 k 5) 675 k v5) 0 k (RI.u (RI.u hI_M3 (a := 674) (i := k) (by rw [xri_row rfl rfl]; show (-1 : Int) ≤ _ ∧ _ ≤ (6 : Int); omega)) (a := 675) (i := k) (by rw [xri_row rfl rfl]; show (0 : Int) ≤ _ ∧ _ ≤ (40 : Int); omega)) (RH.o (RH.o hH_M3 (by decide) (by decide) (by decide)) (by decide) (by decide) (by decide)) (RF.o (RF.o hS_M3 (by decide) (by decide)) (by decide) (by decide))  (fun a i f598 f603 f604 f605 f674 f675 f677 f678 => ((ju_c _ _ f675).trans ((ju_c _ _ f674).trans ((w3_1 a i f598 f603 f604 f605).trans ((ju_c _ _ f598).trans ((ju_c _ _ f598).trans rfl)))))) (fun i g6 g10 g11 g12 g110 g135 => ((ju_c _ _ (by decide)).trans ((ju_c _ _ (by decide)).trans ((w3_2 i g6 g10 g11 g12).trans ((ju_i _ _ g110).trans ((ju_i _ _ g135).trans rfl)))))) (by omega) (by omega)  (by omega)
        · exact jr.vreturn rfl rfl (q _ (RI.u hI_M (a := 598) (i := 135) (show (0 : Int) ≤ _ ∧ _ ≤ (8 : Int) from by omega)) (RH.o hH_M (by decide) (by decide) (by decide)) (RF.o hS_M (by decide) (by decide))  (fun a i f598 f603 f604 f605 f674 f675 f677 f678 => ((ju_c _ _ f598).trans rfl)) (fun i g6 g10 g11 g12 g110 g135 => ((ju_i _ _ g135).trans rfl)))
      · refine jr.bipush rfl (jbp _ (nlt rfl)) ?_
        refine jr.goto rfl rfl ?_
        refine jr.putf (i := 135) (x := 8) rfl rfl (nlt rfl) rfl (nlt rfl) rfl rfl rfl rfl rfl ?_
        refine jr.aload_n rfl rfl ?_
        refine jr.getf (i := 135) (x := 8) (v := .int (Int32.ofInt (8))) rfl rfl (nlt rfl) rfl (nlt rfl) rfl rfl (ju_same _ _ _ _) rfl ?_
        refine jr.if_eq rfl rfl (by first | (refine rgb (by assumption) ?_; exact rfl) | omega) (fun h54 => ?_) (fun h54 => ?_)
        · refine jr.aload_n rfl rfl ?_
          refine jr.dup rfl rfl ?_
          refine jr.getf (i := 110) (x := v2) (v := .int (Int32.ofInt (v2))) rfl rfl (nlt rfl) rfl (nlt rfl) rfl rfl ((ju_i _ _ (zne (by decide))).trans e2) rfl ?_
          refine jr.iconst rfl ?_
          refine jr.iadd rfl ?_
          refine jr.putf (i := 110) (x := (v2 + 1)) rfl rfl (nlt rfl) rfl (nlt rfl) rfl rfl rfl rfl rfl ?_
          refine jr.aload_n rfl rfl ?_
          refine jr.aload_n rfl rfl ?_
          refine jr.getf (i := 133) (x := v1) (v := .int (Int32.ofInt (v1))) rfl rfl (nlt rfl) rfl (nlt rfl) rfl rfl ((ju_i _ _ (zne (by decide))).trans ((ju_i _ _ (zne (by decide))).trans e1)) rfl ?_
          obtain ⟨v7, e7⟩ : ∃ z, M 600 v1 = z := ⟨_, rfl⟩
          have b7 : (-1) ≤ v7 ∧ v7 ≤ 400 := by rw [← e7]; exact (by have q := hI_M 600 v1 (Nat.le_of_ble_eq_true rfl); rw [xri_row rfl rfl] at q; exact q)
          refine jr_v rfl rfl (Or.inl rfl) rfl rfl (nlt rfl) rfl ⟨rfl, Nat.le_of_ble_eq_true rfl, Nat.le_of_ble_eq_true rfl⟩ rfl (jc.deep (r_look (RI.u (RI.u hI_M (a := 598) (i := 135) (show (0 : Int) ≤ _ ∧ _ ≤ (8 : Int) from by omega)) (a := 598) (i := 110) (show (0 : Int) ≤ _ ∧ _ ≤ (10000 : Int) from by omega)) (RH.o (RH.o hH_M (by decide) (by decide) (by decide)) (by decide) (by decide) (by decide)) (RF.o (RF.o hS_M (by decide) (by decide)) (by decide) (by decide)) (Kp.rfl _) (by omega) (by rw [((ju_c _ _ (by decide)).trans ((ju_c _ _ (by decide)).trans e7))]; omega) (fun M6 hI_M6 hH_M6 hS_M6 ht_M6 w6_0 w6_1 w6_2 => ?_)) (Nat.le_of_ble_eq_true rfl))
          refine jr.aload_n rfl rfl ?_
          refine jr.getf (i := 117) (v := .ref 674) rfl rfl (nlt rfl) rfl (nlt rfl) rfl rfl rfl rfl ?_
          refine jr.lload_n rfl rfl ?_
          refine jr.l2i rfl ?_
          refine jr.iconst rfl ?_
          refine jr.iast (i := k) (x := 5) rfl (nlt rfl) rfl (Nat.le_of_ble_eq_true rfl) (by omega) (by omega) ?_
          refine jr.aload_n rfl rfl ?_
          refine jr.getf (i := 118) (v := .ref 675) rfl rfl (nlt rfl) rfl (nlt rfl) rfl rfl rfl rfl ?_
          refine jr.lload_n rfl rfl ?_
          refine jr.l2i rfl ?_
          refine jr.aload_n rfl rfl ?_
          obtain ⟨v8, e8⟩ : ∃ z, M6 598 6 = z := ⟨_, rfl⟩
          have b8 : 0 ≤ v8 ∧ v8 ≤ 12 := by rw [← e8]; exact hI_M6 598 6 (Nat.le_of_ble_eq_true rfl)
          refine jr.getf (i := 6) (x := v8) (v := .int (Int32.ofInt (v8))) rfl rfl (nlt rfl) rfl (nlt rfl) rfl rfl ((ju_c _ _ (by decide)).trans e8) rfl ?_
          refine jr.iast (i := k) (x := v8) rfl (nlt rfl) rfl (Nat.le_of_ble_eq_true rfl) (by omega) (by omega) ?_
          refine jr.iconst rfl ?_
          refine jr.istore_n (ls' := [_, _, _]) rfl (nlt rfl) rfl ?_
          refine jr.pick (ls := [_, _, _]) [0, 2, 1] rfl rfl ?_
          exact r_list_L97 q 12 (ju (ju M6 674 k 5) 675 k v8) 0 k (RI.u (RI.u hI_M6 (a := 674) (i := k) (by rw [xri_row rfl rfl]; show (-1 : Int) ≤ _ ∧ _ ≤ (6 : Int); omega)) (a := 675) (i := k) (by rw [xri_row rfl rfl]; show (0 : Int) ≤ _ ∧ _ ≤ (40 : Int); omega)) (RH.o (RH.o hH_M6 (by decide) (by decide) (by decide)) (by decide) (by decide) (by decide)) (RF.o (RF.o hS_M6 (by decide) (by decide)) (by decide) (by decide))  (fun a i f598 f603 f604 f605 f674 f675 f677 f678 => ((ju_c _ _ f675).trans ((ju_c _ _ f674).trans ((w6_1 a i f598 f603 f604 f605).trans ((ju_c _ _ f598).trans ((ju_c _ _ f598).trans rfl)))))) (fun i g6 g10 g11 g12 g110 g135 => ((ju_c _ _ (by decide)).trans ((ju_c _ _ (by decide)).trans ((w6_2 i g6 g10 g11 g12).trans ((ju_i _ _ g110).trans ((ju_i _ _ g135).trans rfl)))))) (by omega) (by omega)  (by omega)
        · exact jr.vreturn rfl rfl (q _ (RI.u hI_M (a := 598) (i := 135) (show (0 : Int) ≤ _ ∧ _ ≤ (8 : Int) from by omega)) (RH.o hH_M (by decide) (by decide) (by decide)) (RF.o hS_M (by decide) (by decide))  (fun a i f598 f603 f604 f605 f674 f675 f677 f678 => ((ju_c _ _ f598).trans rfl)) (fun i g6 g10 g11 g12 g110 g135 => ((ju_i _ _ g135).trans rfl)))
    · refine jr.if_ne rfl rfl (by first | exact rgl rfl | omega) (fun h => absurd h (by decide)) (fun _ => ?_)
      refine jr.iconst rfl ?_
      refine jr.goto rfl rfl ?_
      refine jr.putf (i := 135) (x := 1) rfl rfl (nlt rfl) rfl (nlt rfl) rfl rfl rfl rfl rfl ?_
      refine jr.aload_n rfl rfl ?_
      refine jr.getf (i := 135) (x := 1) (v := .int (Int32.ofInt (1))) rfl rfl (nlt rfl) rfl (nlt rfl) rfl rfl (ju_same _ _ _ _) rfl ?_
      refine jr.if_eq rfl rfl (by first | (refine rgb (by assumption) ?_; exact rfl) | omega) (fun h54 => ?_) (fun h54 => ?_)
      · refine jr.aload_n rfl rfl ?_
        refine jr.dup rfl rfl ?_
        obtain ⟨v9, e9⟩ : ∃ z, M 598 110 = z := ⟨_, rfl⟩
        have b9 : 0 ≤ v9 ∧ v9 ≤ 10000 := by rw [← e9]; exact hI_M 598 110 (Nat.le_of_ble_eq_true rfl)
        refine jr.getf (i := 110) (x := v9) (v := .int (Int32.ofInt (v9))) rfl rfl (nlt rfl) rfl (nlt rfl) rfl rfl ((ju_i _ _ (zne (by decide))).trans e9) rfl ?_
        refine jr.iconst rfl ?_
        refine jr.iadd rfl ?_
        refine jr.putf (i := 110) (x := (v9 + 1)) rfl rfl (nlt rfl) rfl (nlt rfl) rfl rfl rfl rfl rfl ?_
        refine jr.aload_n rfl rfl ?_
        refine jr.aload_n rfl rfl ?_
        refine jr.getf (i := 133) (x := v1) (v := .int (Int32.ofInt (v1))) rfl rfl (nlt rfl) rfl (nlt rfl) rfl rfl ((ju_i _ _ (zne (by decide))).trans ((ju_i _ _ (zne (by decide))).trans e1)) rfl ?_
        obtain ⟨v11, e11⟩ : ∃ z, M 600 v1 = z := ⟨_, rfl⟩
        have b11 : (-1) ≤ v11 ∧ v11 ≤ 400 := by rw [← e11]; exact (by have q := hI_M 600 v1 (Nat.le_of_ble_eq_true rfl); rw [xri_row rfl rfl] at q; exact q)
        refine jr_v rfl rfl (Or.inl rfl) rfl rfl (nlt rfl) rfl ⟨rfl, Nat.le_of_ble_eq_true rfl, Nat.le_of_ble_eq_true rfl⟩ rfl (jc.deep (r_look (RI.u (RI.u hI_M (a := 598) (i := 135) (show (0 : Int) ≤ _ ∧ _ ≤ (8 : Int) from by omega)) (a := 598) (i := 110) (show (0 : Int) ≤ _ ∧ _ ≤ (10000 : Int) from by omega)) (RH.o (RH.o hH_M (by decide) (by decide) (by decide)) (by decide) (by decide) (by decide)) (RF.o (RF.o hS_M (by decide) (by decide)) (by decide) (by decide)) (Kp.rfl _) (by omega) (by rw [((ju_c _ _ (by decide)).trans ((ju_c _ _ (by decide)).trans e11))]; omega) (fun M10 hI_M10 hH_M10 hS_M10 ht_M10 w10_0 w10_1 w10_2 => ?_)) (Nat.le_of_ble_eq_true rfl))
        refine jr.aload_n rfl rfl ?_
        refine jr.getf (i := 117) (v := .ref 674) rfl rfl (nlt rfl) rfl (nlt rfl) rfl rfl rfl rfl ?_
        refine jr.lload_n rfl rfl ?_
        refine jr.l2i rfl ?_
        refine jr.iconst rfl ?_
        refine jr.iast (i := k) (x := 5) rfl (nlt rfl) rfl (Nat.le_of_ble_eq_true rfl) (by omega) (by omega) ?_
        refine jr.aload_n rfl rfl ?_
        refine jr.getf (i := 118) (v := .ref 675) rfl rfl (nlt rfl) rfl (nlt rfl) rfl rfl rfl rfl ?_
        refine jr.lload_n rfl rfl ?_
        refine jr.l2i rfl ?_
        refine jr.aload_n rfl rfl ?_
        obtain ⟨v12, e12⟩ : ∃ z, M10 598 6 = z := ⟨_, rfl⟩
        have b12 : 0 ≤ v12 ∧ v12 ≤ 12 := by rw [← e12]; exact hI_M10 598 6 (Nat.le_of_ble_eq_true rfl)
        refine jr.getf (i := 6) (x := v12) (v := .int (Int32.ofInt (v12))) rfl rfl (nlt rfl) rfl (nlt rfl) rfl rfl ((ju_c _ _ (by decide)).trans e12) rfl ?_
        refine jr.iast (i := k) (x := v12) rfl (nlt rfl) rfl (Nat.le_of_ble_eq_true rfl) (by omega) (by omega) ?_
        refine jr.iconst rfl ?_
        refine jr.istore_n (ls' := [_, _, _]) rfl (nlt rfl) rfl ?_
        refine jr.pick (ls := [_, _, _]) [0, 2, 1] rfl rfl ?_
        exact r_list_L97 q 12 (ju (ju M10 674 k 5) 675 k v12) 0 k (RI.u (RI.u hI_M10 (a := 674) (i := k) (by rw [xri_row rfl rfl]; show (-1 : Int) ≤ _ ∧ _ ≤ (6 : Int); omega)) (a := 675) (i := k) (by rw [xri_row rfl rfl]; show (0 : Int) ≤ _ ∧ _ ≤ (40 : Int); omega)) (RH.o (RH.o hH_M10 (by decide) (by decide) (by decide)) (by decide) (by decide) (by decide)) (RF.o (RF.o hS_M10 (by decide) (by decide)) (by decide) (by decide))  (fun a i f598 f603 f604 f605 f674 f675 f677 f678 => ((ju_c _ _ f675).trans ((ju_c _ _ f674).trans ((w10_1 a i f598 f603 f604 f605).trans ((ju_c _ _ f598).trans ((ju_c _ _ f598).trans rfl)))))) (fun i g6 g10 g11 g12 g110 g135 => ((ju_c _ _ (by decide)).trans ((ju_c _ _ (by decide)).trans ((w10_2 i g6 g10 g11 g12).trans ((ju_i _ _ g110).trans ((ju_i _ _ g135).trans rfl)))))) (by omega) (by omega)  (by omega)
      · exact jr.vreturn rfl rfl (q _ (RI.u hI_M (a := 598) (i := 135) (show (0 : Int) ≤ _ ∧ _ ≤ (8 : Int) from by omega)) (RH.o hH_M (by decide) (by decide) (by decide)) (RF.o hS_M (by decide) (by decide))  (fun a i f598 f603 f604 f605 f674 f675 f677 f678 => ((ju_c _ _ f598).trans rfl)) (fun i g6 g10 g11 g12 g110 g135 => ((ju_i _ _ g135).trans rfl)))
  · refine jr.if_ne rfl rfl (by first | exact rgl rfl | omega) (fun h => absurd h (by decide)) (fun _ => ?_)
    refine jr.iconst rfl ?_
    refine jr.goto rfl rfl ?_
    refine jr.putf (i := 135) (x := 2) rfl rfl (nlt rfl) rfl (nlt rfl) rfl rfl rfl rfl rfl ?_
    refine jr.aload_n rfl rfl ?_
    refine jr.getf (i := 135) (x := 2) (v := .int (Int32.ofInt (2))) rfl rfl (nlt rfl) rfl (nlt rfl) rfl rfl (ju_same _ _ _ _) rfl ?_
    refine jr.if_eq rfl rfl (by first | (refine rgb (by assumption) ?_; exact rfl) | omega) (fun h54 => ?_) (fun h54 => ?_)
    · refine jr.aload_n rfl rfl ?_
      refine jr.dup rfl rfl ?_
      obtain ⟨v13, e13⟩ : ∃ z, M 598 110 = z := ⟨_, rfl⟩
      have b13 : 0 ≤ v13 ∧ v13 ≤ 10000 := by rw [← e13]; exact hI_M 598 110 (Nat.le_of_ble_eq_true rfl)
      refine jr.getf (i := 110) (x := v13) (v := .int (Int32.ofInt (v13))) rfl rfl (nlt rfl) rfl (nlt rfl) rfl rfl ((ju_i _ _ (zne (by decide))).trans e13) rfl ?_
      refine jr.iconst rfl ?_
      refine jr.iadd rfl ?_
      refine jr.putf (i := 110) (x := (v13 + 1)) rfl rfl (nlt rfl) rfl (nlt rfl) rfl rfl rfl rfl rfl ?_
      refine jr.aload_n rfl rfl ?_
      refine jr.aload_n rfl rfl ?_
      obtain ⟨v14, e14⟩ : ∃ z, M 598 133 = z := ⟨_, rfl⟩
      have b14 : 0 ≤ v14 ∧ v14 ≤ 23 := by rw [← e14]; exact hI_M 598 133 (Nat.le_of_ble_eq_true rfl)
      refine jr.getf (i := 133) (x := v14) (v := .int (Int32.ofInt (v14))) rfl rfl (nlt rfl) rfl (nlt rfl) rfl rfl ((ju_i _ _ (zne (by decide))).trans ((ju_i _ _ (zne (by decide))).trans e14)) rfl ?_
      obtain ⟨v16, e16⟩ : ∃ z, M 600 v14 = z := ⟨_, rfl⟩
      have b16 : (-1) ≤ v16 ∧ v16 ≤ 400 := by rw [← e16]; exact (by have q := hI_M 600 v14 (Nat.le_of_ble_eq_true rfl); rw [xri_row rfl rfl] at q; exact q)
      refine jr_v rfl rfl (Or.inl rfl) rfl rfl (nlt rfl) rfl ⟨rfl, Nat.le_of_ble_eq_true rfl, Nat.le_of_ble_eq_true rfl⟩ rfl (jc.deep (r_look (RI.u (RI.u hI_M (a := 598) (i := 135) (show (0 : Int) ≤ _ ∧ _ ≤ (8 : Int) from by omega)) (a := 598) (i := 110) (show (0 : Int) ≤ _ ∧ _ ≤ (10000 : Int) from by omega)) (RH.o (RH.o hH_M (by decide) (by decide) (by decide)) (by decide) (by decide) (by decide)) (RF.o (RF.o hS_M (by decide) (by decide)) (by decide) (by decide)) (Kp.rfl _) (by omega) (by rw [((ju_c _ _ (by decide)).trans ((ju_c _ _ (by decide)).trans e16))]; omega) (fun M15 hI_M15 hH_M15 hS_M15 ht_M15 w15_0 w15_1 w15_2 => ?_)) (Nat.le_of_ble_eq_true rfl))
      refine jr.aload_n rfl rfl ?_
      refine jr.getf (i := 117) (v := .ref 674) rfl rfl (nlt rfl) rfl (nlt rfl) rfl rfl rfl rfl ?_
      refine jr.lload_n rfl rfl ?_
      refine jr.l2i rfl ?_
      refine jr.iw (j_w k) (j_w_eq _) ?_
      have b17 : -2147483648 ≤ j_w k ∧ j_w k ≤ 2147483647 := jb_any _
      generalize j_w k = v17 at b17 ⊢
      refine jr.iconst rfl ?_
      refine jr.iast (i := v17) (x := 5) rfl (nlt rfl) rfl (Nat.le_of_ble_eq_true rfl) (by omega) (by omega) ?_
      refine jr.aload_n rfl rfl ?_
      refine jr.getf (i := 118) (v := .ref 675) rfl rfl (nlt rfl) rfl (nlt rfl) rfl rfl rfl rfl ?_
      refine jr.lload_n rfl rfl ?_
      refine jr.l2i rfl ?_
      refine jr.iw (j_w k) (j_w_eq _) ?_
      have b18 : -2147483648 ≤ j_w k ∧ j_w k ≤ 2147483647 := jb_any _
      generalize j_w k = v18 at b18 ⊢
      refine jr.aload_n rfl rfl ?_
      obtain ⟨v19, e19⟩ : ∃ z, M15 598 6 = z := ⟨_, rfl⟩
      have b19 : 0 ≤ v19 ∧ v19 ≤ 12 := by rw [← e19]; exact hI_M15 598 6 (Nat.le_of_ble_eq_true rfl)
      refine jr.getf (i := 6) (x := v19) (v := .int (Int32.ofInt (v19))) rfl rfl (nlt rfl) rfl (nlt rfl) rfl rfl ((ju_c _ _ (by decide)).trans e19) rfl ?_
      refine jr.iast (i := v18) (x := v19) rfl (nlt rfl) rfl (Nat.le_of_ble_eq_true rfl) (by omega) (by omega) ?_
      refine jr.iconst rfl ?_
      refine jr.istore_n (ls' := [_, _, _]) rfl (nlt rfl) rfl ?_
      refine jr.pick (ls := [_, _, _]) [0, 2, 1] rfl rfl ?_
      exact r_list_L97 q 12 (ju (ju M15 674 v17 5) 675 v18 v19) 0 k (RI.u (RI.u hI_M15 (a := 674) (i := v17) (by rw [xri_row rfl rfl]; show (-1 : Int) ≤ _ ∧ _ ≤ (6 : Int); omega)) (a := 675) (i := v18) (by rw [xri_row rfl rfl]; show (0 : Int) ≤ _ ∧ _ ≤ (40 : Int); omega)) (RH.o (RH.o hH_M15 (by decide) (by decide) (by decide)) (by decide) (by decide) (by decide)) (RF.o (RF.o hS_M15 (by decide) (by decide)) (by decide) (by decide))  (fun a i f598 f603 f604 f605 f674 f675 f677 f678 => ((ju_c _ _ f675).trans ((ju_c _ _ f674).trans ((w15_1 a i f598 f603 f604 f605).trans ((ju_c _ _ f598).trans ((ju_c _ _ f598).trans rfl)))))) (fun i g6 g10 g11 g12 g110 g135 => ((ju_c _ _ (by decide)).trans ((ju_c _ _ (by decide)).trans ((w15_2 i g6 g10 g11 g12).trans ((ju_i _ _ g110).trans ((ju_i _ _ g135).trans rfl)))))) (by omega) (by omega)  (by omega)
    · exact jr.vreturn rfl rfl (q _ (RI.u hI_M (a := 598) (i := 135) (show (0 : Int) ≤ _ ∧ _ ≤ (8 : Int) from by omega)) (RH.o hH_M (by decide) (by decide) (by decide)) (RF.o hS_M (by decide) (by decide))  (fun a i f598 f603 f604 f605 f674 f675 f677 f678 => ((ju_c _ _ f598).trans rfl)) (fun i g6 g10 g11 g12 g110 g135 => ((ju_i _ _ g135).trans rfl)))
theorem r_noteWhy {A : Nat → Option (Nat × (Nat → Int32))} {Q : Option Value → jm → Prop} {M : jm} (hI_M : RI M) (hH_M : RH M) (hS_M : RF M) {w : Int} (h_w : 0 ≤ w ∧ w ≤ 5) (p0 : 1 ≤ M 598 122) (q : ∀ (M' : jm), RI M' → RH M' → RF M' → (∀ (a : Nat) (i : Int), a ≠ 598 → a ≠ 687 → M' a i = M a i) → (∀ (i : Int), i ≠ 145 → M' 598 i = M 598 i) → Q none M') : jc A 1 376 [.ref (598), .int (Int32.ofInt (w))] M Q := by
  refine jc_of (m := xm_376) rfl (Nat.le_of_ble_eq_true rfl) rfl ?_
  refine jr.aload_n rfl rfl ?_
  obtain ⟨v1, e1⟩ : ∃ z, M 598 145 = z := ⟨_, rfl⟩
  have b1 : 0 ≤ v1 ∧ v1 ≤ 40 := by rw [← e1]; exact hI_M 598 145 (Nat.le_of_ble_eq_true rfl)
  refine jr.getf (i := 145) (x := v1) (v := .int (Int32.ofInt (v1))) rfl rfl (nlt rfl) rfl (nlt rfl) rfl rfl e1 rfl ?_
  refine jr.bipush rfl (jbp _ (nlt rfl)) ?_
  refine jr.icmp_ge rfl rfl (by first | (refine rgb (by assumption) ?_; exact rfl) | omega) (rgl rfl) (fun h6 => ?_) (fun h6 => ?_)
  · exact jr.vreturn rfl rfl (q _ hI_M hH_M hS_M  (fun a i f598 f687 => rfl) (fun i g145 => rfl))
  · refine jr.aload_n rfl rfl ?_
    refine jr.getf (i := 146) (v := .ref 687) rfl rfl (nlt rfl) rfl (nlt rfl) rfl rfl rfl rfl ?_
    refine jr.aload_n rfl rfl ?_
    refine jr.getf (i := 145) (x := v1) (v := .int (Int32.ofInt (v1))) rfl rfl (nlt rfl) rfl (nlt rfl) rfl rfl e1 rfl ?_
    refine jr.bipush rfl (jbp _ (nlt rfl)) ?_
    refine jr.aload_n rfl rfl ?_
    refine jr.getf (i := 123) (v := .ref 679) rfl rfl (nlt rfl) rfl (nlt rfl) rfl rfl rfl rfl ?_
    refine jr.aload_n rfl rfl ?_
    obtain ⟨v2, e2⟩ : ∃ z, M 598 122 = z := ⟨_, rfl⟩
    have b2 : 0 ≤ v2 ∧ v2 ≤ 9 := by rw [← e2]; exact hI_M 598 122 (Nat.le_of_ble_eq_true rfl)
    refine jr.getf (i := 122) (x := v2) (v := .int (Int32.ofInt (v2))) rfl rfl (nlt rfl) rfl (nlt rfl) rfl rfl e2 rfl ?_
    refine jr.iconst rfl ?_
    refine jr.isub rfl ?_
    obtain ⟨v3, e3⟩ : ∃ z, M 679 (v2 - 1) = z := ⟨_, rfl⟩
    have b3 : 0 ≤ v3 ∧ v3 ≤ 15 := by rw [← e3]; exact (by have q := hI_M 679 (v2 - 1) (Nat.le_of_ble_eq_true rfl); rw [xri_row rfl rfl] at q; exact q)
    refine jr.iald (i := (v2 - 1)) (x := v3) rfl (nlt rfl) rfl (Nat.le_of_ble_eq_true rfl) (by omega) (by omega) e3 ?_
    refine jr.imul rfl ?_
    refine jr.iload_n rfl rfl ?_
    refine jr.iadd rfl ?_
    refine jr.iast (i := v1) (x := ((100 * v3) + w)) rfl (nlt rfl) rfl (Nat.le_of_ble_eq_true rfl) (by omega) (by omega) ?_
    refine jr.aload_n rfl rfl ?_
    refine jr.dup rfl rfl ?_
    refine jr.getf (i := 145) (x := v1) (v := .int (Int32.ofInt (v1))) rfl rfl (nlt rfl) rfl (nlt rfl) rfl rfl ((ju_c _ _ (by decide)).trans e1) rfl ?_
    refine jr.iconst rfl ?_
    refine jr.iadd rfl ?_
    refine jr.putf (i := 145) (x := (v1 + 1)) rfl rfl (nlt rfl) rfl (nlt rfl) rfl rfl rfl rfl rfl ?_
    exact jr.vreturn rfl rfl (q _ (RI.u (RI.u hI_M (a := 687) (i := v1) (by rw [xri_row rfl rfl]; show (0 : Int) ≤ _ ∧ _ ≤ (1600 : Int); omega)) (a := 598) (i := 145) (show (0 : Int) ≤ _ ∧ _ ≤ (40 : Int) from by omega)) (RH.o (RH.o hH_M (by decide) (by decide) (by decide)) (by decide) (by decide) (by decide)) (RF.o (RF.o hS_M (by decide) (by decide)) (by decide) (by decide))  (fun a i f598 f687 => ((ju_c _ _ f598).trans ((ju_c _ _ f687).trans rfl))) (fun i g145 => ((ju_i _ _ g145).trans ((ju_c _ _ (by decide)).trans rfl))))
