theorem r_next {A : Nat → Option (Nat × (Nat → Int32))} {Q : Option Value → jm → Prop} {M : jm} (hI_M : RI M) (hH_M : RH M) (hS_M : RF M) (p0 : M 598 73 ≤ M 598 72) (q : ∀ (M' : jm), RI M' → RH M' → RF M' → M' 598 73 ≤ M' 598 72 → M 598 73 ≤ M' 598 73 → TK M' ≤ TK M → (M 598 74 ≠ 0 → TK M' < TK M) → (M' 598 74 = 3 → M' 598 79 ≠ 10 ∧ M' 598 79 ≠ 11) → (∀ (a : Nat) (i : Int), a ≠ 598 → M' a i = M a i) → (∀ (i : Int), i ≠ 73 → i ≠ 74 → i ≠ 75 → i ≠ 76 → i ≠ 77 → i ≠ 78 → i ≠ 79 → M' 598 i = M 598 i) → Q none M') : jc A 2 344 [.ref (598)] M Q := by
  have b74 : (0 : Int) ≤ M 598 74 ∧ M 598 74 ≤ 4 := hI_M 598 74 (by decide)
  refine jc_of (m := xm_344) rfl (Nat.le_of_ble_eq_true rfl) rfl ?_
  refine jr.aload_n rfl rfl ?_
  obtain ⟨v1, e1⟩ : ∃ z, M 598 73 = z := ⟨_, rfl⟩
  have b1 : 0 ≤ v1 ∧ v1 ≤ 1600 := by rw [← e1]; exact hI_M 598 73 (by decide)
  refine jr.getf (i := 73) (x := v1) (v := .int (Int32.ofInt (v1))) rfl rfl (by decide) rfl (by decide) rfl rfl e1 rfl ?_
  refine jr.aload_n rfl rfl ?_
  obtain ⟨v2, e2⟩ : ∃ z, M 598 72 = z := ⟨_, rfl⟩
  have b2 : 0 ≤ v2 ∧ v2 ≤ 1600 := by rw [← e2]; exact hI_M 598 72 (by decide)
  refine jr.getf (i := 72) (x := v2) (v := .int (Int32.ofInt (v2))) rfl rfl (by decide) rfl (by decide) rfl rfl e2 rfl ?_
  refine jr.icmp_ge rfl rfl (by omega) (by omega) (fun h8 => ?_) (fun h8 => ?_)
  · refine jr.aload_n rfl rfl ?_
    refine jr.aload_n rfl rfl ?_
    refine jr.getf (i := 73) (x := v1) (v := .int (Int32.ofInt (v1))) rfl rfl (by decide) rfl (by decide) rfl rfl e1 rfl ?_
    refine jr.putf (i := 75) (x := v1) rfl rfl (by decide) rfl (by decide) rfl rfl rfl rfl rfl ?_
    refine jr.aload_n rfl rfl ?_
    refine jr.iconst rfl ?_
    refine jr.putf (i := 74) (x := 0) rfl rfl (by decide) rfl (by decide) rfl rfl rfl rfl rfl ?_
    refine jr.aload_n rfl rfl ?_
    refine jr.iconst rfl ?_
    refine jr.putf (i := 76) (x := (-1)) rfl rfl (by decide) rfl (by decide) rfl rfl rfl rfl rfl ?_
    refine jr.aload_n rfl rfl ?_
    refine jr.getf (i := 73) (x := v1) (v := .int (Int32.ofInt (v1))) rfl rfl (by decide) rfl (by decide) rfl rfl ((ju_i _ _ (by decide)).trans ((ju_i _ _ (by decide)).trans ((ju_i _ _ (by decide)).trans e1))) rfl ?_
    refine jr.aload_n rfl rfl ?_
    refine jr.getf (i := 72) (x := v2) (v := .int (Int32.ofInt (v2))) rfl rfl (by decide) rfl (by decide) rfl rfl ((ju_i _ _ (by decide)).trans ((ju_i _ _ (by decide)).trans ((ju_i _ _ (by decide)).trans e2))) rfl ?_
    refine jr.icmp_ne rfl rfl (by omega) (by omega) (fun h78 => ?_) (fun h78 => ?_)
    · refine jr.aload_n rfl rfl ?_
      refine jr.getf (i := 71) (v := .ref 651) rfl rfl (by decide) rfl (by decide) rfl rfl rfl rfl ?_
      refine jr.aload_n rfl rfl ?_
      refine jr.getf (i := 73) (x := v1) (v := .int (Int32.ofInt (v1))) rfl rfl (by decide) rfl (by decide) rfl rfl ((ju_i _ _ (by decide)).trans ((ju_i _ _ (by decide)).trans ((ju_i _ _ (by decide)).trans e1))) rfl ?_
      obtain ⟨v3, e3⟩ : ∃ z, M 651 v1 = z := ⟨_, rfl⟩
      have b3 : 0 ≤ v3 ∧ v3 ≤ 255 := by rw [← e3]; exact (by have q := hI_M 651 v1 (by decide); rw [xri_row rfl rfl] at q; exact q)
      refine jr.iald (i := v1) (x := v3) rfl (by decide) rfl (by decide) (by omega) (by omega) ((ju_c _ _ (by decide)).trans ((ju_c _ _ (by decide)).trans ((ju_c _ _ (by decide)).trans e3))) ?_
      refine jr.istore_n (ls' := [_, _]) rfl (by decide) rfl ?_
      refine jr.iload_n rfl rfl ?_
      refine jr_s rfl rfl (Or.inl rfl) ⟨Nat.le_of_ble_eq_true rfl, Nat.le_of_ble_eq_true rfl⟩ rfl rfl (jc.deep (c_isLetter  (by omega) (fun t93_0 t93_1 => ?_) (fun f93_0 => ?_)) (by decide))
      · refine jr.if_eq rfl rfl (by omega) (fun h => absurd h (by decide)) (fun _ => ?_)
        refine jr.aload_n rfl rfl ?_
        refine jr.lconst (x := 0) rfl (by decide) ?_
        refine jr.putf (i := 77) (x := 0) rfl rfl (by decide) rfl (by decide) rfl rfl rfl rfl rfl ?_
        refine jr.pick (ls := [_]) [1] rfl rfl ?_
        exact r_next_L104 q 1600 (ju (ju (ju (ju M 598 75 v1) 598 74 0) 598 76 (-1)) 598 77 0)  (RI.u (RI.u (RI.u (RI.u hI_M (a := 598) (i := 75) (show (0 : Int) ≤ _ ∧ _ ≤ (1600 : Int) from by omega)) (a := 598) (i := 74) (show (0 : Int) ≤ _ ∧ _ ≤ (4 : Int) from by omega)) (a := 598) (i := 76) (show (-1 : Int) ≤ _ ∧ _ ≤ (68 : Int) from by omega)) (a := 598) (i := 77) (show (-9223372036854775808 : Int) ≤ _ ∧ _ ≤ (9223372036854775807 : Int) from by omega)) (RH.o (RH.o (RH.o (RH.o hH_M (by decide) (by decide) (by decide)) (by decide) (by decide) (by decide)) (by decide) (by decide) (by decide)) (by decide) (by decide) (by decide)) (RF.o (RF.o (RF.o (RF.o hS_M (by decide) (by decide)) (by decide) (by decide)) (by decide) (by decide)) (by decide) (by decide))  (fun a i f598 => ((ju_c _ _ f598).trans ((ju_c _ _ f598).trans ((ju_c _ _ f598).trans ((ju_c _ _ f598).trans rfl))))) (fun i g73 g74 g75 g76 g77 g78 g79 => ((ju_i _ _ g77).trans ((ju_i _ _ g76).trans ((ju_i _ _ g74).trans ((ju_i _ _ g75).trans rfl)))))  (by rw [((ju_i _ _ (by decide)).trans ((ju_i _ _ (by decide)).trans ((ju_i _ _ (by decide)).trans ((ju_i _ _ (by decide)).trans e1)))), ((ju_i _ _ (by decide)).trans ((ju_i _ _ (by decide)).trans ((ju_i _ _ (by decide)).trans ((ju_i _ _ (by decide)).trans e2))))] <;> omega) (by rw [((ju_i _ _ (by decide)).trans ((ju_i _ _ (by decide)).trans ((ju_i _ _ (by decide)).trans (ju_same _ _ _ _)))), ((ju_i _ _ (by decide)).trans ((ju_i _ _ (by decide)).trans ((ju_i _ _ (by decide)).trans ((ju_i _ _ (by decide)).trans e1))))] <;> omega) (by omega) (by rw [((ju_i _ _ (by decide)).trans ((ju_i _ _ (by decide)).trans ((ju_i _ _ (by decide)).trans ((ju_i _ _ (by decide)).trans e1)))), ((ju_i _ _ (by decide)).trans ((ju_i _ _ (by decide)).trans ((ju_i _ _ (by decide)).trans (ju_same _ _ _ _)))), ((ju_i _ _ (by decide)).trans ((ju_i _ _ (by decide)).trans ((ju_i _ _ (by decide)).trans ((ju_i _ _ (by decide)).trans e2)))), ((ju_c _ _ (by decide)).trans ((ju_c _ _ (by decide)).trans ((ju_c _ _ (by decide)).trans ((ju_c _ _ (by decide)).trans e3))))]; omega) (by rw [((ju_i _ _ (by decide)).trans ((ju_i _ _ (by decide)).trans ((ju_i _ _ (by decide)).trans ((ju_i _ _ (by decide)).trans e1))))]; omega)
      · refine jr.if_eq rfl rfl (by omega) (fun _ => ?_) (fun h => absurd (by decide) h)
        refine jr.iload_n rfl rfl ?_
        refine jr_s rfl rfl (Or.inl rfl) ⟨Nat.le_of_ble_eq_true rfl, Nat.le_of_ble_eq_true rfl⟩ rfl rfl (jc.deep (c_isDigit  (by omega) (fun t255_0 t255_1 => ?_) (fun f255_0 => ?_)) (by decide))
        · refine jr.if_eq rfl rfl (by omega) (fun h => absurd h (by decide)) (fun _ => ?_)
          refine jr.aload_n rfl rfl ?_
          refine jr.lconst (x := 0) rfl (by decide) ?_
          refine jr.putf (i := 78) (x := 0) rfl rfl (by decide) rfl (by decide) rfl rfl rfl rfl rfl ?_
          refine jr.pick (ls := [_]) [1] rfl rfl ?_
          exact r_next_L266 q 1600 (ju (ju (ju (ju M 598 75 v1) 598 74 0) 598 76 (-1)) 598 78 0)  (RI.u (RI.u (RI.u (RI.u hI_M (a := 598) (i := 75) (show (0 : Int) ≤ _ ∧ _ ≤ (1600 : Int) from by omega)) (a := 598) (i := 74) (show (0 : Int) ≤ _ ∧ _ ≤ (4 : Int) from by omega)) (a := 598) (i := 76) (show (-1 : Int) ≤ _ ∧ _ ≤ (68 : Int) from by omega)) (a := 598) (i := 78) (show (-9223372036854775808 : Int) ≤ _ ∧ _ ≤ (9223372036854775807 : Int) from by omega)) (RH.o (RH.o (RH.o (RH.o hH_M (by decide) (by decide) (by decide)) (by decide) (by decide) (by decide)) (by decide) (by decide) (by decide)) (by decide) (by decide) (by decide)) (RF.o (RF.o (RF.o (RF.o hS_M (by decide) (by decide)) (by decide) (by decide)) (by decide) (by decide)) (by decide) (by decide))  (fun a i f598 => ((ju_c _ _ f598).trans ((ju_c _ _ f598).trans ((ju_c _ _ f598).trans ((ju_c _ _ f598).trans rfl))))) (fun i g73 g74 g75 g76 g77 g78 g79 => ((ju_i _ _ g78).trans ((ju_i _ _ g76).trans ((ju_i _ _ g74).trans ((ju_i _ _ g75).trans rfl)))))  (by rw [((ju_i _ _ (by decide)).trans ((ju_i _ _ (by decide)).trans ((ju_i _ _ (by decide)).trans ((ju_i _ _ (by decide)).trans e1)))), ((ju_i _ _ (by decide)).trans ((ju_i _ _ (by decide)).trans ((ju_i _ _ (by decide)).trans ((ju_i _ _ (by decide)).trans e2))))] <;> omega) (by rw [((ju_i _ _ (by decide)).trans ((ju_i _ _ (by decide)).trans ((ju_i _ _ (by decide)).trans (ju_same _ _ _ _)))), ((ju_i _ _ (by decide)).trans ((ju_i _ _ (by decide)).trans ((ju_i _ _ (by decide)).trans ((ju_i _ _ (by decide)).trans e1))))] <;> omega) (by omega) (by rw [((ju_i _ _ (by decide)).trans ((ju_i _ _ (by decide)).trans ((ju_i _ _ (by decide)).trans ((ju_i _ _ (by decide)).trans e1)))), ((ju_i _ _ (by decide)).trans ((ju_i _ _ (by decide)).trans ((ju_i _ _ (by decide)).trans (ju_same _ _ _ _)))), ((ju_i _ _ (by decide)).trans ((ju_i _ _ (by decide)).trans ((ju_i _ _ (by decide)).trans ((ju_i _ _ (by decide)).trans e2)))), ((ju_c _ _ (by decide)).trans ((ju_c _ _ (by decide)).trans ((ju_c _ _ (by decide)).trans ((ju_c _ _ (by decide)).trans e3))))]; omega) (by rw [((ju_i _ _ (by decide)).trans ((ju_i _ _ (by decide)).trans ((ju_i _ _ (by decide)).trans ((ju_i _ _ (by decide)).trans e1))))]; omega)
        · refine jr.if_eq rfl rfl (by omega) (fun _ => ?_) (fun h => absurd (by decide) h)
          refine jr.aload_n rfl rfl ?_
          refine jr.dup rfl rfl ?_
          refine jr.getf (i := 73) (x := v1) (v := .int (Int32.ofInt (v1))) rfl rfl (by decide) rfl (by decide) rfl rfl ((ju_i _ _ (by decide)).trans ((ju_i _ _ (by decide)).trans ((ju_i _ _ (by decide)).trans e1))) rfl ?_
          refine jr.iconst rfl ?_
          refine jr.iadd rfl ?_
          refine jr.putf (i := 73) (x := (v1 + 1)) rfl rfl (by decide) rfl (by decide) rfl rfl rfl rfl rfl ?_
          refine jr.aload_n rfl rfl ?_
          refine jr.iload_n rfl rfl ?_
          refine jr.putf (i := 79) (x := v3) rfl rfl (by decide) rfl (by decide) rfl rfl rfl rfl rfl ?_
          refine jr.aload_n rfl rfl ?_
          refine jr.iload_n rfl rfl ?_
          refine jr_s rfl rfl (Or.inl rfl) ⟨Nat.le_of_ble_eq_true rfl, Nat.le_of_ble_eq_true rfl⟩ rfl rfl (jc.deep (r_isSignByte (RI.u (RI.u (RI.u (RI.u (RI.u hI_M (a := 598) (i := 75) (show (0 : Int) ≤ _ ∧ _ ≤ (1600 : Int) from by omega)) (a := 598) (i := 74) (show (0 : Int) ≤ _ ∧ _ ≤ (4 : Int) from by omega)) (a := 598) (i := 76) (show (-1 : Int) ≤ _ ∧ _ ≤ (68 : Int) from by omega)) (a := 598) (i := 73) (show (0 : Int) ≤ _ ∧ _ ≤ (1600 : Int) from by omega)) (a := 598) (i := 79) (show (0 : Int) ≤ _ ∧ _ ≤ (255 : Int) from by omega)) (RH.o (RH.o (RH.o (RH.o (RH.o hH_M (by decide) (by decide) (by decide)) (by decide) (by decide) (by decide)) (by decide) (by decide) (by decide)) (by decide) (by decide) (by decide)) (by decide) (by decide) (by decide)) (RF.o (RF.o (RF.o (RF.o (RF.o hS_M (by decide) (by decide)) (by decide) (by decide)) (by decide) (by decide)) (by decide) (by decide)) (by decide) (by decide)) (Kp.rfl _) (by omega)  (fun r4 z4 w4_0 => ?_)) (by decide))
          refine jr.if_eq rfl rfl (by omega) (fun h399 => ?_) (fun h399 => ?_)
          · refine jr.iconst rfl ?_
            refine jr.putf (i := 74) (x := 4) rfl rfl (by decide) rfl (by decide) rfl rfl rfl rfl rfl ?_
            have y5 : (ju (ju (ju (ju (ju (ju M 598 75 v1) 598 74 0) 598 76 (-1)) 598 73 (v1 + 1)) 598 79 v3) 598 74 4) 598 72 = v2 := ((ju_i _ _ (by decide)).trans ((ju_i _ _ (by decide)).trans ((ju_i _ _ (by decide)).trans ((ju_i _ _ (by decide)).trans ((ju_i _ _ (by decide)).trans ((ju_i _ _ (by decide)).trans e2))))))
            have y6 : (ju (ju (ju (ju (ju (ju M 598 75 v1) 598 74 0) 598 76 (-1)) 598 73 (v1 + 1)) 598 79 v3) 598 74 4) 598 73 = v1 + 1 := ((ju_i _ _ (by decide)).trans ((ju_i _ _ (by decide)).trans (ju_same _ _ _ _)))
            have y7 : (ju (ju (ju (ju (ju (ju M 598 75 v1) 598 74 0) 598 76 (-1)) 598 73 (v1 + 1)) 598 79 v3) 598 74 4) 598 74 = 4 := (ju_same _ _ _ _)
            have y8 : (ju (ju (ju (ju (ju (ju M 598 75 v1) 598 74 0) 598 76 (-1)) 598 73 (v1 + 1)) 598 79 v3) 598 74 4) 598 79 = v3 := ((ju_i _ _ (by decide)).trans (ju_same _ _ _ _))
            exact jr.vreturn rfl rfl (q _ (RI.u (RI.u (RI.u (RI.u (RI.u (RI.u hI_M (a := 598) (i := 75) (show (0 : Int) ≤ _ ∧ _ ≤ (1600 : Int) from by omega)) (a := 598) (i := 74) (show (0 : Int) ≤ _ ∧ _ ≤ (4 : Int) from by omega)) (a := 598) (i := 76) (show (-1 : Int) ≤ _ ∧ _ ≤ (68 : Int) from by omega)) (a := 598) (i := 73) (show (0 : Int) ≤ _ ∧ _ ≤ (1600 : Int) from by omega)) (a := 598) (i := 79) (show (0 : Int) ≤ _ ∧ _ ≤ (255 : Int) from by omega)) (a := 598) (i := 74) (show (0 : Int) ≤ _ ∧ _ ≤ (4 : Int) from by omega)) (RH.o (RH.o (RH.o (RH.o (RH.o (RH.o hH_M (by decide) (by decide) (by decide)) (by decide) (by decide) (by decide)) (by decide) (by decide) (by decide)) (by decide) (by decide) (by decide)) (by decide) (by decide) (by decide)) (by decide) (by decide) (by decide)) (RF.o (RF.o (RF.o (RF.o (RF.o (RF.o hS_M (by decide) (by decide)) (by decide) (by decide)) (by decide) (by decide)) (by decide) (by decide)) (by decide) (by decide)) (by decide) (by decide))  (by omega) (by omega) (by unfold TK; omega) (fun q => by unfold TK; omega) (by omega) (fun a i f598 => ((ju_c _ _ f598).trans ((ju_c _ _ f598).trans ((ju_c _ _ f598).trans ((ju_c _ _ f598).trans ((ju_c _ _ f598).trans ((ju_c _ _ f598).trans rfl))))))) (fun i g73 g74 g75 g76 g77 g78 g79 => ((ju_i _ _ g74).trans ((ju_i _ _ g79).trans ((ju_i _ _ g73).trans ((ju_i _ _ g76).trans ((ju_i _ _ g74).trans ((ju_i _ _ g75).trans rfl))))))))
          · have sx399 : (1 : Int) ≤ r4 := by omega
            clear h399
            refine jr.iconst rfl ?_
            refine jr.goto rfl rfl ?_
            refine jr.putf (i := 74) (x := 3) rfl rfl (by decide) rfl (by decide) rfl rfl rfl rfl rfl ?_
            have y9 : (ju (ju (ju (ju (ju (ju M 598 75 v1) 598 74 0) 598 76 (-1)) 598 73 (v1 + 1)) 598 79 v3) 598 74 3) 598 72 = v2 := ((ju_i _ _ (by decide)).trans ((ju_i _ _ (by decide)).trans ((ju_i _ _ (by decide)).trans ((ju_i _ _ (by decide)).trans ((ju_i _ _ (by decide)).trans ((ju_i _ _ (by decide)).trans e2))))))
            have y10 : (ju (ju (ju (ju (ju (ju M 598 75 v1) 598 74 0) 598 76 (-1)) 598 73 (v1 + 1)) 598 79 v3) 598 74 3) 598 73 = v1 + 1 := ((ju_i _ _ (by decide)).trans ((ju_i _ _ (by decide)).trans (ju_same _ _ _ _)))
            have y11 : (ju (ju (ju (ju (ju (ju M 598 75 v1) 598 74 0) 598 76 (-1)) 598 73 (v1 + 1)) 598 79 v3) 598 74 3) 598 74 = 3 := (ju_same _ _ _ _)
            have y12 : (ju (ju (ju (ju (ju (ju M 598 75 v1) 598 74 0) 598 76 (-1)) 598 73 (v1 + 1)) 598 79 v3) 598 74 3) 598 79 = v3 := ((ju_i _ _ (by decide)).trans (ju_same _ _ _ _))
            exact jr.vreturn rfl rfl (q _ (RI.u (RI.u (RI.u (RI.u (RI.u (RI.u hI_M (a := 598) (i := 75) (show (0 : Int) ≤ _ ∧ _ ≤ (1600 : Int) from by omega)) (a := 598) (i := 74) (show (0 : Int) ≤ _ ∧ _ ≤ (4 : Int) from by omega)) (a := 598) (i := 76) (show (-1 : Int) ≤ _ ∧ _ ≤ (68 : Int) from by omega)) (a := 598) (i := 73) (show (0 : Int) ≤ _ ∧ _ ≤ (1600 : Int) from by omega)) (a := 598) (i := 79) (show (0 : Int) ≤ _ ∧ _ ≤ (255 : Int) from by omega)) (a := 598) (i := 74) (show (0 : Int) ≤ _ ∧ _ ≤ (4 : Int) from by omega)) (RH.o (RH.o (RH.o (RH.o (RH.o (RH.o hH_M (by decide) (by decide) (by decide)) (by decide) (by decide) (by decide)) (by decide) (by decide) (by decide)) (by decide) (by decide) (by decide)) (by decide) (by decide) (by decide)) (by decide) (by decide) (by decide)) (RF.o (RF.o (RF.o (RF.o (RF.o (RF.o hS_M (by decide) (by decide)) (by decide) (by decide)) (by decide) (by decide)) (by decide) (by decide)) (by decide) (by decide)) (by decide) (by decide))  (by omega) (by omega) (by unfold TK; omega) (fun q => by unfold TK; omega) (by omega) (fun a i f598 => ((ju_c _ _ f598).trans ((ju_c _ _ f598).trans ((ju_c _ _ f598).trans ((ju_c _ _ f598).trans ((ju_c _ _ f598).trans ((ju_c _ _ f598).trans rfl))))))) (fun i g73 g74 g75 g76 g77 g78 g79 => ((ju_i _ _ g74).trans ((ju_i _ _ g79).trans ((ju_i _ _ g73).trans ((ju_i _ _ g76).trans ((ju_i _ _ g74).trans ((ju_i _ _ g75).trans rfl))))))))
    · have y13 : (ju (ju (ju M 598 75 v1) 598 74 0) 598 76 (-1)) 598 72 = v2 := ((ju_i _ _ (by decide)).trans ((ju_i _ _ (by decide)).trans ((ju_i _ _ (by decide)).trans e2)))
      have y14 : (ju (ju (ju M 598 75 v1) 598 74 0) 598 76 (-1)) 598 73 = v1 := ((ju_i _ _ (by decide)).trans ((ju_i _ _ (by decide)).trans ((ju_i _ _ (by decide)).trans e1)))
      have y15 : (ju (ju (ju M 598 75 v1) 598 74 0) 598 76 (-1)) 598 74 = 0 := ((ju_i _ _ (by decide)).trans (ju_same _ _ _ _))
      obtain ⟨v16, e16⟩ : ∃ z, M 598 79 = z := ⟨_, rfl⟩
      have b16 : 0 ≤ v16 ∧ v16 ≤ 255 := by rw [← e16]; exact hI_M 598 79 (by decide)
      have y17 : (ju (ju (ju M 598 75 v1) 598 74 0) 598 76 (-1)) 598 79 = v16 := ((ju_i _ _ (by decide)).trans ((ju_i _ _ (by decide)).trans ((ju_i _ _ (by decide)).trans e16)))
      exact jr.vreturn rfl rfl (q _ (RI.u (RI.u (RI.u hI_M (a := 598) (i := 75) (show (0 : Int) ≤ _ ∧ _ ≤ (1600 : Int) from by omega)) (a := 598) (i := 74) (show (0 : Int) ≤ _ ∧ _ ≤ (4 : Int) from by omega)) (a := 598) (i := 76) (show (-1 : Int) ≤ _ ∧ _ ≤ (68 : Int) from by omega)) (RH.o (RH.o (RH.o hH_M (by decide) (by decide) (by decide)) (by decide) (by decide) (by decide)) (by decide) (by decide) (by decide)) (RF.o (RF.o (RF.o hS_M (by decide) (by decide)) (by decide) (by decide)) (by decide) (by decide))  (by omega) (by omega) (by unfold TK; omega) (fun q => by unfold TK; omega) (by omega) (fun a i f598 => ((ju_c _ _ f598).trans ((ju_c _ _ f598).trans ((ju_c _ _ f598).trans rfl)))) (fun i g73 g74 g75 g76 g77 g78 g79 => ((ju_i _ _ g76).trans ((ju_i _ _ g74).trans ((ju_i _ _ g75).trans rfl)))))
  · refine jr.aload_n rfl rfl ?_
    refine jr.getf (i := 71) (v := .ref 651) rfl rfl (by decide) rfl (by decide) rfl rfl rfl rfl ?_
    refine jr.aload_n rfl rfl ?_
    refine jr.getf (i := 73) (x := v1) (v := .int (Int32.ofInt (v1))) rfl rfl (by decide) rfl (by decide) rfl rfl e1 rfl ?_
    obtain ⟨v18, e18⟩ : ∃ z, M 651 v1 = z := ⟨_, rfl⟩
    have b18 : 0 ≤ v18 ∧ v18 ≤ 255 := by rw [← e18]; exact (by have q := hI_M 651 v1 (by decide); rw [xri_row rfl rfl] at q; exact q)
    refine jr.iald (i := v1) (x := v18) rfl (by decide) rfl (by decide) (by omega) (by omega) e18 ?_
    refine jr.bipush rfl (by decide) ?_
    refine jr.icmp_eq rfl rfl (by omega) (by omega) (fun h22 => ?_) (fun h22 => ?_)
    · refine jr.aload_n rfl rfl ?_
      refine jr.dup rfl rfl ?_
      refine jr.getf (i := 73) (x := v1) (v := .int (Int32.ofInt (v1))) rfl rfl (by decide) rfl (by decide) rfl rfl e1 rfl ?_
      refine jr.iconst rfl ?_
      refine jr.iadd rfl ?_
      refine jr.putf (i := 73) (x := (v1 + 1)) rfl rfl (by decide) rfl (by decide) rfl rfl rfl rfl rfl ?_
      refine jr.goto rfl rfl ?_
      refine jr.pick (ls := [_]) [0] rfl rfl ?_
      exact r_next_L0 q 1600 (ju M 598 73 (v1 + 1))  (RI.u hI_M (a := 598) (i := 73) (show (0 : Int) ≤ _ ∧ _ ≤ (1600 : Int) from by omega)) (RH.o hH_M (by decide) (by decide) (by decide)) (RF.o hS_M (by decide) (by decide))  (fun a i f598 => ((ju_c _ _ f598).trans rfl)) (fun i g73 g74 g75 g76 g77 g78 g79 => ((ju_i _ _ g73).trans rfl))  (by rw [(ju_same _ _ _ _), ((ju_i _ _ (by decide)).trans e2)] <;> omega) (by rw [(ju_same _ _ _ _)] <;> omega) (by omega) (by rw [(ju_same _ _ _ _)]; omega)
    · refine jr.aload_n rfl rfl ?_
      refine jr.getf (i := 71) (v := .ref 651) rfl rfl (by decide) rfl (by decide) rfl rfl rfl rfl ?_
      refine jr.aload_n rfl rfl ?_
      refine jr.getf (i := 73) (x := v1) (v := .int (Int32.ofInt (v1))) rfl rfl (by decide) rfl (by decide) rfl rfl e1 rfl ?_
      refine jr.iald (i := v1) (x := v18) rfl (by decide) rfl (by decide) (by omega) (by omega) e18 ?_
      refine jr.bipush rfl (by decide) ?_
      refine jr.icmp_ne rfl rfl (by omega) (by omega) (fun h36 => ?_) (fun h36 => ?_)
      · refine jr.aload_n rfl rfl ?_
        refine jr.aload_n rfl rfl ?_
        refine jr.getf (i := 73) (x := v1) (v := .int (Int32.ofInt (v1))) rfl rfl (by decide) rfl (by decide) rfl rfl e1 rfl ?_
        refine jr.putf (i := 75) (x := v1) rfl rfl (by decide) rfl (by decide) rfl rfl rfl rfl rfl ?_
        refine jr.aload_n rfl rfl ?_
        refine jr.iconst rfl ?_
        refine jr.putf (i := 74) (x := 0) rfl rfl (by decide) rfl (by decide) rfl rfl rfl rfl rfl ?_
        refine jr.aload_n rfl rfl ?_
        refine jr.iconst rfl ?_
        refine jr.putf (i := 76) (x := (-1)) rfl rfl (by decide) rfl (by decide) rfl rfl rfl rfl rfl ?_
        refine jr.aload_n rfl rfl ?_
        refine jr.getf (i := 73) (x := v1) (v := .int (Int32.ofInt (v1))) rfl rfl (by decide) rfl (by decide) rfl rfl ((ju_i _ _ (by decide)).trans ((ju_i _ _ (by decide)).trans ((ju_i _ _ (by decide)).trans e1))) rfl ?_
        refine jr.aload_n rfl rfl ?_
        refine jr.getf (i := 72) (x := v2) (v := .int (Int32.ofInt (v2))) rfl rfl (by decide) rfl (by decide) rfl rfl ((ju_i _ _ (by decide)).trans ((ju_i _ _ (by decide)).trans ((ju_i _ _ (by decide)).trans e2))) rfl ?_
        refine jr.icmp_ne rfl rfl (by omega) (by omega) (fun h78 => ?_) (fun h78 => ?_)
        · refine jr.aload_n rfl rfl ?_
          refine jr.getf (i := 71) (v := .ref 651) rfl rfl (by decide) rfl (by decide) rfl rfl rfl rfl ?_
          refine jr.aload_n rfl rfl ?_
          refine jr.getf (i := 73) (x := v1) (v := .int (Int32.ofInt (v1))) rfl rfl (by decide) rfl (by decide) rfl rfl ((ju_i _ _ (by decide)).trans ((ju_i _ _ (by decide)).trans ((ju_i _ _ (by decide)).trans e1))) rfl ?_
          refine jr.iald (i := v1) (x := v18) rfl (by decide) rfl (by decide) (by omega) (by omega) ((ju_c _ _ (by decide)).trans ((ju_c _ _ (by decide)).trans ((ju_c _ _ (by decide)).trans e18))) ?_
          refine jr.istore_n (ls' := [_, _]) rfl (by decide) rfl ?_
          refine jr.iload_n rfl rfl ?_
          refine jr_s rfl rfl (Or.inl rfl) ⟨Nat.le_of_ble_eq_true rfl, Nat.le_of_ble_eq_true rfl⟩ rfl rfl (jc.deep (c_isLetter  (by omega) (fun t93_0 t93_1 => ?_) (fun f93_0 => ?_)) (by decide))
          · refine jr.if_eq rfl rfl (by omega) (fun h => absurd h (by decide)) (fun _ => ?_)
            refine jr.aload_n rfl rfl ?_
            refine jr.lconst (x := 0) rfl (by decide) ?_
            refine jr.putf (i := 77) (x := 0) rfl rfl (by decide) rfl (by decide) rfl rfl rfl rfl rfl ?_
            refine jr.pick (ls := [_]) [1] rfl rfl ?_
            exact r_next_L104 q 1600 (ju (ju (ju (ju M 598 75 v1) 598 74 0) 598 76 (-1)) 598 77 0)  (RI.u (RI.u (RI.u (RI.u hI_M (a := 598) (i := 75) (show (0 : Int) ≤ _ ∧ _ ≤ (1600 : Int) from by omega)) (a := 598) (i := 74) (show (0 : Int) ≤ _ ∧ _ ≤ (4 : Int) from by omega)) (a := 598) (i := 76) (show (-1 : Int) ≤ _ ∧ _ ≤ (68 : Int) from by omega)) (a := 598) (i := 77) (show (-9223372036854775808 : Int) ≤ _ ∧ _ ≤ (9223372036854775807 : Int) from by omega)) (RH.o (RH.o (RH.o (RH.o hH_M (by decide) (by decide) (by decide)) (by decide) (by decide) (by decide)) (by decide) (by decide) (by decide)) (by decide) (by decide) (by decide)) (RF.o (RF.o (RF.o (RF.o hS_M (by decide) (by decide)) (by decide) (by decide)) (by decide) (by decide)) (by decide) (by decide))  (fun a i f598 => ((ju_c _ _ f598).trans ((ju_c _ _ f598).trans ((ju_c _ _ f598).trans ((ju_c _ _ f598).trans rfl))))) (fun i g73 g74 g75 g76 g77 g78 g79 => ((ju_i _ _ g77).trans ((ju_i _ _ g76).trans ((ju_i _ _ g74).trans ((ju_i _ _ g75).trans rfl)))))  (by rw [((ju_i _ _ (by decide)).trans ((ju_i _ _ (by decide)).trans ((ju_i _ _ (by decide)).trans ((ju_i _ _ (by decide)).trans e1)))), ((ju_i _ _ (by decide)).trans ((ju_i _ _ (by decide)).trans ((ju_i _ _ (by decide)).trans ((ju_i _ _ (by decide)).trans e2))))] <;> omega) (by rw [((ju_i _ _ (by decide)).trans ((ju_i _ _ (by decide)).trans ((ju_i _ _ (by decide)).trans (ju_same _ _ _ _)))), ((ju_i _ _ (by decide)).trans ((ju_i _ _ (by decide)).trans ((ju_i _ _ (by decide)).trans ((ju_i _ _ (by decide)).trans e1))))] <;> omega) (by omega) (by rw [((ju_i _ _ (by decide)).trans ((ju_i _ _ (by decide)).trans ((ju_i _ _ (by decide)).trans ((ju_i _ _ (by decide)).trans e1)))), ((ju_i _ _ (by decide)).trans ((ju_i _ _ (by decide)).trans ((ju_i _ _ (by decide)).trans (ju_same _ _ _ _)))), ((ju_i _ _ (by decide)).trans ((ju_i _ _ (by decide)).trans ((ju_i _ _ (by decide)).trans ((ju_i _ _ (by decide)).trans e2)))), ((ju_c _ _ (by decide)).trans ((ju_c _ _ (by decide)).trans ((ju_c _ _ (by decide)).trans ((ju_c _ _ (by decide)).trans e18))))]; omega) (by rw [((ju_i _ _ (by decide)).trans ((ju_i _ _ (by decide)).trans ((ju_i _ _ (by decide)).trans ((ju_i _ _ (by decide)).trans e1))))]; omega)
          · refine jr.if_eq rfl rfl (by omega) (fun _ => ?_) (fun h => absurd (by decide) h)
            refine jr.iload_n rfl rfl ?_
            refine jr_s rfl rfl (Or.inl rfl) ⟨Nat.le_of_ble_eq_true rfl, Nat.le_of_ble_eq_true rfl⟩ rfl rfl (jc.deep (c_isDigit  (by omega) (fun t255_0 t255_1 => ?_) (fun f255_0 => ?_)) (by decide))
            · refine jr.if_eq rfl rfl (by omega) (fun h => absurd h (by decide)) (fun _ => ?_)
              refine jr.aload_n rfl rfl ?_
              refine jr.lconst (x := 0) rfl (by decide) ?_
              refine jr.putf (i := 78) (x := 0) rfl rfl (by decide) rfl (by decide) rfl rfl rfl rfl rfl ?_
              refine jr.pick (ls := [_]) [1] rfl rfl ?_
              exact r_next_L266 q 1600 (ju (ju (ju (ju M 598 75 v1) 598 74 0) 598 76 (-1)) 598 78 0)  (RI.u (RI.u (RI.u (RI.u hI_M (a := 598) (i := 75) (show (0 : Int) ≤ _ ∧ _ ≤ (1600 : Int) from by omega)) (a := 598) (i := 74) (show (0 : Int) ≤ _ ∧ _ ≤ (4 : Int) from by omega)) (a := 598) (i := 76) (show (-1 : Int) ≤ _ ∧ _ ≤ (68 : Int) from by omega)) (a := 598) (i := 78) (show (-9223372036854775808 : Int) ≤ _ ∧ _ ≤ (9223372036854775807 : Int) from by omega)) (RH.o (RH.o (RH.o (RH.o hH_M (by decide) (by decide) (by decide)) (by decide) (by decide) (by decide)) (by decide) (by decide) (by decide)) (by decide) (by decide) (by decide)) (RF.o (RF.o (RF.o (RF.o hS_M (by decide) (by decide)) (by decide) (by decide)) (by decide) (by decide)) (by decide) (by decide))  (fun a i f598 => ((ju_c _ _ f598).trans ((ju_c _ _ f598).trans ((ju_c _ _ f598).trans ((ju_c _ _ f598).trans rfl))))) (fun i g73 g74 g75 g76 g77 g78 g79 => ((ju_i _ _ g78).trans ((ju_i _ _ g76).trans ((ju_i _ _ g74).trans ((ju_i _ _ g75).trans rfl)))))  (by rw [((ju_i _ _ (by decide)).trans ((ju_i _ _ (by decide)).trans ((ju_i _ _ (by decide)).trans ((ju_i _ _ (by decide)).trans e1)))), ((ju_i _ _ (by decide)).trans ((ju_i _ _ (by decide)).trans ((ju_i _ _ (by decide)).trans ((ju_i _ _ (by decide)).trans e2))))] <;> omega) (by rw [((ju_i _ _ (by decide)).trans ((ju_i _ _ (by decide)).trans ((ju_i _ _ (by decide)).trans (ju_same _ _ _ _)))), ((ju_i _ _ (by decide)).trans ((ju_i _ _ (by decide)).trans ((ju_i _ _ (by decide)).trans ((ju_i _ _ (by decide)).trans e1))))] <;> omega) (by omega) (by rw [((ju_i _ _ (by decide)).trans ((ju_i _ _ (by decide)).trans ((ju_i _ _ (by decide)).trans ((ju_i _ _ (by decide)).trans e1)))), ((ju_i _ _ (by decide)).trans ((ju_i _ _ (by decide)).trans ((ju_i _ _ (by decide)).trans (ju_same _ _ _ _)))), ((ju_i _ _ (by decide)).trans ((ju_i _ _ (by decide)).trans ((ju_i _ _ (by decide)).trans ((ju_i _ _ (by decide)).trans e2)))), ((ju_c _ _ (by decide)).trans ((ju_c _ _ (by decide)).trans ((ju_c _ _ (by decide)).trans ((ju_c _ _ (by decide)).trans e18))))]; omega) (by rw [((ju_i _ _ (by decide)).trans ((ju_i _ _ (by decide)).trans ((ju_i _ _ (by decide)).trans ((ju_i _ _ (by decide)).trans e1))))]; omega)
            · refine jr.if_eq rfl rfl (by omega) (fun _ => ?_) (fun h => absurd (by decide) h)
              refine jr.aload_n rfl rfl ?_
              refine jr.dup rfl rfl ?_
              refine jr.getf (i := 73) (x := v1) (v := .int (Int32.ofInt (v1))) rfl rfl (by decide) rfl (by decide) rfl rfl ((ju_i _ _ (by decide)).trans ((ju_i _ _ (by decide)).trans ((ju_i _ _ (by decide)).trans e1))) rfl ?_
              refine jr.iconst rfl ?_
              refine jr.iadd rfl ?_
              refine jr.putf (i := 73) (x := (v1 + 1)) rfl rfl (by decide) rfl (by decide) rfl rfl rfl rfl rfl ?_
              refine jr.aload_n rfl rfl ?_
              refine jr.iload_n rfl rfl ?_
              refine jr.putf (i := 79) (x := v18) rfl rfl (by decide) rfl (by decide) rfl rfl rfl rfl rfl ?_
              refine jr.aload_n rfl rfl ?_
              refine jr.iload_n rfl rfl ?_
              refine jr_s rfl rfl (Or.inl rfl) ⟨Nat.le_of_ble_eq_true rfl, Nat.le_of_ble_eq_true rfl⟩ rfl rfl (jc.deep (r_isSignByte (RI.u (RI.u (RI.u (RI.u (RI.u hI_M (a := 598) (i := 75) (show (0 : Int) ≤ _ ∧ _ ≤ (1600 : Int) from by omega)) (a := 598) (i := 74) (show (0 : Int) ≤ _ ∧ _ ≤ (4 : Int) from by omega)) (a := 598) (i := 76) (show (-1 : Int) ≤ _ ∧ _ ≤ (68 : Int) from by omega)) (a := 598) (i := 73) (show (0 : Int) ≤ _ ∧ _ ≤ (1600 : Int) from by omega)) (a := 598) (i := 79) (show (0 : Int) ≤ _ ∧ _ ≤ (255 : Int) from by omega)) (RH.o (RH.o (RH.o (RH.o (RH.o hH_M (by decide) (by decide) (by decide)) (by decide) (by decide) (by decide)) (by decide) (by decide) (by decide)) (by decide) (by decide) (by decide)) (by decide) (by decide) (by decide)) (RF.o (RF.o (RF.o (RF.o (RF.o hS_M (by decide) (by decide)) (by decide) (by decide)) (by decide) (by decide)) (by decide) (by decide)) (by decide) (by decide)) (Kp.rfl _) (by omega)  (fun r19 z19 w19_0 => ?_)) (by decide))
              refine jr.if_eq rfl rfl (by omega) (fun h399 => ?_) (fun h399 => ?_)
              · refine jr.iconst rfl ?_
                refine jr.putf (i := 74) (x := 4) rfl rfl (by decide) rfl (by decide) rfl rfl rfl rfl rfl ?_
                have y20 : (ju (ju (ju (ju (ju (ju M 598 75 v1) 598 74 0) 598 76 (-1)) 598 73 (v1 + 1)) 598 79 v18) 598 74 4) 598 72 = v2 := ((ju_i _ _ (by decide)).trans ((ju_i _ _ (by decide)).trans ((ju_i _ _ (by decide)).trans ((ju_i _ _ (by decide)).trans ((ju_i _ _ (by decide)).trans ((ju_i _ _ (by decide)).trans e2))))))
                have y21 : (ju (ju (ju (ju (ju (ju M 598 75 v1) 598 74 0) 598 76 (-1)) 598 73 (v1 + 1)) 598 79 v18) 598 74 4) 598 73 = v1 + 1 := ((ju_i _ _ (by decide)).trans ((ju_i _ _ (by decide)).trans (ju_same _ _ _ _)))
                have y22 : (ju (ju (ju (ju (ju (ju M 598 75 v1) 598 74 0) 598 76 (-1)) 598 73 (v1 + 1)) 598 79 v18) 598 74 4) 598 74 = 4 := (ju_same _ _ _ _)
                have y23 : (ju (ju (ju (ju (ju (ju M 598 75 v1) 598 74 0) 598 76 (-1)) 598 73 (v1 + 1)) 598 79 v18) 598 74 4) 598 79 = v18 := ((ju_i _ _ (by decide)).trans (ju_same _ _ _ _))
                exact jr.vreturn rfl rfl (q _ (RI.u (RI.u (RI.u (RI.u (RI.u (RI.u hI_M (a := 598) (i := 75) (show (0 : Int) ≤ _ ∧ _ ≤ (1600 : Int) from by omega)) (a := 598) (i := 74) (show (0 : Int) ≤ _ ∧ _ ≤ (4 : Int) from by omega)) (a := 598) (i := 76) (show (-1 : Int) ≤ _ ∧ _ ≤ (68 : Int) from by omega)) (a := 598) (i := 73) (show (0 : Int) ≤ _ ∧ _ ≤ (1600 : Int) from by omega)) (a := 598) (i := 79) (show (0 : Int) ≤ _ ∧ _ ≤ (255 : Int) from by omega)) (a := 598) (i := 74) (show (0 : Int) ≤ _ ∧ _ ≤ (4 : Int) from by omega)) (RH.o (RH.o (RH.o (RH.o (RH.o (RH.o hH_M (by decide) (by decide) (by decide)) (by decide) (by decide) (by decide)) (by decide) (by decide) (by decide)) (by decide) (by decide) (by decide)) (by decide) (by decide) (by decide)) (by decide) (by decide) (by decide)) (RF.o (RF.o (RF.o (RF.o (RF.o (RF.o hS_M (by decide) (by decide)) (by decide) (by decide)) (by decide) (by decide)) (by decide) (by decide)) (by decide) (by decide)) (by decide) (by decide))  (by omega) (by omega) (by unfold TK; omega) (fun q => by unfold TK; omega) (by omega) (fun a i f598 => ((ju_c _ _ f598).trans ((ju_c _ _ f598).trans ((ju_c _ _ f598).trans ((ju_c _ _ f598).trans ((ju_c _ _ f598).trans ((ju_c _ _ f598).trans rfl))))))) (fun i g73 g74 g75 g76 g77 g78 g79 => ((ju_i _ _ g74).trans ((ju_i _ _ g79).trans ((ju_i _ _ g73).trans ((ju_i _ _ g76).trans ((ju_i _ _ g74).trans ((ju_i _ _ g75).trans rfl))))))))
              · have sx399 : (1 : Int) ≤ r19 := by omega
                clear h399
                refine jr.iconst rfl ?_
                refine jr.goto rfl rfl ?_
                refine jr.putf (i := 74) (x := 3) rfl rfl (by decide) rfl (by decide) rfl rfl rfl rfl rfl ?_
                have y24 : (ju (ju (ju (ju (ju (ju M 598 75 v1) 598 74 0) 598 76 (-1)) 598 73 (v1 + 1)) 598 79 v18) 598 74 3) 598 72 = v2 := ((ju_i _ _ (by decide)).trans ((ju_i _ _ (by decide)).trans ((ju_i _ _ (by decide)).trans ((ju_i _ _ (by decide)).trans ((ju_i _ _ (by decide)).trans ((ju_i _ _ (by decide)).trans e2))))))
                have y25 : (ju (ju (ju (ju (ju (ju M 598 75 v1) 598 74 0) 598 76 (-1)) 598 73 (v1 + 1)) 598 79 v18) 598 74 3) 598 73 = v1 + 1 := ((ju_i _ _ (by decide)).trans ((ju_i _ _ (by decide)).trans (ju_same _ _ _ _)))
                have y26 : (ju (ju (ju (ju (ju (ju M 598 75 v1) 598 74 0) 598 76 (-1)) 598 73 (v1 + 1)) 598 79 v18) 598 74 3) 598 74 = 3 := (ju_same _ _ _ _)
                have y27 : (ju (ju (ju (ju (ju (ju M 598 75 v1) 598 74 0) 598 76 (-1)) 598 73 (v1 + 1)) 598 79 v18) 598 74 3) 598 79 = v18 := ((ju_i _ _ (by decide)).trans (ju_same _ _ _ _))
                exact jr.vreturn rfl rfl (q _ (RI.u (RI.u (RI.u (RI.u (RI.u (RI.u hI_M (a := 598) (i := 75) (show (0 : Int) ≤ _ ∧ _ ≤ (1600 : Int) from by omega)) (a := 598) (i := 74) (show (0 : Int) ≤ _ ∧ _ ≤ (4 : Int) from by omega)) (a := 598) (i := 76) (show (-1 : Int) ≤ _ ∧ _ ≤ (68 : Int) from by omega)) (a := 598) (i := 73) (show (0 : Int) ≤ _ ∧ _ ≤ (1600 : Int) from by omega)) (a := 598) (i := 79) (show (0 : Int) ≤ _ ∧ _ ≤ (255 : Int) from by omega)) (a := 598) (i := 74) (show (0 : Int) ≤ _ ∧ _ ≤ (4 : Int) from by omega)) (RH.o (RH.o (RH.o (RH.o (RH.o (RH.o hH_M (by decide) (by decide) (by decide)) (by decide) (by decide) (by decide)) (by decide) (by decide) (by decide)) (by decide) (by decide) (by decide)) (by decide) (by decide) (by decide)) (by decide) (by decide) (by decide)) (RF.o (RF.o (RF.o (RF.o (RF.o (RF.o hS_M (by decide) (by decide)) (by decide) (by decide)) (by decide) (by decide)) (by decide) (by decide)) (by decide) (by decide)) (by decide) (by decide))  (by omega) (by omega) (by unfold TK; omega) (fun q => by unfold TK; omega) (by omega) (fun a i f598 => ((ju_c _ _ f598).trans ((ju_c _ _ f598).trans ((ju_c _ _ f598).trans ((ju_c _ _ f598).trans ((ju_c _ _ f598).trans ((ju_c _ _ f598).trans rfl))))))) (fun i g73 g74 g75 g76 g77 g78 g79 => ((ju_i _ _ g74).trans ((ju_i _ _ g79).trans ((ju_i _ _ g73).trans ((ju_i _ _ g76).trans ((ju_i _ _ g74).trans ((ju_i _ _ g75).trans rfl))))))))
        · have y28 : (ju (ju (ju M 598 75 v1) 598 74 0) 598 76 (-1)) 598 72 = v2 := ((ju_i _ _ (by decide)).trans ((ju_i _ _ (by decide)).trans ((ju_i _ _ (by decide)).trans e2)))
          have y29 : (ju (ju (ju M 598 75 v1) 598 74 0) 598 76 (-1)) 598 73 = v1 := ((ju_i _ _ (by decide)).trans ((ju_i _ _ (by decide)).trans ((ju_i _ _ (by decide)).trans e1)))
          have y30 : (ju (ju (ju M 598 75 v1) 598 74 0) 598 76 (-1)) 598 74 = 0 := ((ju_i _ _ (by decide)).trans (ju_same _ _ _ _))
          obtain ⟨v31, e31⟩ : ∃ z, M 598 79 = z := ⟨_, rfl⟩
          have b31 : 0 ≤ v31 ∧ v31 ≤ 255 := by rw [← e31]; exact hI_M 598 79 (by decide)
          have y32 : (ju (ju (ju M 598 75 v1) 598 74 0) 598 76 (-1)) 598 79 = v31 := ((ju_i _ _ (by decide)).trans ((ju_i _ _ (by decide)).trans ((ju_i _ _ (by decide)).trans e31)))
          exact jr.vreturn rfl rfl (q _ (RI.u (RI.u (RI.u hI_M (a := 598) (i := 75) (show (0 : Int) ≤ _ ∧ _ ≤ (1600 : Int) from by omega)) (a := 598) (i := 74) (show (0 : Int) ≤ _ ∧ _ ≤ (4 : Int) from by omega)) (a := 598) (i := 76) (show (-1 : Int) ≤ _ ∧ _ ≤ (68 : Int) from by omega)) (RH.o (RH.o (RH.o hH_M (by decide) (by decide) (by decide)) (by decide) (by decide) (by decide)) (by decide) (by decide) (by decide)) (RF.o (RF.o (RF.o hS_M (by decide) (by decide)) (by decide) (by decide)) (by decide) (by decide))  (by omega) (by omega) (by unfold TK; omega) (fun q => by unfold TK; omega) (by omega) (fun a i f598 => ((ju_c _ _ f598).trans ((ju_c _ _ f598).trans ((ju_c _ _ f598).trans rfl)))) (fun i g73 g74 g75 g76 g77 g78 g79 => ((ju_i _ _ g76).trans ((ju_i _ _ g74).trans ((ju_i _ _ g75).trans rfl)))))
      · refine jr.aload_n rfl rfl ?_
        refine jr.dup rfl rfl ?_
        refine jr.getf (i := 73) (x := v1) (v := .int (Int32.ofInt (v1))) rfl rfl (by decide) rfl (by decide) rfl rfl e1 rfl ?_
        refine jr.iconst rfl ?_
        refine jr.iadd rfl ?_
        refine jr.putf (i := 73) (x := (v1 + 1)) rfl rfl (by decide) rfl (by decide) rfl rfl rfl rfl rfl ?_
        refine jr.goto rfl rfl ?_
        refine jr.pick (ls := [_]) [0] rfl rfl ?_
        exact r_next_L0 q 1600 (ju M 598 73 (v1 + 1))  (RI.u hI_M (a := 598) (i := 73) (show (0 : Int) ≤ _ ∧ _ ≤ (1600 : Int) from by omega)) (RH.o hH_M (by decide) (by decide) (by decide)) (RF.o hS_M (by decide) (by decide))  (fun a i f598 => ((ju_c _ _ f598).trans rfl)) (fun i g73 g74 g75 g76 g77 g78 g79 => ((ju_i _ _ g73).trans rfl))  (by rw [(ju_same _ _ _ _), ((ju_i _ _ (by decide)).trans e2)] <;> omega) (by rw [(ju_same _ _ _ _)] <;> omega) (by omega) (by rw [(ju_same _ _ _ _)]; omega)
