theorem r_copy_L123 {A : Nat → Option (Nat × (Nat → Int32))} {Q : Option Value → jm → Prop} {M0 : jm} (q : ∀ (M' : jm), RI M' → RH M' → RF M' → (∀ (a : Nat) (i : Int), a ≠ 598 → a ≠ 676 → a ≠ 677 → a ≠ 678 → M' a i = M0 a i) → (∀ (i : Int), i ≠ 135 → M' 598 i = M0 598 i) → Q none M') : ∀ (M : jm) (h : Int) (b : Int) (a : Int) (n : Int) (j : Int) (i : Int), RI M → RH M → RF M → (∀ (a : Nat) (i : Int), a ≠ 598 → a ≠ 676 → a ≠ 677 → a ≠ 678 → M a i = M0 a i) → (∀ (i : Int), i ≠ 135 → M 598 i = M0 598 i) → 0 ≤ h ∧ h ≤ 1 → 0 ≤ b ∧ b ≤ 7 → 0 ≤ a ∧ a ≤ 7 → (-9223372036854775808) ≤ n ∧ n ≤ 9223372036854775807 → (-9223372036854775808) ≤ j ∧ j ≤ 9223372036854775807 → (-9223372036854775808) ≤ i ∧ i ≤ 9223372036854775807 → jr A 1 xm_399 123 [(13, .int (Int32.ofInt (h))), (12, .int (Int32.ofInt (b))), (11, .int (Int32.ofInt (a))), (9, .long (Int64.ofInt (n))), (7, .long (Int64.ofInt (j))), (3, .long (Int64.ofInt (i))), (0, .ref (598))] [] M Q := by
    intro M h b a n j i hI_M hH_M hS_M hF_M hG_M h_h h_b h_a h_n h_j h_i
    refine jr.lload rfl rfl ?_
    refine jr.lconst (x := 0) rfl (by decide) ?_
    refine jr.ldc2 (x := 40) rfl rfl (by decide) ?_
    refine jr_s rfl rfl (Or.inl rfl) ⟨Nat.le_of_ble_eq_true rfl, Nat.le_of_ble_eq_true rfl⟩ rfl rfl (jc.deep (c_within (by omega) (by omega) (by omega) (fun l129 u129 => ?_) (fun n129 => ?_)) (by decide))
    · refine jr.if_eq rfl rfl (by omega) (fun h => absurd h (by decide)) (fun _ => ?_)
      refine jr.lload_n rfl rfl ?_
      refine jr.lconst (x := 0) rfl (by decide) ?_
      refine jr.aload_n rfl rfl ?_
      refine jr.getf (i := 118) (v := .ref 675) rfl rfl (by decide) rfl (by decide) rfl rfl rfl rfl ?_
      refine jr.iload rfl rfl ?_
      obtain ⟨v1, e1⟩ : ∃ z, M 675 a = z := ⟨_, rfl⟩
      have b1 : 0 ≤ v1 ∧ v1 ≤ 40 := by rw [← e1]; exact (by have q := hI_M 675 a (by decide); rw [xri_row rfl rfl] at q; exact q)
      refine jr.iald (i := a) (x := v1) rfl (by decide) rfl (by decide) (by omega) (by omega) e1 ?_
      refine jr.i2l rfl (by omega) ?_
      refine jr.lload rfl rfl ?_
      refine jr.lsub rfl ?_
      refine jr_s rfl rfl (Or.inl rfl) ⟨Nat.le_of_ble_eq_true rfl, Nat.le_of_ble_eq_true rfl⟩ rfl rfl (jc.deep (c_within (by omega) (by omega) (by omega) (fun l148 u148 => ?_) (fun n148 => ?_)) (by decide))
      · refine jr.if_eq rfl rfl (by omega) (fun h => absurd h (by decide)) (fun _ => ?_)
        refine jr.lload rfl rfl ?_
        refine jr.lconst (x := 0) rfl (by decide) ?_
        refine jr.aload_n rfl rfl ?_
        refine jr.getf (i := 118) (v := .ref 675) rfl rfl (by decide) rfl (by decide) rfl rfl rfl rfl ?_
        refine jr.iload rfl rfl ?_
        obtain ⟨v2, e2⟩ : ∃ z, M 675 b = z := ⟨_, rfl⟩
        have b2 : 0 ≤ v2 ∧ v2 ≤ 40 := by rw [← e2]; exact (by have q := hI_M 675 b (by decide); rw [xri_row rfl rfl] at q; exact q)
        refine jr.iald (i := b) (x := v2) rfl (by decide) rfl (by decide) (by omega) (by omega) e2 ?_
        refine jr.i2l rfl (by omega) ?_
        refine jr.lload rfl rfl ?_
        refine jr.lsub rfl ?_
        refine jr_s rfl rfl (Or.inl rfl) ⟨Nat.le_of_ble_eq_true rfl, Nat.le_of_ble_eq_true rfl⟩ rfl rfl (jc.deep (c_within (by omega) (by omega) (by omega) (fun l168 u168 => ?_) (fun n168 => ?_)) (by decide))
        · refine jr.if_ne rfl rfl (by omega) (fun _ => ?_) (fun h => absurd (by decide) h)
          refine jr.pick [0, 1, 2, 3, 4, 5, 6] rfl rfl ?_
          exact r_copy_L180 q M h b a n j i hI_M hH_M hS_M  (fun a i f598 f676 f677 f678 => (hF_M a i f598 f676 f677 f678)) (fun i g135 => (hG_M i g135)) (by omega) (by omega) (by omega) (by omega) (by omega) (by omega) (by omega) (by omega)
        · refine jr.if_ne rfl rfl (by omega) (fun h => absurd h (by decide)) (fun _ => ?_)
          refine jr.aload_n rfl rfl ?_
          refine jr.iconst rfl ?_
          refine jr.putf (i := 135) (x := 2) rfl rfl (by decide) rfl (by decide) rfl rfl rfl rfl rfl ?_
          exact jr.vreturn rfl rfl (q _ (RI.u hI_M (a := 598) (i := 135) (show (0 : Int) ≤ _ ∧ _ ≤ (8 : Int) from by omega)) (RH.o hH_M (by decide) (by decide) (by decide)) (RF.o hS_M (by decide) (by decide))  (fun a i f598 f676 f677 f678 => ((ju_c _ _ f598).trans (hF_M a i f598 f676 f677 f678))) (fun i g135 => ((ju_i _ _ g135).trans (hG_M i g135))))
      · refine jr.if_eq rfl rfl (by omega) (fun _ => ?_) (fun h => absurd (by decide) h)
        refine jr.aload_n rfl rfl ?_
        refine jr.iconst rfl ?_
        refine jr.putf (i := 135) (x := 2) rfl rfl (by decide) rfl (by decide) rfl rfl rfl rfl rfl ?_
        exact jr.vreturn rfl rfl (q _ (RI.u hI_M (a := 598) (i := 135) (show (0 : Int) ≤ _ ∧ _ ≤ (8 : Int) from by omega)) (RH.o hH_M (by decide) (by decide) (by decide)) (RF.o hS_M (by decide) (by decide))  (fun a i f598 f676 f677 f678 => ((ju_c _ _ f598).trans (hF_M a i f598 f676 f677 f678))) (fun i g135 => ((ju_i _ _ g135).trans (hG_M i g135))))
    · refine jr.if_eq rfl rfl (by omega) (fun _ => ?_) (fun h => absurd (by decide) h)
      refine jr.aload_n rfl rfl ?_
      refine jr.iconst rfl ?_
      refine jr.putf (i := 135) (x := 2) rfl rfl (by decide) rfl (by decide) rfl rfl rfl rfl rfl ?_
      exact jr.vreturn rfl rfl (q _ (RI.u hI_M (a := 598) (i := 135) (show (0 : Int) ≤ _ ∧ _ ≤ (8 : Int) from by omega)) (RH.o hH_M (by decide) (by decide) (by decide)) (RF.o hS_M (by decide) (by decide))  (fun a i f598 f676 f677 f678 => ((ju_c _ _ f598).trans (hF_M a i f598 f676 f677 f678))) (fun i g135 => ((ju_i _ _ g135).trans (hG_M i g135))))
