theorem r_copy {A : Nat → Option (Nat × (Nat → Int32))} {Q : Option Value → jm → Prop} {M : jm} (hI_M : RI M) (hH_M : RH M) (hS_M : RF M) {x : Int} (h_x : (-9223372036854775808) ≤ x ∧ x ≤ 9223372036854775807) {i : Int} (h_i : (-9223372036854775808) ≤ i ∧ i ≤ 9223372036854775807) {y : Int} (h_y : (-9223372036854775808) ≤ y ∧ y ≤ 9223372036854775807) {j : Int} (h_j : (-9223372036854775808) ≤ j ∧ j ≤ 9223372036854775807) {n : Int} (h_n : (-9223372036854775808) ≤ n ∧ n ≤ 9223372036854775807) (q : ∀ (M' : jm), RI M' → RH M' → RF M' → (∀ (a : Nat) (i : Int), a ≠ 598 → a ≠ 676 → a ≠ 677 → a ≠ 678 → M' a i = M a i) → (∀ (i : Int), i ≠ 135 → M' 598 i = M 598 i) → Q none M') : jc A 2 399 [.ref (598), .long (Int64.ofInt (x)), .long (Int64.ofInt (i)), .long (Int64.ofInt (y)), .long (Int64.ofInt (j)), .long (Int64.ofInt (n))] M Q := by
  refine jc_of (m := xm_399) rfl (Nat.le_of_ble_eq_true rfl) rfl ?_
  refine jr.lload_n rfl rfl ?_
  refine jr.lconst (x := 0) rfl (by decide) ?_
  refine jr.ldc2 (x := 7) rfl rfl (by decide) ?_
  refine jr_s rfl rfl (Or.inl rfl) ⟨Nat.le_of_ble_eq_true rfl, Nat.le_of_ble_eq_true rfl⟩ rfl rfl (jc.deep (c_within (by omega) (by omega) (by omega) (fun l5 u5 => ?_) (fun n5 => ?_)) (by decide))
  · refine jr.if_eq rfl rfl (by omega) (fun h => absurd h (by decide)) (fun _ => ?_)
    refine jr.lload rfl rfl ?_
    refine jr.lconst (x := 0) rfl (by decide) ?_
    refine jr.ldc2 (x := 7) rfl rfl (by decide) ?_
    refine jr_s rfl rfl (Or.inl rfl) ⟨Nat.le_of_ble_eq_true rfl, Nat.le_of_ble_eq_true rfl⟩ rfl rfl (jc.deep (c_within (by omega) (by omega) (by omega) (fun l17 u17 => ?_) (fun n17 => ?_)) (by decide))
    · refine jr.if_ne rfl rfl (by omega) (fun _ => ?_) (fun h => absurd (by decide) h)
      refine jr.lload_n rfl rfl ?_
      refine jr.l2i rfl ?_
      refine jr.istore rfl (by decide) rfl ?_
      refine jr.lload rfl rfl ?_
      refine jr.l2i rfl ?_
      refine jr.istore rfl (by decide) rfl ?_
      refine jr.aload_n rfl rfl ?_
      refine jr.getf (i := 117) (v := .ref 674) rfl rfl (by decide) rfl (by decide) rfl rfl rfl rfl ?_
      refine jr.iload rfl rfl ?_
      obtain ⟨v1, e1⟩ : ∃ z, M 674 x = z := ⟨_, rfl⟩
      have b1 : (-1) ≤ v1 ∧ v1 ≤ 6 := by rw [← e1]; exact (by have q := hI_M 674 x (by decide); rw [xri_row rfl rfl] at q; exact q)
      refine jr.iald (i := x) (x := v1) rfl (by decide) rfl (by decide) (by omega) (by omega) e1 ?_
      refine jr.iconst rfl ?_
      refine jr.icmp_eq rfl rfl (by omega) (by omega) (fun h46 => ?_) (fun h46 => ?_)
      · refine jr.aload_n rfl rfl ?_
        refine jr.iconst rfl ?_
        refine jr.putf (i := 135) (x := 1) rfl rfl (by decide) rfl (by decide) rfl rfl rfl rfl rfl ?_
        exact jr.vreturn rfl rfl (q _ (RI.u hI_M (a := 598) (i := 135) (show (0 : Int) ≤ _ ∧ _ ≤ (8 : Int) from by omega)) (RH.o hH_M (by decide) (by decide) (by decide)) (RF.o hS_M (by decide) (by decide))  (fun a i f598 f676 f677 f678 => ((ju_c _ _ f598).trans rfl)) (fun i g135 => ((ju_i _ _ g135).trans rfl)))
      · have sx46 : (0 : Int) ≤ v1 := by omega
        refine jr.aload_n rfl rfl ?_
        refine jr.getf (i := 117) (v := .ref 674) rfl rfl (by decide) rfl (by decide) rfl rfl rfl rfl ?_
        refine jr.iload rfl rfl ?_
        obtain ⟨v2, e2⟩ : ∃ z, M 674 y = z := ⟨_, rfl⟩
        have b2 : (-1) ≤ v2 ∧ v2 ≤ 6 := by rw [← e2]; exact (by have q := hI_M 674 y (by decide); rw [xri_row rfl rfl] at q; exact q)
        refine jr.iald (i := y) (x := v2) rfl (by decide) rfl (by decide) (by omega) (by omega) e2 ?_
        refine jr.iconst rfl ?_
        refine jr.icmp_ne rfl rfl (by omega) (by omega) (fun h57 => ?_) (fun h57 => ?_)
        · have sx57 : (0 : Int) ≤ v2 := by omega
          refine jr.aload_n rfl rfl ?_
          refine jr.getf (i := 117) (v := .ref 674) rfl rfl (by decide) rfl (by decide) rfl rfl rfl rfl ?_
          refine jr.iload rfl rfl ?_
          refine jr.iald (i := x) (x := v1) rfl (by decide) rfl (by decide) (by omega) (by omega) e1 ?_
          refine jr.iconst rfl ?_
          refine jr.icmp_le rfl rfl (by omega) (by omega) (fun h74 => ?_) (fun h74 => ?_)
          · refine jr.iconst rfl ?_
            refine jr.istore rfl (by decide) rfl ?_
            refine jr.iload rfl rfl ?_
            refine jr.if_ne rfl rfl (by omega) (fun h => absurd h (by decide)) (fun _ => ?_)
            refine jr.aload_n rfl rfl ?_
            refine jr.getf (i := 117) (v := .ref 674) rfl rfl (by decide) rfl (by decide) rfl rfl rfl rfl ?_
            refine jr.iload rfl rfl ?_
            refine jr.iald (i := x) (x := v1) rfl (by decide) rfl (by decide) (by omega) (by omega) e1 ?_
            refine jr.aload_n rfl rfl ?_
            refine jr.getf (i := 117) (v := .ref 674) rfl rfl (by decide) rfl (by decide) rfl rfl rfl rfl ?_
            refine jr.iload rfl rfl ?_
            refine jr.iald (i := y) (x := v2) rfl (by decide) rfl (by decide) (by omega) (by omega) e2 ?_
            refine jr.icmp_eq rfl rfl (by omega) (by omega) (fun h114 => ?_) (fun h114 => ?_)
            · refine jr.pick [0, 1, 2, 8, 7, 5, 3] rfl rfl ?_
              exact r_copy_L123 q M 0 y x n j i hI_M hH_M hS_M  (fun a i f598 f676 f677 f678 => rfl) (fun i g135 => rfl) (by omega) (by omega) (by omega) (by omega) (by omega) (by omega) 
            · refine jr.aload_n rfl rfl ?_
              refine jr.iconst rfl ?_
              refine jr.putf (i := 135) (x := 5) rfl rfl (by decide) rfl (by decide) rfl rfl rfl rfl rfl ?_
              exact jr.vreturn rfl rfl (q _ (RI.u hI_M (a := 598) (i := 135) (show (0 : Int) ≤ _ ∧ _ ≤ (8 : Int) from by omega)) (RH.o hH_M (by decide) (by decide) (by decide)) (RF.o hS_M (by decide) (by decide))  (fun a i f598 f676 f677 f678 => ((ju_c _ _ f598).trans rfl)) (fun i g135 => ((ju_i _ _ g135).trans rfl)))
          · refine jr.aload_n rfl rfl ?_
            refine jr.getf (i := 117) (v := .ref 674) rfl rfl (by decide) rfl (by decide) rfl rfl rfl rfl ?_
            refine jr.iload rfl rfl ?_
            refine jr.iald (i := y) (x := v2) rfl (by decide) rfl (by decide) (by omega) (by omega) e2 ?_
            refine jr.iconst rfl ?_
            refine jr.icmp_le rfl rfl (by omega) (by omega) (fun h85 => ?_) (fun h85 => ?_)
            · refine jr.iconst rfl ?_
              refine jr.istore rfl (by decide) rfl ?_
              refine jr.iload rfl rfl ?_
              refine jr.if_ne rfl rfl (by omega) (fun h => absurd h (by decide)) (fun _ => ?_)
              refine jr.aload_n rfl rfl ?_
              refine jr.getf (i := 117) (v := .ref 674) rfl rfl (by decide) rfl (by decide) rfl rfl rfl rfl ?_
              refine jr.iload rfl rfl ?_
              refine jr.iald (i := x) (x := v1) rfl (by decide) rfl (by decide) (by omega) (by omega) e1 ?_
              refine jr.aload_n rfl rfl ?_
              refine jr.getf (i := 117) (v := .ref 674) rfl rfl (by decide) rfl (by decide) rfl rfl rfl rfl ?_
              refine jr.iload rfl rfl ?_
              refine jr.iald (i := y) (x := v2) rfl (by decide) rfl (by decide) (by omega) (by omega) e2 ?_
              refine jr.icmp_eq rfl rfl (by omega) (by omega) (fun h114 => ?_) (fun h114 => ?_)
              · exact absurd h114 (by omega)
              · refine jr.aload_n rfl rfl ?_
                refine jr.iconst rfl ?_
                refine jr.putf (i := 135) (x := 5) rfl rfl (by decide) rfl (by decide) rfl rfl rfl rfl rfl ?_
                exact jr.vreturn rfl rfl (q _ (RI.u hI_M (a := 598) (i := 135) (show (0 : Int) ≤ _ ∧ _ ≤ (8 : Int) from by omega)) (RH.o hH_M (by decide) (by decide) (by decide)) (RF.o hS_M (by decide) (by decide))  (fun a i f598 f676 f677 f678 => ((ju_c _ _ f598).trans rfl)) (fun i g135 => ((ju_i _ _ g135).trans rfl)))
            · refine jr.iconst rfl ?_
              refine jr.goto rfl rfl ?_
              refine jr.istore rfl (by decide) rfl ?_
              refine jr.iload rfl rfl ?_
              refine jr.if_ne rfl rfl (by omega) (fun _ => ?_) (fun h => absurd (by decide) h)
              refine jr.pick [0, 1, 2, 8, 7, 5, 3] rfl rfl ?_
              exact r_copy_L123 q M 1 y x n j i hI_M hH_M hS_M  (fun a i f598 f676 f677 f678 => rfl) (fun i g135 => rfl) (by omega) (by omega) (by omega) (by omega) (by omega) (by omega) 
        · refine jr.aload_n rfl rfl ?_
          refine jr.iconst rfl ?_
          refine jr.putf (i := 135) (x := 1) rfl rfl (by decide) rfl (by decide) rfl rfl rfl rfl rfl ?_
          exact jr.vreturn rfl rfl (q _ (RI.u hI_M (a := 598) (i := 135) (show (0 : Int) ≤ _ ∧ _ ≤ (8 : Int) from by omega)) (RH.o hH_M (by decide) (by decide) (by decide)) (RF.o hS_M (by decide) (by decide))  (fun a i f598 f676 f677 f678 => ((ju_c _ _ f598).trans rfl)) (fun i g135 => ((ju_i _ _ g135).trans rfl)))
    · refine jr.if_ne rfl rfl (by omega) (fun h => absurd h (by decide)) (fun _ => ?_)
      refine jr.aload_n rfl rfl ?_
      refine jr.iconst rfl ?_
      refine jr.putf (i := 135) (x := 2) rfl rfl (by decide) rfl (by decide) rfl rfl rfl rfl rfl ?_
      exact jr.vreturn rfl rfl (q _ (RI.u hI_M (a := 598) (i := 135) (show (0 : Int) ≤ _ ∧ _ ≤ (8 : Int) from by omega)) (RH.o hH_M (by decide) (by decide) (by decide)) (RF.o hS_M (by decide) (by decide))  (fun a i f598 f676 f677 f678 => ((ju_c _ _ f598).trans rfl)) (fun i g135 => ((ju_i _ _ g135).trans rfl)))
  · refine jr.if_eq rfl rfl (by omega) (fun _ => ?_) (fun h => absurd (by decide) h)
    refine jr.aload_n rfl rfl ?_
    refine jr.iconst rfl ?_
    refine jr.putf (i := 135) (x := 2) rfl rfl (by decide) rfl (by decide) rfl rfl rfl rfl rfl ?_
    exact jr.vreturn rfl rfl (q _ (RI.u hI_M (a := 598) (i := 135) (show (0 : Int) ≤ _ ∧ _ ≤ (8 : Int) from by omega)) (RH.o hH_M (by decide) (by decide) (by decide)) (RF.o hS_M (by decide) (by decide))  (fun a i f598 f676 f677 f678 => ((ju_c _ _ f598).trans rfl)) (fun i g135 => ((ju_i _ _ g135).trans rfl)))
