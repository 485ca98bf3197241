theorem r_fresh {A : Nat → Option (Nat × (Nat → Int32))} {Q : Option Value → jm → Prop} {M : jm} (hI_M : RI M) (hH_M : RH M) (hS_M : RF M) {k : Int} (h_k : (-9223372036854775808) ≤ k ∧ k ≤ 9223372036854775807) {s : Int} (h_s : (-9223372036854775808) ≤ s ∧ s ≤ 9223372036854775807) {n : Int} (h_n : (-9223372036854775808) ≤ n ∧ n ≤ 9223372036854775807) (q : ∀ (M' : jm), RI M' → RH M' → RF M' → (∀ (a : Nat) (i : Int), a ≠ 598 → a ≠ 674 → a ≠ 675 → a ≠ 676 → a ≠ 677 → M' a i = M a i) → (∀ (i : Int), i ≠ 110 → i ≠ 135 → M' 598 i = M 598 i) → Q none M') : jc A 2 400 [.ref (598), .long (Int64.ofInt (k)), .long (Int64.ofInt (s)), .long (Int64.ofInt (n))] M Q := by
  refine jc_of (m := xm_400) rfl (Nat.le_of_ble_eq_true rfl) rfl ?_
  refine jr.aload_n rfl rfl ?_
  refine jr.lload_n rfl rfl ?_
  refine jr.lconst (x := 0) rfl (by decide) ?_
  refine jr.ldc2 (x := 7) rfl rfl (by decide) ?_
  refine jr_s rfl rfl (Or.inl rfl) ⟨Nat.le_of_ble_eq_true rfl, Nat.le_of_ble_eq_true rfl⟩ rfl rfl (jc.deep (c_within (by omega) (by omega) (by omega) (fun l6 u6 => ?_) (fun n6 => ?_)) (by decide))
  · refine jr.if_ne rfl rfl (by omega) (fun _ => ?_) (fun h => absurd (by decide) h)
    refine jr.lload_n rfl rfl ?_
    refine jr.lconst (x := 0) rfl (by decide) ?_
    refine jr.ldc2 (x := 6) rfl rfl (by decide) ?_
    refine jr_s rfl rfl (Or.inl rfl) ⟨Nat.le_of_ble_eq_true rfl, Nat.le_of_ble_eq_true rfl⟩ rfl rfl (jc.deep (c_within (by omega) (by omega) (by omega) (fun l21 u21 => ?_) (fun n21 => ?_)) (by decide))
    · refine jr.if_ne rfl rfl (by omega) (fun _ => ?_) (fun h => absurd (by decide) h)
      refine jr.lload rfl rfl ?_
      refine jr.lconst (x := 0) rfl (by decide) ?_
      refine jr.lcmp_ge rfl rfl rfl (by omega) (by omega) (fun h35 => ?_) (fun h35 => ?_)
      · refine jr.lload rfl rfl ?_
        refine jr.ldc2 (x := 40) rfl rfl (by decide) ?_
        refine jr.lcmp_gt rfl rfl rfl (by omega) (by omega) (fun h48 => ?_) (fun h48 => ?_)
        · refine jr.bipush rfl (by decide) ?_
          refine jr.goto rfl rfl ?_
          refine jr.putf (i := 135) (x := 8) rfl rfl (by decide) rfl (by decide) rfl rfl rfl rfl rfl ?_
          refine jr.aload_n rfl rfl ?_
          refine jr.getf (i := 135) (x := 8) (v := .int (Int32.ofInt (8))) rfl rfl (by decide) rfl (by decide) rfl rfl (ju_same _ _ _ _) rfl ?_
          refine jr.if_eq rfl rfl (by omega) (fun h75 => ?_) (fun h75 => ?_)
          · refine jr.aload_n rfl rfl ?_
            refine jr.dup rfl rfl ?_
            obtain ⟨v1, e1⟩ : ∃ z, M 598 110 = z := ⟨_, rfl⟩
            have b1 : 0 ≤ v1 ∧ v1 ≤ 10000 := by rw [← e1]; exact hI_M 598 110 (by decide)
            refine jr.getf (i := 110) (x := v1) (v := .int (Int32.ofInt (v1))) rfl rfl (by decide) rfl (by decide) rfl rfl ((ju_i _ _ (by decide)).trans e1) rfl ?_
            refine jr.iconst rfl ?_
            refine jr.iadd rfl ?_
            refine jr.putf (i := 110) (x := (v1 + 1)) rfl rfl (by decide) rfl (by decide) rfl rfl rfl rfl rfl ?_
            refine jr.aload_n rfl rfl ?_
            refine jr.getf (i := 117) (v := .ref 674) rfl rfl (by decide) rfl (by decide) rfl rfl rfl rfl ?_
            refine jr.lload_n rfl rfl ?_
            refine jr.l2i rfl ?_
            refine jr.lload_n rfl rfl ?_
            refine jr.l2i rfl ?_
            refine jr.iast (i := k) (x := s) rfl (by decide) rfl (by decide) (by omega) (by omega) ?_
            refine jr.aload_n rfl rfl ?_
            refine jr.getf (i := 118) (v := .ref 675) rfl rfl (by decide) rfl (by decide) rfl rfl rfl rfl ?_
            refine jr.lload_n rfl rfl ?_
            refine jr.l2i rfl ?_
            refine jr.lload rfl rfl ?_
            refine jr.l2i rfl ?_
            refine jr.iw (j_w n) (j_w_eq _) ?_
            have b2 : -2147483648 ≤ j_w n ∧ j_w n ≤ 2147483647 := jb_any _
            generalize j_w n = v2 at b2 ⊢
            refine jr.iast (i := k) (x := v2) rfl (by decide) rfl (by decide) (by omega) (by omega) ?_
            refine jr.iconst rfl ?_
            refine jr.istore rfl (by decide) rfl ?_
            refine jr.pick [0, 2, 1] rfl rfl ?_
            exact r_fresh_L111 q 40 (ju (ju (ju (ju M 598 135 8) 598 110 (v1 + 1)) 674 k s) 675 k v2) 0 k (RI.u (RI.u (RI.u (RI.u hI_M (a := 598) (i := 135) (show (0 : Int) ≤ _ ∧ _ ≤ (8 : Int) from by omega)) (a := 598) (i := 110) (show (0 : Int) ≤ _ ∧ _ ≤ (10000 : Int) from by omega)) (a := 674) (i := k) (by rw [xri_row rfl rfl]; show (-1 : Int) ≤ _ ∧ _ ≤ (6 : Int); omega)) (a := 675) (i := k) (by rw [xri_row rfl rfl]; show (0 : Int) ≤ _ ∧ _ ≤ (40 : Int); omega)) (RH.o (RH.o (RH.o (RH.o hH_M (by decide) (by decide) (by decide)) (by decide) (by decide) (by decide)) (by decide) (by decide) (by decide)) (by decide) (by decide) (by decide)) (RF.o (RF.o (RF.o (RF.o hS_M (by decide) (by decide)) (by decide) (by decide)) (by decide) (by decide)) (by decide) (by decide))  (fun a i f598 f674 f675 f676 f677 => ((ju_c _ _ f675).trans ((ju_c _ _ f674).trans ((ju_c _ _ f598).trans ((ju_c _ _ f598).trans rfl))))) (fun i g110 g135 => ((ju_c _ _ (by decide)).trans ((ju_c _ _ (by decide)).trans ((ju_i _ _ g110).trans ((ju_i _ _ g135).trans rfl))))) (by omega) (by omega)  (by omega)
          · exact jr.vreturn rfl rfl (q _ (RI.u hI_M (a := 598) (i := 135) (show (0 : Int) ≤ _ ∧ _ ≤ (8 : Int) from by omega)) (RH.o hH_M (by decide) (by decide) (by decide)) (RF.o hS_M (by decide) (by decide))  (fun a i f598 f674 f675 f676 f677 => ((ju_c _ _ f598).trans rfl)) (fun i g110 g135 => ((ju_i _ _ g135).trans rfl)))
        · refine jr.aload_n rfl rfl ?_
          obtain ⟨v3, e3⟩ : ∃ z, M 598 110 = z := ⟨_, rfl⟩
          have b3 : 0 ≤ v3 ∧ v3 ≤ 10000 := by rw [← e3]; exact hI_M 598 110 (by decide)
          refine jr.getf (i := 110) (x := v3) (v := .int (Int32.ofInt (v3))) rfl rfl (by decide) rfl (by decide) rfl rfl e3 rfl ?_
          refine jr.sipush rfl (by decide) ?_
          refine jr.icmp_ne rfl rfl (by omega) (by omega) (fun h59 => ?_) (fun h59 => ?_)
          · refine jr.iconst rfl ?_
            refine jr.putf (i := 135) (x := 0) rfl rfl (by decide) rfl (by decide) rfl rfl rfl rfl rfl ?_
            refine jr.aload_n rfl rfl ?_
            refine jr.getf (i := 135) (x := 0) (v := .int (Int32.ofInt (0))) rfl rfl (by decide) rfl (by decide) rfl rfl (ju_same _ _ _ _) rfl ?_
            refine jr.if_eq rfl rfl (by omega) (fun h75 => ?_) (fun h75 => ?_)
            · refine jr.aload_n rfl rfl ?_
              refine jr.dup rfl rfl ?_
              refine jr.getf (i := 110) (x := v3) (v := .int (Int32.ofInt (v3))) rfl rfl (by decide) rfl (by decide) rfl rfl ((ju_i _ _ (by decide)).trans e3) rfl ?_
              refine jr.iconst rfl ?_
              refine jr.iadd rfl ?_
              refine jr.putf (i := 110) (x := (v3 + 1)) rfl rfl (by decide) rfl (by decide) rfl rfl rfl rfl rfl ?_
              refine jr.aload_n rfl rfl ?_
              refine jr.getf (i := 117) (v := .ref 674) rfl rfl (by decide) rfl (by decide) rfl rfl rfl rfl ?_
              refine jr.lload_n rfl rfl ?_
              refine jr.l2i rfl ?_
              refine jr.lload_n rfl rfl ?_
              refine jr.l2i rfl ?_
              refine jr.iast (i := k) (x := s) rfl (by decide) rfl (by decide) (by omega) (by omega) ?_
              refine jr.aload_n rfl rfl ?_
              refine jr.getf (i := 118) (v := .ref 675) rfl rfl (by decide) rfl (by decide) rfl rfl rfl rfl ?_
              refine jr.lload_n rfl rfl ?_
              refine jr.l2i rfl ?_
              refine jr.lload rfl rfl ?_
              refine jr.l2i rfl ?_
              refine jr.iast (i := k) (x := n) rfl (by decide) rfl (by decide) (by omega) (by omega) ?_
              refine jr.iconst rfl ?_
              refine jr.istore rfl (by decide) rfl ?_
              refine jr.pick [0, 2, 1] rfl rfl ?_
              exact r_fresh_L111 q 40 (ju (ju (ju (ju M 598 135 0) 598 110 (v3 + 1)) 674 k s) 675 k n) 0 k (RI.u (RI.u (RI.u (RI.u hI_M (a := 598) (i := 135) (show (0 : Int) ≤ _ ∧ _ ≤ (8 : Int) from by omega)) (a := 598) (i := 110) (show (0 : Int) ≤ _ ∧ _ ≤ (10000 : Int) from by omega)) (a := 674) (i := k) (by rw [xri_row rfl rfl]; show (-1 : Int) ≤ _ ∧ _ ≤ (6 : Int); omega)) (a := 675) (i := k) (by rw [xri_row rfl rfl]; show (0 : Int) ≤ _ ∧ _ ≤ (40 : Int); omega)) (RH.o (RH.o (RH.o (RH.o hH_M (by decide) (by decide) (by decide)) (by decide) (by decide) (by decide)) (by decide) (by decide) (by decide)) (by decide) (by decide) (by decide)) (RF.o (RF.o (RF.o (RF.o hS_M (by decide) (by decide)) (by decide) (by decide)) (by decide) (by decide)) (by decide) (by decide))  (fun a i f598 f674 f675 f676 f677 => ((ju_c _ _ f675).trans ((ju_c _ _ f674).trans ((ju_c _ _ f598).trans ((ju_c _ _ f598).trans rfl))))) (fun i g110 g135 => ((ju_c _ _ (by decide)).trans ((ju_c _ _ (by decide)).trans ((ju_i _ _ g110).trans ((ju_i _ _ g135).trans rfl))))) (by omega) (by omega)  (by omega)
            · exact jr.vreturn rfl rfl (q _ (RI.u hI_M (a := 598) (i := 135) (show (0 : Int) ≤ _ ∧ _ ≤ (8 : Int) from by omega)) (RH.o hH_M (by decide) (by decide) (by decide)) (RF.o hS_M (by decide) (by decide))  (fun a i f598 f674 f675 f676 f677 => ((ju_c _ _ f598).trans rfl)) (fun i g110 g135 => ((ju_i _ _ g135).trans rfl)))
          · refine jr.bipush rfl (by decide) ?_
            refine jr.goto rfl rfl ?_
            refine jr.putf (i := 135) (x := 8) rfl rfl (by decide) rfl (by decide) rfl rfl rfl rfl rfl ?_
            refine jr.aload_n rfl rfl ?_
            refine jr.getf (i := 135) (x := 8) (v := .int (Int32.ofInt (8))) rfl rfl (by decide) rfl (by decide) rfl rfl (ju_same _ _ _ _) rfl ?_
            refine jr.if_eq rfl rfl (by omega) (fun h75 => ?_) (fun h75 => ?_)
            · refine jr.aload_n rfl rfl ?_
              refine jr.dup rfl rfl ?_
              refine jr.getf (i := 110) (x := v3) (v := .int (Int32.ofInt (v3))) rfl rfl (by decide) rfl (by decide) rfl rfl ((ju_i _ _ (by decide)).trans e3) rfl ?_
              refine jr.iconst rfl ?_
              refine jr.iadd rfl ?_
              refine jr.putf (i := 110) (x := (v3 + 1)) rfl rfl (by decide) rfl (by decide) rfl rfl rfl rfl rfl ?_
              refine jr.aload_n rfl rfl ?_
              refine jr.getf (i := 117) (v := .ref 674) rfl rfl (by decide) rfl (by decide) rfl rfl rfl rfl ?_
              refine jr.lload_n rfl rfl ?_
              refine jr.l2i rfl ?_
              refine jr.lload_n rfl rfl ?_
              refine jr.l2i rfl ?_
              refine jr.iast (i := k) (x := s) rfl (by decide) rfl (by decide) (by omega) (by omega) ?_
              refine jr.aload_n rfl rfl ?_
              refine jr.getf (i := 118) (v := .ref 675) rfl rfl (by decide) rfl (by decide) rfl rfl rfl rfl ?_
              refine jr.lload_n rfl rfl ?_
              refine jr.l2i rfl ?_
              refine jr.lload rfl rfl ?_
              refine jr.l2i rfl ?_
              refine jr.iast (i := k) (x := n) rfl (by decide) rfl (by decide) (by omega) (by omega) ?_
              refine jr.iconst rfl ?_
              refine jr.istore rfl (by decide) rfl ?_
              refine jr.pick [0, 2, 1] rfl rfl ?_
              exact r_fresh_L111 q 40 (ju (ju (ju (ju M 598 135 8) 598 110 (v3 + 1)) 674 k s) 675 k n) 0 k (RI.u (RI.u (RI.u (RI.u hI_M (a := 598) (i := 135) (show (0 : Int) ≤ _ ∧ _ ≤ (8 : Int) from by omega)) (a := 598) (i := 110) (show (0 : Int) ≤ _ ∧ _ ≤ (10000 : Int) from by omega)) (a := 674) (i := k) (by rw [xri_row rfl rfl]; show (-1 : Int) ≤ _ ∧ _ ≤ (6 : Int); omega)) (a := 675) (i := k) (by rw [xri_row rfl rfl]; show (0 : Int) ≤ _ ∧ _ ≤ (40 : Int); omega)) (RH.o (RH.o (RH.o (RH.o hH_M (by decide) (by decide) (by decide)) (by decide) (by decide) (by decide)) (by decide) (by decide) (by decide)) (by decide) (by decide) (by decide)) (RF.o (RF.o (RF.o (RF.o hS_M (by decide) (by decide)) (by decide) (by decide)) (by decide) (by decide)) (by decide) (by decide))  (fun a i f598 f674 f675 f676 f677 => ((ju_c _ _ f675).trans ((ju_c _ _ f674).trans ((ju_c _ _ f598).trans ((ju_c _ _ f598).trans rfl))))) (fun i g110 g135 => ((ju_c _ _ (by decide)).trans ((ju_c _ _ (by decide)).trans ((ju_i _ _ g110).trans ((ju_i _ _ g135).trans rfl))))) (by omega) (by omega)  (by omega)
            · exact jr.vreturn rfl rfl (q _ (RI.u hI_M (a := 598) (i := 135) (show (0 : Int) ≤ _ ∧ _ ≤ (8 : Int) from by omega)) (RH.o hH_M (by decide) (by decide) (by decide)) (RF.o hS_M (by decide) (by decide))  (fun a i f598 f674 f675 f676 f677 => ((ju_c _ _ f598).trans rfl)) (fun i g110 g135 => ((ju_i _ _ g135).trans rfl)))
      · refine jr.iconst rfl ?_
        refine jr.goto rfl rfl ?_
        refine jr.putf (i := 135) (x := 3) rfl rfl (by decide) rfl (by decide) rfl rfl rfl rfl rfl ?_
        refine jr.aload_n rfl rfl ?_
        refine jr.getf (i := 135) (x := 3) (v := .int (Int32.ofInt (3))) rfl rfl (by decide) rfl (by decide) rfl rfl (ju_same _ _ _ _) rfl ?_
        refine jr.if_eq rfl rfl (by omega) (fun h75 => ?_) (fun h75 => ?_)
        · refine jr.aload_n rfl rfl ?_
          refine jr.dup rfl rfl ?_
          obtain ⟨v4, e4⟩ : ∃ z, M 598 110 = z := ⟨_, rfl⟩
          have b4 : 0 ≤ v4 ∧ v4 ≤ 10000 := by rw [← e4]; exact hI_M 598 110 (by decide)
          refine jr.getf (i := 110) (x := v4) (v := .int (Int32.ofInt (v4))) rfl rfl (by decide) rfl (by decide) rfl rfl ((ju_i _ _ (by decide)).trans e4) rfl ?_
          refine jr.iconst rfl ?_
          refine jr.iadd rfl ?_
          refine jr.putf (i := 110) (x := (v4 + 1)) rfl rfl (by decide) rfl (by decide) rfl rfl rfl rfl rfl ?_
          refine jr.aload_n rfl rfl ?_
          refine jr.getf (i := 117) (v := .ref 674) rfl rfl (by decide) rfl (by decide) rfl rfl rfl rfl ?_
          refine jr.lload_n rfl rfl ?_
          refine jr.l2i rfl ?_
          refine jr.lload_n rfl rfl ?_
          refine jr.l2i rfl ?_
          refine jr.iast (i := k) (x := s) rfl (by decide) rfl (by decide) (by omega) (by omega) ?_
          refine jr.aload_n rfl rfl ?_
          refine jr.getf (i := 118) (v := .ref 675) rfl rfl (by decide) rfl (by decide) rfl rfl rfl rfl ?_
          refine jr.lload_n rfl rfl ?_
          refine jr.l2i rfl ?_
          refine jr.lload rfl rfl ?_
          refine jr.l2i rfl ?_
          refine jr.iw (j_w n) (j_w_eq _) ?_
          have b5 : -2147483648 ≤ j_w n ∧ j_w n ≤ 2147483647 := jb_any _
          generalize j_w n = v5 at b5 ⊢
          refine jr.iast (i := k) (x := v5) rfl (by decide) rfl (by decide) (by omega) (by omega) ?_
          refine jr.iconst rfl ?_
          refine jr.istore rfl (by decide) rfl ?_
          refine jr.pick [0, 2, 1] rfl rfl ?_
          exact r_fresh_L111 q 40 (ju (ju (ju (ju M 598 135 3) 598 110 (v4 + 1)) 674 k s) 675 k v5) 0 k (RI.u (RI.u (RI.u (RI.u hI_M (a := 598) (i := 135) (show (0 : Int) ≤ _ ∧ _ ≤ (8 : Int) from by omega)) (a := 598) (i := 110) (show (0 : Int) ≤ _ ∧ _ ≤ (10000 : Int) from by omega)) (a := 674) (i := k) (by rw [xri_row rfl rfl]; show (-1 : Int) ≤ _ ∧ _ ≤ (6 : Int); omega)) (a := 675) (i := k) (by rw [xri_row rfl rfl]; show (0 : Int) ≤ _ ∧ _ ≤ (40 : Int); omega)) (RH.o (RH.o (RH.o (RH.o hH_M (by decide) (by decide) (by decide)) (by decide) (by decide) (by decide)) (by decide) (by decide) (by decide)) (by decide) (by decide) (by decide)) (RF.o (RF.o (RF.o (RF.o hS_M (by decide) (by decide)) (by decide) (by decide)) (by decide) (by decide)) (by decide) (by decide))  (fun a i f598 f674 f675 f676 f677 => ((ju_c _ _ f675).trans ((ju_c _ _ f674).trans ((ju_c _ _ f598).trans ((ju_c _ _ f598).trans rfl))))) (fun i g110 g135 => ((ju_c _ _ (by decide)).trans ((ju_c _ _ (by decide)).trans ((ju_i _ _ g110).trans ((ju_i _ _ g135).trans rfl))))) (by omega) (by omega)  (by omega)
        · exact jr.vreturn rfl rfl (q _ (RI.u hI_M (a := 598) (i := 135) (show (0 : Int) ≤ _ ∧ _ ≤ (8 : Int) from by omega)) (RH.o hH_M (by decide) (by decide) (by decide)) (RF.o hS_M (by decide) (by decide))  (fun a i f598 f674 f675 f676 f677 => ((ju_c _ _ f598).trans rfl)) (fun i g110 g135 => ((ju_i _ _ g135).trans rfl)))
    · refine jr.if_ne rfl rfl (by omega) (fun h => absurd h (by decide)) (fun _ => ?_)
      refine jr.bipush rfl (by decide) ?_
      refine jr.goto rfl rfl ?_
      refine jr.putf (i := 135) (x := 8) rfl rfl (by decide) rfl (by decide) rfl rfl rfl rfl rfl ?_
      refine jr.aload_n rfl rfl ?_
      refine jr.getf (i := 135) (x := 8) (v := .int (Int32.ofInt (8))) rfl rfl (by decide) rfl (by decide) rfl rfl (ju_same _ _ _ _) rfl ?_
      refine jr.if_eq rfl rfl (by omega) (fun h75 => ?_) (fun h75 => ?_)
      · refine jr.aload_n rfl rfl ?_
        refine jr.dup rfl rfl ?_
        obtain ⟨v6, e6⟩ : ∃ z, M 598 110 = z := ⟨_, rfl⟩
        have b6 : 0 ≤ v6 ∧ v6 ≤ 10000 := by rw [← e6]; exact hI_M 598 110 (by decide)
        refine jr.getf (i := 110) (x := v6) (v := .int (Int32.ofInt (v6))) rfl rfl (by decide) rfl (by decide) rfl rfl ((ju_i _ _ (by decide)).trans e6) rfl ?_
        refine jr.iconst rfl ?_
        refine jr.iadd rfl ?_
        refine jr.putf (i := 110) (x := (v6 + 1)) rfl rfl (by decide) rfl (by decide) rfl rfl rfl rfl rfl ?_
        refine jr.aload_n rfl rfl ?_
        refine jr.getf (i := 117) (v := .ref 674) rfl rfl (by decide) rfl (by decide) rfl rfl rfl rfl ?_
        refine jr.lload_n rfl rfl ?_
        refine jr.l2i rfl ?_
        refine jr.lload_n rfl rfl ?_
        refine jr.l2i rfl ?_
        refine jr.iw (j_w s) (j_w_eq _) ?_
        have b7 : -2147483648 ≤ j_w s ∧ j_w s ≤ 2147483647 := jb_any _
        generalize j_w s = v7 at b7 ⊢
        refine jr.iast (i := k) (x := v7) rfl (by decide) rfl (by decide) (by omega) (by omega) ?_
        refine jr.aload_n rfl rfl ?_
        refine jr.getf (i := 118) (v := .ref 675) rfl rfl (by decide) rfl (by decide) rfl rfl rfl rfl ?_
        refine jr.lload_n rfl rfl ?_
        refine jr.l2i rfl ?_
        refine jr.lload rfl rfl ?_
        refine jr.l2i rfl ?_
        refine jr.iw (j_w n) (j_w_eq _) ?_
        have b8 : -2147483648 ≤ j_w n ∧ j_w n ≤ 2147483647 := jb_any _
        generalize j_w n = v8 at b8 ⊢
        refine jr.iast (i := k) (x := v8) rfl (by decide) rfl (by decide) (by omega) (by omega) ?_
        refine jr.iconst rfl ?_
        refine jr.istore rfl (by decide) rfl ?_
        refine jr.pick [0, 2, 1] rfl rfl ?_
        exact r_fresh_L111 q 40 (ju (ju (ju (ju M 598 135 8) 598 110 (v6 + 1)) 674 k v7) 675 k v8) 0 k (RI.u (RI.u (RI.u (RI.u hI_M (a := 598) (i := 135) (show (0 : Int) ≤ _ ∧ _ ≤ (8 : Int) from by omega)) (a := 598) (i := 110) (show (0 : Int) ≤ _ ∧ _ ≤ (10000 : Int) from by omega)) (a := 674) (i := k) (by rw [xri_row rfl rfl]; show (-1 : Int) ≤ _ ∧ _ ≤ (6 : Int); omega)) (a := 675) (i := k) (by rw [xri_row rfl rfl]; show (0 : Int) ≤ _ ∧ _ ≤ (40 : Int); omega)) (RH.o (RH.o (RH.o (RH.o hH_M (by decide) (by decide) (by decide)) (by decide) (by decide) (by decide)) (by decide) (by decide) (by decide)) (by decide) (by decide) (by decide)) (RF.o (RF.o (RF.o (RF.o hS_M (by decide) (by decide)) (by decide) (by decide)) (by decide) (by decide)) (by decide) (by decide))  (fun a i f598 f674 f675 f676 f677 => ((ju_c _ _ f675).trans ((ju_c _ _ f674).trans ((ju_c _ _ f598).trans ((ju_c _ _ f598).trans rfl))))) (fun i g110 g135 => ((ju_c _ _ (by decide)).trans ((ju_c _ _ (by decide)).trans ((ju_i _ _ g110).trans ((ju_i _ _ g135).trans rfl))))) (by omega) (by omega)  (by omega)
      · exact jr.vreturn rfl rfl (q _ (RI.u hI_M (a := 598) (i := 135) (show (0 : Int) ≤ _ ∧ _ ≤ (8 : Int) from by omega)) (RH.o hH_M (by decide) (by decide) (by decide)) (RF.o hS_M (by decide) (by decide))  (fun a i f598 f674 f675 f676 f677 => ((ju_c _ _ f598).trans rfl)) (fun i g110 g135 => ((ju_i _ _ g135).trans rfl)))
  · refine jr.if_ne rfl rfl (by omega) (fun h => absurd h (by decide)) (fun _ => ?_)
    refine jr.iconst rfl ?_
    refine jr.goto rfl rfl ?_
    refine jr.putf (i := 135) (x := 2) rfl rfl (by decide) rfl (by decide) rfl rfl rfl rfl rfl ?_
    refine jr.aload_n rfl rfl ?_
    refine jr.getf (i := 135) (x := 2) (v := .int (Int32.ofInt (2))) rfl rfl (by decide) rfl (by decide) rfl rfl (ju_same _ _ _ _) rfl ?_
    refine jr.if_eq rfl rfl (by omega) (fun h75 => ?_) (fun h75 => ?_)
    · refine jr.aload_n rfl rfl ?_
      refine jr.dup rfl rfl ?_
      obtain ⟨v9, e9⟩ : ∃ z, M 598 110 = z := ⟨_, rfl⟩
      have b9 : 0 ≤ v9 ∧ v9 ≤ 10000 := by rw [← e9]; exact hI_M 598 110 (by decide)
      refine jr.getf (i := 110) (x := v9) (v := .int (Int32.ofInt (v9))) rfl rfl (by decide) rfl (by decide) rfl rfl ((ju_i _ _ (by decide)).trans e9) rfl ?_
      refine jr.iconst rfl ?_
      refine jr.iadd rfl ?_
      refine jr.putf (i := 110) (x := (v9 + 1)) rfl rfl (by decide) rfl (by decide) rfl rfl rfl rfl rfl ?_
      refine jr.aload_n rfl rfl ?_
      refine jr.getf (i := 117) (v := .ref 674) rfl rfl (by decide) rfl (by decide) rfl rfl rfl rfl ?_
      refine jr.lload_n rfl rfl ?_
      refine jr.l2i rfl ?_
      refine jr.iw (j_w k) (j_w_eq _) ?_
      have b10 : -2147483648 ≤ j_w k ∧ j_w k ≤ 2147483647 := jb_any _
      generalize j_w k = v10 at b10 ⊢
      refine jr.lload_n rfl rfl ?_
      refine jr.l2i rfl ?_
      refine jr.iw (j_w s) (j_w_eq _) ?_
      have b11 : -2147483648 ≤ j_w s ∧ j_w s ≤ 2147483647 := jb_any _
      generalize j_w s = v11 at b11 ⊢
      refine jr.iast (i := v10) (x := v11) rfl (by decide) rfl (by decide) (by omega) (by omega) ?_
      refine jr.aload_n rfl rfl ?_
      refine jr.getf (i := 118) (v := .ref 675) rfl rfl (by decide) rfl (by decide) rfl rfl rfl rfl ?_
      refine jr.lload_n rfl rfl ?_
      refine jr.l2i rfl ?_
      refine jr.iw (j_w k) (j_w_eq _) ?_
      have b12 : -2147483648 ≤ j_w k ∧ j_w k ≤ 2147483647 := jb_any _
      generalize j_w k = v12 at b12 ⊢
      refine jr.lload rfl rfl ?_
      refine jr.l2i rfl ?_
      refine jr.iw (j_w n) (j_w_eq _) ?_
      have b13 : -2147483648 ≤ j_w n ∧ j_w n ≤ 2147483647 := jb_any _
      generalize j_w n = v13 at b13 ⊢
      refine jr.iast (i := v12) (x := v13) rfl (by decide) rfl (by decide) (by omega) (by omega) ?_
      refine jr.iconst rfl ?_
      refine jr.istore rfl (by decide) rfl ?_
      refine jr.pick [0, 2, 1] rfl rfl ?_
      exact r_fresh_L111 q 40 (ju (ju (ju (ju M 598 135 2) 598 110 (v9 + 1)) 674 v10 v11) 675 v12 v13) 0 k (RI.u (RI.u (RI.u (RI.u hI_M (a := 598) (i := 135) (show (0 : Int) ≤ _ ∧ _ ≤ (8 : Int) from by omega)) (a := 598) (i := 110) (show (0 : Int) ≤ _ ∧ _ ≤ (10000 : Int) from by omega)) (a := 674) (i := v10) (by rw [xri_row rfl rfl]; show (-1 : Int) ≤ _ ∧ _ ≤ (6 : Int); omega)) (a := 675) (i := v12) (by rw [xri_row rfl rfl]; show (0 : Int) ≤ _ ∧ _ ≤ (40 : Int); omega)) (RH.o (RH.o (RH.o (RH.o hH_M (by decide) (by decide) (by decide)) (by decide) (by decide) (by decide)) (by decide) (by decide) (by decide)) (by decide) (by decide) (by decide)) (RF.o (RF.o (RF.o (RF.o hS_M (by decide) (by decide)) (by decide) (by decide)) (by decide) (by decide)) (by decide) (by decide))  (fun a i f598 f674 f675 f676 f677 => ((ju_c _ _ f675).trans ((ju_c _ _ f674).trans ((ju_c _ _ f598).trans ((ju_c _ _ f598).trans rfl))))) (fun i g110 g135 => ((ju_c _ _ (by decide)).trans ((ju_c _ _ (by decide)).trans ((ju_i _ _ g110).trans ((ju_i _ _ g135).trans rfl))))) (by omega) (by omega)  (by omega)
    · exact jr.vreturn rfl rfl (q _ (RI.u hI_M (a := 598) (i := 135) (show (0 : Int) ≤ _ ∧ _ ≤ (8 : Int) from by omega)) (RH.o hH_M (by decide) (by decide) (by decide)) (RF.o hS_M (by decide) (by decide))  (fun a i f598 f674 f675 f676 f677 => ((ju_c _ _ f598).trans rfl)) (fun i g110 g135 => ((ju_i _ _ g135).trans rfl)))
