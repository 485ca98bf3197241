section
/-! ===== the reference: contracts, 33.rf ===== -/
theorem r_takeEnds {A : Nat → Option (Nat × (Nat → Int32))} {Q : Option Value → jm → Prop} {T : jm} {M : jm} (hI_M : RI M) (hH_M : RH M) (hS_M : RF M) (ht_M : Kp T M) {x : Int} (h_x : 0 ≤ x ∧ x ≤ 23) {t : Int} (h_t : 0 ≤ t ∧ t ≤ 11) {h : Int} (h_h : 0 ≤ h ∧ h ≤ 11) (p0 : (M 603 t = 2 ∧ M 604 t ≤ 380 ∨ M 603 t = 3 ∧ M 604 t ≤ 376)) (p1 : (M 603 h = 7 ∨ M 603 h = 8 ∨ M 603 h = 9)) (p2 : M 604 h ≤ 392) (q : ∀ (M' : jm), RI M' → RH M' → RF M' → Kp T M' → M' 598 65 = h → (M' 598 60 = 6 → M 603 h = 8) → (M' 598 60 = 1 ∨ M' 598 60 = 6 ∨ M' 598 60 = 17) → (∀ (a : Nat) (i : Int), a ≠ 598 → M' a i = M a i) → (∀ (i : Int), i ≠ 59 → i ≠ 60 → i ≠ 61 → i ≠ 62 → i ≠ 63 → i ≠ 64 → i ≠ 65 → M' 598 i = M 598 i) → Q none M') : jc A 6 301 [.ref (598), .int (Int32.ofInt (x)), .int (Int32.ofInt (t)), .int (Int32.ofInt (h))] M Q := by
  refine jc_of (m := xm_301) rfl (Nat.le_of_ble_eq_true rfl) rfl ?_
  refine jr.aload_n rfl rfl ?_
  refine jr.aload_n rfl rfl ?_
  refine jr.getf (i := 7) (v := .ref 603) rfl rfl (nlt rfl) rfl (nlt rfl) rfl rfl rfl rfl ?_
  refine jr.iload_n rfl rfl ?_
  obtain ⟨v1, e1⟩ : ∃ z, M 603 t = z := ⟨_, rfl⟩
  have b1 : 0 ≤ v1 ∧ v1 ≤ 11 := by rw [← e1]; exact (by have q := hI_M 603 t (Nat.le_of_ble_eq_true rfl); rw [xri_row rfl rfl] at q; exact q)
  refine jr.iald (i := t) (x := v1) rfl (nlt rfl) rfl (Nat.le_of_ble_eq_true rfl) (by omega) (by omega) e1 ?_
  refine jr.iconst rfl ?_
  refine jr.icmp_ne rfl rfl (by first | (refine rgb (by assumption) ?_; exact rfl) | omega) (rgl rfl) (fun h8 => ?_) (fun h8 => ?_)
  · refine jr.iconst rfl ?_
    refine jr.putf (i := 59) (x := 0) rfl rfl (nlt rfl) rfl (nlt rfl) rfl rfl rfl rfl rfl ?_
    refine jr.aload_n rfl rfl ?_
    refine jr.aload_n rfl rfl ?_
    refine jr.getf (i := 59) (x := 0) (v := .int (Int32.ofInt (0))) rfl rfl (nlt rfl) rfl (nlt rfl) rfl rfl (ju_same _ _ _ _) rfl ?_
    refine jr.if_eq rfl rfl (by first | (refine rgb (by assumption) ?_; exact rfl) | omega) (fun h24 => ?_) (fun h24 => ?_)
    · refine jr.aload_n rfl rfl ?_
      refine jr.iload_n rfl rfl ?_
      refine jr.aload_n rfl rfl ?_
      refine jr.getf (i := 8) (v := .ref 604) rfl rfl (nlt rfl) rfl (nlt rfl) rfl rfl rfl rfl ?_
      refine jr.iload_n rfl rfl ?_
      obtain ⟨v2, e2⟩ : ∃ z, M 604 t = z := ⟨_, rfl⟩
      have b2 : 0 ≤ v2 ∧ v2 ≤ 400 := by rw [← e2]; exact (by have q := hI_M 604 t (Nat.le_of_ble_eq_true rfl); rw [xri_row rfl rfl] at q; exact q)
      refine jr.iald (i := t) (x := v2) rfl (nlt rfl) rfl (Nat.le_of_ble_eq_true rfl) (by omega) (by omega) ((ju_c _ _ (by decide)).trans e2) ?_
      refine jr.bipush rfl (jbp _ (nlt rfl)) ?_
      refine jr_v rfl rfl (Or.inl rfl) rfl rfl (nlt rfl) rfl ⟨rfl, Nat.le_of_ble_eq_true rfl, Nat.le_of_ble_eq_true rfl⟩ rfl (jc.deep (r_ofFour (RI.u hI_M (a := 598) (i := 59) (show (0 : Int) ≤ _ ∧ _ ≤ (1 : Int) from by omega)) (RH.o hH_M (by decide) (by decide) (by decide)) (RF.o hS_M (by decide) (by decide)) (Kp.o ht_M rfl) (by omega) (by omega) (by omega)  (fun r3 z3 w3_0 => ?_)) (Nat.le_of_ble_eq_true rfl))
      refine jr.putf (i := 61) (x := r3) rfl rfl (nlt rfl) rfl (nlt rfl) rfl rfl rfl rfl rfl ?_
      refine jr.aload_n rfl rfl ?_
      refine jr.aload_n rfl rfl ?_
      refine jr.getf (i := 59) (x := 0) (v := .int (Int32.ofInt (0))) rfl rfl (nlt rfl) rfl (nlt rfl) rfl rfl ((ju_i _ _ (zne (by decide))).trans (ju_same _ _ _ _)) rfl ?_
      refine jr.if_eq rfl rfl (by first | (refine rgb (by assumption) ?_; exact rfl) | omega) (fun h63 => ?_) (fun h63 => ?_)
      · refine jr.aload_n rfl rfl ?_
        refine jr.iload_n rfl rfl ?_
        refine jr.aload_n rfl rfl ?_
        refine jr.getf (i := 8) (v := .ref 604) rfl rfl (nlt rfl) rfl (nlt rfl) rfl rfl rfl rfl ?_
        refine jr.iload_n rfl rfl ?_
        refine jr.iald (i := t) (x := v2) rfl (nlt rfl) rfl (Nat.le_of_ble_eq_true rfl) (by omega) (by omega) ((ju_c _ _ (by decide)).trans ((ju_c _ _ (by decide)).trans e2)) ?_
        refine jr.bipush rfl (jbp _ (nlt rfl)) ?_
        refine jr_v rfl rfl (Or.inl rfl) rfl rfl (nlt rfl) rfl ⟨rfl, Nat.le_of_ble_eq_true rfl, Nat.le_of_ble_eq_true rfl⟩ rfl (jc.deep (r_ofFour (RI.u (RI.u hI_M (a := 598) (i := 59) (show (0 : Int) ≤ _ ∧ _ ≤ (1 : Int) from by omega)) (a := 598) (i := 61) (show (-9223372036854775808 : Int) ≤ _ ∧ _ ≤ (9223372036854775807 : Int) from by omega)) (RH.o (RH.o hH_M (by decide) (by decide) (by decide)) (by decide) (by decide) (by decide)) (RF.o (RF.o hS_M (by decide) (by decide)) (by decide) (by decide)) (Kp.o (Kp.o ht_M rfl) rfl) (by omega) (by omega) (by omega)  (fun r4 z4 w4_0 => ?_)) (Nat.le_of_ble_eq_true rfl))
        refine jr.putf (i := 62) (x := r4) rfl rfl (nlt rfl) rfl (nlt rfl) rfl rfl rfl rfl rfl ?_
        refine jr.aload_n rfl rfl ?_
        refine jr.getf (i := 7) (v := .ref 603) rfl rfl (nlt rfl) rfl (nlt rfl) rfl rfl rfl rfl ?_
        refine jr.iload_n rfl rfl ?_
        obtain ⟨v5, e5⟩ : ∃ z, M 603 h = z := ⟨_, rfl⟩
        have b5 : 0 ≤ v5 ∧ v5 ≤ 11 := by rw [← e5]; exact (by have q := hI_M 603 h (Nat.le_of_ble_eq_true rfl); rw [xri_row rfl rfl] at q; exact q)
        refine jr.iald (i := h) (x := v5) rfl (nlt rfl) rfl (Nat.le_of_ble_eq_true rfl) (by omega) (by omega) ((ju_c _ _ (by decide)).trans ((ju_c _ _ (by decide)).trans ((ju_c _ _ (by decide)).trans e5))) ?_
        refine jr.istore (ls' := [_, _, _, _, _]) rfl (nlt rfl) rfl ?_
        refine jr.aload_n rfl rfl ?_
        refine jr.iload_n rfl rfl ?_
        refine jr.putf (i := 65) (x := h) rfl rfl (nlt rfl) rfl (nlt rfl) rfl rfl rfl rfl rfl ?_
        refine jr.aload_n rfl rfl ?_
        refine jr.iload rfl rfl ?_
        refine jr.bipush rfl (jbp _ (nlt rfl)) ?_
        refine jr.icmp_ne rfl rfl (by first | (refine rgb (by assumption) ?_; exact rfl) | omega) (rgl rfl) (fun h116 => ?_) (fun h116 => ?_)
        · refine jr.iload rfl rfl ?_
          refine jr.bipush rfl (jbp _ (nlt rfl)) ?_
          refine jr.icmp_ne rfl rfl (by first | (refine rgb (by assumption) ?_; exact rfl) | omega) (rgl rfl) (fun h127 => ?_) (fun h127 => ?_)
          · refine jr.bipush rfl (jbp _ (nlt rfl)) ?_
            refine jr.putf (i := 60) (x := 17) rfl rfl (nlt rfl) rfl (nlt rfl) rfl rfl rfl rfl rfl ?_
            refine jr.aload_n rfl rfl ?_
            refine jr.iload rfl rfl ?_
            refine jr.bipush rfl (jbp _ (nlt rfl)) ?_
            refine jr.icmp_ne rfl rfl (by first | (refine rgb (by assumption) ?_; exact rfl) | omega) (rgl rfl) (fun h145 => ?_) (fun h145 => ?_)
            · refine jr.aload_n rfl rfl ?_
              refine jr.iload_n rfl rfl ?_
              refine jr.aload_n rfl rfl ?_
              refine jr.getf (i := 8) (v := .ref 604) rfl rfl (nlt rfl) rfl (nlt rfl) rfl rfl rfl rfl ?_
              refine jr.iload_n rfl rfl ?_
              obtain ⟨v6, e6⟩ : ∃ z, M 604 h = z := ⟨_, rfl⟩
              have b6 : 0 ≤ v6 ∧ v6 ≤ 400 := by rw [← e6]; exact (by have q := hI_M 604 h (Nat.le_of_ble_eq_true rfl); rw [xri_row rfl rfl] at q; exact q)
              refine jr.iald (i := h) (x := v6) rfl (nlt rfl) rfl (Nat.le_of_ble_eq_true rfl) (by omega) (by omega) ((ju_c _ _ (by decide)).trans ((ju_c _ _ (by decide)).trans ((ju_c _ _ (by decide)).trans ((ju_c _ _ (by decide)).trans ((ju_c _ _ (by decide)).trans e6))))) ?_
              refine jr_v rfl rfl (Or.inl rfl) rfl rfl (nlt rfl) rfl ⟨rfl, Nat.le_of_ble_eq_true rfl, Nat.le_of_ble_eq_true rfl⟩ rfl (jc.deep (r_two (RI.u (RI.u (RI.u (RI.u (RI.u hI_M (a := 598) (i := 59) (show (0 : Int) ≤ _ ∧ _ ≤ (1 : Int) from by omega)) (a := 598) (i := 61) (show (-9223372036854775808 : Int) ≤ _ ∧ _ ≤ (9223372036854775807 : Int) from by omega)) (a := 598) (i := 62) (show (-9223372036854775808 : Int) ≤ _ ∧ _ ≤ (9223372036854775807 : Int) from by omega)) (a := 598) (i := 65) (show (0 : Int) ≤ _ ∧ _ ≤ (11 : Int) from by omega)) (a := 598) (i := 60) (show (0 : Int) ≤ _ ∧ _ ≤ (255 : Int) from by omega)) (RH.o (RH.o (RH.o (RH.o (RH.o hH_M (by decide) (by decide) (by decide)) (by decide) (by decide) (by decide)) (by decide) (by decide) (by decide)) (by decide) (by decide) (by decide)) (by decide) (by decide) (by decide)) (RF.o (RF.o (RF.o (RF.o (RF.o hS_M (by decide) (by decide)) (by decide) (by decide)) (by decide) (by decide)) (by decide) (by decide)) (by decide) (by decide)) (Kp.o (Kp.o (Kp.o (Kp.o (Kp.o ht_M rfl) rfl) rfl) rfl) rfl) (by omega) (by omega)  (fun r7 z7  => ?_)) (Nat.le_of_ble_eq_true rfl))
              refine jr.putf (i := 63) (x := r7) rfl rfl (nlt rfl) rfl (nlt rfl) rfl rfl rfl rfl rfl ?_
              refine jr.aload_n rfl rfl ?_
              refine jr.iload rfl rfl ?_
              refine jr.bipush rfl (jbp _ (nlt rfl)) ?_
              refine jr.icmp_ne rfl rfl (by first | (refine rgb (by assumption) ?_; exact rfl) | omega) (rgl rfl) (fun h183 => ?_) (fun h183 => ?_)
              · refine jr.aload_n rfl rfl ?_
                refine jr.iload_n rfl rfl ?_
                refine jr.aload_n rfl rfl ?_
                refine jr.getf (i := 8) (v := .ref 604) rfl rfl (nlt rfl) rfl (nlt rfl) rfl rfl rfl rfl ?_
                refine jr.iload_n rfl rfl ?_
                refine jr.iald (i := h) (x := v6) rfl (nlt rfl) rfl (Nat.le_of_ble_eq_true rfl) (by omega) (by omega) ((ju_c _ _ (by decide)).trans ((ju_c _ _ (by decide)).trans ((ju_c _ _ (by decide)).trans ((ju_c _ _ (by decide)).trans ((ju_c _ _ (by decide)).trans ((ju_c _ _ (by decide)).trans e6)))))) ?_
                refine jr.iconst rfl ?_
                refine jr.iadd rfl ?_
                refine jr_v rfl rfl (Or.inl rfl) rfl rfl (nlt rfl) rfl ⟨rfl, Nat.le_of_ble_eq_true rfl, Nat.le_of_ble_eq_true rfl⟩ rfl (jc.deep (r_two (RI.u (RI.u (RI.u (RI.u (RI.u (RI.u hI_M (a := 598) (i := 59) (show (0 : Int) ≤ _ ∧ _ ≤ (1 : Int) from by omega)) (a := 598) (i := 61) (show (-9223372036854775808 : Int) ≤ _ ∧ _ ≤ (9223372036854775807 : Int) from by omega)) (a := 598) (i := 62) (show (-9223372036854775808 : Int) ≤ _ ∧ _ ≤ (9223372036854775807 : Int) from by omega)) (a := 598) (i := 65) (show (0 : Int) ≤ _ ∧ _ ≤ (11 : Int) from by omega)) (a := 598) (i := 60) (show (0 : Int) ≤ _ ∧ _ ≤ (255 : Int) from by omega)) (a := 598) (i := 63) (show (0 : Int) ≤ _ ∧ _ ≤ (65535 : Int) from by omega)) (RH.o (RH.o (RH.o (RH.o (RH.o (RH.o hH_M (by decide) (by decide) (by decide)) (by decide) (by decide) (by decide)) (by decide) (by decide) (by decide)) (by decide) (by decide) (by decide)) (by decide) (by decide) (by decide)) (by decide) (by decide) (by decide)) (RF.o (RF.o (RF.o (RF.o (RF.o (RF.o hS_M (by decide) (by decide)) (by decide) (by decide)) (by decide) (by decide)) (by decide) (by decide)) (by decide) (by decide)) (by decide) (by decide)) (Kp.o (Kp.o (Kp.o (Kp.o (Kp.o (Kp.o ht_M rfl) rfl) rfl) rfl) rfl) rfl) (by omega) (by omega)  (fun r8 z8  => ?_)) (Nat.le_of_ble_eq_true rfl))
                refine jr.putf (i := 64) (x := r8) rfl rfl (nlt rfl) rfl (nlt rfl) rfl rfl rfl rfl rfl ?_
                exact jr.vreturn rfl rfl (q _ (RI.u (RI.u (RI.u (RI.u (RI.u (RI.u (RI.u hI_M (a := 598) (i := 59) (show (0 : Int) ≤ _ ∧ _ ≤ (1 : Int) from by omega)) (a := 598) (i := 61) (show (-9223372036854775808 : Int) ≤ _ ∧ _ ≤ (9223372036854775807 : Int) from by omega)) (a := 598) (i := 62) (show (-9223372036854775808 : Int) ≤ _ ∧ _ ≤ (9223372036854775807 : Int) from by omega)) (a := 598) (i := 65) (show (0 : Int) ≤ _ ∧ _ ≤ (11 : Int) from by omega)) (a := 598) (i := 60) (show (0 : Int) ≤ _ ∧ _ ≤ (255 : Int) from by omega)) (a := 598) (i := 63) (show (0 : Int) ≤ _ ∧ _ ≤ (65535 : Int) from by omega)) (a := 598) (i := 64) (show (0 : Int) ≤ _ ∧ _ ≤ (65535 : Int) from by omega)) (RH.o (RH.o (RH.o (RH.o (RH.o (RH.o (RH.o hH_M (by decide) (by decide) (by decide)) (by decide) (by decide) (by decide)) (by decide) (by decide) (by decide)) (by decide) (by decide) (by decide)) (by decide) (by decide) (by decide)) (by decide) (by decide) (by decide)) (by decide) (by decide) (by decide)) (RF.o (RF.o (RF.o (RF.o (RF.o (RF.o (RF.o hS_M (by decide) (by decide)) (by decide) (by decide)) (by decide) (by decide)) (by decide) (by decide)) (by decide) (by decide)) (by decide) (by decide)) (by decide) (by decide)) (Kp.o (Kp.o (Kp.o (Kp.o (Kp.o (Kp.o (Kp.o ht_M rfl) rfl) rfl) rfl) rfl) rfl) rfl) (((ju_i _ _ (zne (by decide))).trans ((ju_i _ _ (zne (by decide))).trans ((ju_i _ _ (zne (by decide))).trans (ju_same _ _ _ _)))).trans (by omega)) (fun q => by rw [((ju_i _ _ (zne (by decide))).trans ((ju_i _ _ (zne (by decide))).trans (ju_same _ _ _ _)))] at q; omega) (by rw [((ju_i _ _ (zne (by decide))).trans ((ju_i _ _ (zne (by decide))).trans (ju_same _ _ _ _)))]; omega) (fun a i f598 => ((ju_c _ _ f598).trans ((ju_c _ _ f598).trans ((ju_c _ _ f598).trans ((ju_c _ _ f598).trans ((ju_c _ _ f598).trans ((ju_c _ _ f598).trans ((ju_c _ _ f598).trans rfl)))))))) (fun i g59 g60 g61 g62 g63 g64 g65 => ((ju_i _ _ g64).trans ((ju_i _ _ g63).trans ((ju_i _ _ g60).trans ((ju_i _ _ g65).trans ((ju_i _ _ g62).trans ((ju_i _ _ g61).trans ((ju_i _ _ g59).trans rfl)))))))))
              · exact absurd h145 h183
            · exact absurd h116 h145
          · refine jr.bipush rfl (jbp _ (nlt rfl)) ?_
            refine jr.goto rfl rfl ?_
            refine jr.putf (i := 60) (x := 6) rfl rfl (nlt rfl) rfl (nlt rfl) rfl rfl rfl rfl rfl ?_
            refine jr.aload_n rfl rfl ?_
            refine jr.iload rfl rfl ?_
            refine jr.bipush rfl (jbp _ (nlt rfl)) ?_
            refine jr.icmp_ne rfl rfl (by first | (refine rgb (by assumption) ?_; exact rfl) | omega) (rgl rfl) (fun h145 => ?_) (fun h145 => ?_)
            · refine jr.aload_n rfl rfl ?_
              refine jr.iload_n rfl rfl ?_
              refine jr.aload_n rfl rfl ?_
              refine jr.getf (i := 8) (v := .ref 604) rfl rfl (nlt rfl) rfl (nlt rfl) rfl rfl rfl rfl ?_
              refine jr.iload_n rfl rfl ?_
              obtain ⟨v11, e11⟩ : ∃ z, M 604 h = z := ⟨_, rfl⟩
              have b11 : 0 ≤ v11 ∧ v11 ≤ 400 := by rw [← e11]; exact (by have q := hI_M 604 h (Nat.le_of_ble_eq_true rfl); rw [xri_row rfl rfl] at q; exact q)
              refine jr.iald (i := h) (x := v11) rfl (nlt rfl) rfl (Nat.le_of_ble_eq_true rfl) (by omega) (by omega) ((ju_c _ _ (by decide)).trans ((ju_c _ _ (by decide)).trans ((ju_c _ _ (by decide)).trans ((ju_c _ _ (by decide)).trans ((ju_c _ _ (by decide)).trans e11))))) ?_
              refine jr_v rfl rfl (Or.inl rfl) rfl rfl (nlt rfl) rfl ⟨rfl, Nat.le_of_ble_eq_true rfl, Nat.le_of_ble_eq_true rfl⟩ rfl (jc.deep (r_two (RI.u (RI.u (RI.u (RI.u (RI.u hI_M (a := 598) (i := 59) (show (0 : Int) ≤ _ ∧ _ ≤ (1 : Int) from by omega)) (a := 598) (i := 61) (show (-9223372036854775808 : Int) ≤ _ ∧ _ ≤ (9223372036854775807 : Int) from by omega)) (a := 598) (i := 62) (show (-9223372036854775808 : Int) ≤ _ ∧ _ ≤ (9223372036854775807 : Int) from by omega)) (a := 598) (i := 65) (show (0 : Int) ≤ _ ∧ _ ≤ (11 : Int) from by omega)) (a := 598) (i := 60) (show (0 : Int) ≤ _ ∧ _ ≤ (255 : Int) from by omega)) (RH.o (RH.o (RH.o (RH.o (RH.o hH_M (by decide) (by decide) (by decide)) (by decide) (by decide) (by decide)) (by decide) (by decide) (by decide)) (by decide) (by decide) (by decide)) (by decide) (by decide) (by decide)) (RF.o (RF.o (RF.o (RF.o (RF.o hS_M (by decide) (by decide)) (by decide) (by decide)) (by decide) (by decide)) (by decide) (by decide)) (by decide) (by decide)) (Kp.o (Kp.o (Kp.o (Kp.o (Kp.o ht_M rfl) rfl) rfl) rfl) rfl) (by omega) (by omega)  (fun r12 z12  => ?_)) (Nat.le_of_ble_eq_true rfl))
              refine jr.putf (i := 63) (x := r12) rfl rfl (nlt rfl) rfl (nlt rfl) rfl rfl rfl rfl rfl ?_
              refine jr.aload_n rfl rfl ?_
              refine jr.iload rfl rfl ?_
              refine jr.bipush rfl (jbp _ (nlt rfl)) ?_
              refine jr.icmp_ne rfl rfl (by first | (refine rgb (by assumption) ?_; exact rfl) | omega) (rgl rfl) (fun h183 => ?_) (fun h183 => ?_)
              · refine jr.aload_n rfl rfl ?_
                refine jr.iload_n rfl rfl ?_
                refine jr.aload_n rfl rfl ?_
                refine jr.getf (i := 8) (v := .ref 604) rfl rfl (nlt rfl) rfl (nlt rfl) rfl rfl rfl rfl ?_
                refine jr.iload_n rfl rfl ?_
                refine jr.iald (i := h) (x := v11) rfl (nlt rfl) rfl (Nat.le_of_ble_eq_true rfl) (by omega) (by omega) ((ju_c _ _ (by decide)).trans ((ju_c _ _ (by decide)).trans ((ju_c _ _ (by decide)).trans ((ju_c _ _ (by decide)).trans ((ju_c _ _ (by decide)).trans ((ju_c _ _ (by decide)).trans e11)))))) ?_
                refine jr.iconst rfl ?_
                refine jr.iadd rfl ?_
                refine jr_v rfl rfl (Or.inl rfl) rfl rfl (nlt rfl) rfl ⟨rfl, Nat.le_of_ble_eq_true rfl, Nat.le_of_ble_eq_true rfl⟩ rfl (jc.deep (r_two (RI.u (RI.u (RI.u (RI.u (RI.u (RI.u hI_M (a := 598) (i := 59) (show (0 : Int) ≤ _ ∧ _ ≤ (1 : Int) from by omega)) (a := 598) (i := 61) (show (-9223372036854775808 : Int) ≤ _ ∧ _ ≤ (9223372036854775807 : Int) from by omega)) (a := 598) (i := 62) (show (-9223372036854775808 : Int) ≤ _ ∧ _ ≤ (9223372036854775807 : Int) from by omega)) (a := 598) (i := 65) (show (0 : Int) ≤ _ ∧ _ ≤ (11 : Int) from by omega)) (a := 598) (i := 60) (show (0 : Int) ≤ _ ∧ _ ≤ (255 : Int) from by omega)) (a := 598) (i := 63) (show (0 : Int) ≤ _ ∧ _ ≤ (65535 : Int) from by omega)) (RH.o (RH.o (RH.o (RH.o (RH.o (RH.o hH_M (by decide) (by decide) (by decide)) (by decide) (by decide) (by decide)) (by decide) (by decide) (by decide)) (by decide) (by decide) (by decide)) (by decide) (by decide) (by decide)) (by decide) (by decide) (by decide)) (RF.o (RF.o (RF.o (RF.o (RF.o (RF.o hS_M (by decide) (by decide)) (by decide) (by decide)) (by decide) (by decide)) (by decide) (by decide)) (by decide) (by decide)) (by decide) (by decide)) (Kp.o (Kp.o (Kp.o (Kp.o (Kp.o (Kp.o ht_M rfl) rfl) rfl) rfl) rfl) rfl) (by omega) (by omega)  (fun r13 z13  => ?_)) (Nat.le_of_ble_eq_true rfl))
                refine jr.putf (i := 64) (x := r13) rfl rfl (nlt rfl) rfl (nlt rfl) rfl rfl rfl rfl rfl ?_
                exact jr.vreturn rfl rfl (q _ (RI.u (RI.u (RI.u (RI.u (RI.u (RI.u (RI.u hI_M (a := 598) (i := 59) (show (0 : Int) ≤ _ ∧ _ ≤ (1 : Int) from by omega)) (a := 598) (i := 61) (show (-9223372036854775808 : Int) ≤ _ ∧ _ ≤ (9223372036854775807 : Int) from by omega)) (a := 598) (i := 62) (show (-9223372036854775808 : Int) ≤ _ ∧ _ ≤ (9223372036854775807 : Int) from by omega)) (a := 598) (i := 65) (show (0 : Int) ≤ _ ∧ _ ≤ (11 : Int) from by omega)) (a := 598) (i := 60) (show (0 : Int) ≤ _ ∧ _ ≤ (255 : Int) from by omega)) (a := 598) (i := 63) (show (0 : Int) ≤ _ ∧ _ ≤ (65535 : Int) from by omega)) (a := 598) (i := 64) (show (0 : Int) ≤ _ ∧ _ ≤ (65535 : Int) from by omega)) (RH.o (RH.o (RH.o (RH.o (RH.o (RH.o (RH.o hH_M (by decide) (by decide) (by decide)) (by decide) (by decide) (by decide)) (by decide) (by decide) (by decide)) (by decide) (by decide) (by decide)) (by decide) (by decide) (by decide)) (by decide) (by decide) (by decide)) (by decide) (by decide) (by decide)) (RF.o (RF.o (RF.o (RF.o (RF.o (RF.o (RF.o hS_M (by decide) (by decide)) (by decide) (by decide)) (by decide) (by decide)) (by decide) (by decide)) (by decide) (by decide)) (by decide) (by decide)) (by decide) (by decide)) (Kp.o (Kp.o (Kp.o (Kp.o (Kp.o (Kp.o (Kp.o ht_M rfl) rfl) rfl) rfl) rfl) rfl) rfl) (((ju_i _ _ (zne (by decide))).trans ((ju_i _ _ (zne (by decide))).trans ((ju_i _ _ (zne (by decide))).trans (ju_same _ _ _ _)))).trans (by omega)) (fun q => by rw [((ju_i _ _ (zne (by decide))).trans ((ju_i _ _ (zne (by decide))).trans (ju_same _ _ _ _)))] at q; omega) (by rw [((ju_i _ _ (zne (by decide))).trans ((ju_i _ _ (zne (by decide))).trans (ju_same _ _ _ _)))]; omega) (fun a i f598 => ((ju_c _ _ f598).trans ((ju_c _ _ f598).trans ((ju_c _ _ f598).trans ((ju_c _ _ f598).trans ((ju_c _ _ f598).trans ((ju_c _ _ f598).trans ((ju_c _ _ f598).trans rfl)))))))) (fun i g59 g60 g61 g62 g63 g64 g65 => ((ju_i _ _ g64).trans ((ju_i _ _ g63).trans ((ju_i _ _ g60).trans ((ju_i _ _ g65).trans ((ju_i _ _ g62).trans ((ju_i _ _ g61).trans ((ju_i _ _ g59).trans rfl)))))))))
              · exact absurd (by omega) h183
            · exact absurd (by omega) h145
        · refine jr.iconst rfl ?_
          refine jr.goto rfl rfl ?_
          refine jr.putf (i := 60) (x := 1) rfl rfl (nlt rfl) rfl (nlt rfl) rfl rfl rfl rfl rfl ?_
          refine jr.aload_n rfl rfl ?_
          refine jr.iload rfl rfl ?_
          refine jr.bipush rfl (jbp _ (nlt rfl)) ?_
          refine jr.icmp_ne rfl rfl (by first | (refine rgb (by assumption) ?_; exact rfl) | omega) (rgl rfl) (fun h145 => ?_) (fun h145 => ?_)
          · exact absurd h145 (by omega)
          · refine jr.aload_n rfl rfl ?_
            refine jr.iload_n rfl rfl ?_
            refine jr.aload_n rfl rfl ?_
            refine jr.getf (i := 8) (v := .ref 604) rfl rfl (nlt rfl) rfl (nlt rfl) rfl rfl rfl rfl ?_
            refine jr.iload_n rfl rfl ?_
            obtain ⟨v14, e14⟩ : ∃ z, M 604 h = z := ⟨_, rfl⟩
            have b14 : 0 ≤ v14 ∧ v14 ≤ 400 := by rw [← e14]; exact (by have q := hI_M 604 h (Nat.le_of_ble_eq_true rfl); rw [xri_row rfl rfl] at q; exact q)
            refine jr.iald (i := h) (x := v14) rfl (nlt rfl) rfl (Nat.le_of_ble_eq_true rfl) (by omega) (by omega) ((ju_c _ _ (by decide)).trans ((ju_c _ _ (by decide)).trans ((ju_c _ _ (by decide)).trans ((ju_c _ _ (by decide)).trans ((ju_c _ _ (by decide)).trans e14))))) ?_
            refine jr.iconst rfl ?_
            refine jr.iadd rfl ?_
            refine jr_v rfl rfl (Or.inl rfl) rfl rfl (nlt rfl) rfl ⟨rfl, Nat.le_of_ble_eq_true rfl, Nat.le_of_ble_eq_true rfl⟩ rfl (jc.deep (r_two (RI.u (RI.u (RI.u (RI.u (RI.u hI_M (a := 598) (i := 59) (show (0 : Int) ≤ _ ∧ _ ≤ (1 : Int) from by omega)) (a := 598) (i := 61) (show (-9223372036854775808 : Int) ≤ _ ∧ _ ≤ (9223372036854775807 : Int) from by omega)) (a := 598) (i := 62) (show (-9223372036854775808 : Int) ≤ _ ∧ _ ≤ (9223372036854775807 : Int) from by omega)) (a := 598) (i := 65) (show (0 : Int) ≤ _ ∧ _ ≤ (11 : Int) from by omega)) (a := 598) (i := 60) (show (0 : Int) ≤ _ ∧ _ ≤ (255 : Int) from by omega)) (RH.o (RH.o (RH.o (RH.o (RH.o hH_M (by decide) (by decide) (by decide)) (by decide) (by decide) (by decide)) (by decide) (by decide) (by decide)) (by decide) (by decide) (by decide)) (by decide) (by decide) (by decide)) (RF.o (RF.o (RF.o (RF.o (RF.o hS_M (by decide) (by decide)) (by decide) (by decide)) (by decide) (by decide)) (by decide) (by decide)) (by decide) (by decide)) (Kp.o (Kp.o (Kp.o (Kp.o (Kp.o ht_M rfl) rfl) rfl) rfl) rfl) (by omega) (by omega)  (fun r15 z15  => ?_)) (Nat.le_of_ble_eq_true rfl))
            refine jr.goto rfl rfl ?_
            refine jr.putf (i := 63) (x := r15) rfl rfl (nlt rfl) rfl (nlt rfl) rfl rfl rfl rfl rfl ?_
            refine jr.aload_n rfl rfl ?_
            refine jr.iload rfl rfl ?_
            refine jr.bipush rfl (jbp _ (nlt rfl)) ?_
            refine jr.icmp_ne rfl rfl (by first | (refine rgb (by assumption) ?_; exact rfl) | omega) (rgl rfl) (fun h183 => ?_) (fun h183 => ?_)
            · exact absurd h183 (by omega)
            · refine jr.aload_n rfl rfl ?_
              refine jr.getf (i := 63) (x := r15) (v := .int (Int32.ofInt (r15))) rfl rfl (nlt rfl) rfl (nlt rfl) rfl rfl (ju_same _ _ _ _) rfl ?_
              refine jr.goto rfl rfl ?_
              refine jr.putf (i := 64) (x := r15) rfl rfl (nlt rfl) rfl (nlt rfl) rfl rfl rfl rfl rfl ?_
              exact jr.vreturn rfl rfl (q _ (RI.u (RI.u (RI.u (RI.u (RI.u (RI.u (RI.u hI_M (a := 598) (i := 59) (show (0 : Int) ≤ _ ∧ _ ≤ (1 : Int) from by omega)) (a := 598) (i := 61) (show (-9223372036854775808 : Int) ≤ _ ∧ _ ≤ (9223372036854775807 : Int) from by omega)) (a := 598) (i := 62) (show (-9223372036854775808 : Int) ≤ _ ∧ _ ≤ (9223372036854775807 : Int) from by omega)) (a := 598) (i := 65) (show (0 : Int) ≤ _ ∧ _ ≤ (11 : Int) from by omega)) (a := 598) (i := 60) (show (0 : Int) ≤ _ ∧ _ ≤ (255 : Int) from by omega)) (a := 598) (i := 63) (show (0 : Int) ≤ _ ∧ _ ≤ (65535 : Int) from by omega)) (a := 598) (i := 64) (show (0 : Int) ≤ _ ∧ _ ≤ (65535 : Int) from by omega)) (RH.o (RH.o (RH.o (RH.o (RH.o (RH.o (RH.o hH_M (by decide) (by decide) (by decide)) (by decide) (by decide) (by decide)) (by decide) (by decide) (by decide)) (by decide) (by decide) (by decide)) (by decide) (by decide) (by decide)) (by decide) (by decide) (by decide)) (by decide) (by decide) (by decide)) (RF.o (RF.o (RF.o (RF.o (RF.o (RF.o (RF.o hS_M (by decide) (by decide)) (by decide) (by decide)) (by decide) (by decide)) (by decide) (by decide)) (by decide) (by decide)) (by decide) (by decide)) (by decide) (by decide)) (Kp.o (Kp.o (Kp.o (Kp.o (Kp.o (Kp.o (Kp.o ht_M rfl) rfl) rfl) rfl) rfl) rfl) rfl) (((ju_i _ _ (zne (by decide))).trans ((ju_i _ _ (zne (by decide))).trans ((ju_i _ _ (zne (by decide))).trans (ju_same _ _ _ _)))).trans (by omega)) (fun q => by rw [((ju_i _ _ (zne (by decide))).trans ((ju_i _ _ (zne (by decide))).trans (ju_same _ _ _ _)))] at q; omega) (by rw [((ju_i _ _ (zne (by decide))).trans ((ju_i _ _ (zne (by decide))).trans (ju_same _ _ _ _)))]; omega) (fun a i f598 => ((ju_c _ _ f598).trans ((ju_c _ _ f598).trans ((ju_c _ _ f598).trans ((ju_c _ _ f598).trans ((ju_c _ _ f598).trans ((ju_c _ _ f598).trans ((ju_c _ _ f598).trans rfl)))))))) (fun i g59 g60 g61 g62 g63 g64 g65 => ((ju_i _ _ g64).trans ((ju_i _ _ g63).trans ((ju_i _ _ g60).trans ((ju_i _ _ g65).trans ((ju_i _ _ g62).trans ((ju_i _ _ g61).trans ((ju_i _ _ g59).trans rfl)))))))))
      · exact absurd (by omega) h63
    · refine jr.aload_n rfl rfl ?_
      refine jr.iload_n rfl rfl ?_
      refine jr.aload_n rfl rfl ?_
      refine jr.getf (i := 8) (v := .ref 604) rfl rfl (nlt rfl) rfl (nlt rfl) rfl rfl rfl rfl ?_
      refine jr.iload_n rfl rfl ?_
      obtain ⟨v16, e16⟩ : ∃ z, M 604 t = z := ⟨_, rfl⟩
      have b16 : 0 ≤ v16 ∧ v16 ≤ 400 := by rw [← e16]; exact (by have q := hI_M 604 t (Nat.le_of_ble_eq_true rfl); rw [xri_row rfl rfl] at q; exact q)
      refine jr.iald (i := t) (x := v16) rfl (nlt rfl) rfl (Nat.le_of_ble_eq_true rfl) (by omega) (by omega) ((ju_c _ _ (by decide)).trans e16) ?_
      refine jr.iconst rfl ?_
      refine jr_v rfl rfl (Or.inl rfl) rfl rfl (nlt rfl) rfl ⟨rfl, Nat.le_of_ble_eq_true rfl, Nat.le_of_ble_eq_true rfl⟩ rfl (jc.deep (r_ofSix (RI.u hI_M (a := 598) (i := 59) (show (0 : Int) ≤ _ ∧ _ ≤ (1 : Int) from by omega)) (RH.o hH_M (by decide) (by decide) (by decide)) (RF.o hS_M (by decide) (by decide)) (Kp.o ht_M rfl) (by omega) (by omega) (by omega)  (fun r17 z17  => ?_)) (Nat.le_of_ble_eq_true rfl))
      refine jr.goto rfl rfl ?_
      refine jr.putf (i := 61) (x := r17) rfl rfl (nlt rfl) rfl (nlt rfl) rfl rfl rfl rfl rfl ?_
      refine jr.aload_n rfl rfl ?_
      refine jr.aload_n rfl rfl ?_
      refine jr.getf (i := 59) (x := 0) (v := .int (Int32.ofInt (0))) rfl rfl (nlt rfl) rfl (nlt rfl) rfl rfl ((ju_i _ _ (zne (by decide))).trans (ju_same _ _ _ _)) rfl ?_
      refine jr.if_eq rfl rfl (by first | (refine rgb (by assumption) ?_; exact rfl) | omega) (fun h63 => ?_) (fun h63 => ?_)
      · exact absurd h63 h24
      · refine jr.aload_n rfl rfl ?_
        refine jr.iload_n rfl rfl ?_
        refine jr.aload_n rfl rfl ?_
        refine jr.getf (i := 8) (v := .ref 604) rfl rfl (nlt rfl) rfl (nlt rfl) rfl rfl rfl rfl ?_
        refine jr.iload_n rfl rfl ?_
        refine jr.iald (i := t) (x := v16) rfl (nlt rfl) rfl (Nat.le_of_ble_eq_true rfl) (by omega) (by omega) ((ju_c _ _ (by decide)).trans ((ju_c _ _ (by decide)).trans e16)) ?_
        refine jr.bipush rfl (jbp _ (nlt rfl)) ?_
        refine jr_v rfl rfl (Or.inl rfl) rfl rfl (nlt rfl) rfl ⟨rfl, Nat.le_of_ble_eq_true rfl, Nat.le_of_ble_eq_true rfl⟩ rfl (jc.deep (r_ofSix (RI.u (RI.u hI_M (a := 598) (i := 59) (show (0 : Int) ≤ _ ∧ _ ≤ (1 : Int) from by omega)) (a := 598) (i := 61) (show (-9223372036854775808 : Int) ≤ _ ∧ _ ≤ (9223372036854775807 : Int) from by omega)) (RH.o (RH.o hH_M (by decide) (by decide) (by decide)) (by decide) (by decide) (by decide)) (RF.o (RF.o hS_M (by decide) (by decide)) (by decide) (by decide)) (Kp.o (Kp.o ht_M rfl) rfl) (by omega) (by omega) (by omega)  (fun r30 z30  => ?_)) (Nat.le_of_ble_eq_true rfl))
        refine jr.goto rfl rfl ?_
        refine jr.putf (i := 62) (x := r30) rfl rfl (nlt rfl) rfl (nlt rfl) rfl rfl rfl rfl rfl ?_
        refine jr.aload_n rfl rfl ?_
        refine jr.getf (i := 7) (v := .ref 603) rfl rfl (nlt rfl) rfl (nlt rfl) rfl rfl rfl rfl ?_
        refine jr.iload_n rfl rfl ?_
        obtain ⟨v31, e31⟩ : ∃ z, M 603 h = z := ⟨_, rfl⟩
        have b31 : 0 ≤ v31 ∧ v31 ≤ 11 := by rw [← e31]; exact (by have q := hI_M 603 h (Nat.le_of_ble_eq_true rfl); rw [xri_row rfl rfl] at q; exact q)
        refine jr.iald (i := h) (x := v31) rfl (nlt rfl) rfl (Nat.le_of_ble_eq_true rfl) (by omega) (by omega) ((ju_c _ _ (by decide)).trans ((ju_c _ _ (by decide)).trans ((ju_c _ _ (by decide)).trans e31))) ?_
        refine jr.istore (ls' := [_, _, _, _, _]) rfl (nlt rfl) rfl ?_
        refine jr.aload_n rfl rfl ?_
        refine jr.iload_n rfl rfl ?_
        refine jr.putf (i := 65) (x := h) rfl rfl (nlt rfl) rfl (nlt rfl) rfl rfl rfl rfl rfl ?_
        refine jr.aload_n rfl rfl ?_
        refine jr.iload rfl rfl ?_
        refine jr.bipush rfl (jbp _ (nlt rfl)) ?_
        refine jr.icmp_ne rfl rfl (by first | (refine rgb (by assumption) ?_; exact rfl) | omega) (rgl rfl) (fun h116 => ?_) (fun h116 => ?_)
        · refine jr.iload rfl rfl ?_
          refine jr.bipush rfl (jbp _ (nlt rfl)) ?_
          refine jr.icmp_ne rfl rfl (by first | (refine rgb (by assumption) ?_; exact rfl) | omega) (rgl rfl) (fun h127 => ?_) (fun h127 => ?_)
          · refine jr.bipush rfl (jbp _ (nlt rfl)) ?_
            refine jr.putf (i := 60) (x := 17) rfl rfl (nlt rfl) rfl (nlt rfl) rfl rfl rfl rfl rfl ?_
            refine jr.aload_n rfl rfl ?_
            refine jr.iload rfl rfl ?_
            refine jr.bipush rfl (jbp _ (nlt rfl)) ?_
            refine jr.icmp_ne rfl rfl (by first | (refine rgb (by assumption) ?_; exact rfl) | omega) (rgl rfl) (fun h145 => ?_) (fun h145 => ?_)
            · refine jr.aload_n rfl rfl ?_
              refine jr.iload_n rfl rfl ?_
              refine jr.aload_n rfl rfl ?_
              refine jr.getf (i := 8) (v := .ref 604) rfl rfl (nlt rfl) rfl (nlt rfl) rfl rfl rfl rfl ?_
              refine jr.iload_n rfl rfl ?_
              obtain ⟨v32, e32⟩ : ∃ z, M 604 h = z := ⟨_, rfl⟩
              have b32 : 0 ≤ v32 ∧ v32 ≤ 400 := by rw [← e32]; exact (by have q := hI_M 604 h (Nat.le_of_ble_eq_true rfl); rw [xri_row rfl rfl] at q; exact q)
              refine jr.iald (i := h) (x := v32) rfl (nlt rfl) rfl (Nat.le_of_ble_eq_true rfl) (by omega) (by omega) ((ju_c _ _ (by decide)).trans ((ju_c _ _ (by decide)).trans ((ju_c _ _ (by decide)).trans ((ju_c _ _ (by decide)).trans ((ju_c _ _ (by decide)).trans e32))))) ?_
              refine jr_v rfl rfl (Or.inl rfl) rfl rfl (nlt rfl) rfl ⟨rfl, Nat.le_of_ble_eq_true rfl, Nat.le_of_ble_eq_true rfl⟩ rfl (jc.deep (r_two (RI.u (RI.u (RI.u (RI.u (RI.u hI_M (a := 598) (i := 59) (show (0 : Int) ≤ _ ∧ _ ≤ (1 : Int) from by omega)) (a := 598) (i := 61) (show (-9223372036854775808 : Int) ≤ _ ∧ _ ≤ (9223372036854775807 : Int) from by omega)) (a := 598) (i := 62) (show (-9223372036854775808 : Int) ≤ _ ∧ _ ≤ (9223372036854775807 : Int) from by omega)) (a := 598) (i := 65) (show (0 : Int) ≤ _ ∧ _ ≤ (11 : Int) from by omega)) (a := 598) (i := 60) (show (0 : Int) ≤ _ ∧ _ ≤ (255 : Int) from by omega)) (RH.o (RH.o (RH.o (RH.o (RH.o hH_M (by decide) (by decide) (by decide)) (by decide) (by decide) (by decide)) (by decide) (by decide) (by decide)) (by decide) (by decide) (by decide)) (by decide) (by decide) (by decide)) (RF.o (RF.o (RF.o (RF.o (RF.o hS_M (by decide) (by decide)) (by decide) (by decide)) (by decide) (by decide)) (by decide) (by decide)) (by decide) (by decide)) (Kp.o (Kp.o (Kp.o (Kp.o (Kp.o ht_M rfl) rfl) rfl) rfl) rfl) (by omega) (by omega)  (fun r33 z33  => ?_)) (Nat.le_of_ble_eq_true rfl))
              refine jr.putf (i := 63) (x := r33) rfl rfl (nlt rfl) rfl (nlt rfl) rfl rfl rfl rfl rfl ?_
              refine jr.aload_n rfl rfl ?_
              refine jr.iload rfl rfl ?_
              refine jr.bipush rfl (jbp _ (nlt rfl)) ?_
              refine jr.icmp_ne rfl rfl (by first | (refine rgb (by assumption) ?_; exact rfl) | omega) (rgl rfl) (fun h183 => ?_) (fun h183 => ?_)
              · refine jr.aload_n rfl rfl ?_
                refine jr.iload_n rfl rfl ?_
                refine jr.aload_n rfl rfl ?_
                refine jr.getf (i := 8) (v := .ref 604) rfl rfl (nlt rfl) rfl (nlt rfl) rfl rfl rfl rfl ?_
                refine jr.iload_n rfl rfl ?_
                refine jr.iald (i := h) (x := v32) rfl (nlt rfl) rfl (Nat.le_of_ble_eq_true rfl) (by omega) (by omega) ((ju_c _ _ (by decide)).trans ((ju_c _ _ (by decide)).trans ((ju_c _ _ (by decide)).trans ((ju_c _ _ (by decide)).trans ((ju_c _ _ (by decide)).trans ((ju_c _ _ (by decide)).trans e32)))))) ?_
                refine jr.iconst rfl ?_
                refine jr.iadd rfl ?_
                refine jr_v rfl rfl (Or.inl rfl) rfl rfl (nlt rfl) rfl ⟨rfl, Nat.le_of_ble_eq_true rfl, Nat.le_of_ble_eq_true rfl⟩ rfl (jc.deep (r_two (RI.u (RI.u (RI.u (RI.u (RI.u (RI.u hI_M (a := 598) (i := 59) (show (0 : Int) ≤ _ ∧ _ ≤ (1 : Int) from by omega)) (a := 598) (i := 61) (show (-9223372036854775808 : Int) ≤ _ ∧ _ ≤ (9223372036854775807 : Int) from by omega)) (a := 598) (i := 62) (show (-9223372036854775808 : Int) ≤ _ ∧ _ ≤ (9223372036854775807 : Int) from by omega)) (a := 598) (i := 65) (show (0 : Int) ≤ _ ∧ _ ≤ (11 : Int) from by omega)) (a := 598) (i := 60) (show (0 : Int) ≤ _ ∧ _ ≤ (255 : Int) from by omega)) (a := 598) (i := 63) (show (0 : Int) ≤ _ ∧ _ ≤ (65535 : Int) from by omega)) (RH.o (RH.o (RH.o (RH.o (RH.o (RH.o hH_M (by decide) (by decide) (by decide)) (by decide) (by decide) (by decide)) (by decide) (by decide) (by decide)) (by decide) (by decide) (by decide)) (by decide) (by decide) (by decide)) (by decide) (by decide) (by decide)) (RF.o (RF.o (RF.o (RF.o (RF.o (RF.o hS_M (by decide) (by decide)) (by decide) (by decide)) (by decide) (by decide)) (by decide) (by decide)) (by decide) (by decide)) (by decide) (by decide)) (Kp.o (Kp.o (Kp.o (Kp.o (Kp.o (Kp.o ht_M rfl) rfl) rfl) rfl) rfl) rfl) (by omega) (by omega)  (fun r34 z34  => ?_)) (Nat.le_of_ble_eq_true rfl))
                refine jr.putf (i := 64) (x := r34) rfl rfl (nlt rfl) rfl (nlt rfl) rfl rfl rfl rfl rfl ?_
                exact jr.vreturn rfl rfl (q _ (RI.u (RI.u (RI.u (RI.u (RI.u (RI.u (RI.u hI_M (a := 598) (i := 59) (show (0 : Int) ≤ _ ∧ _ ≤ (1 : Int) from by omega)) (a := 598) (i := 61) (show (-9223372036854775808 : Int) ≤ _ ∧ _ ≤ (9223372036854775807 : Int) from by omega)) (a := 598) (i := 62) (show (-9223372036854775808 : Int) ≤ _ ∧ _ ≤ (9223372036854775807 : Int) from by omega)) (a := 598) (i := 65) (show (0 : Int) ≤ _ ∧ _ ≤ (11 : Int) from by omega)) (a := 598) (i := 60) (show (0 : Int) ≤ _ ∧ _ ≤ (255 : Int) from by omega)) (a := 598) (i := 63) (show (0 : Int) ≤ _ ∧ _ ≤ (65535 : Int) from by omega)) (a := 598) (i := 64) (show (0 : Int) ≤ _ ∧ _ ≤ (65535 : Int) from by omega)) (RH.o (RH.o (RH.o (RH.o (RH.o (RH.o (RH.o hH_M (by decide) (by decide) (by decide)) (by decide) (by decide) (by decide)) (by decide) (by decide) (by decide)) (by decide) (by decide) (by decide)) (by decide) (by decide) (by decide)) (by decide) (by decide) (by decide)) (by decide) (by decide) (by decide)) (RF.o (RF.o (RF.o (RF.o (RF.o (RF.o (RF.o hS_M (by decide) (by decide)) (by decide) (by decide)) (by decide) (by decide)) (by decide) (by decide)) (by decide) (by decide)) (by decide) (by decide)) (by decide) (by decide)) (Kp.o (Kp.o (Kp.o (Kp.o (Kp.o (Kp.o (Kp.o ht_M rfl) rfl) rfl) rfl) rfl) rfl) rfl) (((ju_i _ _ (zne (by decide))).trans ((ju_i _ _ (zne (by decide))).trans ((ju_i _ _ (zne (by decide))).trans (ju_same _ _ _ _)))).trans (by omega)) (fun q => by rw [((ju_i _ _ (zne (by decide))).trans ((ju_i _ _ (zne (by decide))).trans (ju_same _ _ _ _)))] at q; omega) (by rw [((ju_i _ _ (zne (by decide))).trans ((ju_i _ _ (zne (by decide))).trans (ju_same _ _ _ _)))]; omega) (fun a i f598 => ((ju_c _ _ f598).trans ((ju_c _ _ f598).trans ((ju_c _ _ f598).trans ((ju_c _ _ f598).trans ((ju_c _ _ f598).trans ((ju_c _ _ f598).trans ((ju_c _ _ f598).trans rfl)))))))) (fun i g59 g60 g61 g62 g63 g64 g65 => ((ju_i _ _ g64).trans ((ju_i _ _ g63).trans ((ju_i _ _ g60).trans ((ju_i _ _ g65).trans ((ju_i _ _ g62).trans ((ju_i _ _ g61).trans ((ju_i _ _ g59).trans rfl)))))))))
              · exact absurd h145 h183
            · exact absurd h116 h145
          · refine jr.bipush rfl (jbp _ (nlt rfl)) ?_
            refine jr.goto rfl rfl ?_
            refine jr.putf (i := 60) (x := 6) rfl rfl (nlt rfl) rfl (nlt rfl) rfl rfl rfl rfl rfl ?_
            refine jr.aload_n rfl rfl ?_
            refine jr.iload rfl rfl ?_
            refine jr.bipush rfl (jbp _ (nlt rfl)) ?_
            refine jr.icmp_ne rfl rfl (by first | (refine rgb (by assumption) ?_; exact rfl) | omega) (rgl rfl) (fun h145 => ?_) (fun h145 => ?_)
            · refine jr.aload_n rfl rfl ?_
              refine jr.iload_n rfl rfl ?_
              refine jr.aload_n rfl rfl ?_
              refine jr.getf (i := 8) (v := .ref 604) rfl rfl (nlt rfl) rfl (nlt rfl) rfl rfl rfl rfl ?_
              refine jr.iload_n rfl rfl ?_
              obtain ⟨v37, e37⟩ : ∃ z, M 604 h = z := ⟨_, rfl⟩
              have b37 : 0 ≤ v37 ∧ v37 ≤ 400 := by rw [← e37]; exact (by have q := hI_M 604 h (Nat.le_of_ble_eq_true rfl); rw [xri_row rfl rfl] at q; exact q)
              refine jr.iald (i := h) (x := v37) rfl (nlt rfl) rfl (Nat.le_of_ble_eq_true rfl) (by omega) (by omega) ((ju_c _ _ (by decide)).trans ((ju_c _ _ (by decide)).trans ((ju_c _ _ (by decide)).trans ((ju_c _ _ (by decide)).trans ((ju_c _ _ (by decide)).trans e37))))) ?_
              refine jr_v rfl rfl (Or.inl rfl) rfl rfl (nlt rfl) rfl ⟨rfl, Nat.le_of_ble_eq_true rfl, Nat.le_of_ble_eq_true rfl⟩ rfl (jc.deep (r_two (RI.u (RI.u (RI.u (RI.u (RI.u hI_M (a := 598) (i := 59) (show (0 : Int) ≤ _ ∧ _ ≤ (1 : Int) from by omega)) (a := 598) (i := 61) (show (-9223372036854775808 : Int) ≤ _ ∧ _ ≤ (9223372036854775807 : Int) from by omega)) (a := 598) (i := 62) (show (-9223372036854775808 : Int) ≤ _ ∧ _ ≤ (9223372036854775807 : Int) from by omega)) (a := 598) (i := 65) (show (0 : Int) ≤ _ ∧ _ ≤ (11 : Int) from by omega)) (a := 598) (i := 60) (show (0 : Int) ≤ _ ∧ _ ≤ (255 : Int) from by omega)) (RH.o (RH.o (RH.o (RH.o (RH.o hH_M (by decide) (by decide) (by decide)) (by decide) (by decide) (by decide)) (by decide) (by decide) (by decide)) (by decide) (by decide) (by decide)) (by decide) (by decide) (by decide)) (RF.o (RF.o (RF.o (RF.o (RF.o hS_M (by decide) (by decide)) (by decide) (by decide)) (by decide) (by decide)) (by decide) (by decide)) (by decide) (by decide)) (Kp.o (Kp.o (Kp.o (Kp.o (Kp.o ht_M rfl) rfl) rfl) rfl) rfl) (by omega) (by omega)  (fun r38 z38  => ?_)) (Nat.le_of_ble_eq_true rfl))
              refine jr.putf (i := 63) (x := r38) rfl rfl (nlt rfl) rfl (nlt rfl) rfl rfl rfl rfl rfl ?_
              refine jr.aload_n rfl rfl ?_
              refine jr.iload rfl rfl ?_
              refine jr.bipush rfl (jbp _ (nlt rfl)) ?_
              refine jr.icmp_ne rfl rfl (by first | (refine rgb (by assumption) ?_; exact rfl) | omega) (rgl rfl) (fun h183 => ?_) (fun h183 => ?_)
              · refine jr.aload_n rfl rfl ?_
                refine jr.iload_n rfl rfl ?_
                refine jr.aload_n rfl rfl ?_
                refine jr.getf (i := 8) (v := .ref 604) rfl rfl (nlt rfl) rfl (nlt rfl) rfl rfl rfl rfl ?_
                refine jr.iload_n rfl rfl ?_
                refine jr.iald (i := h) (x := v37) rfl (nlt rfl) rfl (Nat.le_of_ble_eq_true rfl) (by omega) (by omega) ((ju_c _ _ (by decide)).trans ((ju_c _ _ (by decide)).trans ((ju_c _ _ (by decide)).trans ((ju_c _ _ (by decide)).trans ((ju_c _ _ (by decide)).trans ((ju_c _ _ (by decide)).trans e37)))))) ?_
                refine jr.iconst rfl ?_
                refine jr.iadd rfl ?_
                refine jr_v rfl rfl (Or.inl rfl) rfl rfl (nlt rfl) rfl ⟨rfl, Nat.le_of_ble_eq_true rfl, Nat.le_of_ble_eq_true rfl⟩ rfl (jc.deep (r_two (RI.u (RI.u (RI.u (RI.u (RI.u (RI.u hI_M (a := 598) (i := 59) (show (0 : Int) ≤ _ ∧ _ ≤ (1 : Int) from by omega)) (a := 598) (i := 61) (show (-9223372036854775808 : Int) ≤ _ ∧ _ ≤ (9223372036854775807 : Int) from by omega)) (a := 598) (i := 62) (show (-9223372036854775808 : Int) ≤ _ ∧ _ ≤ (9223372036854775807 : Int) from by omega)) (a := 598) (i := 65) (show (0 : Int) ≤ _ ∧ _ ≤ (11 : Int) from by omega)) (a := 598) (i := 60) (show (0 : Int) ≤ _ ∧ _ ≤ (255 : Int) from by omega)) (a := 598) (i := 63) (show (0 : Int) ≤ _ ∧ _ ≤ (65535 : Int) from by omega)) (RH.o (RH.o (RH.o (RH.o (RH.o (RH.o hH_M (by decide) (by decide) (by decide)) (by decide) (by decide) (by decide)) (by decide) (by decide) (by decide)) (by decide) (by decide) (by decide)) (by decide) (by decide) (by decide)) (by decide) (by decide) (by decide)) (RF.o (RF.o (RF.o (RF.o (RF.o (RF.o hS_M (by decide) (by decide)) (by decide) (by decide)) (by decide) (by decide)) (by decide) (by decide)) (by decide) (by decide)) (by decide) (by decide)) (Kp.o (Kp.o (Kp.o (Kp.o (Kp.o (Kp.o ht_M rfl) rfl) rfl) rfl) rfl) rfl) (by omega) (by omega)  (fun r39 z39  => ?_)) (Nat.le_of_ble_eq_true rfl))
                refine jr.putf (i := 64) (x := r39) rfl rfl (nlt rfl) rfl (nlt rfl) rfl rfl rfl rfl rfl ?_
                exact jr.vreturn rfl rfl (q _ (RI.u (RI.u (RI.u (RI.u (RI.u (RI.u (RI.u hI_M (a := 598) (i := 59) (show (0 : Int) ≤ _ ∧ _ ≤ (1 : Int) from by omega)) (a := 598) (i := 61) (show (-9223372036854775808 : Int) ≤ _ ∧ _ ≤ (9223372036854775807 : Int) from by omega)) (a := 598) (i := 62) (show (-9223372036854775808 : Int) ≤ _ ∧ _ ≤ (9223372036854775807 : Int) from by omega)) (a := 598) (i := 65) (show (0 : Int) ≤ _ ∧ _ ≤ (11 : Int) from by omega)) (a := 598) (i := 60) (show (0 : Int) ≤ _ ∧ _ ≤ (255 : Int) from by omega)) (a := 598) (i := 63) (show (0 : Int) ≤ _ ∧ _ ≤ (65535 : Int) from by omega)) (a := 598) (i := 64) (show (0 : Int) ≤ _ ∧ _ ≤ (65535 : Int) from by omega)) (RH.o (RH.o (RH.o (RH.o (RH.o (RH.o (RH.o hH_M (by decide) (by decide) (by decide)) (by decide) (by decide) (by decide)) (by decide) (by decide) (by decide)) (by decide) (by decide) (by decide)) (by decide) (by decide) (by decide)) (by decide) (by decide) (by decide)) (by decide) (by decide) (by decide)) (RF.o (RF.o (RF.o (RF.o (RF.o (RF.o (RF.o hS_M (by decide) (by decide)) (by decide) (by decide)) (by decide) (by decide)) (by decide) (by decide)) (by decide) (by decide)) (by decide) (by decide)) (by decide) (by decide)) (Kp.o (Kp.o (Kp.o (Kp.o (Kp.o (Kp.o (Kp.o ht_M rfl) rfl) rfl) rfl) rfl) rfl) rfl) (((ju_i _ _ (zne (by decide))).trans ((ju_i _ _ (zne (by decide))).trans ((ju_i _ _ (zne (by decide))).trans (ju_same _ _ _ _)))).trans (by omega)) (fun q => by rw [((ju_i _ _ (zne (by decide))).trans ((ju_i _ _ (zne (by decide))).trans (ju_same _ _ _ _)))] at q; omega) (by rw [((ju_i _ _ (zne (by decide))).trans ((ju_i _ _ (zne (by decide))).trans (ju_same _ _ _ _)))]; omega) (fun a i f598 => ((ju_c _ _ f598).trans ((ju_c _ _ f598).trans ((ju_c _ _ f598).trans ((ju_c _ _ f598).trans ((ju_c _ _ f598).trans ((ju_c _ _ f598).trans ((ju_c _ _ f598).trans rfl)))))))) (fun i g59 g60 g61 g62 g63 g64 g65 => ((ju_i _ _ g64).trans ((ju_i _ _ g63).trans ((ju_i _ _ g60).trans ((ju_i _ _ g65).trans ((ju_i _ _ g62).trans ((ju_i _ _ g61).trans ((ju_i _ _ g59).trans rfl)))))))))
              · exact absurd (by omega) h183
            · exact absurd (by omega) h145
        · refine jr.iconst rfl ?_
          refine jr.goto rfl rfl ?_
          refine jr.putf (i := 60) (x := 1) rfl rfl (nlt rfl) rfl (nlt rfl) rfl rfl rfl rfl rfl ?_
          refine jr.aload_n rfl rfl ?_
          refine jr.iload rfl rfl ?_
          refine jr.bipush rfl (jbp _ (nlt rfl)) ?_
          refine jr.icmp_ne rfl rfl (by first | (refine rgb (by assumption) ?_; exact rfl) | omega) (rgl rfl) (fun h145 => ?_) (fun h145 => ?_)
          · exact absurd h145 (by omega)
          · refine jr.aload_n rfl rfl ?_
            refine jr.iload_n rfl rfl ?_
            refine jr.aload_n rfl rfl ?_
            refine jr.getf (i := 8) (v := .ref 604) rfl rfl (nlt rfl) rfl (nlt rfl) rfl rfl rfl rfl ?_
            refine jr.iload_n rfl rfl ?_
            obtain ⟨v40, e40⟩ : ∃ z, M 604 h = z := ⟨_, rfl⟩
            have b40 : 0 ≤ v40 ∧ v40 ≤ 400 := by rw [← e40]; exact (by have q := hI_M 604 h (Nat.le_of_ble_eq_true rfl); rw [xri_row rfl rfl] at q; exact q)
            refine jr.iald (i := h) (x := v40) rfl (nlt rfl) rfl (Nat.le_of_ble_eq_true rfl) (by omega) (by omega) ((ju_c _ _ (by decide)).trans ((ju_c _ _ (by decide)).trans ((ju_c _ _ (by decide)).trans ((ju_c _ _ (by decide)).trans ((ju_c _ _ (by decide)).trans e40))))) ?_
            refine jr.iconst rfl ?_
            refine jr.iadd rfl ?_
            refine jr_v rfl rfl (Or.inl rfl) rfl rfl (nlt rfl) rfl ⟨rfl, Nat.le_of_ble_eq_true rfl, Nat.le_of_ble_eq_true rfl⟩ rfl (jc.deep (r_two (RI.u (RI.u (RI.u (RI.u (RI.u hI_M (a := 598) (i := 59) (show (0 : Int) ≤ _ ∧ _ ≤ (1 : Int) from by omega)) (a := 598) (i := 61) (show (-9223372036854775808 : Int) ≤ _ ∧ _ ≤ (9223372036854775807 : Int) from by omega)) (a := 598) (i := 62) (show (-9223372036854775808 : Int) ≤ _ ∧ _ ≤ (9223372036854775807 : Int) from by omega)) (a := 598) (i := 65) (show (0 : Int) ≤ _ ∧ _ ≤ (11 : Int) from by omega)) (a := 598) (i := 60) (show (0 : Int) ≤ _ ∧ _ ≤ (255 : Int) from by omega)) (RH.o (RH.o (RH.o (RH.o (RH.o hH_M (by decide) (by decide) (by decide)) (by decide) (by decide) (by decide)) (by decide) (by decide) (by decide)) (by decide) (by decide) (by decide)) (by decide) (by decide) (by decide)) (RF.o (RF.o (RF.o (RF.o (RF.o hS_M (by decide) (by decide)) (by decide) (by decide)) (by decide) (by decide)) (by decide) (by decide)) (by decide) (by decide)) (Kp.o (Kp.o (Kp.o (Kp.o (Kp.o ht_M rfl) rfl) rfl) rfl) rfl) (by omega) (by omega)  (fun r41 z41  => ?_)) (Nat.le_of_ble_eq_true rfl))
            refine jr.goto rfl rfl ?_
            refine jr.putf (i := 63) (x := r41) rfl rfl (nlt rfl) rfl (nlt rfl) rfl rfl rfl rfl rfl ?_
            refine jr.aload_n rfl rfl ?_
            refine jr.iload rfl rfl ?_
            refine jr.bipush rfl (jbp _ (nlt rfl)) ?_
            refine jr.icmp_ne rfl rfl (by first | (refine rgb (by assumption) ?_; exact rfl) | omega) (rgl rfl) (fun h183 => ?_) (fun h183 => ?_)
            · exact absurd h183 (by omega)
            · refine jr.aload_n rfl rfl ?_
              refine jr.getf (i := 63) (x := r41) (v := .int (Int32.ofInt (r41))) rfl rfl (nlt rfl) rfl (nlt rfl) rfl rfl (ju_same _ _ _ _) rfl ?_
              refine jr.goto rfl rfl ?_
              refine jr.putf (i := 64) (x := r41) rfl rfl (nlt rfl) rfl (nlt rfl) rfl rfl rfl rfl rfl ?_
              exact jr.vreturn rfl rfl (q _ (RI.u (RI.u (RI.u (RI.u (RI.u (RI.u (RI.u hI_M (a := 598) (i := 59) (show (0 : Int) ≤ _ ∧ _ ≤ (1 : Int) from by omega)) (a := 598) (i := 61) (show (-9223372036854775808 : Int) ≤ _ ∧ _ ≤ (9223372036854775807 : Int) from by omega)) (a := 598) (i := 62) (show (-9223372036854775808 : Int) ≤ _ ∧ _ ≤ (9223372036854775807 : Int) from by omega)) (a := 598) (i := 65) (show (0 : Int) ≤ _ ∧ _ ≤ (11 : Int) from by omega)) (a := 598) (i := 60) (show (0 : Int) ≤ _ ∧ _ ≤ (255 : Int) from by omega)) (a := 598) (i := 63) (show (0 : Int) ≤ _ ∧ _ ≤ (65535 : Int) from by omega)) (a := 598) (i := 64) (show (0 : Int) ≤ _ ∧ _ ≤ (65535 : Int) from by omega)) (RH.o (RH.o (RH.o (RH.o (RH.o (RH.o (RH.o hH_M (by decide) (by decide) (by decide)) (by decide) (by decide) (by decide)) (by decide) (by decide) (by decide)) (by decide) (by decide) (by decide)) (by decide) (by decide) (by decide)) (by decide) (by decide) (by decide)) (by decide) (by decide) (by decide)) (RF.o (RF.o (RF.o (RF.o (RF.o (RF.o (RF.o hS_M (by decide) (by decide)) (by decide) (by decide)) (by decide) (by decide)) (by decide) (by decide)) (by decide) (by decide)) (by decide) (by decide)) (by decide) (by decide)) (Kp.o (Kp.o (Kp.o (Kp.o (Kp.o (Kp.o (Kp.o ht_M rfl) rfl) rfl) rfl) rfl) rfl) rfl) (((ju_i _ _ (zne (by decide))).trans ((ju_i _ _ (zne (by decide))).trans ((ju_i _ _ (zne (by decide))).trans (ju_same _ _ _ _)))).trans (by omega)) (fun q => by rw [((ju_i _ _ (zne (by decide))).trans ((ju_i _ _ (zne (by decide))).trans (ju_same _ _ _ _)))] at q; omega) (by rw [((ju_i _ _ (zne (by decide))).trans ((ju_i _ _ (zne (by decide))).trans (ju_same _ _ _ _)))]; omega) (fun a i f598 => ((ju_c _ _ f598).trans ((ju_c _ _ f598).trans ((ju_c _ _ f598).trans ((ju_c _ _ f598).trans ((ju_c _ _ f598).trans ((ju_c _ _ f598).trans ((ju_c _ _ f598).trans rfl)))))))) (fun i g59 g60 g61 g62 g63 g64 g65 => ((ju_i _ _ g64).trans ((ju_i _ _ g63).trans ((ju_i _ _ g60).trans ((ju_i _ _ g65).trans ((ju_i _ _ g62).trans ((ju_i _ _ g61).trans ((ju_i _ _ g59).trans rfl)))))))))
  · refine jr.iconst rfl ?_
    refine jr.goto rfl rfl ?_
    refine jr.putf (i := 59) (x := 1) rfl rfl (nlt rfl) rfl (nlt rfl) rfl rfl rfl rfl rfl ?_
    refine jr.aload_n rfl rfl ?_
    refine jr.aload_n rfl rfl ?_
    refine jr.getf (i := 59) (x := 1) (v := .int (Int32.ofInt (1))) rfl rfl (nlt rfl) rfl (nlt rfl) rfl rfl (ju_same _ _ _ _) rfl ?_
    refine jr.if_eq rfl rfl (by first | (refine rgb (by assumption) ?_; exact rfl) | omega) (fun h24 => ?_) (fun h24 => ?_)
    · refine jr.aload_n rfl rfl ?_
      refine jr.iload_n rfl rfl ?_
      refine jr.aload_n rfl rfl ?_
      refine jr.getf (i := 8) (v := .ref 604) rfl rfl (nlt rfl) rfl (nlt rfl) rfl rfl rfl rfl ?_
      refine jr.iload_n rfl rfl ?_
      obtain ⟨v42, e42⟩ : ∃ z, M 604 t = z := ⟨_, rfl⟩
      have b42 : 0 ≤ v42 ∧ v42 ≤ 400 := by rw [← e42]; exact (by have q := hI_M 604 t (Nat.le_of_ble_eq_true rfl); rw [xri_row rfl rfl] at q; exact q)
      refine jr.iald (i := t) (x := v42) rfl (nlt rfl) rfl (Nat.le_of_ble_eq_true rfl) (by omega) (by omega) ((ju_c _ _ (by decide)).trans e42) ?_
      refine jr.bipush rfl (jbp _ (nlt rfl)) ?_
      refine jr_v rfl rfl (Or.inl rfl) rfl rfl (nlt rfl) rfl ⟨rfl, Nat.le_of_ble_eq_true rfl, Nat.le_of_ble_eq_true rfl⟩ rfl (jc.deep (r_ofFour (RI.u hI_M (a := 598) (i := 59) (show (0 : Int) ≤ _ ∧ _ ≤ (1 : Int) from by omega)) (RH.o hH_M (by decide) (by decide) (by decide)) (RF.o hS_M (by decide) (by decide)) (Kp.o ht_M rfl) (by omega) (by omega) (by omega)  (fun r43 z43 w43_0 => ?_)) (Nat.le_of_ble_eq_true rfl))
      refine jr.putf (i := 61) (x := r43) rfl rfl (nlt rfl) rfl (nlt rfl) rfl rfl rfl rfl rfl ?_
      refine jr.aload_n rfl rfl ?_
      refine jr.aload_n rfl rfl ?_
      refine jr.getf (i := 59) (x := 1) (v := .int (Int32.ofInt (1))) rfl rfl (nlt rfl) rfl (nlt rfl) rfl rfl ((ju_i _ _ (zne (by decide))).trans (ju_same _ _ _ _)) rfl ?_
      refine jr.if_eq rfl rfl (by first | (refine rgb (by assumption) ?_; exact rfl) | omega) (fun h63 => ?_) (fun h63 => ?_)
      · refine jr.aload_n rfl rfl ?_
        refine jr.iload_n rfl rfl ?_
        refine jr.aload_n rfl rfl ?_
        refine jr.getf (i := 8) (v := .ref 604) rfl rfl (nlt rfl) rfl (nlt rfl) rfl rfl rfl rfl ?_
        refine jr.iload_n rfl rfl ?_
        refine jr.iald (i := t) (x := v42) rfl (nlt rfl) rfl (Nat.le_of_ble_eq_true rfl) (by omega) (by omega) ((ju_c _ _ (by decide)).trans ((ju_c _ _ (by decide)).trans e42)) ?_
        refine jr.bipush rfl (jbp _ (nlt rfl)) ?_
        refine jr_v rfl rfl (Or.inl rfl) rfl rfl (nlt rfl) rfl ⟨rfl, Nat.le_of_ble_eq_true rfl, Nat.le_of_ble_eq_true rfl⟩ rfl (jc.deep (r_ofFour (RI.u (RI.u hI_M (a := 598) (i := 59) (show (0 : Int) ≤ _ ∧ _ ≤ (1 : Int) from by omega)) (a := 598) (i := 61) (show (-9223372036854775808 : Int) ≤ _ ∧ _ ≤ (9223372036854775807 : Int) from by omega)) (RH.o (RH.o hH_M (by decide) (by decide) (by decide)) (by decide) (by decide) (by decide)) (RF.o (RF.o hS_M (by decide) (by decide)) (by decide) (by decide)) (Kp.o (Kp.o ht_M rfl) rfl) (by omega) (by omega) (by omega)  (fun r44 z44 w44_0 => ?_)) (Nat.le_of_ble_eq_true rfl))
        refine jr.putf (i := 62) (x := r44) rfl rfl (nlt rfl) rfl (nlt rfl) rfl rfl rfl rfl rfl ?_
        refine jr.aload_n rfl rfl ?_
        refine jr.getf (i := 7) (v := .ref 603) rfl rfl (nlt rfl) rfl (nlt rfl) rfl rfl rfl rfl ?_
        refine jr.iload_n rfl rfl ?_
        obtain ⟨v45, e45⟩ : ∃ z, M 603 h = z := ⟨_, rfl⟩
        have b45 : 0 ≤ v45 ∧ v45 ≤ 11 := by rw [← e45]; exact (by have q := hI_M 603 h (Nat.le_of_ble_eq_true rfl); rw [xri_row rfl rfl] at q; exact q)
        refine jr.iald (i := h) (x := v45) rfl (nlt rfl) rfl (Nat.le_of_ble_eq_true rfl) (by omega) (by omega) ((ju_c _ _ (by decide)).trans ((ju_c _ _ (by decide)).trans ((ju_c _ _ (by decide)).trans e45))) ?_
        refine jr.istore (ls' := [_, _, _, _, _]) rfl (nlt rfl) rfl ?_
        refine jr.aload_n rfl rfl ?_
        refine jr.iload_n rfl rfl ?_
        refine jr.putf (i := 65) (x := h) rfl rfl (nlt rfl) rfl (nlt rfl) rfl rfl rfl rfl rfl ?_
        refine jr.aload_n rfl rfl ?_
        refine jr.iload rfl rfl ?_
        refine jr.bipush rfl (jbp _ (nlt rfl)) ?_
        refine jr.icmp_ne rfl rfl (by first | (refine rgb (by assumption) ?_; exact rfl) | omega) (rgl rfl) (fun h116 => ?_) (fun h116 => ?_)
        · refine jr.iload rfl rfl ?_
          refine jr.bipush rfl (jbp _ (nlt rfl)) ?_
          refine jr.icmp_ne rfl rfl (by first | (refine rgb (by assumption) ?_; exact rfl) | omega) (rgl rfl) (fun h127 => ?_) (fun h127 => ?_)
          · refine jr.bipush rfl (jbp _ (nlt rfl)) ?_
            refine jr.putf (i := 60) (x := 17) rfl rfl (nlt rfl) rfl (nlt rfl) rfl rfl rfl rfl rfl ?_
            refine jr.aload_n rfl rfl ?_
            refine jr.iload rfl rfl ?_
            refine jr.bipush rfl (jbp _ (nlt rfl)) ?_
            refine jr.icmp_ne rfl rfl (by first | (refine rgb (by assumption) ?_; exact rfl) | omega) (rgl rfl) (fun h145 => ?_) (fun h145 => ?_)
            · refine jr.aload_n rfl rfl ?_
              refine jr.iload_n rfl rfl ?_
              refine jr.aload_n rfl rfl ?_
              refine jr.getf (i := 8) (v := .ref 604) rfl rfl (nlt rfl) rfl (nlt rfl) rfl rfl rfl rfl ?_
              refine jr.iload_n rfl rfl ?_
              obtain ⟨v46, e46⟩ : ∃ z, M 604 h = z := ⟨_, rfl⟩
              have b46 : 0 ≤ v46 ∧ v46 ≤ 400 := by rw [← e46]; exact (by have q := hI_M 604 h (Nat.le_of_ble_eq_true rfl); rw [xri_row rfl rfl] at q; exact q)
              refine jr.iald (i := h) (x := v46) rfl (nlt rfl) rfl (Nat.le_of_ble_eq_true rfl) (by omega) (by omega) ((ju_c _ _ (by decide)).trans ((ju_c _ _ (by decide)).trans ((ju_c _ _ (by decide)).trans ((ju_c _ _ (by decide)).trans ((ju_c _ _ (by decide)).trans e46))))) ?_
              refine jr_v rfl rfl (Or.inl rfl) rfl rfl (nlt rfl) rfl ⟨rfl, Nat.le_of_ble_eq_true rfl, Nat.le_of_ble_eq_true rfl⟩ rfl (jc.deep (r_two (RI.u (RI.u (RI.u (RI.u (RI.u hI_M (a := 598) (i := 59) (show (0 : Int) ≤ _ ∧ _ ≤ (1 : Int) from by omega)) (a := 598) (i := 61) (show (-9223372036854775808 : Int) ≤ _ ∧ _ ≤ (9223372036854775807 : Int) from by omega)) (a := 598) (i := 62) (show (-9223372036854775808 : Int) ≤ _ ∧ _ ≤ (9223372036854775807 : Int) from by omega)) (a := 598) (i := 65) (show (0 : Int) ≤ _ ∧ _ ≤ (11 : Int) from by omega)) (a := 598) (i := 60) (show (0 : Int) ≤ _ ∧ _ ≤ (255 : Int) from by omega)) (RH.o (RH.o (RH.o (RH.o (RH.o hH_M (by decide) (by decide) (by decide)) (by decide) (by decide) (by decide)) (by decide) (by decide) (by decide)) (by decide) (by decide) (by decide)) (by decide) (by decide) (by decide)) (RF.o (RF.o (RF.o (RF.o (RF.o hS_M (by decide) (by decide)) (by decide) (by decide)) (by decide) (by decide)) (by decide) (by decide)) (by decide) (by decide)) (Kp.o (Kp.o (Kp.o (Kp.o (Kp.o ht_M rfl) rfl) rfl) rfl) rfl) (by omega) (by omega)  (fun r47 z47  => ?_)) (Nat.le_of_ble_eq_true rfl))
              refine jr.putf (i := 63) (x := r47) rfl rfl (nlt rfl) rfl (nlt rfl) rfl rfl rfl rfl rfl ?_
              refine jr.aload_n rfl rfl ?_
              refine jr.iload rfl rfl ?_
              refine jr.bipush rfl (jbp _ (nlt rfl)) ?_
              refine jr.icmp_ne rfl rfl (by first | (refine rgb (by assumption) ?_; exact rfl) | omega) (rgl rfl) (fun h183 => ?_) (fun h183 => ?_)
              · refine jr.aload_n rfl rfl ?_
                refine jr.iload_n rfl rfl ?_
                refine jr.aload_n rfl rfl ?_
                refine jr.getf (i := 8) (v := .ref 604) rfl rfl (nlt rfl) rfl (nlt rfl) rfl rfl rfl rfl ?_
                refine jr.iload_n rfl rfl ?_
                refine jr.iald (i := h) (x := v46) rfl (nlt rfl) rfl (Nat.le_of_ble_eq_true rfl) (by omega) (by omega) ((ju_c _ _ (by decide)).trans ((ju_c _ _ (by decide)).trans ((ju_c _ _ (by decide)).trans ((ju_c _ _ (by decide)).trans ((ju_c _ _ (by decide)).trans ((ju_c _ _ (by decide)).trans e46)))))) ?_
                refine jr.iconst rfl ?_
                refine jr.iadd rfl ?_
                refine jr_v rfl rfl (Or.inl rfl) rfl rfl (nlt rfl) rfl ⟨rfl, Nat.le_of_ble_eq_true rfl, Nat.le_of_ble_eq_true rfl⟩ rfl (jc.deep (r_two (RI.u (RI.u (RI.u (RI.u (RI.u (RI.u hI_M (a := 598) (i := 59) (show (0 : Int) ≤ _ ∧ _ ≤ (1 : Int) from by omega)) (a := 598) (i := 61) (show (-9223372036854775808 : Int) ≤ _ ∧ _ ≤ (9223372036854775807 : Int) from by omega)) (a := 598) (i := 62) (show (-9223372036854775808 : Int) ≤ _ ∧ _ ≤ (9223372036854775807 : Int) from by omega)) (a := 598) (i := 65) (show (0 : Int) ≤ _ ∧ _ ≤ (11 : Int) from by omega)) (a := 598) (i := 60) (show (0 : Int) ≤ _ ∧ _ ≤ (255 : Int) from by omega)) (a := 598) (i := 63) (show (0 : Int) ≤ _ ∧ _ ≤ (65535 : Int) from by omega)) (RH.o (RH.o (RH.o (RH.o (RH.o (RH.o hH_M (by decide) (by decide) (by decide)) (by decide) (by decide) (by decide)) (by decide) (by decide) (by decide)) (by decide) (by decide) (by decide)) (by decide) (by decide) (by decide)) (by decide) (by decide) (by decide)) (RF.o (RF.o (RF.o (RF.o (RF.o (RF.o hS_M (by decide) (by decide)) (by decide) (by decide)) (by decide) (by decide)) (by decide) (by decide)) (by decide) (by decide)) (by decide) (by decide)) (Kp.o (Kp.o (Kp.o (Kp.o (Kp.o (Kp.o ht_M rfl) rfl) rfl) rfl) rfl) rfl) (by omega) (by omega)  (fun r48 z48  => ?_)) (Nat.le_of_ble_eq_true rfl))
                refine jr.putf (i := 64) (x := r48) rfl rfl (nlt rfl) rfl (nlt rfl) rfl rfl rfl rfl rfl ?_
                exact jr.vreturn rfl rfl (q _ (RI.u (RI.u (RI.u (RI.u (RI.u (RI.u (RI.u hI_M (a := 598) (i := 59) (show (0 : Int) ≤ _ ∧ _ ≤ (1 : Int) from by omega)) (a := 598) (i := 61) (show (-9223372036854775808 : Int) ≤ _ ∧ _ ≤ (9223372036854775807 : Int) from by omega)) (a := 598) (i := 62) (show (-9223372036854775808 : Int) ≤ _ ∧ _ ≤ (9223372036854775807 : Int) from by omega)) (a := 598) (i := 65) (show (0 : Int) ≤ _ ∧ _ ≤ (11 : Int) from by omega)) (a := 598) (i := 60) (show (0 : Int) ≤ _ ∧ _ ≤ (255 : Int) from by omega)) (a := 598) (i := 63) (show (0 : Int) ≤ _ ∧ _ ≤ (65535 : Int) from by omega)) (a := 598) (i := 64) (show (0 : Int) ≤ _ ∧ _ ≤ (65535 : Int) from by omega)) (RH.o (RH.o (RH.o (RH.o (RH.o (RH.o (RH.o hH_M (by decide) (by decide) (by decide)) (by decide) (by decide) (by decide)) (by decide) (by decide) (by decide)) (by decide) (by decide) (by decide)) (by decide) (by decide) (by decide)) (by decide) (by decide) (by decide)) (by decide) (by decide) (by decide)) (RF.o (RF.o (RF.o (RF.o (RF.o (RF.o (RF.o hS_M (by decide) (by decide)) (by decide) (by decide)) (by decide) (by decide)) (by decide) (by decide)) (by decide) (by decide)) (by decide) (by decide)) (by decide) (by decide)) (Kp.o (Kp.o (Kp.o (Kp.o (Kp.o (Kp.o (Kp.o ht_M rfl) rfl) rfl) rfl) rfl) rfl) rfl) (((ju_i _ _ (zne (by decide))).trans ((ju_i _ _ (zne (by decide))).trans ((ju_i _ _ (zne (by decide))).trans (ju_same _ _ _ _)))).trans (by omega)) (fun q => by rw [((ju_i _ _ (zne (by decide))).trans ((ju_i _ _ (zne (by decide))).trans (ju_same _ _ _ _)))] at q; omega) (by rw [((ju_i _ _ (zne (by decide))).trans ((ju_i _ _ (zne (by decide))).trans (ju_same _ _ _ _)))]; omega) (fun a i f598 => ((ju_c _ _ f598).trans ((ju_c _ _ f598).trans ((ju_c _ _ f598).trans ((ju_c _ _ f598).trans ((ju_c _ _ f598).trans ((ju_c _ _ f598).trans ((ju_c _ _ f598).trans rfl)))))))) (fun i g59 g60 g61 g62 g63 g64 g65 => ((ju_i _ _ g64).trans ((ju_i _ _ g63).trans ((ju_i _ _ g60).trans ((ju_i _ _ g65).trans ((ju_i _ _ g62).trans ((ju_i _ _ g61).trans ((ju_i _ _ g59).trans rfl)))))))))
              · exact absurd h145 h183
            · exact absurd h116 h145
          · refine jr.bipush rfl (jbp _ (nlt rfl)) ?_
            refine jr.goto rfl rfl ?_
            refine jr.putf (i := 60) (x := 6) rfl rfl (nlt rfl) rfl (nlt rfl) rfl rfl rfl rfl rfl ?_
            refine jr.aload_n rfl rfl ?_
            refine jr.iload rfl rfl ?_
            refine jr.bipush rfl (jbp _ (nlt rfl)) ?_
            refine jr.icmp_ne rfl rfl (by first | (refine rgb (by assumption) ?_; exact rfl) | omega) (rgl rfl) (fun h145 => ?_) (fun h145 => ?_)
            · refine jr.aload_n rfl rfl ?_
              refine jr.iload_n rfl rfl ?_
              refine jr.aload_n rfl rfl ?_
              refine jr.getf (i := 8) (v := .ref 604) rfl rfl (nlt rfl) rfl (nlt rfl) rfl rfl rfl rfl ?_
              refine jr.iload_n rfl rfl ?_
              obtain ⟨v51, e51⟩ : ∃ z, M 604 h = z := ⟨_, rfl⟩
              have b51 : 0 ≤ v51 ∧ v51 ≤ 400 := by rw [← e51]; exact (by have q := hI_M 604 h (Nat.le_of_ble_eq_true rfl); rw [xri_row rfl rfl] at q; exact q)
              refine jr.iald (i := h) (x := v51) rfl (nlt rfl) rfl (Nat.le_of_ble_eq_true rfl) (by omega) (by omega) ((ju_c _ _ (by decide)).trans ((ju_c _ _ (by decide)).trans ((ju_c _ _ (by decide)).trans ((ju_c _ _ (by decide)).trans ((ju_c _ _ (by decide)).trans e51))))) ?_
              refine jr_v rfl rfl (Or.inl rfl) rfl rfl (nlt rfl) rfl ⟨rfl, Nat.le_of_ble_eq_true rfl, Nat.le_of_ble_eq_true rfl⟩ rfl (jc.deep (r_two (RI.u (RI.u (RI.u (RI.u (RI.u hI_M (a := 598) (i := 59) (show (0 : Int) ≤ _ ∧ _ ≤ (1 : Int) from by omega)) (a := 598) (i := 61) (show (-9223372036854775808 : Int) ≤ _ ∧ _ ≤ (9223372036854775807 : Int) from by omega)) (a := 598) (i := 62) (show (-9223372036854775808 : Int) ≤ _ ∧ _ ≤ (9223372036854775807 : Int) from by omega)) (a := 598) (i := 65) (show (0 : Int) ≤ _ ∧ _ ≤ (11 : Int) from by omega)) (a := 598) (i := 60) (show (0 : Int) ≤ _ ∧ _ ≤ (255 : Int) from by omega)) (RH.o (RH.o (RH.o (RH.o (RH.o hH_M (by decide) (by decide) (by decide)) (by decide) (by decide) (by decide)) (by decide) (by decide) (by decide)) (by decide) (by decide) (by decide)) (by decide) (by decide) (by decide)) (RF.o (RF.o (RF.o (RF.o (RF.o hS_M (by decide) (by decide)) (by decide) (by decide)) (by decide) (by decide)) (by decide) (by decide)) (by decide) (by decide)) (Kp.o (Kp.o (Kp.o (Kp.o (Kp.o ht_M rfl) rfl) rfl) rfl) rfl) (by omega) (by omega)  (fun r52 z52  => ?_)) (Nat.le_of_ble_eq_true rfl))
              refine jr.putf (i := 63) (x := r52) rfl rfl (nlt rfl) rfl (nlt rfl) rfl rfl rfl rfl rfl ?_
              refine jr.aload_n rfl rfl ?_
              refine jr.iload rfl rfl ?_
              refine jr.bipush rfl (jbp _ (nlt rfl)) ?_
              refine jr.icmp_ne rfl rfl (by first | (refine rgb (by assumption) ?_; exact rfl) | omega) (rgl rfl) (fun h183 => ?_) (fun h183 => ?_)
              · refine jr.aload_n rfl rfl ?_
                refine jr.iload_n rfl rfl ?_
                refine jr.aload_n rfl rfl ?_
                refine jr.getf (i := 8) (v := .ref 604) rfl rfl (nlt rfl) rfl (nlt rfl) rfl rfl rfl rfl ?_
                refine jr.iload_n rfl rfl ?_
                refine jr.iald (i := h) (x := v51) rfl (nlt rfl) rfl (Nat.le_of_ble_eq_true rfl) (by omega) (by omega) ((ju_c _ _ (by decide)).trans ((ju_c _ _ (by decide)).trans ((ju_c _ _ (by decide)).trans ((ju_c _ _ (by decide)).trans ((ju_c _ _ (by decide)).trans ((ju_c _ _ (by decide)).trans e51)))))) ?_
                refine jr.iconst rfl ?_
                refine jr.iadd rfl ?_
                refine jr_v rfl rfl (Or.inl rfl) rfl rfl (nlt rfl) rfl ⟨rfl, Nat.le_of_ble_eq_true rfl, Nat.le_of_ble_eq_true rfl⟩ rfl (jc.deep (r_two (RI.u (RI.u (RI.u (RI.u (RI.u (RI.u hI_M (a := 598) (i := 59) (show (0 : Int) ≤ _ ∧ _ ≤ (1 : Int) from by omega)) (a := 598) (i := 61) (show (-9223372036854775808 : Int) ≤ _ ∧ _ ≤ (9223372036854775807 : Int) from by omega)) (a := 598) (i := 62) (show (-9223372036854775808 : Int) ≤ _ ∧ _ ≤ (9223372036854775807 : Int) from by omega)) (a := 598) (i := 65) (show (0 : Int) ≤ _ ∧ _ ≤ (11 : Int) from by omega)) (a := 598) (i := 60) (show (0 : Int) ≤ _ ∧ _ ≤ (255 : Int) from by omega)) (a := 598) (i := 63) (show (0 : Int) ≤ _ ∧ _ ≤ (65535 : Int) from by omega)) (RH.o (RH.o (RH.o (RH.o (RH.o (RH.o hH_M (by decide) (by decide) (by decide)) (by decide) (by decide) (by decide)) (by decide) (by decide) (by decide)) (by decide) (by decide) (by decide)) (by decide) (by decide) (by decide)) (by decide) (by decide) (by decide)) (RF.o (RF.o (RF.o (RF.o (RF.o (RF.o hS_M (by decide) (by decide)) (by decide) (by decide)) (by decide) (by decide)) (by decide) (by decide)) (by decide) (by decide)) (by decide) (by decide)) (Kp.o (Kp.o (Kp.o (Kp.o (Kp.o (Kp.o ht_M rfl) rfl) rfl) rfl) rfl) rfl) (by omega) (by omega)  (fun r53 z53  => ?_)) (Nat.le_of_ble_eq_true rfl))
                refine jr.putf (i := 64) (x := r53) rfl rfl (nlt rfl) rfl (nlt rfl) rfl rfl rfl rfl rfl ?_
                exact jr.vreturn rfl rfl (q _ (RI.u (RI.u (RI.u (RI.u (RI.u (RI.u (RI.u hI_M (a := 598) (i := 59) (show (0 : Int) ≤ _ ∧ _ ≤ (1 : Int) from by omega)) (a := 598) (i := 61) (show (-9223372036854775808 : Int) ≤ _ ∧ _ ≤ (9223372036854775807 : Int) from by omega)) (a := 598) (i := 62) (show (-9223372036854775808 : Int) ≤ _ ∧ _ ≤ (9223372036854775807 : Int) from by omega)) (a := 598) (i := 65) (show (0 : Int) ≤ _ ∧ _ ≤ (11 : Int) from by omega)) (a := 598) (i := 60) (show (0 : Int) ≤ _ ∧ _ ≤ (255 : Int) from by omega)) (a := 598) (i := 63) (show (0 : Int) ≤ _ ∧ _ ≤ (65535 : Int) from by omega)) (a := 598) (i := 64) (show (0 : Int) ≤ _ ∧ _ ≤ (65535 : Int) from by omega)) (RH.o (RH.o (RH.o (RH.o (RH.o (RH.o (RH.o hH_M (by decide) (by decide) (by decide)) (by decide) (by decide) (by decide)) (by decide) (by decide) (by decide)) (by decide) (by decide) (by decide)) (by decide) (by decide) (by decide)) (by decide) (by decide) (by decide)) (by decide) (by decide) (by decide)) (RF.o (RF.o (RF.o (RF.o (RF.o (RF.o (RF.o hS_M (by decide) (by decide)) (by decide) (by decide)) (by decide) (by decide)) (by decide) (by decide)) (by decide) (by decide)) (by decide) (by decide)) (by decide) (by decide)) (Kp.o (Kp.o (Kp.o (Kp.o (Kp.o (Kp.o (Kp.o ht_M rfl) rfl) rfl) rfl) rfl) rfl) rfl) (((ju_i _ _ (zne (by decide))).trans ((ju_i _ _ (zne (by decide))).trans ((ju_i _ _ (zne (by decide))).trans (ju_same _ _ _ _)))).trans (by omega)) (fun q => by rw [((ju_i _ _ (zne (by decide))).trans ((ju_i _ _ (zne (by decide))).trans (ju_same _ _ _ _)))] at q; omega) (by rw [((ju_i _ _ (zne (by decide))).trans ((ju_i _ _ (zne (by decide))).trans (ju_same _ _ _ _)))]; omega) (fun a i f598 => ((ju_c _ _ f598).trans ((ju_c _ _ f598).trans ((ju_c _ _ f598).trans ((ju_c _ _ f598).trans ((ju_c _ _ f598).trans ((ju_c _ _ f598).trans ((ju_c _ _ f598).trans rfl)))))))) (fun i g59 g60 g61 g62 g63 g64 g65 => ((ju_i _ _ g64).trans ((ju_i _ _ g63).trans ((ju_i _ _ g60).trans ((ju_i _ _ g65).trans ((ju_i _ _ g62).trans ((ju_i _ _ g61).trans ((ju_i _ _ g59).trans rfl)))))))))
              · exact absurd (by omega) h183
            · exact absurd (by omega) h145
        · refine jr.iconst rfl ?_
          refine jr.goto rfl rfl ?_
          refine jr.putf (i := 60) (x := 1) rfl rfl (nlt rfl) rfl (nlt rfl) rfl rfl rfl rfl rfl ?_
          refine jr.aload_n rfl rfl ?_
          refine jr.iload rfl rfl ?_
          refine jr.bipush rfl (jbp _ (nlt rfl)) ?_
          refine jr.icmp_ne rfl rfl (by first | (refine rgb (by assumption) ?_; exact rfl) | omega) (rgl rfl) (fun h145 => ?_) (fun h145 => ?_)
          · exact absurd h145 (by omega)
          · refine jr.aload_n rfl rfl ?_
            refine jr.iload_n rfl rfl ?_
            refine jr.aload_n rfl rfl ?_
            refine jr.getf (i := 8) (v := .ref 604) rfl rfl (nlt rfl) rfl (nlt rfl) rfl rfl rfl rfl ?_
            refine jr.iload_n rfl rfl ?_
            obtain ⟨v54, e54⟩ : ∃ z, M 604 h = z := ⟨_, rfl⟩
            have b54 : 0 ≤ v54 ∧ v54 ≤ 400 := by rw [← e54]; exact (by have q := hI_M 604 h (Nat.le_of_ble_eq_true rfl); rw [xri_row rfl rfl] at q; exact q)
            refine jr.iald (i := h) (x := v54) rfl (nlt rfl) rfl (Nat.le_of_ble_eq_true rfl) (by omega) (by omega) ((ju_c _ _ (by decide)).trans ((ju_c _ _ (by decide)).trans ((ju_c _ _ (by decide)).trans ((ju_c _ _ (by decide)).trans ((ju_c _ _ (by decide)).trans e54))))) ?_
            refine jr.iconst rfl ?_
            refine jr.iadd rfl ?_
            refine jr_v rfl rfl (Or.inl rfl) rfl rfl (nlt rfl) rfl ⟨rfl, Nat.le_of_ble_eq_true rfl, Nat.le_of_ble_eq_true rfl⟩ rfl (jc.deep (r_two (RI.u (RI.u (RI.u (RI.u (RI.u hI_M (a := 598) (i := 59) (show (0 : Int) ≤ _ ∧ _ ≤ (1 : Int) from by omega)) (a := 598) (i := 61) (show (-9223372036854775808 : Int) ≤ _ ∧ _ ≤ (9223372036854775807 : Int) from by omega)) (a := 598) (i := 62) (show (-9223372036854775808 : Int) ≤ _ ∧ _ ≤ (9223372036854775807 : Int) from by omega)) (a := 598) (i := 65) (show (0 : Int) ≤ _ ∧ _ ≤ (11 : Int) from by omega)) (a := 598) (i := 60) (show (0 : Int) ≤ _ ∧ _ ≤ (255 : Int) from by omega)) (RH.o (RH.o (RH.o (RH.o (RH.o hH_M (by decide) (by decide) (by decide)) (by decide) (by decide) (by decide)) (by decide) (by decide) (by decide)) (by decide) (by decide) (by decide)) (by decide) (by decide) (by decide)) (RF.o (RF.o (RF.o (RF.o (RF.o hS_M (by decide) (by decide)) (by decide) (by decide)) (by decide) (by decide)) (by decide) (by decide)) (by decide) (by decide)) (Kp.o (Kp.o (Kp.o (Kp.o (Kp.o ht_M rfl) rfl) rfl) rfl) rfl) (by omega) (by omega)  (fun r55 z55  => ?_)) (Nat.le_of_ble_eq_true rfl))
            refine jr.goto rfl rfl ?_
            refine jr.putf (i := 63) (x := r55) rfl rfl (nlt rfl) rfl (nlt rfl) rfl rfl rfl rfl rfl ?_
            refine jr.aload_n rfl rfl ?_
            refine jr.iload rfl rfl ?_
            refine jr.bipush rfl (jbp _ (nlt rfl)) ?_
            refine jr.icmp_ne rfl rfl (by first | (refine rgb (by assumption) ?_; exact rfl) | omega) (rgl rfl) (fun h183 => ?_) (fun h183 => ?_)
            · exact absurd h183 (by omega)
            · refine jr.aload_n rfl rfl ?_
              refine jr.getf (i := 63) (x := r55) (v := .int (Int32.ofInt (r55))) rfl rfl (nlt rfl) rfl (nlt rfl) rfl rfl (ju_same _ _ _ _) rfl ?_
              refine jr.goto rfl rfl ?_
              refine jr.putf (i := 64) (x := r55) rfl rfl (nlt rfl) rfl (nlt rfl) rfl rfl rfl rfl rfl ?_
              exact jr.vreturn rfl rfl (q _ (RI.u (RI.u (RI.u (RI.u (RI.u (RI.u (RI.u hI_M (a := 598) (i := 59) (show (0 : Int) ≤ _ ∧ _ ≤ (1 : Int) from by omega)) (a := 598) (i := 61) (show (-9223372036854775808 : Int) ≤ _ ∧ _ ≤ (9223372036854775807 : Int) from by omega)) (a := 598) (i := 62) (show (-9223372036854775808 : Int) ≤ _ ∧ _ ≤ (9223372036854775807 : Int) from by omega)) (a := 598) (i := 65) (show (0 : Int) ≤ _ ∧ _ ≤ (11 : Int) from by omega)) (a := 598) (i := 60) (show (0 : Int) ≤ _ ∧ _ ≤ (255 : Int) from by omega)) (a := 598) (i := 63) (show (0 : Int) ≤ _ ∧ _ ≤ (65535 : Int) from by omega)) (a := 598) (i := 64) (show (0 : Int) ≤ _ ∧ _ ≤ (65535 : Int) from by omega)) (RH.o (RH.o (RH.o (RH.o (RH.o (RH.o (RH.o hH_M (by decide) (by decide) (by decide)) (by decide) (by decide) (by decide)) (by decide) (by decide) (by decide)) (by decide) (by decide) (by decide)) (by decide) (by decide) (by decide)) (by decide) (by decide) (by decide)) (by decide) (by decide) (by decide)) (RF.o (RF.o (RF.o (RF.o (RF.o (RF.o (RF.o hS_M (by decide) (by decide)) (by decide) (by decide)) (by decide) (by decide)) (by decide) (by decide)) (by decide) (by decide)) (by decide) (by decide)) (by decide) (by decide)) (Kp.o (Kp.o (Kp.o (Kp.o (Kp.o (Kp.o (Kp.o ht_M rfl) rfl) rfl) rfl) rfl) rfl) rfl) (((ju_i _ _ (zne (by decide))).trans ((ju_i _ _ (zne (by decide))).trans ((ju_i _ _ (zne (by decide))).trans (ju_same _ _ _ _)))).trans (by omega)) (fun q => by rw [((ju_i _ _ (zne (by decide))).trans ((ju_i _ _ (zne (by decide))).trans (ju_same _ _ _ _)))] at q; omega) (by rw [((ju_i _ _ (zne (by decide))).trans ((ju_i _ _ (zne (by decide))).trans (ju_same _ _ _ _)))]; omega) (fun a i f598 => ((ju_c _ _ f598).trans ((ju_c _ _ f598).trans ((ju_c _ _ f598).trans ((ju_c _ _ f598).trans ((ju_c _ _ f598).trans ((ju_c _ _ f598).trans ((ju_c _ _ f598).trans rfl)))))))) (fun i g59 g60 g61 g62 g63 g64 g65 => ((ju_i _ _ g64).trans ((ju_i _ _ g63).trans ((ju_i _ _ g60).trans ((ju_i _ _ g65).trans ((ju_i _ _ g62).trans ((ju_i _ _ g61).trans ((ju_i _ _ g59).trans rfl)))))))))
      · exact absurd (by omega) h63
    · refine jr.aload_n rfl rfl ?_
      refine jr.iload_n rfl rfl ?_
      refine jr.aload_n rfl rfl ?_
      refine jr.getf (i := 8) (v := .ref 604) rfl rfl (nlt rfl) rfl (nlt rfl) rfl rfl rfl rfl ?_
      refine jr.iload_n rfl rfl ?_
      obtain ⟨v56, e56⟩ : ∃ z, M 604 t = z := ⟨_, rfl⟩
      have b56 : 0 ≤ v56 ∧ v56 ≤ 400 := by rw [← e56]; exact (by have q := hI_M 604 t (Nat.le_of_ble_eq_true rfl); rw [xri_row rfl rfl] at q; exact q)
      refine jr.iald (i := t) (x := v56) rfl (nlt rfl) rfl (Nat.le_of_ble_eq_true rfl) (by omega) (by omega) ((ju_c _ _ (by decide)).trans e56) ?_
      refine jr.iconst rfl ?_
      refine jr_v rfl rfl (Or.inl rfl) rfl rfl (nlt rfl) rfl ⟨rfl, Nat.le_of_ble_eq_true rfl, Nat.le_of_ble_eq_true rfl⟩ rfl (jc.deep (r_ofSix (RI.u hI_M (a := 598) (i := 59) (show (0 : Int) ≤ _ ∧ _ ≤ (1 : Int) from by omega)) (RH.o hH_M (by decide) (by decide) (by decide)) (RF.o hS_M (by decide) (by decide)) (Kp.o ht_M rfl) (by omega) (by omega) (by omega)  (fun r57 z57  => ?_)) (Nat.le_of_ble_eq_true rfl))
      refine jr.goto rfl rfl ?_
      refine jr.putf (i := 61) (x := r57) rfl rfl (nlt rfl) rfl (nlt rfl) rfl rfl rfl rfl rfl ?_
      refine jr.aload_n rfl rfl ?_
      refine jr.aload_n rfl rfl ?_
      refine jr.getf (i := 59) (x := 1) (v := .int (Int32.ofInt (1))) rfl rfl (nlt rfl) rfl (nlt rfl) rfl rfl ((ju_i _ _ (zne (by decide))).trans (ju_same _ _ _ _)) rfl ?_
      refine jr.if_eq rfl rfl (by first | (refine rgb (by assumption) ?_; exact rfl) | omega) (fun h63 => ?_) (fun h63 => ?_)
      · exact absurd h63 h24
      · refine jr.aload_n rfl rfl ?_
        refine jr.iload_n rfl rfl ?_
        refine jr.aload_n rfl rfl ?_
        refine jr.getf (i := 8) (v := .ref 604) rfl rfl (nlt rfl) rfl (nlt rfl) rfl rfl rfl rfl ?_
        refine jr.iload_n rfl rfl ?_
        refine jr.iald (i := t) (x := v56) rfl (nlt rfl) rfl (Nat.le_of_ble_eq_true rfl) (by omega) (by omega) ((ju_c _ _ (by decide)).trans ((ju_c _ _ (by decide)).trans e56)) ?_
        refine jr.bipush rfl (jbp _ (nlt rfl)) ?_
        refine jr_v rfl rfl (Or.inl rfl) rfl rfl (nlt rfl) rfl ⟨rfl, Nat.le_of_ble_eq_true rfl, Nat.le_of_ble_eq_true rfl⟩ rfl (jc.deep (r_ofSix (RI.u (RI.u hI_M (a := 598) (i := 59) (show (0 : Int) ≤ _ ∧ _ ≤ (1 : Int) from by omega)) (a := 598) (i := 61) (show (-9223372036854775808 : Int) ≤ _ ∧ _ ≤ (9223372036854775807 : Int) from by omega)) (RH.o (RH.o hH_M (by decide) (by decide) (by decide)) (by decide) (by decide) (by decide)) (RF.o (RF.o hS_M (by decide) (by decide)) (by decide) (by decide)) (Kp.o (Kp.o ht_M rfl) rfl) (by omega) (by omega) (by omega)  (fun r70 z70  => ?_)) (Nat.le_of_ble_eq_true rfl))
        refine jr.goto rfl rfl ?_
        refine jr.putf (i := 62) (x := r70) rfl rfl (nlt rfl) rfl (nlt rfl) rfl rfl rfl rfl rfl ?_
        refine jr.aload_n rfl rfl ?_
        refine jr.getf (i := 7) (v := .ref 603) rfl rfl (nlt rfl) rfl (nlt rfl) rfl rfl rfl rfl ?_
        refine jr.iload_n rfl rfl ?_
        obtain ⟨v71, e71⟩ : ∃ z, M 603 h = z := ⟨_, rfl⟩
        have b71 : 0 ≤ v71 ∧ v71 ≤ 11 := by rw [← e71]; exact (by have q := hI_M 603 h (Nat.le_of_ble_eq_true rfl); rw [xri_row rfl rfl] at q; exact q)
        refine jr.iald (i := h) (x := v71) rfl (nlt rfl) rfl (Nat.le_of_ble_eq_true rfl) (by omega) (by omega) ((ju_c _ _ (by decide)).trans ((ju_c _ _ (by decide)).trans ((ju_c _ _ (by decide)).trans e71))) ?_
        refine jr.istore (ls' := [_, _, _, _, _]) rfl (nlt rfl) rfl ?_
        refine jr.aload_n rfl rfl ?_
        refine jr.iload_n rfl rfl ?_
        refine jr.putf (i := 65) (x := h) rfl rfl (nlt rfl) rfl (nlt rfl) rfl rfl rfl rfl rfl ?_
        refine jr.aload_n rfl rfl ?_
        refine jr.iload rfl rfl ?_
        refine jr.bipush rfl (jbp _ (nlt rfl)) ?_
        refine jr.icmp_ne rfl rfl (by first | (refine rgb (by assumption) ?_; exact rfl) | omega) (rgl rfl) (fun h116 => ?_) (fun h116 => ?_)
        · refine jr.iload rfl rfl ?_
          refine jr.bipush rfl (jbp _ (nlt rfl)) ?_
          refine jr.icmp_ne rfl rfl (by first | (refine rgb (by assumption) ?_; exact rfl) | omega) (rgl rfl) (fun h127 => ?_) (fun h127 => ?_)
          · refine jr.bipush rfl (jbp _ (nlt rfl)) ?_
            refine jr.putf (i := 60) (x := 17) rfl rfl (nlt rfl) rfl (nlt rfl) rfl rfl rfl rfl rfl ?_
            refine jr.aload_n rfl rfl ?_
            refine jr.iload rfl rfl ?_
            refine jr.bipush rfl (jbp _ (nlt rfl)) ?_
            refine jr.icmp_ne rfl rfl (by first | (refine rgb (by assumption) ?_; exact rfl) | omega) (rgl rfl) (fun h145 => ?_) (fun h145 => ?_)
            · refine jr.aload_n rfl rfl ?_
              refine jr.iload_n rfl rfl ?_
              refine jr.aload_n rfl rfl ?_
              refine jr.getf (i := 8) (v := .ref 604) rfl rfl (nlt rfl) rfl (nlt rfl) rfl rfl rfl rfl ?_
              refine jr.iload_n rfl rfl ?_
              obtain ⟨v72, e72⟩ : ∃ z, M 604 h = z := ⟨_, rfl⟩
              have b72 : 0 ≤ v72 ∧ v72 ≤ 400 := by rw [← e72]; exact (by have q := hI_M 604 h (Nat.le_of_ble_eq_true rfl); rw [xri_row rfl rfl] at q; exact q)
              refine jr.iald (i := h) (x := v72) rfl (nlt rfl) rfl (Nat.le_of_ble_eq_true rfl) (by omega) (by omega) ((ju_c _ _ (by decide)).trans ((ju_c _ _ (by decide)).trans ((ju_c _ _ (by decide)).trans ((ju_c _ _ (by decide)).trans ((ju_c _ _ (by decide)).trans e72))))) ?_
              refine jr_v rfl rfl (Or.inl rfl) rfl rfl (nlt rfl) rfl ⟨rfl, Nat.le_of_ble_eq_true rfl, Nat.le_of_ble_eq_true rfl⟩ rfl (jc.deep (r_two (RI.u (RI.u (RI.u (RI.u (RI.u hI_M (a := 598) (i := 59) (show (0 : Int) ≤ _ ∧ _ ≤ (1 : Int) from by omega)) (a := 598) (i := 61) (show (-9223372036854775808 : Int) ≤ _ ∧ _ ≤ (9223372036854775807 : Int) from by omega)) (a := 598) (i := 62) (show (-9223372036854775808 : Int) ≤ _ ∧ _ ≤ (9223372036854775807 : Int) from by omega)) (a := 598) (i := 65) (show (0 : Int) ≤ _ ∧ _ ≤ (11 : Int) from by omega)) (a := 598) (i := 60) (show (0 : Int) ≤ _ ∧ _ ≤ (255 : Int) from by omega)) (RH.o (RH.o (RH.o (RH.o (RH.o hH_M (by decide) (by decide) (by decide)) (by decide) (by decide) (by decide)) (by decide) (by decide) (by decide)) (by decide) (by decide) (by decide)) (by decide) (by decide) (by decide)) (RF.o (RF.o (RF.o (RF.o (RF.o hS_M (by decide) (by decide)) (by decide) (by decide)) (by decide) (by decide)) (by decide) (by decide)) (by decide) (by decide)) (Kp.o (Kp.o (Kp.o (Kp.o (Kp.o ht_M rfl) rfl) rfl) rfl) rfl) (by omega) (by omega)  (fun r73 z73  => ?_)) (Nat.le_of_ble_eq_true rfl))
              refine jr.putf (i := 63) (x := r73) rfl rfl (nlt rfl) rfl (nlt rfl) rfl rfl rfl rfl rfl ?_
              refine jr.aload_n rfl rfl ?_
              refine jr.iload rfl rfl ?_
              refine jr.bipush rfl (jbp _ (nlt rfl)) ?_
              refine jr.icmp_ne rfl rfl (by first | (refine rgb (by assumption) ?_; exact rfl) | omega) (rgl rfl) (fun h183 => ?_) (fun h183 => ?_)
              · refine jr.aload_n rfl rfl ?_
                refine jr.iload_n rfl rfl ?_
                refine jr.aload_n rfl rfl ?_
                refine jr.getf (i := 8) (v := .ref 604) rfl rfl (nlt rfl) rfl (nlt rfl) rfl rfl rfl rfl ?_
                refine jr.iload_n rfl rfl ?_
                refine jr.iald (i := h) (x := v72) rfl (nlt rfl) rfl (Nat.le_of_ble_eq_true rfl) (by omega) (by omega) ((ju_c _ _ (by decide)).trans ((ju_c _ _ (by decide)).trans ((ju_c _ _ (by decide)).trans ((ju_c _ _ (by decide)).trans ((ju_c _ _ (by decide)).trans ((ju_c _ _ (by decide)).trans e72)))))) ?_
                refine jr.iconst rfl ?_
                refine jr.iadd rfl ?_
                refine jr_v rfl rfl (Or.inl rfl) rfl rfl (nlt rfl) rfl ⟨rfl, Nat.le_of_ble_eq_true rfl, Nat.le_of_ble_eq_true rfl⟩ rfl (jc.deep (r_two (RI.u (RI.u (RI.u (RI.u (RI.u (RI.u hI_M (a := 598) (i := 59) (show (0 : Int) ≤ _ ∧ _ ≤ (1 : Int) from by omega)) (a := 598) (i := 61) (show (-9223372036854775808 : Int) ≤ _ ∧ _ ≤ (9223372036854775807 : Int) from by omega)) (a := 598) (i := 62) (show (-9223372036854775808 : Int) ≤ _ ∧ _ ≤ (9223372036854775807 : Int) from by omega)) (a := 598) (i := 65) (show (0 : Int) ≤ _ ∧ _ ≤ (11 : Int) from by omega)) (a := 598) (i := 60) (show (0 : Int) ≤ _ ∧ _ ≤ (255 : Int) from by omega)) (a := 598) (i := 63) (show (0 : Int) ≤ _ ∧ _ ≤ (65535 : Int) from by omega)) (RH.o (RH.o (RH.o (RH.o (RH.o (RH.o hH_M (by decide) (by decide) (by decide)) (by decide) (by decide) (by decide)) (by decide) (by decide) (by decide)) (by decide) (by decide) (by decide)) (by decide) (by decide) (by decide)) (by decide) (by decide) (by decide)) (RF.o (RF.o (RF.o (RF.o (RF.o (RF.o hS_M (by decide) (by decide)) (by decide) (by decide)) (by decide) (by decide)) (by decide) (by decide)) (by decide) (by decide)) (by decide) (by decide)) (Kp.o (Kp.o (Kp.o (Kp.o (Kp.o (Kp.o ht_M rfl) rfl) rfl) rfl) rfl) rfl) (by omega) (by omega)  (fun r74 z74  => ?_)) (Nat.le_of_ble_eq_true rfl))
                refine jr.putf (i := 64) (x := r74) rfl rfl (nlt rfl) rfl (nlt rfl) rfl rfl rfl rfl rfl ?_
                exact jr.vreturn rfl rfl (q _ (RI.u (RI.u (RI.u (RI.u (RI.u (RI.u (RI.u hI_M (a := 598) (i := 59) (show (0 : Int) ≤ _ ∧ _ ≤ (1 : Int) from by omega)) (a := 598) (i := 61) (show (-9223372036854775808 : Int) ≤ _ ∧ _ ≤ (9223372036854775807 : Int) from by omega)) (a := 598) (i := 62) (show (-9223372036854775808 : Int) ≤ _ ∧ _ ≤ (9223372036854775807 : Int) from by omega)) (a := 598) (i := 65) (show (0 : Int) ≤ _ ∧ _ ≤ (11 : Int) from by omega)) (a := 598) (i := 60) (show (0 : Int) ≤ _ ∧ _ ≤ (255 : Int) from by omega)) (a := 598) (i := 63) (show (0 : Int) ≤ _ ∧ _ ≤ (65535 : Int) from by omega)) (a := 598) (i := 64) (show (0 : Int) ≤ _ ∧ _ ≤ (65535 : Int) from by omega)) (RH.o (RH.o (RH.o (RH.o (RH.o (RH.o (RH.o hH_M (by decide) (by decide) (by decide)) (by decide) (by decide) (by decide)) (by decide) (by decide) (by decide)) (by decide) (by decide) (by decide)) (by decide) (by decide) (by decide)) (by decide) (by decide) (by decide)) (by decide) (by decide) (by decide)) (RF.o (RF.o (RF.o (RF.o (RF.o (RF.o (RF.o hS_M (by decide) (by decide)) (by decide) (by decide)) (by decide) (by decide)) (by decide) (by decide)) (by decide) (by decide)) (by decide) (by decide)) (by decide) (by decide)) (Kp.o (Kp.o (Kp.o (Kp.o (Kp.o (Kp.o (Kp.o ht_M rfl) rfl) rfl) rfl) rfl) rfl) rfl) (((ju_i _ _ (zne (by decide))).trans ((ju_i _ _ (zne (by decide))).trans ((ju_i _ _ (zne (by decide))).trans (ju_same _ _ _ _)))).trans (by omega)) (fun q => by rw [((ju_i _ _ (zne (by decide))).trans ((ju_i _ _ (zne (by decide))).trans (ju_same _ _ _ _)))] at q; omega) (by rw [((ju_i _ _ (zne (by decide))).trans ((ju_i _ _ (zne (by decide))).trans (ju_same _ _ _ _)))]; omega) (fun a i f598 => ((ju_c _ _ f598).trans ((ju_c _ _ f598).trans ((ju_c _ _ f598).trans ((ju_c _ _ f598).trans ((ju_c _ _ f598).trans ((ju_c _ _ f598).trans ((ju_c _ _ f598).trans rfl)))))))) (fun i g59 g60 g61 g62 g63 g64 g65 => ((ju_i _ _ g64).trans ((ju_i _ _ g63).trans ((ju_i _ _ g60).trans ((ju_i _ _ g65).trans ((ju_i _ _ g62).trans ((ju_i _ _ g61).trans ((ju_i _ _ g59).trans rfl)))))))))
              · exact absurd h145 h183
            · exact absurd h116 h145
          · refine jr.bipush rfl (jbp _ (nlt rfl)) ?_
            refine jr.goto rfl rfl ?_
            refine jr.putf (i := 60) (x := 6) rfl rfl (nlt rfl) rfl (nlt rfl) rfl rfl rfl rfl rfl ?_
            refine jr.aload_n rfl rfl ?_
            refine jr.iload rfl rfl ?_
            refine jr.bipush rfl (jbp _ (nlt rfl)) ?_
            refine jr.icmp_ne rfl rfl (by first | (refine rgb (by assumption) ?_; exact rfl) | omega) (rgl rfl) (fun h145 => ?_) (fun h145 => ?_)
            · refine jr.aload_n rfl rfl ?_
              refine jr.iload_n rfl rfl ?_
              refine jr.aload_n rfl rfl ?_
              refine jr.getf (i := 8) (v := .ref 604) rfl rfl (nlt rfl) rfl (nlt rfl) rfl rfl rfl rfl ?_
              refine jr.iload_n rfl rfl ?_
              obtain ⟨v77, e77⟩ : ∃ z, M 604 h = z := ⟨_, rfl⟩
              have b77 : 0 ≤ v77 ∧ v77 ≤ 400 := by rw [← e77]; exact (by have q := hI_M 604 h (Nat.le_of_ble_eq_true rfl); rw [xri_row rfl rfl] at q; exact q)
              refine jr.iald (i := h) (x := v77) rfl (nlt rfl) rfl (Nat.le_of_ble_eq_true rfl) (by omega) (by omega) ((ju_c _ _ (by decide)).trans ((ju_c _ _ (by decide)).trans ((ju_c _ _ (by decide)).trans ((ju_c _ _ (by decide)).trans ((ju_c _ _ (by decide)).trans e77))))) ?_
              refine jr_v rfl rfl (Or.inl rfl) rfl rfl (nlt rfl) rfl ⟨rfl, Nat.le_of_ble_eq_true rfl, Nat.le_of_ble_eq_true rfl⟩ rfl (jc.deep (r_two (RI.u (RI.u (RI.u (RI.u (RI.u hI_M (a := 598) (i := 59) (show (0 : Int) ≤ _ ∧ _ ≤ (1 : Int) from by omega)) (a := 598) (i := 61) (show (-9223372036854775808 : Int) ≤ _ ∧ _ ≤ (9223372036854775807 : Int) from by omega)) (a := 598) (i := 62) (show (-9223372036854775808 : Int) ≤ _ ∧ _ ≤ (9223372036854775807 : Int) from by omega)) (a := 598) (i := 65) (show (0 : Int) ≤ _ ∧ _ ≤ (11 : Int) from by omega)) (a := 598) (i := 60) (show (0 : Int) ≤ _ ∧ _ ≤ (255 : Int) from by omega)) (RH.o (RH.o (RH.o (RH.o (RH.o hH_M (by decide) (by decide) (by decide)) (by decide) (by decide) (by decide)) (by decide) (by decide) (by decide)) (by decide) (by decide) (by decide)) (by decide) (by decide) (by decide)) (RF.o (RF.o (RF.o (RF.o (RF.o hS_M (by decide) (by decide)) (by decide) (by decide)) (by decide) (by decide)) (by decide) (by decide)) (by decide) (by decide)) (Kp.o (Kp.o (Kp.o (Kp.o (Kp.o ht_M rfl) rfl) rfl) rfl) rfl) (by omega) (by omega)  (fun r78 z78  => ?_)) (Nat.le_of_ble_eq_true rfl))
              refine jr.putf (i := 63) (x := r78) rfl rfl (nlt rfl) rfl (nlt rfl) rfl rfl rfl rfl rfl ?_
              refine jr.aload_n rfl rfl ?_
              refine jr.iload rfl rfl ?_
              refine jr.bipush rfl (jbp _ (nlt rfl)) ?_
              refine jr.icmp_ne rfl rfl (by first | (refine rgb (by assumption) ?_; exact rfl) | omega) (rgl rfl) (fun h183 => ?_) (fun h183 => ?_)
              · refine jr.aload_n rfl rfl ?_
                refine jr.iload_n rfl rfl ?_
                refine jr.aload_n rfl rfl ?_
                refine jr.getf (i := 8) (v := .ref 604) rfl rfl (nlt rfl) rfl (nlt rfl) rfl rfl rfl rfl ?_
                refine jr.iload_n rfl rfl ?_
                refine jr.iald (i := h) (x := v77) rfl (nlt rfl) rfl (Nat.le_of_ble_eq_true rfl) (by omega) (by omega) ((ju_c _ _ (by decide)).trans ((ju_c _ _ (by decide)).trans ((ju_c _ _ (by decide)).trans ((ju_c _ _ (by decide)).trans ((ju_c _ _ (by decide)).trans ((ju_c _ _ (by decide)).trans e77)))))) ?_
                refine jr.iconst rfl ?_
                refine jr.iadd rfl ?_
                refine jr_v rfl rfl (Or.inl rfl) rfl rfl (nlt rfl) rfl ⟨rfl, Nat.le_of_ble_eq_true rfl, Nat.le_of_ble_eq_true rfl⟩ rfl (jc.deep (r_two (RI.u (RI.u (RI.u (RI.u (RI.u (RI.u hI_M (a := 598) (i := 59) (show (0 : Int) ≤ _ ∧ _ ≤ (1 : Int) from by omega)) (a := 598) (i := 61) (show (-9223372036854775808 : Int) ≤ _ ∧ _ ≤ (9223372036854775807 : Int) from by omega)) (a := 598) (i := 62) (show (-9223372036854775808 : Int) ≤ _ ∧ _ ≤ (9223372036854775807 : Int) from by omega)) (a := 598) (i := 65) (show (0 : Int) ≤ _ ∧ _ ≤ (11 : Int) from by omega)) (a := 598) (i := 60) (show (0 : Int) ≤ _ ∧ _ ≤ (255 : Int) from by omega)) (a := 598) (i := 63) (show (0 : Int) ≤ _ ∧ _ ≤ (65535 : Int) from by omega)) (RH.o (RH.o (RH.o (RH.o (RH.o (RH.o hH_M (by decide) (by decide) (by decide)) (by decide) (by decide) (by decide)) (by decide) (by decide) (by decide)) (by decide) (by decide) (by decide)) (by decide) (by decide) (by decide)) (by decide) (by decide) (by decide)) (RF.o (RF.o (RF.o (RF.o (RF.o (RF.o hS_M (by decide) (by decide)) (by decide) (by decide)) (by decide) (by decide)) (by decide) (by decide)) (by decide) (by decide)) (by decide) (by decide)) (Kp.o (Kp.o (Kp.o (Kp.o (Kp.o (Kp.o ht_M rfl) rfl) rfl) rfl) rfl) rfl) (by omega) (by omega)  (fun r79 z79  => ?_)) (Nat.le_of_ble_eq_true rfl))
                refine jr.putf (i := 64) (x := r79) rfl rfl (nlt rfl) rfl (nlt rfl) rfl rfl rfl rfl rfl ?_
                exact jr.vreturn rfl rfl (q _ (RI.u (RI.u (RI.u (RI.u (RI.u (RI.u (RI.u hI_M (a := 598) (i := 59) (show (0 : Int) ≤ _ ∧ _ ≤ (1 : Int) from by omega)) (a := 598) (i := 61) (show (-9223372036854775808 : Int) ≤ _ ∧ _ ≤ (9223372036854775807 : Int) from by omega)) (a := 598) (i := 62) (show (-9223372036854775808 : Int) ≤ _ ∧ _ ≤ (9223372036854775807 : Int) from by omega)) (a := 598) (i := 65) (show (0 : Int) ≤ _ ∧ _ ≤ (11 : Int) from by omega)) (a := 598) (i := 60) (show (0 : Int) ≤ _ ∧ _ ≤ (255 : Int) from by omega)) (a := 598) (i := 63) (show (0 : Int) ≤ _ ∧ _ ≤ (65535 : Int) from by omega)) (a := 598) (i := 64) (show (0 : Int) ≤ _ ∧ _ ≤ (65535 : Int) from by omega)) (RH.o (RH.o (RH.o (RH.o (RH.o (RH.o (RH.o hH_M (by decide) (by decide) (by decide)) (by decide) (by decide) (by decide)) (by decide) (by decide) (by decide)) (by decide) (by decide) (by decide)) (by decide) (by decide) (by decide)) (by decide) (by decide) (by decide)) (by decide) (by decide) (by decide)) (RF.o (RF.o (RF.o (RF.o (RF.o (RF.o (RF.o hS_M (by decide) (by decide)) (by decide) (by decide)) (by decide) (by decide)) (by decide) (by decide)) (by decide) (by decide)) (by decide) (by decide)) (by decide) (by decide)) (Kp.o (Kp.o (Kp.o (Kp.o (Kp.o (Kp.o (Kp.o ht_M rfl) rfl) rfl) rfl) rfl) rfl) rfl) (((ju_i _ _ (zne (by decide))).trans ((ju_i _ _ (zne (by decide))).trans ((ju_i _ _ (zne (by decide))).trans (ju_same _ _ _ _)))).trans (by omega)) (fun q => by rw [((ju_i _ _ (zne (by decide))).trans ((ju_i _ _ (zne (by decide))).trans (ju_same _ _ _ _)))] at q; omega) (by rw [((ju_i _ _ (zne (by decide))).trans ((ju_i _ _ (zne (by decide))).trans (ju_same _ _ _ _)))]; omega) (fun a i f598 => ((ju_c _ _ f598).trans ((ju_c _ _ f598).trans ((ju_c _ _ f598).trans ((ju_c _ _ f598).trans ((ju_c _ _ f598).trans ((ju_c _ _ f598).trans ((ju_c _ _ f598).trans rfl)))))))) (fun i g59 g60 g61 g62 g63 g64 g65 => ((ju_i _ _ g64).trans ((ju_i _ _ g63).trans ((ju_i _ _ g60).trans ((ju_i _ _ g65).trans ((ju_i _ _ g62).trans ((ju_i _ _ g61).trans ((ju_i _ _ g59).trans rfl)))))))))
              · exact absurd (by omega) h183
            · exact absurd (by omega) h145
        · refine jr.iconst rfl ?_
          refine jr.goto rfl rfl ?_
          refine jr.putf (i := 60) (x := 1) rfl rfl (nlt rfl) rfl (nlt rfl) rfl rfl rfl rfl rfl ?_
          refine jr.aload_n rfl rfl ?_
          refine jr.iload rfl rfl ?_
          refine jr.bipush rfl (jbp _ (nlt rfl)) ?_
          refine jr.icmp_ne rfl rfl (by first | (refine rgb (by assumption) ?_; exact rfl) | omega) (rgl rfl) (fun h145 => ?_) (fun h145 => ?_)
          · exact absurd h145 (by omega)
          · refine jr.aload_n rfl rfl ?_
            refine jr.iload_n rfl rfl ?_
            refine jr.aload_n rfl rfl ?_
            refine jr.getf (i := 8) (v := .ref 604) rfl rfl (nlt rfl) rfl (nlt rfl) rfl rfl rfl rfl ?_
            refine jr.iload_n rfl rfl ?_
            obtain ⟨v80, e80⟩ : ∃ z, M 604 h = z := ⟨_, rfl⟩
            have b80 : 0 ≤ v80 ∧ v80 ≤ 400 := by rw [← e80]; exact (by have q := hI_M 604 h (Nat.le_of_ble_eq_true rfl); rw [xri_row rfl rfl] at q; exact q)
            refine jr.iald (i := h) (x := v80) rfl (nlt rfl) rfl (Nat.le_of_ble_eq_true rfl) (by omega) (by omega) ((ju_c _ _ (by decide)).trans ((ju_c _ _ (by decide)).trans ((ju_c _ _ (by decide)).trans ((ju_c _ _ (by decide)).trans ((ju_c _ _ (by decide)).trans e80))))) ?_
            refine jr.iconst rfl ?_
            refine jr.iadd rfl ?_
            refine jr_v rfl rfl (Or.inl rfl) rfl rfl (nlt rfl) rfl ⟨rfl, Nat.le_of_ble_eq_true rfl, Nat.le_of_ble_eq_true rfl⟩ rfl (jc.deep (r_two (RI.u (RI.u (RI.u (RI.u (RI.u hI_M (a := 598) (i := 59) (show (0 : Int) ≤ _ ∧ _ ≤ (1 : Int) from by omega)) (a := 598) (i := 61) (show (-9223372036854775808 : Int) ≤ _ ∧ _ ≤ (9223372036854775807 : Int) from by omega)) (a := 598) (i := 62) (show (-9223372036854775808 : Int) ≤ _ ∧ _ ≤ (9223372036854775807 : Int) from by omega)) (a := 598) (i := 65) (show (0 : Int) ≤ _ ∧ _ ≤ (11 : Int) from by omega)) (a := 598) (i := 60) (show (0 : Int) ≤ _ ∧ _ ≤ (255 : Int) from by omega)) (RH.o (RH.o (RH.o (RH.o (RH.o hH_M (by decide) (by decide) (by decide)) (by decide) (by decide) (by decide)) (by decide) (by decide) (by decide)) (by decide) (by decide) (by decide)) (by decide) (by decide) (by decide)) (RF.o (RF.o (RF.o (RF.o (RF.o hS_M (by decide) (by decide)) (by decide) (by decide)) (by decide) (by decide)) (by decide) (by decide)) (by decide) (by decide)) (Kp.o (Kp.o (Kp.o (Kp.o (Kp.o ht_M rfl) rfl) rfl) rfl) rfl) (by omega) (by omega)  (fun r81 z81  => ?_)) (Nat.le_of_ble_eq_true rfl))
            refine jr.goto rfl rfl ?_
            refine jr.putf (i := 63) (x := r81) rfl rfl (nlt rfl) rfl (nlt rfl) rfl rfl rfl rfl rfl ?_
            refine jr.aload_n rfl rfl ?_
            refine jr.iload rfl rfl ?_
            refine jr.bipush rfl (jbp _ (nlt rfl)) ?_
            refine jr.icmp_ne rfl rfl (by first | (refine rgb (by assumption) ?_; exact rfl) | omega) (rgl rfl) (fun h183 => ?_) (fun h183 => ?_)
            · exact absurd h183 (by omega)
            · refine jr.aload_n rfl rfl ?_
              refine jr.getf (i := 63) (x := r81) (v := .int (Int32.ofInt (r81))) rfl rfl (nlt rfl) rfl (nlt rfl) rfl rfl (ju_same _ _ _ _) rfl ?_
              refine jr.goto rfl rfl ?_
              refine jr.putf (i := 64) (x := r81) rfl rfl (nlt rfl) rfl (nlt rfl) rfl rfl rfl rfl rfl ?_
              exact jr.vreturn rfl rfl (q _ (RI.u (RI.u (RI.u (RI.u (RI.u (RI.u (RI.u hI_M (a := 598) (i := 59) (show (0 : Int) ≤ _ ∧ _ ≤ (1 : Int) from by omega)) (a := 598) (i := 61) (show (-9223372036854775808 : Int) ≤ _ ∧ _ ≤ (9223372036854775807 : Int) from by omega)) (a := 598) (i := 62) (show (-9223372036854775808 : Int) ≤ _ ∧ _ ≤ (9223372036854775807 : Int) from by omega)) (a := 598) (i := 65) (show (0 : Int) ≤ _ ∧ _ ≤ (11 : Int) from by omega)) (a := 598) (i := 60) (show (0 : Int) ≤ _ ∧ _ ≤ (255 : Int) from by omega)) (a := 598) (i := 63) (show (0 : Int) ≤ _ ∧ _ ≤ (65535 : Int) from by omega)) (a := 598) (i := 64) (show (0 : Int) ≤ _ ∧ _ ≤ (65535 : Int) from by omega)) (RH.o (RH.o (RH.o (RH.o (RH.o (RH.o (RH.o hH_M (by decide) (by decide) (by decide)) (by decide) (by decide) (by decide)) (by decide) (by decide) (by decide)) (by decide) (by decide) (by decide)) (by decide) (by decide) (by decide)) (by decide) (by decide) (by decide)) (by decide) (by decide) (by decide)) (RF.o (RF.o (RF.o (RF.o (RF.o (RF.o (RF.o hS_M (by decide) (by decide)) (by decide) (by decide)) (by decide) (by decide)) (by decide) (by decide)) (by decide) (by decide)) (by decide) (by decide)) (by decide) (by decide)) (Kp.o (Kp.o (Kp.o (Kp.o (Kp.o (Kp.o (Kp.o ht_M rfl) rfl) rfl) rfl) rfl) rfl) rfl) (((ju_i _ _ (zne (by decide))).trans ((ju_i _ _ (zne (by decide))).trans ((ju_i _ _ (zne (by decide))).trans (ju_same _ _ _ _)))).trans (by omega)) (fun q => by rw [((ju_i _ _ (zne (by decide))).trans ((ju_i _ _ (zne (by decide))).trans (ju_same _ _ _ _)))] at q; omega) (by rw [((ju_i _ _ (zne (by decide))).trans ((ju_i _ _ (zne (by decide))).trans (ju_same _ _ _ _)))]; omega) (fun a i f598 => ((ju_c _ _ f598).trans ((ju_c _ _ f598).trans ((ju_c _ _ f598).trans ((ju_c _ _ f598).trans ((ju_c _ _ f598).trans ((ju_c _ _ f598).trans ((ju_c _ _ f598).trans rfl)))))))) (fun i g59 g60 g61 g62 g63 g64 g65 => ((ju_i _ _ g64).trans ((ju_i _ _ g63).trans ((ju_i _ _ g60).trans ((ju_i _ _ g65).trans ((ju_i _ _ g62).trans ((ju_i _ _ g61).trans ((ju_i _ _ g59).trans rfl)))))))))
theorem r_hasEnds_L39 {A : Nat → Option (Nat × (Nat → Int32))} {Q : Option Value → jm → Prop} {T : jm} {M0 : jm} (q : ∀ (r : Int) (M' : jm), RI M' → RH M' → RF M' → Kp T M' → 0 ≤ r ∧ r ≤ 1 → (r = 0 ∨ RE M') → (∀ (a : Nat) (i : Int), a ≠ 598 → a ≠ 603 → a ≠ 604 → a ≠ 605 → M' a i = M0 a i) → (∀ (i : Int), i ≠ 6 → i ≠ 10 → i ≠ 11 → i ≠ 12 → i ≠ 59 → i ≠ 60 → i ≠ 61 → i ≠ 62 → i ≠ 63 → i ≠ 64 → i ≠ 65 → M' 598 i = M0 598 i) → Q (some (.int (Int32.ofInt r))) M') : ∀ (nM : Nat) (M : jm) (h : Int) (t : Int) (x : Int), RI M → RH M → RF M → Kp T M → (∀ (a : Nat) (i : Int), a ≠ 598 → a ≠ 603 → a ≠ 604 → a ≠ 605 → M a i = M0 a i) → (∀ (i : Int), i ≠ 6 → i ≠ 10 → i ≠ 11 → i ≠ 12 → i ≠ 59 → i ≠ 60 → i ≠ 61 → i ≠ 62 → i ≠ 63 → i ≠ 64 → i ≠ 65 → M 598 i = M0 598 i) → 1 ≤ h ∧ h ≤ 13 → 0 ≤ t ∧ t ≤ 11 → 0 ≤ x ∧ x ≤ 23 → t < M 598 6 → (M 603 t = 2 ∧ M 604 t ≤ 380 ∨ M 603 t = 3 ∧ M 604 t ≤ 376) → 13 - h ≤ nM → jr A 6 xm_302 39 [(3, .int (Int32.ofInt (h))), (2, .int (Int32.ofInt (t))), (1, .int (Int32.ofInt (x))), (0, .ref (598))] [] M Q := by
  intro nM
  induction nM using Nat.strongRecOn with
  | ind nM ih =>
    intro M h t x hI_M hH_M hS_M ht_M hF_M hG_M h_h h_t h_x hy0 hy1 hm
    have rc := RH.car hH_M h
    refine jr.iload_n rfl rfl ?_
    refine jr.aload_n rfl rfl ?_
    obtain ⟨v1, e1⟩ : ∃ z, M 598 6 = z := ⟨_, rfl⟩
    have b1 : 0 ≤ v1 ∧ v1 ≤ 12 := by rw [← e1]; exact hI_M 598 6 (Nat.le_of_ble_eq_true rfl)
    refine jr.getf (i := 6) (x := v1) (v := .int (Int32.ofInt (v1))) rfl rfl (nlt rfl) rfl (nlt rfl) rfl rfl e1 rfl ?_
    refine jr.icmp_ge rfl rfl (by first | (refine rgb (by assumption) ?_; exact rfl) | omega) (by first | (refine rgb (by assumption) ?_; exact rfl) | omega) (fun h44 => ?_) (fun h44 => ?_)
    · refine jr.iload_n rfl rfl ?_
      refine jr.aload_n rfl rfl ?_
      refine jr.getf (i := 6) (x := v1) (v := .int (Int32.ofInt (v1))) rfl rfl (nlt rfl) rfl (nlt rfl) rfl rfl e1 rfl ?_
      refine jr.icmp_ge rfl rfl (by first | (refine rgb (by assumption) ?_; exact rfl) | omega) (by first | (refine rgb (by assumption) ?_; exact rfl) | omega) (fun h78 => ?_) (fun h78 => ?_)
      · refine jr.iconst rfl ?_
        exact jr.ireturn rfl rfl rfl (q _ _ hI_M hH_M hS_M ht_M (by first | exact rgq rfl | omega) (Or.inl rfl) (fun a i f598 f603 f604 f605 => (hF_M a i f598 f603 f604 f605)) (fun i g6 g10 g11 g12 g59 g60 g61 g62 g63 g64 g65 => (hG_M i g6 g10 g11 g12 g59 g60 g61 g62 g63 g64 g65)))
      · refine jr.aload_n rfl rfl ?_
        refine jr.getf (i := 7) (v := .ref 603) rfl rfl (nlt rfl) rfl (nlt rfl) rfl rfl rfl rfl ?_
        refine jr.iload_n rfl rfl ?_
        obtain ⟨v2, e2⟩ : ∃ z, M 603 h = z := ⟨_, rfl⟩
        have b2 : 0 ≤ v2 ∧ v2 ≤ 11 := by rw [← e2]; exact (by have q := hI_M 603 h (Nat.le_of_ble_eq_true rfl); rw [xri_row rfl rfl] at q; exact q)
        refine jr.iald (i := h) (x := v2) rfl (nlt rfl) rfl (Nat.le_of_ble_eq_true rfl) (by omega) (by omega) e2 ?_
        refine jr_s rfl rfl (Or.inl rfl) ⟨Nat.le_of_ble_eq_true rfl, Nat.le_of_ble_eq_true rfl⟩ rfl rfl (jc.deep (c_isCarried (by omega) (fun c87 => ?_) (fun c87 => ?_)) (Nat.le_of_ble_eq_true rfl))
        · refine jr.if_ne rfl rfl (by first | exact rgl rfl | omega) (fun _ => ?_) (fun h => absurd (by decide) h)
          refine jr.aload_n rfl rfl ?_
          refine jr.iload_n rfl rfl ?_
          refine jr.iload_n rfl rfl ?_
          refine jr.iload_n rfl rfl ?_
          obtain ⟨v4, e4⟩ : ∃ z, M 603 t = z := ⟨_, rfl⟩
          have b4 : 0 ≤ v4 ∧ v4 ≤ 11 := by rw [← e4]; exact (by have q := hI_M 603 t (Nat.le_of_ble_eq_true rfl); rw [xri_row rfl rfl] at q; exact q)
          obtain ⟨v5, e5⟩ : ∃ z, M 604 t = z := ⟨_, rfl⟩
          have b5 : 0 ≤ v5 ∧ v5 ≤ 400 := by rw [← e5]; exact (by have q := hI_M 604 t (Nat.le_of_ble_eq_true rfl); rw [xri_row rfl rfl] at q; exact q)
          obtain ⟨v6, e6⟩ : ∃ z, M 604 h = z := ⟨_, rfl⟩
          have b6 : 0 ≤ v6 ∧ v6 ≤ 400 := by rw [← e6]; exact (by have q := hI_M 604 h (Nat.le_of_ble_eq_true rfl); rw [xri_row rfl rfl] at q; exact q)
          refine jr_v rfl rfl (Or.inl rfl) rfl rfl (nlt rfl) rfl ⟨rfl, Nat.le_of_ble_eq_true rfl, Nat.le_of_ble_eq_true rfl⟩ rfl (jc.deep (r_takeEnds hI_M hH_M hS_M ht_M (by omega) (by omega) (by omega) (by rw [e4, e5]; omega) (by rw [e2]; omega) (by rw [e6]; omega) (fun M3 hI_M3 hH_M3 hS_M3 ht_M3 w3_0 w3_1 w3_2 w3_3 w3_4 => ?_)) (Nat.le_of_ble_eq_true rfl))
          refine jr.iconst rfl ?_
          have e7 : M3 598 6 = v1 := ((w3_4 6 (zne rfl) (zne rfl) (zne rfl) (zne rfl) (zne rfl) (zne rfl) (zne rfl)).trans e1)
          have e8 : M3 603 h = v2 := ((w3_3 603 h (nne rfl)).trans e2)
          have e9 : M3 603 t = v4 := ((w3_3 603 t (nne rfl)).trans e4)
          exact jr.ireturn rfl rfl rfl (q _ _ hI_M3 hH_M3 hS_M3 ht_M3 (by omega) (Or.inr (RE.mk' w3_0 (by omega) (by rw [e7]; omega) (by rw [e8]; omega) (fun q => by rw [e8]; have z := w3_1 q; omega) w3_2 (t := t) (by omega) (by rw [e7]; omega) (by rw [e9]; omega))) (fun a i f598 f603 f604 f605 => ((w3_3 a i f598).trans (hF_M a i f598 f603 f604 f605))) (fun i g6 g10 g11 g12 g59 g60 g61 g62 g63 g64 g65 => ((w3_4 i g59 g60 g61 g62 g63 g64 g65).trans (hG_M i g6 g10 g11 g12 g59 g60 g61 g62 g63 g64 g65))))
        · refine jr.if_ne rfl rfl (by first | exact rgl rfl | omega) (fun h => absurd h (by decide)) (fun _ => ?_)
          refine jr.iconst rfl ?_
          exact jr.ireturn rfl rfl rfl (q _ _ hI_M hH_M hS_M ht_M (by first | exact rgq rfl | omega) (Or.inl rfl) (fun a i f598 f603 f604 f605 => (hF_M a i f598 f603 f604 f605)) (fun i g6 g10 g11 g12 g59 g60 g61 g62 g63 g64 g65 => (hG_M i g6 g10 g11 g12 g59 g60 g61 g62 g63 g64 g65)))
    · refine jr.aload_n rfl rfl ?_
      refine jr.getf (i := 7) (v := .ref 603) rfl rfl (nlt rfl) rfl (nlt rfl) rfl rfl rfl rfl ?_
      refine jr.iload_n rfl rfl ?_
      obtain ⟨v10, e10⟩ : ∃ z, M 603 h = z := ⟨_, rfl⟩
      have b10 : 0 ≤ v10 ∧ v10 ≤ 11 := by rw [← e10]; exact (by have q := hI_M 603 h (Nat.le_of_ble_eq_true rfl); rw [xri_row rfl rfl] at q; exact q)
      refine jr.iald (i := h) (x := v10) rfl (nlt rfl) rfl (Nat.le_of_ble_eq_true rfl) (by omega) (by omega) e10 ?_
      refine jr.iconst rfl ?_
      refine jr.icmp_eq rfl rfl (by first | (refine rgb (by assumption) ?_; exact rfl) | omega) (rgl rfl) (fun h54 => ?_) (fun h54 => ?_)
      · refine jr.iinc (ls' := [_, _, _, _]) rfl rfl (nlt rfl) rfl ?_
        refine jr.goto rfl rfl ?_
        refine jr.pick (ls := [_, _, _, _]) [0, 1, 2, 3] rfl rfl ?_
        exact ih (nM - 1) (by omega) M (h + 1) t x hI_M hH_M hS_M ht_M (fun a i f598 f603 f604 f605 => (hF_M a i f598 f603 f604 f605)) (fun i g6 g10 g11 g12 g59 g60 g61 g62 g63 g64 g65 => (hG_M i g6 g10 g11 g12 g59 g60 g61 g62 g63 g64 g65)) (by omega) (by omega) (by omega) (by omega) (by omega) (by omega)
      · refine jr.aload_n rfl rfl ?_
        refine jr.getf (i := 7) (v := .ref 603) rfl rfl (nlt rfl) rfl (nlt rfl) rfl rfl rfl rfl ?_
        refine jr.iload_n rfl rfl ?_
        refine jr.iald (i := h) (x := v10) rfl (nlt rfl) rfl (Nat.le_of_ble_eq_true rfl) (by omega) (by omega) e10 ?_
        refine jr.iconst rfl ?_
        refine jr.icmp_ne rfl rfl (by first | (refine rgb (by assumption) ?_; exact rfl) | omega) (rgl rfl) (fun h64 => ?_) (fun h64 => ?_)
        · refine jr.iload_n rfl rfl ?_
          refine jr.aload_n rfl rfl ?_
          refine jr.getf (i := 6) (x := v1) (v := .int (Int32.ofInt (v1))) rfl rfl (nlt rfl) rfl (nlt rfl) rfl rfl e1 rfl ?_
          refine jr.icmp_ge rfl rfl (by first | (refine rgb (by assumption) ?_; exact rfl) | omega) (by first | (refine rgb (by assumption) ?_; exact rfl) | omega) (fun h78 => ?_) (fun h78 => ?_)
          · refine jr.iconst rfl ?_
            exact jr.ireturn rfl rfl rfl (q _ _ hI_M hH_M hS_M ht_M (by first | exact rgq rfl | omega) (Or.inl rfl) (fun a i f598 f603 f604 f605 => (hF_M a i f598 f603 f604 f605)) (fun i g6 g10 g11 g12 g59 g60 g61 g62 g63 g64 g65 => (hG_M i g6 g10 g11 g12 g59 g60 g61 g62 g63 g64 g65)))
          · refine jr.aload_n rfl rfl ?_
            refine jr.getf (i := 7) (v := .ref 603) rfl rfl (nlt rfl) rfl (nlt rfl) rfl rfl rfl rfl ?_
            refine jr.iload_n rfl rfl ?_
            refine jr.iald (i := h) (x := v10) rfl (nlt rfl) rfl (Nat.le_of_ble_eq_true rfl) (by omega) (by omega) e10 ?_
            refine jr_s rfl rfl (Or.inl rfl) ⟨Nat.le_of_ble_eq_true rfl, Nat.le_of_ble_eq_true rfl⟩ rfl rfl (jc.deep (c_isCarried (by omega) (fun c87 => ?_) (fun c87 => ?_)) (Nat.le_of_ble_eq_true rfl))
            · refine jr.if_ne rfl rfl (by first | exact rgl rfl | omega) (fun _ => ?_) (fun h => absurd (by decide) h)
              refine jr.aload_n rfl rfl ?_
              refine jr.iload_n rfl rfl ?_
              refine jr.iload_n rfl rfl ?_
              refine jr.iload_n rfl rfl ?_
              obtain ⟨v12, e12⟩ : ∃ z, M 603 t = z := ⟨_, rfl⟩
              have b12 : 0 ≤ v12 ∧ v12 ≤ 11 := by rw [← e12]; exact (by have q := hI_M 603 t (Nat.le_of_ble_eq_true rfl); rw [xri_row rfl rfl] at q; exact q)
              obtain ⟨v13, e13⟩ : ∃ z, M 604 t = z := ⟨_, rfl⟩
              have b13 : 0 ≤ v13 ∧ v13 ≤ 400 := by rw [← e13]; exact (by have q := hI_M 604 t (Nat.le_of_ble_eq_true rfl); rw [xri_row rfl rfl] at q; exact q)
              obtain ⟨v14, e14⟩ : ∃ z, M 604 h = z := ⟨_, rfl⟩
              have b14 : 0 ≤ v14 ∧ v14 ≤ 400 := by rw [← e14]; exact (by have q := hI_M 604 h (Nat.le_of_ble_eq_true rfl); rw [xri_row rfl rfl] at q; exact q)
              refine jr_v rfl rfl (Or.inl rfl) rfl rfl (nlt rfl) rfl ⟨rfl, Nat.le_of_ble_eq_true rfl, Nat.le_of_ble_eq_true rfl⟩ rfl (jc.deep (r_takeEnds hI_M hH_M hS_M ht_M (by omega) (by omega) (by omega) (by rw [e12, e13]; omega) (by rw [e10]; omega) (by rw [e14]; omega) (fun M11 hI_M11 hH_M11 hS_M11 ht_M11 w11_0 w11_1 w11_2 w11_3 w11_4 => ?_)) (Nat.le_of_ble_eq_true rfl))
              refine jr.iconst rfl ?_
              have e15 : M11 598 6 = v1 := ((w11_4 6 (zne rfl) (zne rfl) (zne rfl) (zne rfl) (zne rfl) (zne rfl) (zne rfl)).trans e1)
              have e16 : M11 603 h = v10 := ((w11_3 603 h (nne rfl)).trans e10)
              have e17 : M11 603 t = v12 := ((w11_3 603 t (nne rfl)).trans e12)
              exact jr.ireturn rfl rfl rfl (q _ _ hI_M11 hH_M11 hS_M11 ht_M11 (by omega) (Or.inr (RE.mk' w11_0 (by omega) (by rw [e15]; omega) (by rw [e16]; omega) (fun q => by rw [e16]; have z := w11_1 q; omega) w11_2 (t := t) (by omega) (by rw [e15]; omega) (by rw [e17]; omega))) (fun a i f598 f603 f604 f605 => ((w11_3 a i f598).trans (hF_M a i f598 f603 f604 f605))) (fun i g6 g10 g11 g12 g59 g60 g61 g62 g63 g64 g65 => ((w11_4 i g59 g60 g61 g62 g63 g64 g65).trans (hG_M i g6 g10 g11 g12 g59 g60 g61 g62 g63 g64 g65))))
            · refine jr.if_ne rfl rfl (by first | exact rgl rfl | omega) (fun h => absurd h (by decide)) (fun _ => ?_)
              refine jr.iconst rfl ?_
              exact jr.ireturn rfl rfl rfl (q _ _ hI_M hH_M hS_M ht_M (by first | exact rgq rfl | omega) (Or.inl rfl) (fun a i f598 f603 f604 f605 => (hF_M a i f598 f603 f604 f605)) (fun i g6 g10 g11 g12 g59 g60 g61 g62 g63 g64 g65 => (hG_M i g6 g10 g11 g12 g59 g60 g61 g62 g63 g64 g65)))
        · refine jr.iinc (ls' := [_, _, _, _]) rfl rfl (nlt rfl) rfl ?_
          refine jr.goto rfl rfl ?_
          refine jr.pick (ls := [_, _, _, _]) [0, 1, 2, 3] rfl rfl ?_
          exact ih (nM - 1) (by omega) M (h + 1) t x hI_M hH_M hS_M ht_M (fun a i f598 f603 f604 f605 => (hF_M a i f598 f603 f604 f605)) (fun i g6 g10 g11 g12 g59 g60 g61 g62 g63 g64 g65 => (hG_M i g6 g10 g11 g12 g59 g60 g61 g62 g63 g64 g65)) (by omega) (by omega) (by omega) (by omega) (by omega) (by omega)
theorem r_hasEnds {A : Nat → Option (Nat × (Nat → Int32))} {Q : Option Value → jm → Prop} {T : jm} {M : jm} (hI_M : RI M) (hH_M : RH M) (hS_M : RF M) (ht_M : Kp T M) {x : Int} (h_x : 0 ≤ x ∧ x ≤ 23) (p0 : M 600 x ≠ -1) (q : ∀ (r : Int) (M' : jm), RI M' → RH M' → RF M' → Kp T M' → 0 ≤ r ∧ r ≤ 1 → (r = 0 ∨ RE M') → (∀ (a : Nat) (i : Int), a ≠ 598 → a ≠ 603 → a ≠ 604 → a ≠ 605 → M' a i = M a i) → (∀ (i : Int), i ≠ 6 → i ≠ 10 → i ≠ 11 → i ≠ 12 → i ≠ 59 → i ≠ 60 → i ≠ 61 → i ≠ 62 → i ≠ 63 → i ≠ 64 → i ≠ 65 → M' 598 i = M 598 i) → Q (some (.int (Int32.ofInt r))) M') : jc A 7 302 [.ref (598), .int (Int32.ofInt (x))] M Q := by
  refine jc_of (m := xm_302) rfl (Nat.le_of_ble_eq_true rfl) rfl ?_
  refine jr.aload_n rfl rfl ?_
  refine jr.iload_n rfl rfl ?_
  obtain ⟨v2, e2⟩ : ∃ z, M 600 x = z := ⟨_, rfl⟩
  have b2 : (-1) ≤ v2 ∧ v2 ≤ 400 := by rw [← e2]; exact (by have q := hI_M 600 x (Nat.le_of_ble_eq_true rfl); rw [xri_row rfl rfl] at q; exact q)
  refine jr_v rfl rfl (Or.inl rfl) rfl rfl (nlt rfl) rfl ⟨rfl, Nat.le_of_ble_eq_true rfl, Nat.le_of_ble_eq_true rfl⟩ rfl (jc.deep (r_look hI_M hH_M hS_M ht_M (by omega) (by rw [e2]; omega) (fun M1 hI_M1 hH_M1 hS_M1 ht_M1 w1_0 w1_1 w1_2 => ?_)) (Nat.le_of_ble_eq_true rfl))
  refine jr.aload_n rfl rfl ?_
  obtain ⟨v3, e3⟩ : ∃ z, M1 598 10 = z := ⟨_, rfl⟩
  have b3 : 0 ≤ v3 ∧ v3 ≤ 6 := by rw [← e3]; exact hI_M1 598 10 (Nat.le_of_ble_eq_true rfl)
  refine jr.getf (i := 10) (x := v3) (v := .int (Int32.ofInt (v3))) rfl rfl (nlt rfl) rfl (nlt rfl) rfl rfl e3 rfl ?_
  refine jr.if_ne rfl rfl (by first | (refine rgb (by assumption) ?_; exact rfl) | omega) (fun h9 => ?_) (fun h9 => ?_)
  · have sx9 : (1 : Int) ≤ v3 := by omega
    clear h9
    refine jr.iconst rfl ?_
    exact jr.ireturn rfl rfl rfl (q _ _ hI_M1 hH_M1 hS_M1 ht_M1 (by first | exact rgq rfl | omega) (Or.inl rfl) (fun a i f598 f603 f604 f605 => ((w1_1 a i f598 f603 f604 f605).trans rfl)) (fun i g6 g10 g11 g12 g59 g60 g61 g62 g63 g64 g65 => ((w1_2 i g6 g10 g11 g12).trans rfl)))
  · refine jr.aload_n rfl rfl ?_
    refine jr.iload_n rfl rfl ?_
    refine jr_v rfl rfl (Or.inl rfl) rfl rfl (nlt rfl) rfl ⟨rfl, Nat.le_of_ble_eq_true rfl, Nat.le_of_ble_eq_true rfl⟩ rfl (jc.deep (r_piece hI_M1 hH_M1 hS_M1 ht_M1 (by omega)  (fun r4 z4 w4_0 w4_1 => ?_)) (Nat.le_of_ble_eq_true rfl))
    refine jr.iconst rfl ?_
    refine jr.icmp_eq rfl rfl (by first | (refine rgb (by assumption) ?_; exact rfl) | omega) (rgl rfl) (fun h18 => ?_) (fun h18 => ?_)
    · refine jr.aload_n rfl rfl ?_
      refine jr_v rfl rfl (Or.inl rfl) rfl rfl (nlt rfl) rfl ⟨rfl, Nat.le_of_ble_eq_true rfl, Nat.le_of_ble_eq_true rfl⟩ rfl (jc.deep (r_net hI_M1 hH_M1 hS_M1 ht_M1   (fun r5 z5 w5_0 w5_1 w5_2 => ?_)) (Nat.le_of_ble_eq_true rfl))
      refine jr.istore_n (ls' := [_, _, _]) rfl (nlt rfl) rfl ?_
      refine jr.iload_n rfl rfl ?_
      refine jr.iconst rfl ?_
      refine jr.icmp_ne rfl rfl (by first | (refine rgb (by assumption) ?_; exact rfl) | omega) (rgl rfl) (fun h30 => ?_) (fun h30 => ?_)
      · have sx30 : (0 : Int) ≤ r5 := by omega
        clear h30
        refine jr.iload_n rfl rfl ?_
        refine jr.iconst rfl ?_
        refine jr.iadd rfl ?_
        refine jr.istore_n (ls' := [_, _, _, _]) rfl (nlt rfl) rfl ?_
        refine jr.pick (ls := [_, _, _, _]) [0, 1, 3, 2] rfl rfl ?_
        exact r_hasEnds_L39 q 13 M1 (r5 + 1) r5 x hI_M1 hH_M1 hS_M1 ht_M1 (fun a i f598 f603 f604 f605 => ((w1_1 a i f598 f603 f604 f605).trans rfl)) (fun i g6 g10 g11 g12 g59 g60 g61 g62 g63 g64 g65 => ((w1_2 i g6 g10 g11 g12).trans rfl)) (by omega) (by omega) (by omega) (by omega) (by omega) (by omega)
      · refine jr.iconst rfl ?_
        exact jr.ireturn rfl rfl rfl (q _ _ hI_M1 hH_M1 hS_M1 ht_M1 (by first | exact rgq rfl | omega) (Or.inl rfl) (fun a i f598 f603 f604 f605 => ((w1_1 a i f598 f603 f604 f605).trans rfl)) (fun i g6 g10 g11 g12 g59 g60 g61 g62 g63 g64 g65 => ((w1_2 i g6 g10 g11 g12).trans rfl)))
    · have sx18 : (0 : Int) ≤ r4 := by omega
      clear h18
      refine jr.iconst rfl ?_
      exact jr.ireturn rfl rfl rfl (q _ _ hI_M1 hH_M1 hS_M1 ht_M1 (by first | exact rgq rfl | omega) (Or.inl rfl) (fun a i f598 f603 f604 f605 => ((w1_1 a i f598 f603 f604 f605).trans rfl)) (fun i g6 g10 g11 g12 g59 g60 g61 g62 g63 g64 g65 => ((w1_2 i g6 g10 g11 g12).trans rfl)))
end
section
/-! ===== the reference: contracts, 33.rg ===== -/
theorem r_isRelated {A : Nat → Option (Nat × (Nat → Int32))} {Q : Option Value → jm → Prop} {T : jm} {M : jm} (hI_M : RI M) (hH_M : RH M) (hS_M : RF M) (ht_M : Kp T M) {x : Int} (h_x : 0 ≤ x ∧ x ≤ 23) (p0 : RE M) (q : ∀ (r : Int) (M' : jm), RI M' → RH M' → RF M' → Kp T M' → 0 ≤ r ∧ r ≤ 1 → RE M' → (∀ (a : Nat) (i : Int), a ≠ 598 → M' a i = M a i) → (∀ (i : Int), i ≠ 59 → i ≠ 60 → i ≠ 61 → i ≠ 62 → i ≠ 63 → i ≠ 64 → i ≠ 65 → M' 598 i = M 598 i) → Q (some (.int (Int32.ofInt r))) M') : jc A 7 305 [.ref (598), .int (Int32.ofInt (x))] M Q := by
  have p0' := p0
  obtain ⟨re1, re2, re3, re4, re5, tt, rt0, rt1, rt2⟩ := p0
  obtain ⟨ea, hea⟩ : ∃ z, M 598 65 = z := ⟨_, rfl⟩
  rw [hea] at re1 re2 re3 re4
  have rc := RH.car hH_M ea
  have b65 : M 598 6 ≤ 12 := (hI_M 598 6 (Nat.le_of_ble_eq_true rfl)).2
  have rt := RH.two hH_M (ea + 1)
  have rd := RH.car hH_M (ea + 2)
  have rc1 : M 604 ea ≤ 392 := rc.1 re3
  have re3b : 7 ≤ M 603 ea ∧ M 603 ea ≤ 9 := by clear rc rt rd re5 re4; omega
  have rt2b : 2 ≤ M 603 tt ∧ M 603 tt ≤ 3 := by clear rc rt rd re5 re4 re3; omega
  clear rc re3 rt2
  refine jc_of (m := xm_305) rfl (Nat.le_of_ble_eq_true rfl) rfl ?_
  refine jr.aload_n rfl rfl ?_
  refine jr.getf (i := 65) (x := ea) (v := .int (Int32.ofInt (ea))) rfl rfl (nlt rfl) rfl (nlt rfl) rfl rfl hea rfl ?_
  refine jr.istore_n (ls' := [_, _, _]) rfl (nlt rfl) rfl ?_
  refine jr.aload_n rfl rfl ?_
  refine jr.getf (i := 7) (v := .ref 603) rfl rfl (nlt rfl) rfl (nlt rfl) rfl rfl rfl rfl ?_
  refine jr.iload_n rfl rfl ?_
  obtain ⟨v1, e1⟩ : ∃ z, M 603 ea = z := ⟨_, rfl⟩
  have b1 : 0 ≤ v1 ∧ v1 ≤ 11 := by rw [← e1]; exact (by have q := hI_M 603 ea (Nat.le_of_ble_eq_true rfl); rw [xri_row rfl rfl] at q; exact q)
  refine jr.iald (i := ea) (x := v1) rfl (nlt rfl) rfl (Nat.le_of_ble_eq_true rfl) (by omega) (by omega) e1 ?_
  refine jr.bipush rfl (jbp _ (nlt rfl)) ?_
  refine jr.icmp_ne rfl rfl (by first | (refine rgb (by assumption) ?_; exact rfl) | omega) (rgl rfl) (fun h13 => ?_) (fun h13 => ?_)
  · refine jr.iconst rfl ?_
    exact jr.ireturn rfl rfl rfl (q _ _ hI_M hH_M hS_M ht_M (by first | exact rgq rfl | omega) p0' (fun a i f598 => rfl) (fun i g59 g60 g61 g62 g63 g64 g65 => rfl))
  · refine jr.aload_n rfl rfl ?_
    refine jr.iload_n rfl rfl ?_
    refine jr.aload_n rfl rfl ?_
    refine jr.getf (i := 8) (v := .ref 604) rfl rfl (nlt rfl) rfl (nlt rfl) rfl rfl rfl rfl ?_
    refine jr.iload_n rfl rfl ?_
    obtain ⟨v2, e2⟩ : ∃ z, M 604 ea = z := ⟨_, rfl⟩
    have b2 : 0 ≤ v2 ∧ v2 ≤ 400 := by rw [← e2]; exact (by have q := hI_M 604 ea (Nat.le_of_ble_eq_true rfl); rw [xri_row rfl rfl] at q; exact q)
    refine jr.iald (i := ea) (x := v2) rfl (nlt rfl) rfl (Nat.le_of_ble_eq_true rfl) (by omega) (by omega) e2 ?_
    refine jr_v rfl rfl (Or.inl rfl) rfl rfl (nlt rfl) rfl ⟨rfl, Nat.le_of_ble_eq_true rfl, Nat.le_of_ble_eq_true rfl⟩ rfl (jc.deep (r_one hI_M hH_M hS_M ht_M (by omega) (by omega)  (fun r3 z3 w3_0 => ?_)) (Nat.le_of_ble_eq_true rfl))
    refine jr.iconst rfl ?_
    refine jr.icmp_eq rfl rfl (by first | (refine rgb (by assumption) ?_; exact rfl) | omega) (rgl rfl) (fun h28 => ?_) (fun h28 => ?_)
    · refine jr.iload_n rfl rfl ?_
      refine jr.iconst rfl ?_
      refine jr.iadd rfl ?_
      refine jr.aload_n rfl rfl ?_
      obtain ⟨v4, e4⟩ : ∃ z, M 598 6 = z := ⟨_, rfl⟩
      have b4 : 0 ≤ v4 ∧ v4 ≤ 12 := by rw [← e4]; exact hI_M 598 6 (Nat.le_of_ble_eq_true rfl)
      refine jr.getf (i := 6) (x := v4) (v := .int (Int32.ofInt (v4))) rfl rfl (nlt rfl) rfl (nlt rfl) rfl rfl e4 rfl ?_
      refine jr.icmp_ge rfl rfl (by first | (refine rgb (by assumption) ?_; exact rfl) | omega) (by first | (refine rgb (by assumption) ?_; exact rfl) | omega) (fun h56 => ?_) (fun h56 => ?_)
      · refine jr.iconst rfl ?_
        refine jr.istore_n (ls' := [_, _, _, _]) rfl (nlt rfl) rfl ?_
        refine jr.iload_n rfl rfl ?_
        refine jr.if_eq rfl rfl (by first | exact rgl rfl | omega) (fun _ => ?_) (fun h => absurd (by decide) h)
        refine jr.iload_n rfl rfl ?_
        exact jr.ireturn rfl rfl rfl (q _ _ hI_M hH_M hS_M ht_M (by omega) p0' (fun a i f598 => rfl) (fun i g59 g60 g61 g62 g63 g64 g65 => rfl))
      · refine jr.aload_n rfl rfl ?_
        refine jr.getf (i := 7) (v := .ref 603) rfl rfl (nlt rfl) rfl (nlt rfl) rfl rfl rfl rfl ?_
        refine jr.iload_n rfl rfl ?_
        refine jr.iconst rfl ?_
        refine jr.iadd rfl ?_
        obtain ⟨v5, e5⟩ : ∃ z, M 603 (ea + 1) = z := ⟨_, rfl⟩
        have b5 : 0 ≤ v5 ∧ v5 ≤ 11 := by rw [← e5]; exact (by have q := hI_M 603 (ea + 1) (Nat.le_of_ble_eq_true rfl); rw [xri_row rfl rfl] at q; exact q)
        refine jr.iald (i := (ea + 1)) (x := v5) rfl (nlt rfl) rfl (Nat.le_of_ble_eq_true rfl) (by omega) (by omega) e5 ?_
        refine jr.iconst rfl ?_
        refine jr.icmp_eq rfl rfl (by first | (refine rgb (by assumption) ?_; exact rfl) | omega) (rgl rfl) (fun h68 => ?_) (fun h68 => ?_)
        · refine jr.aload_n rfl rfl ?_
          refine jr.getf (i := 7) (v := .ref 603) rfl rfl (nlt rfl) rfl (nlt rfl) rfl rfl rfl rfl ?_
          refine jr.iload_n rfl rfl ?_
          refine jr.iconst rfl ?_
          refine jr.iadd rfl ?_
          obtain ⟨v6, e6⟩ : ∃ z, M 603 (ea + 2) = z := ⟨_, rfl⟩
          have b6 : 0 ≤ v6 ∧ v6 ≤ 11 := by rw [← e6]; exact (by have q := hI_M 603 (ea + 2) (Nat.le_of_ble_eq_true rfl); rw [xri_row rfl rfl] at q; exact q)
          refine jr.iald (i := (ea + 2)) (x := v6) rfl (nlt rfl) rfl (Nat.le_of_ble_eq_true rfl) (by omega) (by omega) e6 ?_
          refine jr_s rfl rfl (Or.inl rfl) ⟨Nat.le_of_ble_eq_true rfl, Nat.le_of_ble_eq_true rfl⟩ rfl rfl (jc.deep (c_isCarried (by omega) (fun c91 => ?_) (fun c91 => ?_)) (Nat.le_of_ble_eq_true rfl))
          · refine jr.if_eq rfl rfl (by first | exact rgl rfl | omega) (fun h => absurd h (by decide)) (fun _ => ?_)
            refine jr.iconst rfl ?_
            refine jr.goto rfl rfl ?_
            refine jr.istore_n (ls' := [_, _, _, _]) rfl (nlt rfl) rfl ?_
            refine jr.iload_n rfl rfl ?_
            refine jr.if_eq rfl rfl (by first | exact rgl rfl | omega) (fun h => absurd h (by decide)) (fun _ => ?_)
            refine jr.aload_n rfl rfl ?_
            refine jr.iload_n rfl rfl ?_
            refine jr.iload_n rfl rfl ?_
            refine jr.iconst rfl ?_
            refine jr.iadd rfl ?_
            refine jr.iload_n rfl rfl ?_
            refine jr.iconst rfl ?_
            refine jr.iadd rfl ?_
            obtain ⟨v8, e8⟩ : ∃ z, M 604 (ea + 1) = z := ⟨_, rfl⟩
            have b8 : 0 ≤ v8 ∧ v8 ≤ 400 := by rw [← e8]; exact (by have q := hI_M 604 (ea + 1) (Nat.le_of_ble_eq_true rfl); rw [xri_row rfl rfl] at q; exact q)
            obtain ⟨v9, e9⟩ : ∃ z, M 604 (ea + 2) = z := ⟨_, rfl⟩
            have b9 : 0 ≤ v9 ∧ v9 ≤ 400 := by rw [← e9]; exact (by have q := hI_M 604 (ea + 2) (Nat.le_of_ble_eq_true rfl); rw [xri_row rfl rfl] at q; exact q)
            refine jr_v rfl rfl (Or.inl rfl) rfl rfl (nlt rfl) rfl ⟨rfl, Nat.le_of_ble_eq_true rfl, Nat.le_of_ble_eq_true rfl⟩ rfl (jc.deep (r_takeEnds hI_M hH_M hS_M ht_M (by omega) (by omega) (by omega) (by rw [e5, e8]; have z := rt; rw [e5, e8] at z; omega) (by rw [e6]; omega) (by rw [e9]; have z := rd; rw [e6, e9] at z; omega) (fun M7 hI_M7 hH_M7 hS_M7 ht_M7 w7_0 w7_1 w7_2 w7_3 w7_4 => ?_)) (Nat.le_of_ble_eq_true rfl))
            refine jr.iload_n rfl rfl ?_
            have e10 : M7 598 6 = v4 := ((w7_4 6 (zne rfl) (zne rfl) (zne rfl) (zne rfl) (zne rfl) (zne rfl) (zne rfl)).trans e4)
            have e11 : M7 603 (ea + 2) = v6 := ((w7_3 603 (ea + 2) (nne rfl)).trans e6)
            obtain ⟨v12, e12⟩ : ∃ z, M 603 tt = z := ⟨_, rfl⟩
            have b12 : 0 ≤ v12 ∧ v12 ≤ 11 := by rw [← e12]; exact (by have q := hI_M 603 tt (Nat.le_of_ble_eq_true rfl); rw [xri_row rfl rfl] at q; exact q)
            have e13 : M7 603 tt = v12 := ((w7_3 603 tt (nne rfl)).trans e12)
            exact jr.ireturn rfl rfl rfl (q _ _ hI_M7 hH_M7 hS_M7 ht_M7 (by omega) (RE.mk' w7_0 (by omega) (by rw [e10]; omega) (by rw [e11]; omega) (fun q => by rw [e11]; have z := w7_1 q; omega) w7_2 (t := tt) (by omega) (by rw [e10]; omega) (by rw [e13]; omega)) (fun a i f598 => ((w7_3 a i f598).trans rfl)) (fun i g59 g60 g61 g62 g63 g64 g65 => ((w7_4 i g59 g60 g61 g62 g63 g64 g65).trans rfl)))
          · refine jr.if_eq rfl rfl (by first | exact rgl rfl | omega) (fun _ => ?_) (fun h => absurd (by decide) h)
            refine jr.iconst rfl ?_
            refine jr.istore_n (ls' := [_, _, _, _]) rfl (nlt rfl) rfl ?_
            refine jr.iload_n rfl rfl ?_
            refine jr.if_eq rfl rfl (by first | exact rgl rfl | omega) (fun _ => ?_) (fun h => absurd (by decide) h)
            refine jr.iload_n rfl rfl ?_
            exact jr.ireturn rfl rfl rfl (q _ _ hI_M hH_M hS_M ht_M (by omega) p0' (fun a i f598 => rfl) (fun i g59 g60 g61 g62 g63 g64 g65 => rfl))
        · refine jr.aload_n rfl rfl ?_
          refine jr.getf (i := 7) (v := .ref 603) rfl rfl (nlt rfl) rfl (nlt rfl) rfl rfl rfl rfl ?_
          refine jr.iload_n rfl rfl ?_
          refine jr.iconst rfl ?_
          refine jr.iadd rfl ?_
          refine jr.iald (i := (ea + 1)) (x := v5) rfl (nlt rfl) rfl (Nat.le_of_ble_eq_true rfl) (by omega) (by omega) e5 ?_
          refine jr.iconst rfl ?_
          refine jr.icmp_ne rfl rfl (by first | (refine rgb (by assumption) ?_; exact rfl) | omega) (rgl rfl) (fun h80 => ?_) (fun h80 => ?_)
          · refine jr.iconst rfl ?_
            refine jr.istore_n (ls' := [_, _, _, _]) rfl (nlt rfl) rfl ?_
            refine jr.iload_n rfl rfl ?_
            refine jr.if_eq rfl rfl (by first | exact rgl rfl | omega) (fun _ => ?_) (fun h => absurd (by decide) h)
            refine jr.iload_n rfl rfl ?_
            exact jr.ireturn rfl rfl rfl (q _ _ hI_M hH_M hS_M ht_M (by omega) p0' (fun a i f598 => rfl) (fun i g59 g60 g61 g62 g63 g64 g65 => rfl))
          · refine jr.aload_n rfl rfl ?_
            refine jr.getf (i := 7) (v := .ref 603) rfl rfl (nlt rfl) rfl (nlt rfl) rfl rfl rfl rfl ?_
            refine jr.iload_n rfl rfl ?_
            refine jr.iconst rfl ?_
            refine jr.iadd rfl ?_
            obtain ⟨v14, e14⟩ : ∃ z, M 603 (ea + 2) = z := ⟨_, rfl⟩
            have b14 : 0 ≤ v14 ∧ v14 ≤ 11 := by rw [← e14]; exact (by have q := hI_M 603 (ea + 2) (Nat.le_of_ble_eq_true rfl); rw [xri_row rfl rfl] at q; exact q)
            refine jr.iald (i := (ea + 2)) (x := v14) rfl (nlt rfl) rfl (Nat.le_of_ble_eq_true rfl) (by omega) (by omega) e14 ?_
            refine jr_s rfl rfl (Or.inl rfl) ⟨Nat.le_of_ble_eq_true rfl, Nat.le_of_ble_eq_true rfl⟩ rfl rfl (jc.deep (c_isCarried (by omega) (fun c91 => ?_) (fun c91 => ?_)) (Nat.le_of_ble_eq_true rfl))
            · refine jr.if_eq rfl rfl (by first | exact rgl rfl | omega) (fun h => absurd h (by decide)) (fun _ => ?_)
              refine jr.iconst rfl ?_
              refine jr.goto rfl rfl ?_
              refine jr.istore_n (ls' := [_, _, _, _]) rfl (nlt rfl) rfl ?_
              refine jr.iload_n rfl rfl ?_
              refine jr.if_eq rfl rfl (by first | exact rgl rfl | omega) (fun h => absurd h (by decide)) (fun _ => ?_)
              refine jr.aload_n rfl rfl ?_
              refine jr.iload_n rfl rfl ?_
              refine jr.iload_n rfl rfl ?_
              refine jr.iconst rfl ?_
              refine jr.iadd rfl ?_
              refine jr.iload_n rfl rfl ?_
              refine jr.iconst rfl ?_
              refine jr.iadd rfl ?_
              obtain ⟨v16, e16⟩ : ∃ z, M 604 (ea + 1) = z := ⟨_, rfl⟩
              have b16 : 0 ≤ v16 ∧ v16 ≤ 400 := by rw [← e16]; exact (by have q := hI_M 604 (ea + 1) (Nat.le_of_ble_eq_true rfl); rw [xri_row rfl rfl] at q; exact q)
              obtain ⟨v17, e17⟩ : ∃ z, M 604 (ea + 2) = z := ⟨_, rfl⟩
              have b17 : 0 ≤ v17 ∧ v17 ≤ 400 := by rw [← e17]; exact (by have q := hI_M 604 (ea + 2) (Nat.le_of_ble_eq_true rfl); rw [xri_row rfl rfl] at q; exact q)
              refine jr_v rfl rfl (Or.inl rfl) rfl rfl (nlt rfl) rfl ⟨rfl, Nat.le_of_ble_eq_true rfl, Nat.le_of_ble_eq_true rfl⟩ rfl (jc.deep (r_takeEnds hI_M hH_M hS_M ht_M (by omega) (by omega) (by omega) (by rw [e5, e16]; have z := rt; rw [e5, e16] at z; omega) (by rw [e14]; omega) (by rw [e17]; have z := rd; rw [e14, e17] at z; omega) (fun M15 hI_M15 hH_M15 hS_M15 ht_M15 w15_0 w15_1 w15_2 w15_3 w15_4 => ?_)) (Nat.le_of_ble_eq_true rfl))
              refine jr.iload_n rfl rfl ?_
              have e18 : M15 598 6 = v4 := ((w15_4 6 (zne rfl) (zne rfl) (zne rfl) (zne rfl) (zne rfl) (zne rfl) (zne rfl)).trans e4)
              have e19 : M15 603 (ea + 2) = v14 := ((w15_3 603 (ea + 2) (nne rfl)).trans e14)
              obtain ⟨v20, e20⟩ : ∃ z, M 603 tt = z := ⟨_, rfl⟩
              have b20 : 0 ≤ v20 ∧ v20 ≤ 11 := by rw [← e20]; exact (by have q := hI_M 603 tt (Nat.le_of_ble_eq_true rfl); rw [xri_row rfl rfl] at q; exact q)
              have e21 : M15 603 tt = v20 := ((w15_3 603 tt (nne rfl)).trans e20)
              exact jr.ireturn rfl rfl rfl (q _ _ hI_M15 hH_M15 hS_M15 ht_M15 (by omega) (RE.mk' w15_0 (by omega) (by rw [e18]; omega) (by rw [e19]; omega) (fun q => by rw [e19]; have z := w15_1 q; omega) w15_2 (t := tt) (by omega) (by rw [e18]; omega) (by rw [e21]; omega)) (fun a i f598 => ((w15_3 a i f598).trans rfl)) (fun i g59 g60 g61 g62 g63 g64 g65 => ((w15_4 i g59 g60 g61 g62 g63 g64 g65).trans rfl)))
            · refine jr.if_eq rfl rfl (by first | exact rgl rfl | omega) (fun _ => ?_) (fun h => absurd (by decide) h)
              refine jr.iconst rfl ?_
              refine jr.istore_n (ls' := [_, _, _, _]) rfl (nlt rfl) rfl ?_
              refine jr.iload_n rfl rfl ?_
              refine jr.if_eq rfl rfl (by first | exact rgl rfl | omega) (fun _ => ?_) (fun h => absurd (by decide) h)
              refine jr.iload_n rfl rfl ?_
              exact jr.ireturn rfl rfl rfl (q _ _ hI_M hH_M hS_M ht_M (by omega) p0' (fun a i f598 => rfl) (fun i g59 g60 g61 g62 g63 g64 g65 => rfl))
    · refine jr.aload_n rfl rfl ?_
      refine jr.iload_n rfl rfl ?_
      refine jr.aload_n rfl rfl ?_
      refine jr.getf (i := 8) (v := .ref 604) rfl rfl (nlt rfl) rfl (nlt rfl) rfl rfl rfl rfl ?_
      refine jr.iload_n rfl rfl ?_
      refine jr.iald (i := ea) (x := v2) rfl (nlt rfl) rfl (Nat.le_of_ble_eq_true rfl) (by omega) (by omega) e2 ?_
      refine jr_v rfl rfl (Or.inl rfl) rfl rfl (nlt rfl) rfl ⟨rfl, Nat.le_of_ble_eq_true rfl, Nat.le_of_ble_eq_true rfl⟩ rfl (jc.deep (r_one hI_M hH_M hS_M ht_M (by omega) (by omega)  (fun r22 z22 w22_0 => ?_)) (Nat.le_of_ble_eq_true rfl))
      refine jr.bipush rfl (jbp _ (nlt rfl)) ?_
      refine jr.icmp_eq rfl rfl (by first | (refine rgb (by assumption) ?_; exact rfl) | omega) (rgl rfl) (fun h44 => ?_) (fun h44 => ?_)
      · refine jr.iload_n rfl rfl ?_
        refine jr.iconst rfl ?_
        refine jr.iadd rfl ?_
        refine jr.aload_n rfl rfl ?_
        obtain ⟨v23, e23⟩ : ∃ z, M 598 6 = z := ⟨_, rfl⟩
        have b23 : 0 ≤ v23 ∧ v23 ≤ 12 := by rw [← e23]; exact hI_M 598 6 (Nat.le_of_ble_eq_true rfl)
        refine jr.getf (i := 6) (x := v23) (v := .int (Int32.ofInt (v23))) rfl rfl (nlt rfl) rfl (nlt rfl) rfl rfl e23 rfl ?_
        refine jr.icmp_ge rfl rfl (by first | (refine rgb (by assumption) ?_; exact rfl) | omega) (by first | (refine rgb (by assumption) ?_; exact rfl) | omega) (fun h56 => ?_) (fun h56 => ?_)
        · refine jr.iconst rfl ?_
          refine jr.istore_n (ls' := [_, _, _, _]) rfl (nlt rfl) rfl ?_
          refine jr.iload_n rfl rfl ?_
          refine jr.if_eq rfl rfl (by first | exact rgl rfl | omega) (fun _ => ?_) (fun h => absurd (by decide) h)
          refine jr.iload_n rfl rfl ?_
          exact jr.ireturn rfl rfl rfl (q _ _ hI_M hH_M hS_M ht_M (by omega) p0' (fun a i f598 => rfl) (fun i g59 g60 g61 g62 g63 g64 g65 => rfl))
        · refine jr.aload_n rfl rfl ?_
          refine jr.getf (i := 7) (v := .ref 603) rfl rfl (nlt rfl) rfl (nlt rfl) rfl rfl rfl rfl ?_
          refine jr.iload_n rfl rfl ?_
          refine jr.iconst rfl ?_
          refine jr.iadd rfl ?_
          obtain ⟨v24, e24⟩ : ∃ z, M 603 (ea + 1) = z := ⟨_, rfl⟩
          have b24 : 0 ≤ v24 ∧ v24 ≤ 11 := by rw [← e24]; exact (by have q := hI_M 603 (ea + 1) (Nat.le_of_ble_eq_true rfl); rw [xri_row rfl rfl] at q; exact q)
          refine jr.iald (i := (ea + 1)) (x := v24) rfl (nlt rfl) rfl (Nat.le_of_ble_eq_true rfl) (by omega) (by omega) e24 ?_
          refine jr.iconst rfl ?_
          refine jr.icmp_eq rfl rfl (by first | (refine rgb (by assumption) ?_; exact rfl) | omega) (rgl rfl) (fun h68 => ?_) (fun h68 => ?_)
          · refine jr.aload_n rfl rfl ?_
            refine jr.getf (i := 7) (v := .ref 603) rfl rfl (nlt rfl) rfl (nlt rfl) rfl rfl rfl rfl ?_
            refine jr.iload_n rfl rfl ?_
            refine jr.iconst rfl ?_
            refine jr.iadd rfl ?_
            obtain ⟨v25, e25⟩ : ∃ z, M 603 (ea + 2) = z := ⟨_, rfl⟩
            have b25 : 0 ≤ v25 ∧ v25 ≤ 11 := by rw [← e25]; exact (by have q := hI_M 603 (ea + 2) (Nat.le_of_ble_eq_true rfl); rw [xri_row rfl rfl] at q; exact q)
            refine jr.iald (i := (ea + 2)) (x := v25) rfl (nlt rfl) rfl (Nat.le_of_ble_eq_true rfl) (by omega) (by omega) e25 ?_
            refine jr_s rfl rfl (Or.inl rfl) ⟨Nat.le_of_ble_eq_true rfl, Nat.le_of_ble_eq_true rfl⟩ rfl rfl (jc.deep (c_isCarried (by omega) (fun c91 => ?_) (fun c91 => ?_)) (Nat.le_of_ble_eq_true rfl))
            · refine jr.if_eq rfl rfl (by first | exact rgl rfl | omega) (fun h => absurd h (by decide)) (fun _ => ?_)
              refine jr.iconst rfl ?_
              refine jr.goto rfl rfl ?_
              refine jr.istore_n (ls' := [_, _, _, _]) rfl (nlt rfl) rfl ?_
              refine jr.iload_n rfl rfl ?_
              refine jr.if_eq rfl rfl (by first | exact rgl rfl | omega) (fun h => absurd h (by decide)) (fun _ => ?_)
              refine jr.aload_n rfl rfl ?_
              refine jr.iload_n rfl rfl ?_
              refine jr.iload_n rfl rfl ?_
              refine jr.iconst rfl ?_
              refine jr.iadd rfl ?_
              refine jr.iload_n rfl rfl ?_
              refine jr.iconst rfl ?_
              refine jr.iadd rfl ?_
              obtain ⟨v27, e27⟩ : ∃ z, M 604 (ea + 1) = z := ⟨_, rfl⟩
              have b27 : 0 ≤ v27 ∧ v27 ≤ 400 := by rw [← e27]; exact (by have q := hI_M 604 (ea + 1) (Nat.le_of_ble_eq_true rfl); rw [xri_row rfl rfl] at q; exact q)
              obtain ⟨v28, e28⟩ : ∃ z, M 604 (ea + 2) = z := ⟨_, rfl⟩
              have b28 : 0 ≤ v28 ∧ v28 ≤ 400 := by rw [← e28]; exact (by have q := hI_M 604 (ea + 2) (Nat.le_of_ble_eq_true rfl); rw [xri_row rfl rfl] at q; exact q)
              refine jr_v rfl rfl (Or.inl rfl) rfl rfl (nlt rfl) rfl ⟨rfl, Nat.le_of_ble_eq_true rfl, Nat.le_of_ble_eq_true rfl⟩ rfl (jc.deep (r_takeEnds hI_M hH_M hS_M ht_M (by omega) (by omega) (by omega) (by rw [e24, e27]; have z := rt; rw [e24, e27] at z; omega) (by rw [e25]; omega) (by rw [e28]; have z := rd; rw [e25, e28] at z; omega) (fun M26 hI_M26 hH_M26 hS_M26 ht_M26 w26_0 w26_1 w26_2 w26_3 w26_4 => ?_)) (Nat.le_of_ble_eq_true rfl))
              refine jr.iload_n rfl rfl ?_
              have e29 : M26 598 6 = v23 := ((w26_4 6 (zne rfl) (zne rfl) (zne rfl) (zne rfl) (zne rfl) (zne rfl) (zne rfl)).trans e23)
              have e30 : M26 603 (ea + 2) = v25 := ((w26_3 603 (ea + 2) (nne rfl)).trans e25)
              obtain ⟨v31, e31⟩ : ∃ z, M 603 tt = z := ⟨_, rfl⟩
              have b31 : 0 ≤ v31 ∧ v31 ≤ 11 := by rw [← e31]; exact (by have q := hI_M 603 tt (Nat.le_of_ble_eq_true rfl); rw [xri_row rfl rfl] at q; exact q)
              have e32 : M26 603 tt = v31 := ((w26_3 603 tt (nne rfl)).trans e31)
              exact jr.ireturn rfl rfl rfl (q _ _ hI_M26 hH_M26 hS_M26 ht_M26 (by omega) (RE.mk' w26_0 (by omega) (by rw [e29]; omega) (by rw [e30]; omega) (fun q => by rw [e30]; have z := w26_1 q; omega) w26_2 (t := tt) (by omega) (by rw [e29]; omega) (by rw [e32]; omega)) (fun a i f598 => ((w26_3 a i f598).trans rfl)) (fun i g59 g60 g61 g62 g63 g64 g65 => ((w26_4 i g59 g60 g61 g62 g63 g64 g65).trans rfl)))
            · refine jr.if_eq rfl rfl (by first | exact rgl rfl | omega) (fun _ => ?_) (fun h => absurd (by decide) h)
              refine jr.iconst rfl ?_
              refine jr.istore_n (ls' := [_, _, _, _]) rfl (nlt rfl) rfl ?_
              refine jr.iload_n rfl rfl ?_
              refine jr.if_eq rfl rfl (by first | exact rgl rfl | omega) (fun _ => ?_) (fun h => absurd (by decide) h)
              refine jr.iload_n rfl rfl ?_
              exact jr.ireturn rfl rfl rfl (q _ _ hI_M hH_M hS_M ht_M (by omega) p0' (fun a i f598 => rfl) (fun i g59 g60 g61 g62 g63 g64 g65 => rfl))
          · refine jr.aload_n rfl rfl ?_
            refine jr.getf (i := 7) (v := .ref 603) rfl rfl (nlt rfl) rfl (nlt rfl) rfl rfl rfl rfl ?_
            refine jr.iload_n rfl rfl ?_
            refine jr.iconst rfl ?_
            refine jr.iadd rfl ?_
            refine jr.iald (i := (ea + 1)) (x := v24) rfl (nlt rfl) rfl (Nat.le_of_ble_eq_true rfl) (by omega) (by omega) e24 ?_
            refine jr.iconst rfl ?_
            refine jr.icmp_ne rfl rfl (by first | (refine rgb (by assumption) ?_; exact rfl) | omega) (rgl rfl) (fun h80 => ?_) (fun h80 => ?_)
            · refine jr.iconst rfl ?_
              refine jr.istore_n (ls' := [_, _, _, _]) rfl (nlt rfl) rfl ?_
              refine jr.iload_n rfl rfl ?_
              refine jr.if_eq rfl rfl (by first | exact rgl rfl | omega) (fun _ => ?_) (fun h => absurd (by decide) h)
              refine jr.iload_n rfl rfl ?_
              exact jr.ireturn rfl rfl rfl (q _ _ hI_M hH_M hS_M ht_M (by omega) p0' (fun a i f598 => rfl) (fun i g59 g60 g61 g62 g63 g64 g65 => rfl))
            · refine jr.aload_n rfl rfl ?_
              refine jr.getf (i := 7) (v := .ref 603) rfl rfl (nlt rfl) rfl (nlt rfl) rfl rfl rfl rfl ?_
              refine jr.iload_n rfl rfl ?_
              refine jr.iconst rfl ?_
              refine jr.iadd rfl ?_
              obtain ⟨v33, e33⟩ : ∃ z, M 603 (ea + 2) = z := ⟨_, rfl⟩
              have b33 : 0 ≤ v33 ∧ v33 ≤ 11 := by rw [← e33]; exact (by have q := hI_M 603 (ea + 2) (Nat.le_of_ble_eq_true rfl); rw [xri_row rfl rfl] at q; exact q)
              refine jr.iald (i := (ea + 2)) (x := v33) rfl (nlt rfl) rfl (Nat.le_of_ble_eq_true rfl) (by omega) (by omega) e33 ?_
              refine jr_s rfl rfl (Or.inl rfl) ⟨Nat.le_of_ble_eq_true rfl, Nat.le_of_ble_eq_true rfl⟩ rfl rfl (jc.deep (c_isCarried (by omega) (fun c91 => ?_) (fun c91 => ?_)) (Nat.le_of_ble_eq_true rfl))
              · refine jr.if_eq rfl rfl (by first | exact rgl rfl | omega) (fun h => absurd h (by decide)) (fun _ => ?_)
                refine jr.iconst rfl ?_
                refine jr.goto rfl rfl ?_
                refine jr.istore_n (ls' := [_, _, _, _]) rfl (nlt rfl) rfl ?_
                refine jr.iload_n rfl rfl ?_
                refine jr.if_eq rfl rfl (by first | exact rgl rfl | omega) (fun h => absurd h (by decide)) (fun _ => ?_)
                refine jr.aload_n rfl rfl ?_
                refine jr.iload_n rfl rfl ?_
                refine jr.iload_n rfl rfl ?_
                refine jr.iconst rfl ?_
                refine jr.iadd rfl ?_
                refine jr.iload_n rfl rfl ?_
                refine jr.iconst rfl ?_
                refine jr.iadd rfl ?_
                obtain ⟨v35, e35⟩ : ∃ z, M 604 (ea + 1) = z := ⟨_, rfl⟩
                have b35 : 0 ≤ v35 ∧ v35 ≤ 400 := by rw [← e35]; exact (by have q := hI_M 604 (ea + 1) (Nat.le_of_ble_eq_true rfl); rw [xri_row rfl rfl] at q; exact q)
                obtain ⟨v36, e36⟩ : ∃ z, M 604 (ea + 2) = z := ⟨_, rfl⟩
                have b36 : 0 ≤ v36 ∧ v36 ≤ 400 := by rw [← e36]; exact (by have q := hI_M 604 (ea + 2) (Nat.le_of_ble_eq_true rfl); rw [xri_row rfl rfl] at q; exact q)
                refine jr_v rfl rfl (Or.inl rfl) rfl rfl (nlt rfl) rfl ⟨rfl, Nat.le_of_ble_eq_true rfl, Nat.le_of_ble_eq_true rfl⟩ rfl (jc.deep (r_takeEnds hI_M hH_M hS_M ht_M (by omega) (by omega) (by omega) (by rw [e24, e35]; have z := rt; rw [e24, e35] at z; omega) (by rw [e33]; omega) (by rw [e36]; have z := rd; rw [e33, e36] at z; omega) (fun M34 hI_M34 hH_M34 hS_M34 ht_M34 w34_0 w34_1 w34_2 w34_3 w34_4 => ?_)) (Nat.le_of_ble_eq_true rfl))
                refine jr.iload_n rfl rfl ?_
                have e37 : M34 598 6 = v23 := ((w34_4 6 (zne rfl) (zne rfl) (zne rfl) (zne rfl) (zne rfl) (zne rfl) (zne rfl)).trans e23)
                have e38 : M34 603 (ea + 2) = v33 := ((w34_3 603 (ea + 2) (nne rfl)).trans e33)
                obtain ⟨v39, e39⟩ : ∃ z, M 603 tt = z := ⟨_, rfl⟩
                have b39 : 0 ≤ v39 ∧ v39 ≤ 11 := by rw [← e39]; exact (by have q := hI_M 603 tt (Nat.le_of_ble_eq_true rfl); rw [xri_row rfl rfl] at q; exact q)
                have e40 : M34 603 tt = v39 := ((w34_3 603 tt (nne rfl)).trans e39)
                exact jr.ireturn rfl rfl rfl (q _ _ hI_M34 hH_M34 hS_M34 ht_M34 (by omega) (RE.mk' w34_0 (by omega) (by rw [e37]; omega) (by rw [e38]; omega) (fun q => by rw [e38]; have z := w34_1 q; omega) w34_2 (t := tt) (by omega) (by rw [e37]; omega) (by rw [e40]; omega)) (fun a i f598 => ((w34_3 a i f598).trans rfl)) (fun i g59 g60 g61 g62 g63 g64 g65 => ((w34_4 i g59 g60 g61 g62 g63 g64 g65).trans rfl)))
              · refine jr.if_eq rfl rfl (by first | exact rgl rfl | omega) (fun _ => ?_) (fun h => absurd (by decide) h)
                refine jr.iconst rfl ?_
                refine jr.istore_n (ls' := [_, _, _, _]) rfl (nlt rfl) rfl ?_
                refine jr.iload_n rfl rfl ?_
                refine jr.if_eq rfl rfl (by first | exact rgl rfl | omega) (fun _ => ?_) (fun h => absurd (by decide) h)
                refine jr.iload_n rfl rfl ?_
                exact jr.ireturn rfl rfl rfl (q _ _ hI_M hH_M hS_M ht_M (by omega) p0' (fun a i f598 => rfl) (fun i g59 g60 g61 g62 g63 g64 g65 => rfl))
      · refine jr.iconst rfl ?_
        exact jr.ireturn rfl rfl rfl (q _ _ hI_M hH_M hS_M ht_M (by first | exact rgq rfl | omega) p0' (fun a i f598 => rfl) (fun i g59 g60 g61 g62 g63 g64 g65 => rfl))
end
section
/-! ===== the reference: contracts, 33.ri ===== -/
noncomputable def RW (M : jm) (n k : Int) : Prop := ∀ o : Int, 0 ≤ o → o < k → 48 * o + 48 ≤ n ∧ o ≤ 23 ∧ (M 599 (48 * o) = 6 → 1 ≤ M 599 (48 * o + 1) % 16 ∧ M 599 (48 * o + 1) % 16 ≤ 10)
theorem RW.zero (M : jm) (n : Int) : RW M n 0 := fun o h0 h1 => by omega
theorem RW.add {M : jm} {n k : Int} (h : RW M n k) (h1 : 48 * k + 48 ≤ n ∧ k ≤ 23 ∧ (M 599 (48 * k) = 6 → 1 ≤ M 599 (48 * k + 1) % 16 ∧ M 599 (48 * k + 1) % 16 ≤ 10)) : RW M n (k + 1) := by
  intro o h0 h2
  by_cases e : o = k
  · subst e
    exact h1
  · exact h o h0 (by omega)
theorem RW.fr {M M' : jm} {n k : Int} (h : RW M n k) (e : ∀ i, M' 599 i = M 599 i) : RW M' n k := by
  intro o h0 h1
  rw [e, e]
  exact h o h0 h1
theorem RW.le {M : jm} {n k : Int} (h : RW M n k) : k ≤ 24 := by
  by_cases e : k ≤ 0
  · omega
  · have := (h (k - 1) (by omega) (by omega)).2.1
    omega
theorem RW.w {M : jm} {n k w : Int} (h : RW M n k) (e : w ≤ k) : RW M n w := fun o h0 h1 => h o h0 (by omega)
theorem j_nz {x : Int} (h : x ≠ 0 ∧ -2147483648 ≤ x ∧ x ≤ 2147483647) : ¬ Int32.ofInt x = 0 := by
  intro e
  have q := congrArg Int32.toInt e
  rw [Int32.toInt_ofInt_of_le (by omega) (by omega)] at q
  have h0 : (0 : Int32).toInt = 0 := rfl
  omega
theorem jl_nz {x : Int} (h : x ≠ 0 ∧ -9223372036854775808 ≤ x ∧ x ≤ 9223372036854775807) : ¬ Int64.ofInt x = 0 := by
  intro e
  have q := congrArg Int64.toInt e
  rw [Int64.toInt_ofInt_of_le (by omega) (by omega)] at q
  have h0 : (0 : Int64).toInt = 0 := rfl
  omega
end
