section
/-! ===== the reference: contracts, 33.rf ===== -/
theorem r_takeEnds {A : Nat → Option (Nat × (Nat → Int32))} {Q : Option Value → jm → Prop} {T : jm} {M : jm} (hI_M : RI M) (hH_M : RH M) (hS_M : RF M) (ht_M : Kp T M) {x : Int} (h_x : 0 ≤ x ∧ x ≤ 23) {t : Int} (h_t : 0 ≤ t ∧ t ≤ 11) {h : Int} (h_h : 0 ≤ h ∧ h ≤ 11) (p0 : (M 603 t = 2 ∧ M 604 t ≤ 380 ∨ M 603 t = 3 ∧ M 604 t ≤ 376)) (p1 : (M 603 h = 7 ∨ M 603 h = 8 ∨ M 603 h = 9)) (p2 : M 604 h ≤ 392) (q : ∀ (M' : jm), RI M' → RH M' → RF M' → Kp T M' → M' 598 65 = h → (M' 598 60 = 6 → M 603 h = 8) → (M' 598 60 = 1 ∨ M' 598 60 = 6 ∨ M' 598 60 = 17) → (∀ (a : Nat) (i : Int), a ≠ 598 → M' a i = M a i) → (∀ (i : Int), i ≠ 59 → i ≠ 60 → i ≠ 61 → i ≠ 62 → i ≠ 63 → i ≠ 64 → i ≠ 65 → M' 598 i = M 598 i) → Q none M') : jc A 6 301 [.ref (598), .int (Int32.ofInt (x)), .int (Int32.ofInt (t)), .int (Int32.ofInt (h))] M Q := by
  refine jc_of (m := xm_301) rfl (Nat.le_of_ble_eq_true rfl) rfl ?_
  refine jr.aload_n rfl rfl ?_
  refine jr.aload_n rfl rfl ?_
  refine jr.getf (i := 7) (v := .ref 603) rfl rfl (by decide) rfl (by decide) rfl rfl rfl rfl ?_
  refine jr.iload_n rfl rfl ?_
  obtain ⟨v1, e1⟩ : ∃ z, M 603 t = z := ⟨_, rfl⟩
  have b1 : 0 ≤ v1 ∧ v1 ≤ 11 := by rw [← e1]; exact (by have q := hI_M 603 t (by decide); rw [xri_row rfl rfl] at q; exact q)
  refine jr.iald (i := t) (x := v1) rfl (by decide) rfl (by decide) (by omega) (by omega) e1 ?_
  refine jr.iconst rfl ?_
  refine jr.icmp_ne rfl rfl (by omega) (by omega) (fun h8 => ?_) (fun h8 => ?_)
  · refine jr.iconst rfl ?_
    refine jr.putf (i := 59) (x := 0) rfl rfl (by decide) rfl (by decide) rfl rfl rfl rfl rfl ?_
    refine jr.aload_n rfl rfl ?_
    refine jr.aload_n rfl rfl ?_
    refine jr.getf (i := 59) (x := 0) (v := .int (Int32.ofInt (0))) rfl rfl (by decide) rfl (by decide) rfl rfl (ju_same _ _ _ _) rfl ?_
    refine jr.if_eq rfl rfl (by omega) (fun h24 => ?_) (fun h24 => ?_)
    · refine jr.aload_n rfl rfl ?_
      refine jr.iload_n rfl rfl ?_
      refine jr.aload_n rfl rfl ?_
      refine jr.getf (i := 8) (v := .ref 604) rfl rfl (by decide) rfl (by decide) rfl rfl rfl rfl ?_
      refine jr.iload_n rfl rfl ?_
      obtain ⟨v2, e2⟩ : ∃ z, M 604 t = z := ⟨_, rfl⟩
      have b2 : 0 ≤ v2 ∧ v2 ≤ 400 := by rw [← e2]; exact (by have q := hI_M 604 t (by decide); rw [xri_row rfl rfl] at q; exact q)
      refine jr.iald (i := t) (x := v2) rfl (by decide) rfl (by decide) (by omega) (by omega) ((ju_c _ _ (by decide)).trans e2) ?_
      refine jr.bipush rfl (by decide) ?_
      refine jr_v rfl rfl (Or.inl rfl) rfl rfl (by decide) rfl ⟨rfl, Nat.le_of_ble_eq_true rfl, Nat.le_of_ble_eq_true rfl⟩ rfl (jc.deep (r_ofFour (RI.u hI_M (a := 598) (i := 59) (show (0 : Int) ≤ _ ∧ _ ≤ (1 : Int) from by omega)) (RH.o hH_M (by decide) (by decide) (by decide)) (RF.o hS_M (by decide) (by decide)) (Kp.o ht_M rfl) (by omega) (by omega) (by omega)  (fun r3 z3 w3_0 => ?_)) (by decide))
      refine jr.putf (i := 61) (x := r3) rfl rfl (by decide) rfl (by decide) rfl rfl rfl rfl rfl ?_
      refine jr.aload_n rfl rfl ?_
      refine jr.aload_n rfl rfl ?_
      refine jr.getf (i := 59) (x := 0) (v := .int (Int32.ofInt (0))) rfl rfl (by decide) rfl (by decide) rfl rfl ((ju_i _ _ (by decide)).trans (ju_same _ _ _ _)) rfl ?_
      refine jr.if_eq rfl rfl (by omega) (fun h63 => ?_) (fun h63 => ?_)
      · refine jr.aload_n rfl rfl ?_
        refine jr.iload_n rfl rfl ?_
        refine jr.aload_n rfl rfl ?_
        refine jr.getf (i := 8) (v := .ref 604) rfl rfl (by decide) rfl (by decide) rfl rfl rfl rfl ?_
        refine jr.iload_n rfl rfl ?_
        refine jr.iald (i := t) (x := v2) rfl (by decide) rfl (by decide) (by omega) (by omega) ((ju_c _ _ (by decide)).trans ((ju_c _ _ (by decide)).trans e2)) ?_
        refine jr.bipush rfl (by decide) ?_
        refine jr_v rfl rfl (Or.inl rfl) rfl rfl (by decide) rfl ⟨rfl, Nat.le_of_ble_eq_true rfl, Nat.le_of_ble_eq_true rfl⟩ rfl (jc.deep (r_ofFour (RI.u (RI.u hI_M (a := 598) (i := 59) (show (0 : Int) ≤ _ ∧ _ ≤ (1 : Int) from by omega)) (a := 598) (i := 61) (show (-9223372036854775808 : Int) ≤ _ ∧ _ ≤ (9223372036854775807 : Int) from by omega)) (RH.o (RH.o hH_M (by decide) (by decide) (by decide)) (by decide) (by decide) (by decide)) (RF.o (RF.o hS_M (by decide) (by decide)) (by decide) (by decide)) (Kp.o (Kp.o ht_M rfl) rfl) (by omega) (by omega) (by omega)  (fun r4 z4 w4_0 => ?_)) (by decide))
        refine jr.putf (i := 62) (x := r4) rfl rfl (by decide) rfl (by decide) rfl rfl rfl rfl rfl ?_
        refine jr.aload_n rfl rfl ?_
        refine jr.getf (i := 7) (v := .ref 603) rfl rfl (by decide) rfl (by decide) rfl rfl rfl rfl ?_
        refine jr.iload_n rfl rfl ?_
        obtain ⟨v5, e5⟩ : ∃ z, M 603 h = z := ⟨_, rfl⟩
        have b5 : 0 ≤ v5 ∧ v5 ≤ 11 := by rw [← e5]; exact (by have q := hI_M 603 h (by decide); rw [xri_row rfl rfl] at q; exact q)
        refine jr.iald (i := h) (x := v5) rfl (by decide) rfl (by decide) (by omega) (by omega) ((ju_c _ _ (by decide)).trans ((ju_c _ _ (by decide)).trans ((ju_c _ _ (by decide)).trans e5))) ?_
        refine jr.istore (ls' := [_, _, _, _, _]) rfl (by decide) rfl ?_
        refine jr.aload_n rfl rfl ?_
        refine jr.iload_n rfl rfl ?_
        refine jr.putf (i := 65) (x := h) rfl rfl (by decide) rfl (by decide) rfl rfl rfl rfl rfl ?_
        refine jr.aload_n rfl rfl ?_
        refine jr.iload rfl rfl ?_
        refine jr.bipush rfl (by decide) ?_
        refine jr.icmp_ne rfl rfl (by omega) (by omega) (fun h116 => ?_) (fun h116 => ?_)
        · refine jr.iload rfl rfl ?_
          refine jr.bipush rfl (by decide) ?_
          refine jr.icmp_ne rfl rfl (by omega) (by omega) (fun h127 => ?_) (fun h127 => ?_)
          · refine jr.bipush rfl (by decide) ?_
            refine jr.putf (i := 60) (x := 17) rfl rfl (by decide) rfl (by decide) rfl rfl rfl rfl rfl ?_
            refine jr.aload_n rfl rfl ?_
            refine jr.iload rfl rfl ?_
            refine jr.bipush rfl (by decide) ?_
            refine jr.icmp_ne rfl rfl (by omega) (by omega) (fun h145 => ?_) (fun h145 => ?_)
            · refine jr.aload_n rfl rfl ?_
              refine jr.iload_n rfl rfl ?_
              refine jr.aload_n rfl rfl ?_
              refine jr.getf (i := 8) (v := .ref 604) rfl rfl (by decide) rfl (by decide) rfl rfl rfl rfl ?_
              refine jr.iload_n rfl rfl ?_
              obtain ⟨v6, e6⟩ : ∃ z, M 604 h = z := ⟨_, rfl⟩
              have b6 : 0 ≤ v6 ∧ v6 ≤ 400 := by rw [← e6]; exact (by have q := hI_M 604 h (by decide); rw [xri_row rfl rfl] at q; exact q)
              refine jr.iald (i := h) (x := v6) rfl (by decide) rfl (by decide) (by omega) (by omega) ((ju_c _ _ (by decide)).trans ((ju_c _ _ (by decide)).trans ((ju_c _ _ (by decide)).trans ((ju_c _ _ (by decide)).trans ((ju_c _ _ (by decide)).trans e6))))) ?_
              refine jr_v rfl rfl (Or.inl rfl) rfl rfl (by decide) rfl ⟨rfl, Nat.le_of_ble_eq_true rfl, Nat.le_of_ble_eq_true rfl⟩ rfl (jc.deep (r_two (RI.u (RI.u (RI.u (RI.u (RI.u hI_M (a := 598) (i := 59) (show (0 : Int) ≤ _ ∧ _ ≤ (1 : Int) from by omega)) (a := 598) (i := 61) (show (-9223372036854775808 : Int) ≤ _ ∧ _ ≤ (9223372036854775807 : Int) from by omega)) (a := 598) (i := 62) (show (-9223372036854775808 : Int) ≤ _ ∧ _ ≤ (9223372036854775807 : Int) from by omega)) (a := 598) (i := 65) (show (0 : Int) ≤ _ ∧ _ ≤ (11 : Int) from by omega)) (a := 598) (i := 60) (show (0 : Int) ≤ _ ∧ _ ≤ (255 : Int) from by omega)) (RH.o (RH.o (RH.o (RH.o (RH.o hH_M (by decide) (by decide) (by decide)) (by decide) (by decide) (by decide)) (by decide) (by decide) (by decide)) (by decide) (by decide) (by decide)) (by decide) (by decide) (by decide)) (RF.o (RF.o (RF.o (RF.o (RF.o hS_M (by decide) (by decide)) (by decide) (by decide)) (by decide) (by decide)) (by decide) (by decide)) (by decide) (by decide)) (Kp.o (Kp.o (Kp.o (Kp.o (Kp.o ht_M rfl) rfl) rfl) rfl) rfl) (by omega) (by omega)  (fun r7 z7  => ?_)) (by decide))
              refine jr.putf (i := 63) (x := r7) rfl rfl (by decide) rfl (by decide) rfl rfl rfl rfl rfl ?_
              refine jr.aload_n rfl rfl ?_
              refine jr.iload rfl rfl ?_
              refine jr.bipush rfl (by decide) ?_
              refine jr.icmp_ne rfl rfl (by omega) (by omega) (fun h183 => ?_) (fun h183 => ?_)
              · refine jr.aload_n rfl rfl ?_
                refine jr.iload_n rfl rfl ?_
                refine jr.aload_n rfl rfl ?_
                refine jr.getf (i := 8) (v := .ref 604) rfl rfl (by decide) rfl (by decide) rfl rfl rfl rfl ?_
                refine jr.iload_n rfl rfl ?_
                refine jr.iald (i := h) (x := v6) rfl (by decide) rfl (by decide) (by omega) (by omega) ((ju_c _ _ (by decide)).trans ((ju_c _ _ (by decide)).trans ((ju_c _ _ (by decide)).trans ((ju_c _ _ (by decide)).trans ((ju_c _ _ (by decide)).trans ((ju_c _ _ (by decide)).trans e6)))))) ?_
                refine jr.iconst rfl ?_
                refine jr.iadd rfl ?_
                refine jr_v rfl rfl (Or.inl rfl) rfl rfl (by decide) rfl ⟨rfl, Nat.le_of_ble_eq_true rfl, Nat.le_of_ble_eq_true rfl⟩ rfl (jc.deep (r_two (RI.u (RI.u (RI.u (RI.u (RI.u (RI.u hI_M (a := 598) (i := 59) (show (0 : Int) ≤ _ ∧ _ ≤ (1 : Int) from by omega)) (a := 598) (i := 61) (show (-9223372036854775808 : Int) ≤ _ ∧ _ ≤ (9223372036854775807 : Int) from by omega)) (a := 598) (i := 62) (show (-9223372036854775808 : Int) ≤ _ ∧ _ ≤ (9223372036854775807 : Int) from by omega)) (a := 598) (i := 65) (show (0 : Int) ≤ _ ∧ _ ≤ (11 : Int) from by omega)) (a := 598) (i := 60) (show (0 : Int) ≤ _ ∧ _ ≤ (255 : Int) from by omega)) (a := 598) (i := 63) (show (0 : Int) ≤ _ ∧ _ ≤ (65535 : Int) from by omega)) (RH.o (RH.o (RH.o (RH.o (RH.o (RH.o hH_M (by decide) (by decide) (by decide)) (by decide) (by decide) (by decide)) (by decide) (by decide) (by decide)) (by decide) (by decide) (by decide)) (by decide) (by decide) (by decide)) (by decide) (by decide) (by decide)) (RF.o (RF.o (RF.o (RF.o (RF.o (RF.o hS_M (by decide) (by decide)) (by decide) (by decide)) (by decide) (by decide)) (by decide) (by decide)) (by decide) (by decide)) (by decide) (by decide)) (Kp.o (Kp.o (Kp.o (Kp.o (Kp.o (Kp.o ht_M rfl) rfl) rfl) rfl) rfl) rfl) (by omega) (by omega)  (fun r8 z8  => ?_)) (by decide))
                refine jr.putf (i := 64) (x := r8) rfl rfl (by decide) rfl (by decide) rfl rfl rfl rfl rfl ?_
                exact jr.vreturn rfl rfl (q _ (RI.u (RI.u (RI.u (RI.u (RI.u (RI.u (RI.u hI_M (a := 598) (i := 59) (show (0 : Int) ≤ _ ∧ _ ≤ (1 : Int) from by omega)) (a := 598) (i := 61) (show (-9223372036854775808 : Int) ≤ _ ∧ _ ≤ (9223372036854775807 : Int) from by omega)) (a := 598) (i := 62) (show (-9223372036854775808 : Int) ≤ _ ∧ _ ≤ (9223372036854775807 : Int) from by omega)) (a := 598) (i := 65) (show (0 : Int) ≤ _ ∧ _ ≤ (11 : Int) from by omega)) (a := 598) (i := 60) (show (0 : Int) ≤ _ ∧ _ ≤ (255 : Int) from by omega)) (a := 598) (i := 63) (show (0 : Int) ≤ _ ∧ _ ≤ (65535 : Int) from by omega)) (a := 598) (i := 64) (show (0 : Int) ≤ _ ∧ _ ≤ (65535 : Int) from by omega)) (RH.o (RH.o (RH.o (RH.o (RH.o (RH.o (RH.o hH_M (by decide) (by decide) (by decide)) (by decide) (by decide) (by decide)) (by decide) (by decide) (by decide)) (by decide) (by decide) (by decide)) (by decide) (by decide) (by decide)) (by decide) (by decide) (by decide)) (by decide) (by decide) (by decide)) (RF.o (RF.o (RF.o (RF.o (RF.o (RF.o (RF.o hS_M (by decide) (by decide)) (by decide) (by decide)) (by decide) (by decide)) (by decide) (by decide)) (by decide) (by decide)) (by decide) (by decide)) (by decide) (by decide)) (Kp.o (Kp.o (Kp.o (Kp.o (Kp.o (Kp.o (Kp.o ht_M rfl) rfl) rfl) rfl) rfl) rfl) rfl) (((ju_i _ _ (by decide)).trans ((ju_i _ _ (by decide)).trans ((ju_i _ _ (by decide)).trans (ju_same _ _ _ _)))).trans (by omega)) (fun q => by rw [((ju_i _ _ (by decide)).trans ((ju_i _ _ (by decide)).trans (ju_same _ _ _ _)))] at q; omega) (by rw [((ju_i _ _ (by decide)).trans ((ju_i _ _ (by decide)).trans (ju_same _ _ _ _)))]; omega) (fun a i f598 => ((ju_c _ _ f598).trans ((ju_c _ _ f598).trans ((ju_c _ _ f598).trans ((ju_c _ _ f598).trans ((ju_c _ _ f598).trans ((ju_c _ _ f598).trans ((ju_c _ _ f598).trans rfl)))))))) (fun i g59 g60 g61 g62 g63 g64 g65 => ((ju_i _ _ g64).trans ((ju_i _ _ g63).trans ((ju_i _ _ g60).trans ((ju_i _ _ g65).trans ((ju_i _ _ g62).trans ((ju_i _ _ g61).trans ((ju_i _ _ g59).trans rfl)))))))))
              · exact absurd h145 h183
            · exact absurd h116 h145
          · refine jr.bipush rfl (by decide) ?_
            refine jr.goto rfl rfl ?_
            refine jr.putf (i := 60) (x := 6) rfl rfl (by decide) rfl (by decide) rfl rfl rfl rfl rfl ?_
            refine jr.aload_n rfl rfl ?_
            refine jr.iload rfl rfl ?_
            refine jr.bipush rfl (by decide) ?_
            refine jr.icmp_ne rfl rfl (by omega) (by omega) (fun h145 => ?_) (fun h145 => ?_)
            · refine jr.aload_n rfl rfl ?_
              refine jr.iload_n rfl rfl ?_
              refine jr.aload_n rfl rfl ?_
              refine jr.getf (i := 8) (v := .ref 604) rfl rfl (by decide) rfl (by decide) rfl rfl rfl rfl ?_
              refine jr.iload_n rfl rfl ?_
              obtain ⟨v11, e11⟩ : ∃ z, M 604 h = z := ⟨_, rfl⟩
              have b11 : 0 ≤ v11 ∧ v11 ≤ 400 := by rw [← e11]; exact (by have q := hI_M 604 h (by decide); rw [xri_row rfl rfl] at q; exact q)
              refine jr.iald (i := h) (x := v11) rfl (by decide) rfl (by decide) (by omega) (by omega) ((ju_c _ _ (by decide)).trans ((ju_c _ _ (by decide)).trans ((ju_c _ _ (by decide)).trans ((ju_c _ _ (by decide)).trans ((ju_c _ _ (by decide)).trans e11))))) ?_
              refine jr_v rfl rfl (Or.inl rfl) rfl rfl (by decide) rfl ⟨rfl, Nat.le_of_ble_eq_true rfl, Nat.le_of_ble_eq_true rfl⟩ rfl (jc.deep (r_two (RI.u (RI.u (RI.u (RI.u (RI.u hI_M (a := 598) (i := 59) (show (0 : Int) ≤ _ ∧ _ ≤ (1 : Int) from by omega)) (a := 598) (i := 61) (show (-9223372036854775808 : Int) ≤ _ ∧ _ ≤ (9223372036854775807 : Int) from by omega)) (a := 598) (i := 62) (show (-9223372036854775808 : Int) ≤ _ ∧ _ ≤ (9223372036854775807 : Int) from by omega)) (a := 598) (i := 65) (show (0 : Int) ≤ _ ∧ _ ≤ (11 : Int) from by omega)) (a := 598) (i := 60) (show (0 : Int) ≤ _ ∧ _ ≤ (255 : Int) from by omega)) (RH.o (RH.o (RH.o (RH.o (RH.o hH_M (by decide) (by decide) (by decide)) (by decide) (by decide) (by decide)) (by decide) (by decide) (by decide)) (by decide) (by decide) (by decide)) (by decide) (by decide) (by decide)) (RF.o (RF.o (RF.o (RF.o (RF.o hS_M (by decide) (by decide)) (by decide) (by decide)) (by decide) (by decide)) (by decide) (by decide)) (by decide) (by decide)) (Kp.o (Kp.o (Kp.o (Kp.o (Kp.o ht_M rfl) rfl) rfl) rfl) rfl) (by omega) (by omega)  (fun r12 z12  => ?_)) (by decide))
              refine jr.putf (i := 63) (x := r12) rfl rfl (by decide) rfl (by decide) rfl rfl rfl rfl rfl ?_
              refine jr.aload_n rfl rfl ?_
              refine jr.iload rfl rfl ?_
              refine jr.bipush rfl (by decide) ?_
              refine jr.icmp_ne rfl rfl (by omega) (by omega) (fun h183 => ?_) (fun h183 => ?_)
              · refine jr.aload_n rfl rfl ?_
                refine jr.iload_n rfl rfl ?_
                refine jr.aload_n rfl rfl ?_
                refine jr.getf (i := 8) (v := .ref 604) rfl rfl (by decide) rfl (by decide) rfl rfl rfl rfl ?_
                refine jr.iload_n rfl rfl ?_
                refine jr.iald (i := h) (x := v11) rfl (by decide) rfl (by decide) (by omega) (by omega) ((ju_c _ _ (by decide)).trans ((ju_c _ _ (by decide)).trans ((ju_c _ _ (by decide)).trans ((ju_c _ _ (by decide)).trans ((ju_c _ _ (by decide)).trans ((ju_c _ _ (by decide)).trans e11)))))) ?_
                refine jr.iconst rfl ?_
                refine jr.iadd rfl ?_
                refine jr_v rfl rfl (Or.inl rfl) rfl rfl (by decide) rfl ⟨rfl, Nat.le_of_ble_eq_true rfl, Nat.le_of_ble_eq_true rfl⟩ rfl (jc.deep (r_two (RI.u (RI.u (RI.u (RI.u (RI.u (RI.u hI_M (a := 598) (i := 59) (show (0 : Int) ≤ _ ∧ _ ≤ (1 : Int) from by omega)) (a := 598) (i := 61) (show (-9223372036854775808 : Int) ≤ _ ∧ _ ≤ (9223372036854775807 : Int) from by omega)) (a := 598) (i := 62) (show (-9223372036854775808 : Int) ≤ _ ∧ _ ≤ (9223372036854775807 : Int) from by omega)) (a := 598) (i := 65) (show (0 : Int) ≤ _ ∧ _ ≤ (11 : Int) from by omega)) (a := 598) (i := 60) (show (0 : Int) ≤ _ ∧ _ ≤ (255 : Int) from by omega)) (a := 598) (i := 63) (show (0 : Int) ≤ _ ∧ _ ≤ (65535 : Int) from by omega)) (RH.o (RH.o (RH.o (RH.o (RH.o (RH.o hH_M (by decide) (by decide) (by decide)) (by decide) (by decide) (by decide)) (by decide) (by decide) (by decide)) (by decide) (by decide) (by decide)) (by decide) (by decide) (by decide)) (by decide) (by decide) (by decide)) (RF.o (RF.o (RF.o (RF.o (RF.o (RF.o hS_M (by decide) (by decide)) (by decide) (by decide)) (by decide) (by decide)) (by decide) (by decide)) (by decide) (by decide)) (by decide) (by decide)) (Kp.o (Kp.o (Kp.o (Kp.o (Kp.o (Kp.o ht_M rfl) rfl) rfl) rfl) rfl) rfl) (by omega) (by omega)  (fun r13 z13  => ?_)) (by decide))
                refine jr.putf (i := 64) (x := r13) rfl rfl (by decide) rfl (by decide) rfl rfl rfl rfl rfl ?_
                exact jr.vreturn rfl rfl (q _ (RI.u (RI.u (RI.u (RI.u (RI.u (RI.u (RI.u hI_M (a := 598) (i := 59) (show (0 : Int) ≤ _ ∧ _ ≤ (1 : Int) from by omega)) (a := 598) (i := 61) (show (-9223372036854775808 : Int) ≤ _ ∧ _ ≤ (9223372036854775807 : Int) from by omega)) (a := 598) (i := 62) (show (-9223372036854775808 : Int) ≤ _ ∧ _ ≤ (9223372036854775807 : Int) from by omega)) (a := 598) (i := 65) (show (0 : Int) ≤ _ ∧ _ ≤ (11 : Int) from by omega)) (a := 598) (i := 60) (show (0 : Int) ≤ _ ∧ _ ≤ (255 : Int) from by omega)) (a := 598) (i := 63) (show (0 : Int) ≤ _ ∧ _ ≤ (65535 : Int) from by omega)) (a := 598) (i := 64) (show (0 : Int) ≤ _ ∧ _ ≤ (65535 : Int) from by omega)) (RH.o (RH.o (RH.o (RH.o (RH.o (RH.o (RH.o hH_M (by decide) (by decide) (by decide)) (by decide) (by decide) (by decide)) (by decide) (by decide) (by decide)) (by decide) (by decide) (by decide)) (by decide) (by decide) (by decide)) (by decide) (by decide) (by decide)) (by decide) (by decide) (by decide)) (RF.o (RF.o (RF.o (RF.o (RF.o (RF.o (RF.o hS_M (by decide) (by decide)) (by decide) (by decide)) (by decide) (by decide)) (by decide) (by decide)) (by decide) (by decide)) (by decide) (by decide)) (by decide) (by decide)) (Kp.o (Kp.o (Kp.o (Kp.o (Kp.o (Kp.o (Kp.o ht_M rfl) rfl) rfl) rfl) rfl) rfl) rfl) (((ju_i _ _ (by decide)).trans ((ju_i _ _ (by decide)).trans ((ju_i _ _ (by decide)).trans (ju_same _ _ _ _)))).trans (by omega)) (fun q => by rw [((ju_i _ _ (by decide)).trans ((ju_i _ _ (by decide)).trans (ju_same _ _ _ _)))] at q; omega) (by rw [((ju_i _ _ (by decide)).trans ((ju_i _ _ (by decide)).trans (ju_same _ _ _ _)))]; omega) (fun a i f598 => ((ju_c _ _ f598).trans ((ju_c _ _ f598).trans ((ju_c _ _ f598).trans ((ju_c _ _ f598).trans ((ju_c _ _ f598).trans ((ju_c _ _ f598).trans ((ju_c _ _ f598).trans rfl)))))))) (fun i g59 g60 g61 g62 g63 g64 g65 => ((ju_i _ _ g64).trans ((ju_i _ _ g63).trans ((ju_i _ _ g60).trans ((ju_i _ _ g65).trans ((ju_i _ _ g62).trans ((ju_i _ _ g61).trans ((ju_i _ _ g59).trans rfl)))))))))
              · exact absurd (by omega) h183
            · exact absurd (by omega) h145
        · refine jr.iconst rfl ?_
          refine jr.goto rfl rfl ?_
          refine jr.putf (i := 60) (x := 1) rfl rfl (by decide) rfl (by decide) rfl rfl rfl rfl rfl ?_
          refine jr.aload_n rfl rfl ?_
          refine jr.iload rfl rfl ?_
          refine jr.bipush rfl (by decide) ?_
          refine jr.icmp_ne rfl rfl (by omega) (by omega) (fun h145 => ?_) (fun h145 => ?_)
          · exact absurd h145 (by omega)
          · refine jr.aload_n rfl rfl ?_
            refine jr.iload_n rfl rfl ?_
            refine jr.aload_n rfl rfl ?_
            refine jr.getf (i := 8) (v := .ref 604) rfl rfl (by decide) rfl (by decide) rfl rfl rfl rfl ?_
            refine jr.iload_n rfl rfl ?_
            obtain ⟨v14, e14⟩ : ∃ z, M 604 h = z := ⟨_, rfl⟩
            have b14 : 0 ≤ v14 ∧ v14 ≤ 400 := by rw [← e14]; exact (by have q := hI_M 604 h (by decide); rw [xri_row rfl rfl] at q; exact q)
            refine jr.iald (i := h) (x := v14) rfl (by decide) rfl (by decide) (by omega) (by omega) ((ju_c _ _ (by decide)).trans ((ju_c _ _ (by decide)).trans ((ju_c _ _ (by decide)).trans ((ju_c _ _ (by decide)).trans ((ju_c _ _ (by decide)).trans e14))))) ?_
            refine jr.iconst rfl ?_
            refine jr.iadd rfl ?_
            refine jr_v rfl rfl (Or.inl rfl) rfl rfl (by decide) rfl ⟨rfl, Nat.le_of_ble_eq_true rfl, Nat.le_of_ble_eq_true rfl⟩ rfl (jc.deep (r_two (RI.u (RI.u (RI.u (RI.u (RI.u hI_M (a := 598) (i := 59) (show (0 : Int) ≤ _ ∧ _ ≤ (1 : Int) from by omega)) (a := 598) (i := 61) (show (-9223372036854775808 : Int) ≤ _ ∧ _ ≤ (9223372036854775807 : Int) from by omega)) (a := 598) (i := 62) (show (-9223372036854775808 : Int) ≤ _ ∧ _ ≤ (9223372036854775807 : Int) from by omega)) (a := 598) (i := 65) (show (0 : Int) ≤ _ ∧ _ ≤ (11 : Int) from by omega)) (a := 598) (i := 60) (show (0 : Int) ≤ _ ∧ _ ≤ (255 : Int) from by omega)) (RH.o (RH.o (RH.o (RH.o (RH.o hH_M (by decide) (by decide) (by decide)) (by decide) (by decide) (by decide)) (by decide) (by decide) (by decide)) (by decide) (by decide) (by decide)) (by decide) (by decide) (by decide)) (RF.o (RF.o (RF.o (RF.o (RF.o hS_M (by decide) (by decide)) (by decide) (by decide)) (by decide) (by decide)) (by decide) (by decide)) (by decide) (by decide)) (Kp.o (Kp.o (Kp.o (Kp.o (Kp.o ht_M rfl) rfl) rfl) rfl) rfl) (by omega) (by omega)  (fun r15 z15  => ?_)) (by decide))
            refine jr.goto rfl rfl ?_
            refine jr.putf (i := 63) (x := r15) rfl rfl (by decide) rfl (by decide) rfl rfl rfl rfl rfl ?_
            refine jr.aload_n rfl rfl ?_
            refine jr.iload rfl rfl ?_
            refine jr.bipush rfl (by decide) ?_
            refine jr.icmp_ne rfl rfl (by omega) (by omega) (fun h183 => ?_) (fun h183 => ?_)
            · exact absurd h183 (by omega)
            · refine jr.aload_n rfl rfl ?_
              refine jr.getf (i := 63) (x := r15) (v := .int (Int32.ofInt (r15))) rfl rfl (by decide) rfl (by decide) rfl rfl (ju_same _ _ _ _) rfl ?_
              refine jr.goto rfl rfl ?_
              refine jr.putf (i := 64) (x := r15) rfl rfl (by decide) rfl (by decide) rfl rfl rfl rfl rfl ?_
              exact jr.vreturn rfl rfl (q _ (RI.u (RI.u (RI.u (RI.u (RI.u (RI.u (RI.u hI_M (a := 598) (i := 59) (show (0 : Int) ≤ _ ∧ _ ≤ (1 : Int) from by omega)) (a := 598) (i := 61) (show (-9223372036854775808 : Int) ≤ _ ∧ _ ≤ (9223372036854775807 : Int) from by omega)) (a := 598) (i := 62) (show (-9223372036854775808 : Int) ≤ _ ∧ _ ≤ (9223372036854775807 : Int) from by omega)) (a := 598) (i := 65) (show (0 : Int) ≤ _ ∧ _ ≤ (11 : Int) from by omega)) (a := 598) (i := 60) (show (0 : Int) ≤ _ ∧ _ ≤ (255 : Int) from by omega)) (a := 598) (i := 63) (show (0 : Int) ≤ _ ∧ _ ≤ (65535 : Int) from by omega)) (a := 598) (i := 64) (show (0 : Int) ≤ _ ∧ _ ≤ (65535 : Int) from by omega)) (RH.o (RH.o (RH.o (RH.o (RH.o (RH.o (RH.o hH_M (by decide) (by decide) (by decide)) (by decide) (by decide) (by decide)) (by decide) (by decide) (by decide)) (by decide) (by decide) (by decide)) (by decide) (by decide) (by decide)) (by decide) (by decide) (by decide)) (by decide) (by decide) (by decide)) (RF.o (RF.o (RF.o (RF.o (RF.o (RF.o (RF.o hS_M (by decide) (by decide)) (by decide) (by decide)) (by decide) (by decide)) (by decide) (by decide)) (by decide) (by decide)) (by decide) (by decide)) (by decide) (by decide)) (Kp.o (Kp.o (Kp.o (Kp.o (Kp.o (Kp.o (Kp.o ht_M rfl) rfl) rfl) rfl) rfl) rfl) rfl) (((ju_i _ _ (by decide)).trans ((ju_i _ _ (by decide)).trans ((ju_i _ _ (by decide)).trans (ju_same _ _ _ _)))).trans (by omega)) (fun q => by rw [((ju_i _ _ (by decide)).trans ((ju_i _ _ (by decide)).trans (ju_same _ _ _ _)))] at q; omega) (by rw [((ju_i _ _ (by decide)).trans ((ju_i _ _ (by decide)).trans (ju_same _ _ _ _)))]; omega) (fun a i f598 => ((ju_c _ _ f598).trans ((ju_c _ _ f598).trans ((ju_c _ _ f598).trans ((ju_c _ _ f598).trans ((ju_c _ _ f598).trans ((ju_c _ _ f598).trans ((ju_c _ _ f598).trans rfl)))))))) (fun i g59 g60 g61 g62 g63 g64 g65 => ((ju_i _ _ g64).trans ((ju_i _ _ g63).trans ((ju_i _ _ g60).trans ((ju_i _ _ g65).trans ((ju_i _ _ g62).trans ((ju_i _ _ g61).trans ((ju_i _ _ g59).trans rfl)))))))))
      · exact absurd (by omega) h63
    · refine jr.aload_n rfl rfl ?_
      refine jr.iload_n rfl rfl ?_
      refine jr.aload_n rfl rfl ?_
      refine jr.getf (i := 8) (v := .ref 604) rfl rfl (by decide) rfl (by decide) rfl rfl rfl rfl ?_
      refine jr.iload_n rfl rfl ?_
      obtain ⟨v16, e16⟩ : ∃ z, M 604 t = z := ⟨_, rfl⟩
      have b16 : 0 ≤ v16 ∧ v16 ≤ 400 := by rw [← e16]; exact (by have q := hI_M 604 t (by decide); rw [xri_row rfl rfl] at q; exact q)
      refine jr.iald (i := t) (x := v16) rfl (by decide) rfl (by decide) (by omega) (by omega) ((ju_c _ _ (by decide)).trans e16) ?_
      refine jr.iconst rfl ?_
      refine jr_v rfl rfl (Or.inl rfl) rfl rfl (by decide) rfl ⟨rfl, Nat.le_of_ble_eq_true rfl, Nat.le_of_ble_eq_true rfl⟩ rfl (jc.deep (r_ofSix (RI.u hI_M (a := 598) (i := 59) (show (0 : Int) ≤ _ ∧ _ ≤ (1 : Int) from by omega)) (RH.o hH_M (by decide) (by decide) (by decide)) (RF.o hS_M (by decide) (by decide)) (Kp.o ht_M rfl) (by omega) (by omega) (by omega)  (fun r17 z17  => ?_)) (by decide))
      refine jr.goto rfl rfl ?_
      refine jr.putf (i := 61) (x := r17) rfl rfl (by decide) rfl (by decide) rfl rfl rfl rfl rfl ?_
      refine jr.aload_n rfl rfl ?_
      refine jr.aload_n rfl rfl ?_
      refine jr.getf (i := 59) (x := 0) (v := .int (Int32.ofInt (0))) rfl rfl (by decide) rfl (by decide) rfl rfl ((ju_i _ _ (by decide)).trans (ju_same _ _ _ _)) rfl ?_
      refine jr.if_eq rfl rfl (by omega) (fun h63 => ?_) (fun h63 => ?_)
      · exact absurd h63 h24
      · refine jr.aload_n rfl rfl ?_
        refine jr.iload_n rfl rfl ?_
        refine jr.aload_n rfl rfl ?_
        refine jr.getf (i := 8) (v := .ref 604) rfl rfl (by decide) rfl (by decide) rfl rfl rfl rfl ?_
        refine jr.iload_n rfl rfl ?_
        refine jr.iald (i := t) (x := v16) rfl (by decide) rfl (by decide) (by omega) (by omega) ((ju_c _ _ (by decide)).trans ((ju_c _ _ (by decide)).trans e16)) ?_
        refine jr.bipush rfl (by decide) ?_
        refine jr_v rfl rfl (Or.inl rfl) rfl rfl (by decide) rfl ⟨rfl, Nat.le_of_ble_eq_true rfl, Nat.le_of_ble_eq_true rfl⟩ rfl (jc.deep (r_ofSix (RI.u (RI.u hI_M (a := 598) (i := 59) (show (0 : Int) ≤ _ ∧ _ ≤ (1 : Int) from by omega)) (a := 598) (i := 61) (show (-9223372036854775808 : Int) ≤ _ ∧ _ ≤ (9223372036854775807 : Int) from by omega)) (RH.o (RH.o hH_M (by decide) (by decide) (by decide)) (by decide) (by decide) (by decide)) (RF.o (RF.o hS_M (by decide) (by decide)) (by decide) (by decide)) (Kp.o (Kp.o ht_M rfl) rfl) (by omega) (by omega) (by omega)  (fun r30 z30  => ?_)) (by decide))
        refine jr.goto rfl rfl ?_
        refine jr.putf (i := 62) (x := r30) rfl rfl (by decide) rfl (by decide) rfl rfl rfl rfl rfl ?_
        refine jr.aload_n rfl rfl ?_
        refine jr.getf (i := 7) (v := .ref 603) rfl rfl (by decide) rfl (by decide) rfl rfl rfl rfl ?_
        refine jr.iload_n rfl rfl ?_
        obtain ⟨v31, e31⟩ : ∃ z, M 603 h = z := ⟨_, rfl⟩
        have b31 : 0 ≤ v31 ∧ v31 ≤ 11 := by rw [← e31]; exact (by have q := hI_M 603 h (by decide); rw [xri_row rfl rfl] at q; exact q)
        refine jr.iald (i := h) (x := v31) rfl (by decide) rfl (by decide) (by omega) (by omega) ((ju_c _ _ (by decide)).trans ((ju_c _ _ (by decide)).trans ((ju_c _ _ (by decide)).trans e31))) ?_
        refine jr.istore (ls' := [_, _, _, _, _]) rfl (by decide) rfl ?_
        refine jr.aload_n rfl rfl ?_
        refine jr.iload_n rfl rfl ?_
        refine jr.putf (i := 65) (x := h) rfl rfl (by decide) rfl (by decide) rfl rfl rfl rfl rfl ?_
        refine jr.aload_n rfl rfl ?_
        refine jr.iload rfl rfl ?_
        refine jr.bipush rfl (by decide) ?_
        refine jr.icmp_ne rfl rfl (by omega) (by omega) (fun h116 => ?_) (fun h116 => ?_)
        · refine jr.iload rfl rfl ?_
          refine jr.bipush rfl (by decide) ?_
          refine jr.icmp_ne rfl rfl (by omega) (by omega) (fun h127 => ?_) (fun h127 => ?_)
          · refine jr.bipush rfl (by decide) ?_
            refine jr.putf (i := 60) (x := 17) rfl rfl (by decide) rfl (by decide) rfl rfl rfl rfl rfl ?_
            refine jr.aload_n rfl rfl ?_
            refine jr.iload rfl rfl ?_
            refine jr.bipush rfl (by decide) ?_
            refine jr.icmp_ne rfl rfl (by omega) (by omega) (fun h145 => ?_) (fun h145 => ?_)
            · refine jr.aload_n rfl rfl ?_
              refine jr.iload_n rfl rfl ?_
              refine jr.aload_n rfl rfl ?_
              refine jr.getf (i := 8) (v := .ref 604) rfl rfl (by decide) rfl (by decide) rfl rfl rfl rfl ?_
              refine jr.iload_n rfl rfl ?_
              obtain ⟨v32, e32⟩ : ∃ z, M 604 h = z := ⟨_, rfl⟩
              have b32 : 0 ≤ v32 ∧ v32 ≤ 400 := by rw [← e32]; exact (by have q := hI_M 604 h (by decide); rw [xri_row rfl rfl] at q; exact q)
              refine jr.iald (i := h) (x := v32) rfl (by decide) rfl (by decide) (by omega) (by omega) ((ju_c _ _ (by decide)).trans ((ju_c _ _ (by decide)).trans ((ju_c _ _ (by decide)).trans ((ju_c _ _ (by decide)).trans ((ju_c _ _ (by decide)).trans e32))))) ?_
              refine jr_v rfl rfl (Or.inl rfl) rfl rfl (by decide) rfl ⟨rfl, Nat.le_of_ble_eq_true rfl, Nat.le_of_ble_eq_true rfl⟩ rfl (jc.deep (r_two (RI.u (RI.u (RI.u (RI.u (RI.u hI_M (a := 598) (i := 59) (show (0 : Int) ≤ _ ∧ _ ≤ (1 : Int) from by omega)) (a := 598) (i := 61) (show (-9223372036854775808 : Int) ≤ _ ∧ _ ≤ (9223372036854775807 : Int) from by omega)) (a := 598) (i := 62) (show (-9223372036854775808 : Int) ≤ _ ∧ _ ≤ (9223372036854775807 : Int) from by omega)) (a := 598) (i := 65) (show (0 : Int) ≤ _ ∧ _ ≤ (11 : Int) from by omega)) (a := 598) (i := 60) (show (0 : Int) ≤ _ ∧ _ ≤ (255 : Int) from by omega)) (RH.o (RH.o (RH.o (RH.o (RH.o hH_M (by decide) (by decide) (by decide)) (by decide) (by decide) (by decide)) (by decide) (by decide) (by decide)) (by decide) (by decide) (by decide)) (by decide) (by decide) (by decide)) (RF.o (RF.o (RF.o (RF.o (RF.o hS_M (by decide) (by decide)) (by decide) (by decide)) (by decide) (by decide)) (by decide) (by decide)) (by decide) (by decide)) (Kp.o (Kp.o (Kp.o (Kp.o (Kp.o ht_M rfl) rfl) rfl) rfl) rfl) (by omega) (by omega)  (fun r33 z33  => ?_)) (by decide))
              refine jr.putf (i := 63) (x := r33) rfl rfl (by decide) rfl (by decide) rfl rfl rfl rfl rfl ?_
              refine jr.aload_n rfl rfl ?_
              refine jr.iload rfl rfl ?_
              refine jr.bipush rfl (by decide) ?_
              refine jr.icmp_ne rfl rfl (by omega) (by omega) (fun h183 => ?_) (fun h183 => ?_)
              · refine jr.aload_n rfl rfl ?_
                refine jr.iload_n rfl rfl ?_
                refine jr.aload_n rfl rfl ?_
                refine jr.getf (i := 8) (v := .ref 604) rfl rfl (by decide) rfl (by decide) rfl rfl rfl rfl ?_
                refine jr.iload_n rfl rfl ?_
                refine jr.iald (i := h) (x := v32) rfl (by decide) rfl (by decide) (by omega) (by omega) ((ju_c _ _ (by decide)).trans ((ju_c _ _ (by decide)).trans ((ju_c _ _ (by decide)).trans ((ju_c _ _ (by decide)).trans ((ju_c _ _ (by decide)).trans ((ju_c _ _ (by decide)).trans e32)))))) ?_
                refine jr.iconst rfl ?_
                refine jr.iadd rfl ?_
                refine jr_v rfl rfl (Or.inl rfl) rfl rfl (by decide) rfl ⟨rfl, Nat.le_of_ble_eq_true rfl, Nat.le_of_ble_eq_true rfl⟩ rfl (jc.deep (r_two (RI.u (RI.u (RI.u (RI.u (RI.u (RI.u hI_M (a := 598) (i := 59) (show (0 : Int) ≤ _ ∧ _ ≤ (1 : Int) from by omega)) (a := 598) (i := 61) (show (-9223372036854775808 : Int) ≤ _ ∧ _ ≤ (9223372036854775807 : Int) from by omega)) (a := 598) (i := 62) (show (-9223372036854775808 : Int) ≤ _ ∧ _ ≤ (9223372036854775807 : Int) from by omega)) (a := 598) (i := 65) (show (0 : Int) ≤ _ ∧ _ ≤ (11 : Int) from by omega)) (a := 598) (i := 60) (show (0 : Int) ≤ _ ∧ _ ≤ (255 : Int) from by omega)) (a := 598) (i := 63) (show (0 : Int) ≤ _ ∧ _ ≤ (65535 : Int) from by omega)) (RH.o (RH.o (RH.o (RH.o (RH.o (RH.o hH_M (by decide) (by decide) (by decide)) (by decide) (by decide) (by decide)) (by decide) (by decide) (by decide)) (by decide) (by decide) (by decide)) (by decide) (by decide) (by decide)) (by decide) (by decide) (by decide)) (RF.o (RF.o (RF.o (RF.o (RF.o (RF.o hS_M (by decide) (by decide)) (by decide) (by decide)) (by decide) (by decide)) (by decide) (by decide)) (by decide) (by decide)) (by decide) (by decide)) (Kp.o (Kp.o (Kp.o (Kp.o (Kp.o (Kp.o ht_M rfl) rfl) rfl) rfl) rfl) rfl) (by omega) (by omega)  (fun r34 z34  => ?_)) (by decide))
                refine jr.putf (i := 64) (x := r34) rfl rfl (by decide) rfl (by decide) rfl rfl rfl rfl rfl ?_
                exact jr.vreturn rfl rfl (q _ (RI.u (RI.u (RI.u (RI.u (RI.u (RI.u (RI.u hI_M (a := 598) (i := 59) (show (0 : Int) ≤ _ ∧ _ ≤ (1 : Int) from by omega)) (a := 598) (i := 61) (show (-9223372036854775808 : Int) ≤ _ ∧ _ ≤ (9223372036854775807 : Int) from by omega)) (a := 598) (i := 62) (show (-9223372036854775808 : Int) ≤ _ ∧ _ ≤ (9223372036854775807 : Int) from by omega)) (a := 598) (i := 65) (show (0 : Int) ≤ _ ∧ _ ≤ (11 : Int) from by omega)) (a := 598) (i := 60) (show (0 : Int) ≤ _ ∧ _ ≤ (255 : Int) from by omega)) (a := 598) (i := 63) (show (0 : Int) ≤ _ ∧ _ ≤ (65535 : Int) from by omega)) (a := 598) (i := 64) (show (0 : Int) ≤ _ ∧ _ ≤ (65535 : Int) from by omega)) (RH.o (RH.o (RH.o (RH.o (RH.o (RH.o (RH.o hH_M (by decide) (by decide) (by decide)) (by decide) (by decide) (by decide)) (by decide) (by decide) (by decide)) (by decide) (by decide) (by decide)) (by decide) (by decide) (by decide)) (by decide) (by decide) (by decide)) (by decide) (by decide) (by decide)) (RF.o (RF.o (RF.o (RF.o (RF.o (RF.o (RF.o hS_M (by decide) (by decide)) (by decide) (by decide)) (by decide) (by decide)) (by decide) (by decide)) (by decide) (by decide)) (by decide) (by decide)) (by decide) (by decide)) (Kp.o (Kp.o (Kp.o (Kp.o (Kp.o (Kp.o (Kp.o ht_M rfl) rfl) rfl) rfl) rfl) rfl) rfl) (((ju_i _ _ (by decide)).trans ((ju_i _ _ (by decide)).trans ((ju_i _ _ (by decide)).trans (ju_same _ _ _ _)))).trans (by omega)) (fun q => by rw [((ju_i _ _ (by decide)).trans ((ju_i _ _ (by decide)).trans (ju_same _ _ _ _)))] at q; omega) (by rw [((ju_i _ _ (by decide)).trans ((ju_i _ _ (by decide)).trans (ju_same _ _ _ _)))]; omega) (fun a i f598 => ((ju_c _ _ f598).trans ((ju_c _ _ f598).trans ((ju_c _ _ f598).trans ((ju_c _ _ f598).trans ((ju_c _ _ f598).trans ((ju_c _ _ f598).trans ((ju_c _ _ f598).trans rfl)))))))) (fun i g59 g60 g61 g62 g63 g64 g65 => ((ju_i _ _ g64).trans ((ju_i _ _ g63).trans ((ju_i _ _ g60).trans ((ju_i _ _ g65).trans ((ju_i _ _ g62).trans ((ju_i _ _ g61).trans ((ju_i _ _ g59).trans rfl)))))))))
              · exact absurd h145 h183
            · exact absurd h116 h145
          · refine jr.bipush rfl (by decide) ?_
            refine jr.goto rfl rfl ?_
            refine jr.putf (i := 60) (x := 6) rfl rfl (by decide) rfl (by decide) rfl rfl rfl rfl rfl ?_
            refine jr.aload_n rfl rfl ?_
            refine jr.iload rfl rfl ?_
            refine jr.bipush rfl (by decide) ?_
            refine jr.icmp_ne rfl rfl (by omega) (by omega) (fun h145 => ?_) (fun h145 => ?_)
            · refine jr.aload_n rfl rfl ?_
              refine jr.iload_n rfl rfl ?_
              refine jr.aload_n rfl rfl ?_
              refine jr.getf (i := 8) (v := .ref 604) rfl rfl (by decide) rfl (by decide) rfl rfl rfl rfl ?_
              refine jr.iload_n rfl rfl ?_
              obtain ⟨v37, e37⟩ : ∃ z, M 604 h = z := ⟨_, rfl⟩
              have b37 : 0 ≤ v37 ∧ v37 ≤ 400 := by rw [← e37]; exact (by have q := hI_M 604 h (by decide); rw [xri_row rfl rfl] at q; exact q)
              refine jr.iald (i := h) (x := v37) rfl (by decide) rfl (by decide) (by omega) (by omega) ((ju_c _ _ (by decide)).trans ((ju_c _ _ (by decide)).trans ((ju_c _ _ (by decide)).trans ((ju_c _ _ (by decide)).trans ((ju_c _ _ (by decide)).trans e37))))) ?_
              refine jr_v rfl rfl (Or.inl rfl) rfl rfl (by decide) rfl ⟨rfl, Nat.le_of_ble_eq_true rfl, Nat.le_of_ble_eq_true rfl⟩ rfl (jc.deep (r_two (RI.u (RI.u (RI.u (RI.u (RI.u hI_M (a := 598) (i := 59) (show (0 : Int) ≤ _ ∧ _ ≤ (1 : Int) from by omega)) (a := 598) (i := 61) (show (-9223372036854775808 : Int) ≤ _ ∧ _ ≤ (9223372036854775807 : Int) from by omega)) (a := 598) (i := 62) (show (-9223372036854775808 : Int) ≤ _ ∧ _ ≤ (9223372036854775807 : Int) from by omega)) (a := 598) (i := 65) (show (0 : Int) ≤ _ ∧ _ ≤ (11 : Int) from by omega)) (a := 598) (i := 60) (show (0 : Int) ≤ _ ∧ _ ≤ (255 : Int) from by omega)) (RH.o (RH.o (RH.o (RH.o (RH.o hH_M (by decide) (by decide) (by decide)) (by decide) (by decide) (by decide)) (by decide) (by decide) (by decide)) (by decide) (by decide) (by decide)) (by decide) (by decide) (by decide)) (RF.o (RF.o (RF.o (RF.o (RF.o hS_M (by decide) (by decide)) (by decide) (by decide)) (by decide) (by decide)) (by decide) (by decide)) (by decide) (by decide)) (Kp.o (Kp.o (Kp.o (Kp.o (Kp.o ht_M rfl) rfl) rfl) rfl) rfl) (by omega) (by omega)  (fun r38 z38  => ?_)) (by decide))
              refine jr.putf (i := 63) (x := r38) rfl rfl (by decide) rfl (by decide) rfl rfl rfl rfl rfl ?_
              refine jr.aload_n rfl rfl ?_
              refine jr.iload rfl rfl ?_
              refine jr.bipush rfl (by decide) ?_
              refine jr.icmp_ne rfl rfl (by omega) (by omega) (fun h183 => ?_) (fun h183 => ?_)
              · refine jr.aload_n rfl rfl ?_
                refine jr.iload_n rfl rfl ?_
                refine jr.aload_n rfl rfl ?_
                refine jr.getf (i := 8) (v := .ref 604) rfl rfl (by decide) rfl (by decide) rfl rfl rfl rfl ?_
                refine jr.iload_n rfl rfl ?_
                refine jr.iald (i := h) (x := v37) rfl (by decide) rfl (by decide) (by omega) (by omega) ((ju_c _ _ (by decide)).trans ((ju_c _ _ (by decide)).trans ((ju_c _ _ (by decide)).trans ((ju_c _ _ (by decide)).trans ((ju_c _ _ (by decide)).trans ((ju_c _ _ (by decide)).trans e37)))))) ?_
                refine jr.iconst rfl ?_
                refine jr.iadd rfl ?_
                refine jr_v rfl rfl (Or.inl rfl) rfl rfl (by decide) rfl ⟨rfl, Nat.le_of_ble_eq_true rfl, Nat.le_of_ble_eq_true rfl⟩ rfl (jc.deep (r_two (RI.u (RI.u (RI.u (RI.u (RI.u (RI.u hI_M (a := 598) (i := 59) (show (0 : Int) ≤ _ ∧ _ ≤ (1 : Int) from by omega)) (a := 598) (i := 61) (show (-9223372036854775808 : Int) ≤ _ ∧ _ ≤ (9223372036854775807 : Int) from by omega)) (a := 598) (i := 62) (show (-9223372036854775808 : Int) ≤ _ ∧ _ ≤ (9223372036854775807 : Int) from by omega)) (a := 598) (i := 65) (show (0 : Int) ≤ _ ∧ _ ≤ (11 : Int) from by omega)) (a := 598) (i := 60) (show (0 : Int) ≤ _ ∧ _ ≤ (255 : Int) from by omega)) (a := 598) (i := 63) (show (0 : Int) ≤ _ ∧ _ ≤ (65535 : Int) from by omega)) (RH.o (RH.o (RH.o (RH.o (RH.o (RH.o hH_M (by decide) (by decide) (by decide)) (by decide) (by decide) (by decide)) (by decide) (by decide) (by decide)) (by decide) (by decide) (by decide)) (by decide) (by decide) (by decide)) (by decide) (by decide) (by decide)) (RF.o (RF.o (RF.o (RF.o (RF.o (RF.o hS_M (by decide) (by decide)) (by decide) (by decide)) (by decide) (by decide)) (by decide) (by decide)) (by decide) (by decide)) (by decide) (by decide)) (Kp.o (Kp.o (Kp.o (Kp.o (Kp.o (Kp.o ht_M rfl) rfl) rfl) rfl) rfl) rfl) (by omega) (by omega)  (fun r39 z39  => ?_)) (by decide))
                refine jr.putf (i := 64) (x := r39) rfl rfl (by decide) rfl (by decide) rfl rfl rfl rfl rfl ?_
                exact jr.vreturn rfl rfl (q _ (RI.u (RI.u (RI.u (RI.u (RI.u (RI.u (RI.u hI_M (a := 598) (i := 59) (show (0 : Int) ≤ _ ∧ _ ≤ (1 : Int) from by omega)) (a := 598) (i := 61) (show (-9223372036854775808 : Int) ≤ _ ∧ _ ≤ (9223372036854775807 : Int) from by omega)) (a := 598) (i := 62) (show (-9223372036854775808 : Int) ≤ _ ∧ _ ≤ (9223372036854775807 : Int) from by omega)) (a := 598) (i := 65) (show (0 : Int) ≤ _ ∧ _ ≤ (11 : Int) from by omega)) (a := 598) (i := 60) (show (0 : Int) ≤ _ ∧ _ ≤ (255 : Int) from by omega)) (a := 598) (i := 63) (show (0 : Int) ≤ _ ∧ _ ≤ (65535 : Int) from by omega)) (a := 598) (i := 64) (show (0 : Int) ≤ _ ∧ _ ≤ (65535 : Int) from by omega)) (RH.o (RH.o (RH.o (RH.o (RH.o (RH.o (RH.o hH_M (by decide) (by decide) (by decide)) (by decide) (by decide) (by decide)) (by decide) (by decide) (by decide)) (by decide) (by decide) (by decide)) (by decide) (by decide) (by decide)) (by decide) (by decide) (by decide)) (by decide) (by decide) (by decide)) (RF.o (RF.o (RF.o (RF.o (RF.o (RF.o (RF.o hS_M (by decide) (by decide)) (by decide) (by decide)) (by decide) (by decide)) (by decide) (by decide)) (by decide) (by decide)) (by decide) (by decide)) (by decide) (by decide)) (Kp.o (Kp.o (Kp.o (Kp.o (Kp.o (Kp.o (Kp.o ht_M rfl) rfl) rfl) rfl) rfl) rfl) rfl) (((ju_i _ _ (by decide)).trans ((ju_i _ _ (by decide)).trans ((ju_i _ _ (by decide)).trans (ju_same _ _ _ _)))).trans (by omega)) (fun q => by rw [((ju_i _ _ (by decide)).trans ((ju_i _ _ (by decide)).trans (ju_same _ _ _ _)))] at q; omega) (by rw [((ju_i _ _ (by decide)).trans ((ju_i _ _ (by decide)).trans (ju_same _ _ _ _)))]; omega) (fun a i f598 => ((ju_c _ _ f598).trans ((ju_c _ _ f598).trans ((ju_c _ _ f598).trans ((ju_c _ _ f598).trans ((ju_c _ _ f598).trans ((ju_c _ _ f598).trans ((ju_c _ _ f598).trans rfl)))))))) (fun i g59 g60 g61 g62 g63 g64 g65 => ((ju_i _ _ g64).trans ((ju_i _ _ g63).trans ((ju_i _ _ g60).trans ((ju_i _ _ g65).trans ((ju_i _ _ g62).trans ((ju_i _ _ g61).trans ((ju_i _ _ g59).trans rfl)))))))))
              · exact absurd (by omega) h183
            · exact absurd (by omega) h145
        · refine jr.iconst rfl ?_
          refine jr.goto rfl rfl ?_
          refine jr.putf (i := 60) (x := 1) rfl rfl (by decide) rfl (by decide) rfl rfl rfl rfl rfl ?_
          refine jr.aload_n rfl rfl ?_
          refine jr.iload rfl rfl ?_
          refine jr.bipush rfl (by decide) ?_
          refine jr.icmp_ne rfl rfl (by omega) (by omega) (fun h145 => ?_) (fun h145 => ?_)
          · exact absurd h145 (by omega)
          · refine jr.aload_n rfl rfl ?_
            refine jr.iload_n rfl rfl ?_
            refine jr.aload_n rfl rfl ?_
            refine jr.getf (i := 8) (v := .ref 604) rfl rfl (by decide) rfl (by decide) rfl rfl rfl rfl ?_
            refine jr.iload_n rfl rfl ?_
            obtain ⟨v40, e40⟩ : ∃ z, M 604 h = z := ⟨_, rfl⟩
            have b40 : 0 ≤ v40 ∧ v40 ≤ 400 := by rw [← e40]; exact (by have q := hI_M 604 h (by decide); rw [xri_row rfl rfl] at q; exact q)
            refine jr.iald (i := h) (x := v40) rfl (by decide) rfl (by decide) (by omega) (by omega) ((ju_c _ _ (by decide)).trans ((ju_c _ _ (by decide)).trans ((ju_c _ _ (by decide)).trans ((ju_c _ _ (by decide)).trans ((ju_c _ _ (by decide)).trans e40))))) ?_
            refine jr.iconst rfl ?_
            refine jr.iadd rfl ?_
            refine jr_v rfl rfl (Or.inl rfl) rfl rfl (by decide) rfl ⟨rfl, Nat.le_of_ble_eq_true rfl, Nat.le_of_ble_eq_true rfl⟩ rfl (jc.deep (r_two (RI.u (RI.u (RI.u (RI.u (RI.u hI_M (a := 598) (i := 59) (show (0 : Int) ≤ _ ∧ _ ≤ (1 : Int) from by omega)) (a := 598) (i := 61) (show (-9223372036854775808 : Int) ≤ _ ∧ _ ≤ (9223372036854775807 : Int) from by omega)) (a := 598) (i := 62) (show (-9223372036854775808 : Int) ≤ _ ∧ _ ≤ (9223372036854775807 : Int) from by omega)) (a := 598) (i := 65) (show (0 : Int) ≤ _ ∧ _ ≤ (11 : Int) from by omega)) (a := 598) (i := 60) (show (0 : Int) ≤ _ ∧ _ ≤ (255 : Int) from by omega)) (RH.o (RH.o (RH.o (RH.o (RH.o hH_M (by decide) (by decide) (by decide)) (by decide) (by decide) (by decide)) (by decide) (by decide) (by decide)) (by decide) (by decide) (by decide)) (by decide) (by decide) (by decide)) (RF.o (RF.o (RF.o (RF.o (RF.o hS_M (by decide) (by decide)) (by decide) (by decide)) (by decide) (by decide)) (by decide) (by decide)) (by decide) (by decide)) (Kp.o (Kp.o (Kp.o (Kp.o (Kp.o ht_M rfl) rfl) rfl) rfl) rfl) (by omega) (by omega)  (fun r41 z41  => ?_)) (by decide))
            refine jr.goto rfl rfl ?_
            refine jr.putf (i := 63) (x := r41) rfl rfl (by decide) rfl (by decide) rfl rfl rfl rfl rfl ?_
            refine jr.aload_n rfl rfl ?_
            refine jr.iload rfl rfl ?_
            refine jr.bipush rfl (by decide) ?_
            refine jr.icmp_ne rfl rfl (by omega) (by omega) (fun h183 => ?_) (fun h183 => ?_)
            · exact absurd h183 (by omega)
            · refine jr.aload_n rfl rfl ?_
              refine jr.getf (i := 63) (x := r41) (v := .int (Int32.ofInt (r41))) rfl rfl (by decide) rfl (by decide) rfl rfl (ju_same _ _ _ _) rfl ?_
              refine jr.goto rfl rfl ?_
              refine jr.putf (i := 64) (x := r41) rfl rfl (by decide) rfl (by decide) rfl rfl rfl rfl rfl ?_
              exact jr.vreturn rfl rfl (q _ (RI.u (RI.u (RI.u (RI.u (RI.u (RI.u (RI.u hI_M (a := 598) (i := 59) (show (0 : Int) ≤ _ ∧ _ ≤ (1 : Int) from by omega)) (a := 598) (i := 61) (show (-9223372036854775808 : Int) ≤ _ ∧ _ ≤ (9223372036854775807 : Int) from by omega)) (a := 598) (i := 62) (show (-9223372036854775808 : Int) ≤ _ ∧ _ ≤ (9223372036854775807 : Int) from by omega)) (a := 598) (i := 65) (show (0 : Int) ≤ _ ∧ _ ≤ (11 : Int) from by omega)) (a := 598) (i := 60) (show (0 : Int) ≤ _ ∧ _ ≤ (255 : Int) from by omega)) (a := 598) (i := 63) (show (0 : Int) ≤ _ ∧ _ ≤ (65535 : Int) from by omega)) (a := 598) (i := 64) (show (0 : Int) ≤ _ ∧ _ ≤ (65535 : Int) from by omega)) (RH.o (RH.o (RH.o (RH.o (RH.o (RH.o (RH.o hH_M (by decide) (by decide) (by decide)) (by decide) (by decide) (by decide)) (by decide) (by decide) (by decide)) (by decide) (by decide) (by decide)) (by decide) (by decide) (by decide)) (by decide) (by decide) (by decide)) (by decide) (by decide) (by decide)) (RF.o (RF.o (RF.o (RF.o (RF.o (RF.o (RF.o hS_M (by decide) (by decide)) (by decide) (by decide)) (by decide) (by decide)) (by decide) (by decide)) (by decide) (by decide)) (by decide) (by decide)) (by decide) (by decide)) (Kp.o (Kp.o (Kp.o (Kp.o (Kp.o (Kp.o (Kp.o ht_M rfl) rfl) rfl) rfl) rfl) rfl) rfl) (((ju_i _ _ (by decide)).trans ((ju_i _ _ (by decide)).trans ((ju_i _ _ (by decide)).trans (ju_same _ _ _ _)))).trans (by omega)) (fun q => by rw [((ju_i _ _ (by decide)).trans ((ju_i _ _ (by decide)).trans (ju_same _ _ _ _)))] at q; omega) (by rw [((ju_i _ _ (by decide)).trans ((ju_i _ _ (by decide)).trans (ju_same _ _ _ _)))]; omega) (fun a i f598 => ((ju_c _ _ f598).trans ((ju_c _ _ f598).trans ((ju_c _ _ f598).trans ((ju_c _ _ f598).trans ((ju_c _ _ f598).trans ((ju_c _ _ f598).trans ((ju_c _ _ f598).trans rfl)))))))) (fun i g59 g60 g61 g62 g63 g64 g65 => ((ju_i _ _ g64).trans ((ju_i _ _ g63).trans ((ju_i _ _ g60).trans ((ju_i _ _ g65).trans ((ju_i _ _ g62).trans ((ju_i _ _ g61).trans ((ju_i _ _ g59).trans rfl)))))))))
  · refine jr.iconst rfl ?_
    refine jr.goto rfl rfl ?_
    refine jr.putf (i := 59) (x := 1) rfl rfl (by decide) rfl (by decide) rfl rfl rfl rfl rfl ?_
    refine jr.aload_n rfl rfl ?_
    refine jr.aload_n rfl rfl ?_
    refine jr.getf (i := 59) (x := 1) (v := .int (Int32.ofInt (1))) rfl rfl (by decide) rfl (by decide) rfl rfl (ju_same _ _ _ _) rfl ?_
    refine jr.if_eq rfl rfl (by omega) (fun h24 => ?_) (fun h24 => ?_)
    · refine jr.aload_n rfl rfl ?_
      refine jr.iload_n rfl rfl ?_
      refine jr.aload_n rfl rfl ?_
      refine jr.getf (i := 8) (v := .ref 604) rfl rfl (by decide) rfl (by decide) rfl rfl rfl rfl ?_
      refine jr.iload_n rfl rfl ?_
      obtain ⟨v42, e42⟩ : ∃ z, M 604 t = z := ⟨_, rfl⟩
      have b42 : 0 ≤ v42 ∧ v42 ≤ 400 := by rw [← e42]; exact (by have q := hI_M 604 t (by decide); rw [xri_row rfl rfl] at q; exact q)
      refine jr.iald (i := t) (x := v42) rfl (by decide) rfl (by decide) (by omega) (by omega) ((ju_c _ _ (by decide)).trans e42) ?_
      refine jr.bipush rfl (by decide) ?_
      refine jr_v rfl rfl (Or.inl rfl) rfl rfl (by decide) rfl ⟨rfl, Nat.le_of_ble_eq_true rfl, Nat.le_of_ble_eq_true rfl⟩ rfl (jc.deep (r_ofFour (RI.u hI_M (a := 598) (i := 59) (show (0 : Int) ≤ _ ∧ _ ≤ (1 : Int) from by omega)) (RH.o hH_M (by decide) (by decide) (by decide)) (RF.o hS_M (by decide) (by decide)) (Kp.o ht_M rfl) (by omega) (by omega) (by omega)  (fun r43 z43 w43_0 => ?_)) (by decide))
      refine jr.putf (i := 61) (x := r43) rfl rfl (by decide) rfl (by decide) rfl rfl rfl rfl rfl ?_
      refine jr.aload_n rfl rfl ?_
      refine jr.aload_n rfl rfl ?_
      refine jr.getf (i := 59) (x := 1) (v := .int (Int32.ofInt (1))) rfl rfl (by decide) rfl (by decide) rfl rfl ((ju_i _ _ (by decide)).trans (ju_same _ _ _ _)) rfl ?_
      refine jr.if_eq rfl rfl (by omega) (fun h63 => ?_) (fun h63 => ?_)
      · refine jr.aload_n rfl rfl ?_
        refine jr.iload_n rfl rfl ?_
        refine jr.aload_n rfl rfl ?_
        refine jr.getf (i := 8) (v := .ref 604) rfl rfl (by decide) rfl (by decide) rfl rfl rfl rfl ?_
        refine jr.iload_n rfl rfl ?_
        refine jr.iald (i := t) (x := v42) rfl (by decide) rfl (by decide) (by omega) (by omega) ((ju_c _ _ (by decide)).trans ((ju_c _ _ (by decide)).trans e42)) ?_
        refine jr.bipush rfl (by decide) ?_
        refine jr_v rfl rfl (Or.inl rfl) rfl rfl (by decide) rfl ⟨rfl, Nat.le_of_ble_eq_true rfl, Nat.le_of_ble_eq_true rfl⟩ rfl (jc.deep (r_ofFour (RI.u (RI.u hI_M (a := 598) (i := 59) (show (0 : Int) ≤ _ ∧ _ ≤ (1 : Int) from by omega)) (a := 598) (i := 61) (show (-9223372036854775808 : Int) ≤ _ ∧ _ ≤ (9223372036854775807 : Int) from by omega)) (RH.o (RH.o hH_M (by decide) (by decide) (by decide)) (by decide) (by decide) (by decide)) (RF.o (RF.o hS_M (by decide) (by decide)) (by decide) (by decide)) (Kp.o (Kp.o ht_M rfl) rfl) (by omega) (by omega) (by omega)  (fun r44 z44 w44_0 => ?_)) (by decide))
        refine jr.putf (i := 62) (x := r44) rfl rfl (by decide) rfl (by decide) rfl rfl rfl rfl rfl ?_
        refine jr.aload_n rfl rfl ?_
        refine jr.getf (i := 7) (v := .ref 603) rfl rfl (by decide) rfl (by decide) rfl rfl rfl rfl ?_
        refine jr.iload_n rfl rfl ?_
        obtain ⟨v45, e45⟩ : ∃ z, M 603 h = z := ⟨_, rfl⟩
        have b45 : 0 ≤ v45 ∧ v45 ≤ 11 := by rw [← e45]; exact (by have q := hI_M 603 h (by decide); rw [xri_row rfl rfl] at q; exact q)
        refine jr.iald (i := h) (x := v45) rfl (by decide) rfl (by decide) (by omega) (by omega) ((ju_c _ _ (by decide)).trans ((ju_c _ _ (by decide)).trans ((ju_c _ _ (by decide)).trans e45))) ?_
        refine jr.istore (ls' := [_, _, _, _, _]) rfl (by decide) rfl ?_
        refine jr.aload_n rfl rfl ?_
        refine jr.iload_n rfl rfl ?_
        refine jr.putf (i := 65) (x := h) rfl rfl (by decide) rfl (by decide) rfl rfl rfl rfl rfl ?_
        refine jr.aload_n rfl rfl ?_
        refine jr.iload rfl rfl ?_
        refine jr.bipush rfl (by decide) ?_
        refine jr.icmp_ne rfl rfl (by omega) (by omega) (fun h116 => ?_) (fun h116 => ?_)
        · refine jr.iload rfl rfl ?_
          refine jr.bipush rfl (by decide) ?_
          refine jr.icmp_ne rfl rfl (by omega) (by omega) (fun h127 => ?_) (fun h127 => ?_)
          · refine jr.bipush rfl (by decide) ?_
            refine jr.putf (i := 60) (x := 17) rfl rfl (by decide) rfl (by decide) rfl rfl rfl rfl rfl ?_
            refine jr.aload_n rfl rfl ?_
            refine jr.iload rfl rfl ?_
            refine jr.bipush rfl (by decide) ?_
            refine jr.icmp_ne rfl rfl (by omega) (by omega) (fun h145 => ?_) (fun h145 => ?_)
            · refine jr.aload_n rfl rfl ?_
              refine jr.iload_n rfl rfl ?_
              refine jr.aload_n rfl rfl ?_
              refine jr.getf (i := 8) (v := .ref 604) rfl rfl (by decide) rfl (by decide) rfl rfl rfl rfl ?_
              refine jr.iload_n rfl rfl ?_
              obtain ⟨v46, e46⟩ : ∃ z, M 604 h = z := ⟨_, rfl⟩
              have b46 : 0 ≤ v46 ∧ v46 ≤ 400 := by rw [← e46]; exact (by have q := hI_M 604 h (by decide); rw [xri_row rfl rfl] at q; exact q)
              refine jr.iald (i := h) (x := v46) rfl (by decide) rfl (by decide) (by omega) (by omega) ((ju_c _ _ (by decide)).trans ((ju_c _ _ (by decide)).trans ((ju_c _ _ (by decide)).trans ((ju_c _ _ (by decide)).trans ((ju_c _ _ (by decide)).trans e46))))) ?_
              refine jr_v rfl rfl (Or.inl rfl) rfl rfl (by decide) rfl ⟨rfl, Nat.le_of_ble_eq_true rfl, Nat.le_of_ble_eq_true rfl⟩ rfl (jc.deep (r_two (RI.u (RI.u (RI.u (RI.u (RI.u hI_M (a := 598) (i := 59) (show (0 : Int) ≤ _ ∧ _ ≤ (1 : Int) from by omega)) (a := 598) (i := 61) (show (-9223372036854775808 : Int) ≤ _ ∧ _ ≤ (9223372036854775807 : Int) from by omega)) (a := 598) (i := 62) (show (-9223372036854775808 : Int) ≤ _ ∧ _ ≤ (9223372036854775807 : Int) from by omega)) (a := 598) (i := 65) (show (0 : Int) ≤ _ ∧ _ ≤ (11 : Int) from by omega)) (a := 598) (i := 60) (show (0 : Int) ≤ _ ∧ _ ≤ (255 : Int) from by omega)) (RH.o (RH.o (RH.o (RH.o (RH.o hH_M (by decide) (by decide) (by decide)) (by decide) (by decide) (by decide)) (by decide) (by decide) (by decide)) (by decide) (by decide) (by decide)) (by decide) (by decide) (by decide)) (RF.o (RF.o (RF.o (RF.o (RF.o hS_M (by decide) (by decide)) (by decide) (by decide)) (by decide) (by decide)) (by decide) (by decide)) (by decide) (by decide)) (Kp.o (Kp.o (Kp.o (Kp.o (Kp.o ht_M rfl) rfl) rfl) rfl) rfl) (by omega) (by omega)  (fun r47 z47  => ?_)) (by decide))
              refine jr.putf (i := 63) (x := r47) rfl rfl (by decide) rfl (by decide) rfl rfl rfl rfl rfl ?_
              refine jr.aload_n rfl rfl ?_
              refine jr.iload rfl rfl ?_
              refine jr.bipush rfl (by decide) ?_
              refine jr.icmp_ne rfl rfl (by omega) (by omega) (fun h183 => ?_) (fun h183 => ?_)
              · refine jr.aload_n rfl rfl ?_
                refine jr.iload_n rfl rfl ?_
                refine jr.aload_n rfl rfl ?_
                refine jr.getf (i := 8) (v := .ref 604) rfl rfl (by decide) rfl (by decide) rfl rfl rfl rfl ?_
                refine jr.iload_n rfl rfl ?_
                refine jr.iald (i := h) (x := v46) rfl (by decide) rfl (by decide) (by omega) (by omega) ((ju_c _ _ (by decide)).trans ((ju_c _ _ (by decide)).trans ((ju_c _ _ (by decide)).trans ((ju_c _ _ (by decide)).trans ((ju_c _ _ (by decide)).trans ((ju_c _ _ (by decide)).trans e46)))))) ?_
                refine jr.iconst rfl ?_
                refine jr.iadd rfl ?_
                refine jr_v rfl rfl (Or.inl rfl) rfl rfl (by decide) rfl ⟨rfl, Nat.le_of_ble_eq_true rfl, Nat.le_of_ble_eq_true rfl⟩ rfl (jc.deep (r_two (RI.u (RI.u (RI.u (RI.u (RI.u (RI.u hI_M (a := 598) (i := 59) (show (0 : Int) ≤ _ ∧ _ ≤ (1 : Int) from by omega)) (a := 598) (i := 61) (show (-9223372036854775808 : Int) ≤ _ ∧ _ ≤ (9223372036854775807 : Int) from by omega)) (a := 598) (i := 62) (show (-9223372036854775808 : Int) ≤ _ ∧ _ ≤ (9223372036854775807 : Int) from by omega)) (a := 598) (i := 65) (show (0 : Int) ≤ _ ∧ _ ≤ (11 : Int) from by omega)) (a := 598) (i := 60) (show (0 : Int) ≤ _ ∧ _ ≤ (255 : Int) from by omega)) (a := 598) (i := 63) (show (0 : Int) ≤ _ ∧ _ ≤ (65535 : Int) from by omega)) (RH.o (RH.o (RH.o (RH.o (RH.o (RH.o hH_M (by decide) (by decide) (by decide)) (by decide) (by decide) (by decide)) (by decide) (by decide) (by decide)) (by decide) (by decide) (by decide)) (by decide) (by decide) (by decide)) (by decide) (by decide) (by decide)) (RF.o (RF.o (RF.o (RF.o (RF.o (RF.o hS_M (by decide) (by decide)) (by decide) (by decide)) (by decide) (by decide)) (by decide) (by decide)) (by decide) (by decide)) (by decide) (by decide)) (Kp.o (Kp.o (Kp.o (Kp.o (Kp.o (Kp.o ht_M rfl) rfl) rfl) rfl) rfl) rfl) (by omega) (by omega)  (fun r48 z48  => ?_)) (by decide))
                refine jr.putf (i := 64) (x := r48) rfl rfl (by decide) rfl (by decide) rfl rfl rfl rfl rfl ?_
                exact jr.vreturn rfl rfl (q _ (RI.u (RI.u (RI.u (RI.u (RI.u (RI.u (RI.u hI_M (a := 598) (i := 59) (show (0 : Int) ≤ _ ∧ _ ≤ (1 : Int) from by omega)) (a := 598) (i := 61) (show (-9223372036854775808 : Int) ≤ _ ∧ _ ≤ (9223372036854775807 : Int) from by omega)) (a := 598) (i := 62) (show (-9223372036854775808 : Int) ≤ _ ∧ _ ≤ (9223372036854775807 : Int) from by omega)) (a := 598) (i := 65) (show (0 : Int) ≤ _ ∧ _ ≤ (11 : Int) from by omega)) (a := 598) (i := 60) (show (0 : Int) ≤ _ ∧ _ ≤ (255 : Int) from by omega)) (a := 598) (i := 63) (show (0 : Int) ≤ _ ∧ _ ≤ (65535 : Int) from by omega)) (a := 598) (i := 64) (show (0 : Int) ≤ _ ∧ _ ≤ (65535 : Int) from by omega)) (RH.o (RH.o (RH.o (RH.o (RH.o (RH.o (RH.o hH_M (by decide) (by decide) (by decide)) (by decide) (by decide) (by decide)) (by decide) (by decide) (by decide)) (by decide) (by decide) (by decide)) (by decide) (by decide) (by decide)) (by decide) (by decide) (by decide)) (by decide) (by decide) (by decide)) (RF.o (RF.o (RF.o (RF.o (RF.o (RF.o (RF.o hS_M (by decide) (by decide)) (by decide) (by decide)) (by decide) (by decide)) (by decide) (by decide)) (by decide) (by decide)) (by decide) (by decide)) (by decide) (by decide)) (Kp.o (Kp.o (Kp.o (Kp.o (Kp.o (Kp.o (Kp.o ht_M rfl) rfl) rfl) rfl) rfl) rfl) rfl) (((ju_i _ _ (by decide)).trans ((ju_i _ _ (by decide)).trans ((ju_i _ _ (by decide)).trans (ju_same _ _ _ _)))).trans (by omega)) (fun q => by rw [((ju_i _ _ (by decide)).trans ((ju_i _ _ (by decide)).trans (ju_same _ _ _ _)))] at q; omega) (by rw [((ju_i _ _ (by decide)).trans ((ju_i _ _ (by decide)).trans (ju_same _ _ _ _)))]; omega) (fun a i f598 => ((ju_c _ _ f598).trans ((ju_c _ _ f598).trans ((ju_c _ _ f598).trans ((ju_c _ _ f598).trans ((ju_c _ _ f598).trans ((ju_c _ _ f598).trans ((ju_c _ _ f598).trans rfl)))))))) (fun i g59 g60 g61 g62 g63 g64 g65 => ((ju_i _ _ g64).trans ((ju_i _ _ g63).trans ((ju_i _ _ g60).trans ((ju_i _ _ g65).trans ((ju_i _ _ g62).trans ((ju_i _ _ g61).trans ((ju_i _ _ g59).trans rfl)))))))))
              · exact absurd h145 h183
            · exact absurd h116 h145
          · refine jr.bipush rfl (by decide) ?_
            refine jr.goto rfl rfl ?_
            refine jr.putf (i := 60) (x := 6) rfl rfl (by decide) rfl (by decide) rfl rfl rfl rfl rfl ?_
            refine jr.aload_n rfl rfl ?_
            refine jr.iload rfl rfl ?_
            refine jr.bipush rfl (by decide) ?_
            refine jr.icmp_ne rfl rfl (by omega) (by omega) (fun h145 => ?_) (fun h145 => ?_)
            · refine jr.aload_n rfl rfl ?_
              refine jr.iload_n rfl rfl ?_
              refine jr.aload_n rfl rfl ?_
              refine jr.getf (i := 8) (v := .ref 604) rfl rfl (by decide) rfl (by decide) rfl rfl rfl rfl ?_
              refine jr.iload_n rfl rfl ?_
              obtain ⟨v51, e51⟩ : ∃ z, M 604 h = z := ⟨_, rfl⟩
              have b51 : 0 ≤ v51 ∧ v51 ≤ 400 := by rw [← e51]; exact (by have q := hI_M 604 h (by decide); rw [xri_row rfl rfl] at q; exact q)
              refine jr.iald (i := h) (x := v51) rfl (by decide) rfl (by decide) (by omega) (by omega) ((ju_c _ _ (by decide)).trans ((ju_c _ _ (by decide)).trans ((ju_c _ _ (by decide)).trans ((ju_c _ _ (by decide)).trans ((ju_c _ _ (by decide)).trans e51))))) ?_
              refine jr_v rfl rfl (Or.inl rfl) rfl rfl (by decide) rfl ⟨rfl, Nat.le_of_ble_eq_true rfl, Nat.le_of_ble_eq_true rfl⟩ rfl (jc.deep (r_two (RI.u (RI.u (RI.u (RI.u (RI.u hI_M (a := 598) (i := 59) (show (0 : Int) ≤ _ ∧ _ ≤ (1 : Int) from by omega)) (a := 598) (i := 61) (show (-9223372036854775808 : Int) ≤ _ ∧ _ ≤ (9223372036854775807 : Int) from by omega)) (a := 598) (i := 62) (show (-9223372036854775808 : Int) ≤ _ ∧ _ ≤ (9223372036854775807 : Int) from by omega)) (a := 598) (i := 65) (show (0 : Int) ≤ _ ∧ _ ≤ (11 : Int) from by omega)) (a := 598) (i := 60) (show (0 : Int) ≤ _ ∧ _ ≤ (255 : Int) from by omega)) (RH.o (RH.o (RH.o (RH.o (RH.o hH_M (by decide) (by decide) (by decide)) (by decide) (by decide) (by decide)) (by decide) (by decide) (by decide)) (by decide) (by decide) (by decide)) (by decide) (by decide) (by decide)) (RF.o (RF.o (RF.o (RF.o (RF.o hS_M (by decide) (by decide)) (by decide) (by decide)) (by decide) (by decide)) (by decide) (by decide)) (by decide) (by decide)) (Kp.o (Kp.o (Kp.o (Kp.o (Kp.o ht_M rfl) rfl) rfl) rfl) rfl) (by omega) (by omega)  (fun r52 z52  => ?_)) (by decide))
              refine jr.putf (i := 63) (x := r52) rfl rfl (by decide) rfl (by decide) rfl rfl rfl rfl rfl ?_
              refine jr.aload_n rfl rfl ?_
              refine jr.iload rfl rfl ?_
              refine jr.bipush rfl (by decide) ?_
              refine jr.icmp_ne rfl rfl (by omega) (by omega) (fun h183 => ?_) (fun h183 => ?_)
              · refine jr.aload_n rfl rfl ?_
                refine jr.iload_n rfl rfl ?_
                refine jr.aload_n rfl rfl ?_
                refine jr.getf (i := 8) (v := .ref 604) rfl rfl (by decide) rfl (by decide) rfl rfl rfl rfl ?_
                refine jr.iload_n rfl rfl ?_
                refine jr.iald (i := h) (x := v51) rfl (by decide) rfl (by decide) (by omega) (by omega) ((ju_c _ _ (by decide)).trans ((ju_c _ _ (by decide)).trans ((ju_c _ _ (by decide)).trans ((ju_c _ _ (by decide)).trans ((ju_c _ _ (by decide)).trans ((ju_c _ _ (by decide)).trans e51)))))) ?_
                refine jr.iconst rfl ?_
                refine jr.iadd rfl ?_
                refine jr_v rfl rfl (Or.inl rfl) rfl rfl (by decide) rfl ⟨rfl, Nat.le_of_ble_eq_true rfl, Nat.le_of_ble_eq_true rfl⟩ rfl (jc.deep (r_two (RI.u (RI.u (RI.u (RI.u (RI.u (RI.u hI_M (a := 598) (i := 59) (show (0 : Int) ≤ _ ∧ _ ≤ (1 : Int) from by omega)) (a := 598) (i := 61) (show (-9223372036854775808 : Int) ≤ _ ∧ _ ≤ (9223372036854775807 : Int) from by omega)) (a := 598) (i := 62) (show (-9223372036854775808 : Int) ≤ _ ∧ _ ≤ (9223372036854775807 : Int) from by omega)) (a := 598) (i := 65) (show (0 : Int) ≤ _ ∧ _ ≤ (11 : Int) from by omega)) (a := 598) (i := 60) (show (0 : Int) ≤ _ ∧ _ ≤ (255 : Int) from by omega)) (a := 598) (i := 63) (show (0 : Int) ≤ _ ∧ _ ≤ (65535 : Int) from by omega)) (RH.o (RH.o (RH.o (RH.o (RH.o (RH.o hH_M (by decide) (by decide) (by decide)) (by decide) (by decide) (by decide)) (by decide) (by decide) (by decide)) (by decide) (by decide) (by decide)) (by decide) (by decide) (by decide)) (by decide) (by decide) (by decide)) (RF.o (RF.o (RF.o (RF.o (RF.o (RF.o hS_M (by decide) (by decide)) (by decide) (by decide)) (by decide) (by decide)) (by decide) (by decide)) (by decide) (by decide)) (by decide) (by decide)) (Kp.o (Kp.o (Kp.o (Kp.o (Kp.o (Kp.o ht_M rfl) rfl) rfl) rfl) rfl) rfl) (by omega) (by omega)  (fun r53 z53  => ?_)) (by decide))
                refine jr.putf (i := 64) (x := r53) rfl rfl (by decide) rfl (by decide) rfl rfl rfl rfl rfl ?_
                exact jr.vreturn rfl rfl (q _ (RI.u (RI.u (RI.u (RI.u (RI.u (RI.u (RI.u hI_M (a := 598) (i := 59) (show (0 : Int) ≤ _ ∧ _ ≤ (1 : Int) from by omega)) (a := 598) (i := 61) (show (-9223372036854775808 : Int) ≤ _ ∧ _ ≤ (9223372036854775807 : Int) from by omega)) (a := 598) (i := 62) (show (-9223372036854775808 : Int) ≤ _ ∧ _ ≤ (9223372036854775807 : Int) from by omega)) (a := 598) (i := 65) (show (0 : Int) ≤ _ ∧ _ ≤ (11 : Int) from by omega)) (a := 598) (i := 60) (show (0 : Int) ≤ _ ∧ _ ≤ (255 : Int) from by omega)) (a := 598) (i := 63) (show (0 : Int) ≤ _ ∧ _ ≤ (65535 : Int) from by omega)) (a := 598) (i := 64) (show (0 : Int) ≤ _ ∧ _ ≤ (65535 : Int) from by omega)) (RH.o (RH.o (RH.o (RH.o (RH.o (RH.o (RH.o hH_M (by decide) (by decide) (by decide)) (by decide) (by decide) (by decide)) (by decide) (by decide) (by decide)) (by decide) (by decide) (by decide)) (by decide) (by decide) (by decide)) (by decide) (by decide) (by decide)) (by decide) (by decide) (by decide)) (RF.o (RF.o (RF.o (RF.o (RF.o (RF.o (RF.o hS_M (by decide) (by decide)) (by decide) (by decide)) (by decide) (by decide)) (by decide) (by decide)) (by decide) (by decide)) (by decide) (by decide)) (by decide) (by decide)) (Kp.o (Kp.o (Kp.o (Kp.o (Kp.o (Kp.o (Kp.o ht_M rfl) rfl) rfl) rfl) rfl) rfl) rfl) (((ju_i _ _ (by decide)).trans ((ju_i _ _ (by decide)).trans ((ju_i _ _ (by decide)).trans (ju_same _ _ _ _)))).trans (by omega)) (fun q => by rw [((ju_i _ _ (by decide)).trans ((ju_i _ _ (by decide)).trans (ju_same _ _ _ _)))] at q; omega) (by rw [((ju_i _ _ (by decide)).trans ((ju_i _ _ (by decide)).trans (ju_same _ _ _ _)))]; omega) (fun a i f598 => ((ju_c _ _ f598).trans ((ju_c _ _ f598).trans ((ju_c _ _ f598).trans ((ju_c _ _ f598).trans ((ju_c _ _ f598).trans ((ju_c _ _ f598).trans ((ju_c _ _ f598).trans rfl)))))))) (fun i g59 g60 g61 g62 g63 g64 g65 => ((ju_i _ _ g64).trans ((ju_i _ _ g63).trans ((ju_i _ _ g60).trans ((ju_i _ _ g65).trans ((ju_i _ _ g62).trans ((ju_i _ _ g61).trans ((ju_i _ _ g59).trans rfl)))))))))
              · exact absurd (by omega) h183
            · exact absurd (by omega) h145
        · refine jr.iconst rfl ?_
          refine jr.goto rfl rfl ?_
          refine jr.putf (i := 60) (x := 1) rfl rfl (by decide) rfl (by decide) rfl rfl rfl rfl rfl ?_
          refine jr.aload_n rfl rfl ?_
          refine jr.iload rfl rfl ?_
          refine jr.bipush rfl (by decide) ?_
          refine jr.icmp_ne rfl rfl (by omega) (by omega) (fun h145 => ?_) (fun h145 => ?_)
          · exact absurd h145 (by omega)
          · refine jr.aload_n rfl rfl ?_
            refine jr.iload_n rfl rfl ?_
            refine jr.aload_n rfl rfl ?_
            refine jr.getf (i := 8) (v := .ref 604) rfl rfl (by decide) rfl (by decide) rfl rfl rfl rfl ?_
            refine jr.iload_n rfl rfl ?_
            obtain ⟨v54, e54⟩ : ∃ z, M 604 h = z := ⟨_, rfl⟩
            have b54 : 0 ≤ v54 ∧ v54 ≤ 400 := by rw [← e54]; exact (by have q := hI_M 604 h (by decide); rw [xri_row rfl rfl] at q; exact q)
            refine jr.iald (i := h) (x := v54) rfl (by decide) rfl (by decide) (by omega) (by omega) ((ju_c _ _ (by decide)).trans ((ju_c _ _ (by decide)).trans ((ju_c _ _ (by decide)).trans ((ju_c _ _ (by decide)).trans ((ju_c _ _ (by decide)).trans e54))))) ?_
            refine jr.iconst rfl ?_
            refine jr.iadd rfl ?_
            refine jr_v rfl rfl (Or.inl rfl) rfl rfl (by decide) rfl ⟨rfl, Nat.le_of_ble_eq_true rfl, Nat.le_of_ble_eq_true rfl⟩ rfl (jc.deep (r_two (RI.u (RI.u (RI.u (RI.u (RI.u hI_M (a := 598) (i := 59) (show (0 : Int) ≤ _ ∧ _ ≤ (1 : Int) from by omega)) (a := 598) (i := 61) (show (-9223372036854775808 : Int) ≤ _ ∧ _ ≤ (9223372036854775807 : Int) from by omega)) (a := 598) (i := 62) (show (-9223372036854775808 : Int) ≤ _ ∧ _ ≤ (9223372036854775807 : Int) from by omega)) (a := 598) (i := 65) (show (0 : Int) ≤ _ ∧ _ ≤ (11 : Int) from by omega)) (a := 598) (i := 60) (show (0 : Int) ≤ _ ∧ _ ≤ (255 : Int) from by omega)) (RH.o (RH.o (RH.o (RH.o (RH.o hH_M (by decide) (by decide) (by decide)) (by decide) (by decide) (by decide)) (by decide) (by decide) (by decide)) (by decide) (by decide) (by decide)) (by decide) (by decide) (by decide)) (RF.o (RF.o (RF.o (RF.o (RF.o hS_M (by decide) (by decide)) (by decide) (by decide)) (by decide) (by decide)) (by decide) (by decide)) (by decide) (by decide)) (Kp.o (Kp.o (Kp.o (Kp.o (Kp.o ht_M rfl) rfl) rfl) rfl) rfl) (by omega) (by omega)  (fun r55 z55  => ?_)) (by decide))
            refine jr.goto rfl rfl ?_
            refine jr.putf (i := 63) (x := r55) rfl rfl (by decide) rfl (by decide) rfl rfl rfl rfl rfl ?_
            refine jr.aload_n rfl rfl ?_
            refine jr.iload rfl rfl ?_
            refine jr.bipush rfl (by decide) ?_
            refine jr.icmp_ne rfl rfl (by omega) (by omega) (fun h183 => ?_) (fun h183 => ?_)
            · exact absurd h183 (by omega)
            · refine jr.aload_n rfl rfl ?_
              refine jr.getf (i := 63) (x := r55) (v := .int (Int32.ofInt (r55))) rfl rfl (by decide) rfl (by decide) rfl rfl (ju_same _ _ _ _) rfl ?_
              refine jr.goto rfl rfl ?_
              refine jr.putf (i := 64) (x := r55) rfl rfl (by decide) rfl (by decide) rfl rfl rfl rfl rfl ?_
              exact jr.vreturn rfl rfl (q _ (RI.u (RI.u (RI.u (RI.u (RI.u (RI.u (RI.u hI_M (a := 598) (i := 59) (show (0 : Int) ≤ _ ∧ _ ≤ (1 : Int) from by omega)) (a := 598) (i := 61) (show (-9223372036854775808 : Int) ≤ _ ∧ _ ≤ (9223372036854775807 : Int) from by omega)) (a := 598) (i := 62) (show (-9223372036854775808 : Int) ≤ _ ∧ _ ≤ (9223372036854775807 : Int) from by omega)) (a := 598) (i := 65) (show (0 : Int) ≤ _ ∧ _ ≤ (11 : Int) from by omega)) (a := 598) (i := 60) (show (0 : Int) ≤ _ ∧ _ ≤ (255 : Int) from by omega)) (a := 598) (i := 63) (show (0 : Int) ≤ _ ∧ _ ≤ (65535 : Int) from by omega)) (a := 598) (i := 64) (show (0 : Int) ≤ _ ∧ _ ≤ (65535 : Int) from by omega)) (RH.o (RH.o (RH.o (RH.o (RH.o (RH.o (RH.o hH_M (by decide) (by decide) (by decide)) (by decide) (by decide) (by decide)) (by decide) (by decide) (by decide)) (by decide) (by decide) (by decide)) (by decide) (by decide) (by decide)) (by decide) (by decide) (by decide)) (by decide) (by decide) (by decide)) (RF.o (RF.o (RF.o (RF.o (RF.o (RF.o (RF.o hS_M (by decide) (by decide)) (by decide) (by decide)) (by decide) (by decide)) (by decide) (by decide)) (by decide) (by decide)) (by decide) (by decide)) (by decide) (by decide)) (Kp.o (Kp.o (Kp.o (Kp.o (Kp.o (Kp.o (Kp.o ht_M rfl) rfl) rfl) rfl) rfl) rfl) rfl) (((ju_i _ _ (by decide)).trans ((ju_i _ _ (by decide)).trans ((ju_i _ _ (by decide)).trans (ju_same _ _ _ _)))).trans (by omega)) (fun q => by rw [((ju_i _ _ (by decide)).trans ((ju_i _ _ (by decide)).trans (ju_same _ _ _ _)))] at q; omega) (by rw [((ju_i _ _ (by decide)).trans ((ju_i _ _ (by decide)).trans (ju_same _ _ _ _)))]; omega) (fun a i f598 => ((ju_c _ _ f598).trans ((ju_c _ _ f598).trans ((ju_c _ _ f598).trans ((ju_c _ _ f598).trans ((ju_c _ _ f598).trans ((ju_c _ _ f598).trans ((ju_c _ _ f598).trans rfl)))))))) (fun i g59 g60 g61 g62 g63 g64 g65 => ((ju_i _ _ g64).trans ((ju_i _ _ g63).trans ((ju_i _ _ g60).trans ((ju_i _ _ g65).trans ((ju_i _ _ g62).trans ((ju_i _ _ g61).trans ((ju_i _ _ g59).trans rfl)))))))))
      · exact absurd (by omega) h63
    · refine jr.aload_n rfl rfl ?_
      refine jr.iload_n rfl rfl ?_
      refine jr.aload_n rfl rfl ?_
      refine jr.getf (i := 8) (v := .ref 604) rfl rfl (by decide) rfl (by decide) rfl rfl rfl rfl ?_
      refine jr.iload_n rfl rfl ?_
      obtain ⟨v56, e56⟩ : ∃ z, M 604 t = z := ⟨_, rfl⟩
      have b56 : 0 ≤ v56 ∧ v56 ≤ 400 := by rw [← e56]; exact (by have q := hI_M 604 t (by decide); rw [xri_row rfl rfl] at q; exact q)
      refine jr.iald (i := t) (x := v56) rfl (by decide) rfl (by decide) (by omega) (by omega) ((ju_c _ _ (by decide)).trans e56) ?_
      refine jr.iconst rfl ?_
      refine jr_v rfl rfl (Or.inl rfl) rfl rfl (by decide) rfl ⟨rfl, Nat.le_of_ble_eq_true rfl, Nat.le_of_ble_eq_true rfl⟩ rfl (jc.deep (r_ofSix (RI.u hI_M (a := 598) (i := 59) (show (0 : Int) ≤ _ ∧ _ ≤ (1 : Int) from by omega)) (RH.o hH_M (by decide) (by decide) (by decide)) (RF.o hS_M (by decide) (by decide)) (Kp.o ht_M rfl) (by omega) (by omega) (by omega)  (fun r57 z57  => ?_)) (by decide))
      refine jr.goto rfl rfl ?_
      refine jr.putf (i := 61) (x := r57) rfl rfl (by decide) rfl (by decide) rfl rfl rfl rfl rfl ?_
      refine jr.aload_n rfl rfl ?_
      refine jr.aload_n rfl rfl ?_
      refine jr.getf (i := 59) (x := 1) (v := .int (Int32.ofInt (1))) rfl rfl (by decide) rfl (by decide) rfl rfl ((ju_i _ _ (by decide)).trans (ju_same _ _ _ _)) rfl ?_
      refine jr.if_eq rfl rfl (by omega) (fun h63 => ?_) (fun h63 => ?_)
      · exact absurd h63 h24
      · refine jr.aload_n rfl rfl ?_
        refine jr.iload_n rfl rfl ?_
        refine jr.aload_n rfl rfl ?_
        refine jr.getf (i := 8) (v := .ref 604) rfl rfl (by decide) rfl (by decide) rfl rfl rfl rfl ?_
        refine jr.iload_n rfl rfl ?_
        refine jr.iald (i := t) (x := v56) rfl (by decide) rfl (by decide) (by omega) (by omega) ((ju_c _ _ (by decide)).trans ((ju_c _ _ (by decide)).trans e56)) ?_
        refine jr.bipush rfl (by decide) ?_
        refine jr_v rfl rfl (Or.inl rfl) rfl rfl (by decide) rfl ⟨rfl, Nat.le_of_ble_eq_true rfl, Nat.le_of_ble_eq_true rfl⟩ rfl (jc.deep (r_ofSix (RI.u (RI.u hI_M (a := 598) (i := 59) (show (0 : Int) ≤ _ ∧ _ ≤ (1 : Int) from by omega)) (a := 598) (i := 61) (show (-9223372036854775808 : Int) ≤ _ ∧ _ ≤ (9223372036854775807 : Int) from by omega)) (RH.o (RH.o hH_M (by decide) (by decide) (by decide)) (by decide) (by decide) (by decide)) (RF.o (RF.o hS_M (by decide) (by decide)) (by decide) (by decide)) (Kp.o (Kp.o ht_M rfl) rfl) (by omega) (by omega) (by omega)  (fun r70 z70  => ?_)) (by decide))
        refine jr.goto rfl rfl ?_
        refine jr.putf (i := 62) (x := r70) rfl rfl (by decide) rfl (by decide) rfl rfl rfl rfl rfl ?_
        refine jr.aload_n rfl rfl ?_
        refine jr.getf (i := 7) (v := .ref 603) rfl rfl (by decide) rfl (by decide) rfl rfl rfl rfl ?_
        refine jr.iload_n rfl rfl ?_
        obtain ⟨v71, e71⟩ : ∃ z, M 603 h = z := ⟨_, rfl⟩
        have b71 : 0 ≤ v71 ∧ v71 ≤ 11 := by rw [← e71]; exact (by have q := hI_M 603 h (by decide); rw [xri_row rfl rfl] at q; exact q)
        refine jr.iald (i := h) (x := v71) rfl (by decide) rfl (by decide) (by omega) (by omega) ((ju_c _ _ (by decide)).trans ((ju_c _ _ (by decide)).trans ((ju_c _ _ (by decide)).trans e71))) ?_
        refine jr.istore (ls' := [_, _, _, _, _]) rfl (by decide) rfl ?_
        refine jr.aload_n rfl rfl ?_
        refine jr.iload_n rfl rfl ?_
        refine jr.putf (i := 65) (x := h) rfl rfl (by decide) rfl (by decide) rfl rfl rfl rfl rfl ?_
        refine jr.aload_n rfl rfl ?_
        refine jr.iload rfl rfl ?_
        refine jr.bipush rfl (by decide) ?_
        refine jr.icmp_ne rfl rfl (by omega) (by omega) (fun h116 => ?_) (fun h116 => ?_)
        · refine jr.iload rfl rfl ?_
          refine jr.bipush rfl (by decide) ?_
          refine jr.icmp_ne rfl rfl (by omega) (by omega) (fun h127 => ?_) (fun h127 => ?_)
          · refine jr.bipush rfl (by decide) ?_
            refine jr.putf (i := 60) (x := 17) rfl rfl (by decide) rfl (by decide) rfl rfl rfl rfl rfl ?_
            refine jr.aload_n rfl rfl ?_
            refine jr.iload rfl rfl ?_
            refine jr.bipush rfl (by decide) ?_
            refine jr.icmp_ne rfl rfl (by omega) (by omega) (fun h145 => ?_) (fun h145 => ?_)
            · refine jr.aload_n rfl rfl ?_
              refine jr.iload_n rfl rfl ?_
              refine jr.aload_n rfl rfl ?_
              refine jr.getf (i := 8) (v := .ref 604) rfl rfl (by decide) rfl (by decide) rfl rfl rfl rfl ?_
              refine jr.iload_n rfl rfl ?_
              obtain ⟨v72, e72⟩ : ∃ z, M 604 h = z := ⟨_, rfl⟩
              have b72 : 0 ≤ v72 ∧ v72 ≤ 400 := by rw [← e72]; exact (by have q := hI_M 604 h (by decide); rw [xri_row rfl rfl] at q; exact q)
              refine jr.iald (i := h) (x := v72) rfl (by decide) rfl (by decide) (by omega) (by omega) ((ju_c _ _ (by decide)).trans ((ju_c _ _ (by decide)).trans ((ju_c _ _ (by decide)).trans ((ju_c _ _ (by decide)).trans ((ju_c _ _ (by decide)).trans e72))))) ?_
              refine jr_v rfl rfl (Or.inl rfl) rfl rfl (by decide) rfl ⟨rfl, Nat.le_of_ble_eq_true rfl, Nat.le_of_ble_eq_true rfl⟩ rfl (jc.deep (r_two (RI.u (RI.u (RI.u (RI.u (RI.u hI_M (a := 598) (i := 59) (show (0 : Int) ≤ _ ∧ _ ≤ (1 : Int) from by omega)) (a := 598) (i := 61) (show (-9223372036854775808 : Int) ≤ _ ∧ _ ≤ (9223372036854775807 : Int) from by omega)) (a := 598) (i := 62) (show (-9223372036854775808 : Int) ≤ _ ∧ _ ≤ (9223372036854775807 : Int) from by omega)) (a := 598) (i := 65) (show (0 : Int) ≤ _ ∧ _ ≤ (11 : Int) from by omega)) (a := 598) (i := 60) (show (0 : Int) ≤ _ ∧ _ ≤ (255 : Int) from by omega)) (RH.o (RH.o (RH.o (RH.o (RH.o hH_M (by decide) (by decide) (by decide)) (by decide) (by decide) (by decide)) (by decide) (by decide) (by decide)) (by decide) (by decide) (by decide)) (by decide) (by decide) (by decide)) (RF.o (RF.o (RF.o (RF.o (RF.o hS_M (by decide) (by decide)) (by decide) (by decide)) (by decide) (by decide)) (by decide) (by decide)) (by decide) (by decide)) (Kp.o (Kp.o (Kp.o (Kp.o (Kp.o ht_M rfl) rfl) rfl) rfl) rfl) (by omega) (by omega)  (fun r73 z73  => ?_)) (by decide))
              refine jr.putf (i := 63) (x := r73) rfl rfl (by decide) rfl (by decide) rfl rfl rfl rfl rfl ?_
              refine jr.aload_n rfl rfl ?_
              refine jr.iload rfl rfl ?_
              refine jr.bipush rfl (by decide) ?_
              refine jr.icmp_ne rfl rfl (by omega) (by omega) (fun h183 => ?_) (fun h183 => ?_)
              · refine jr.aload_n rfl rfl ?_
                refine jr.iload_n rfl rfl ?_
                refine jr.aload_n rfl rfl ?_
                refine jr.getf (i := 8) (v := .ref 604) rfl rfl (by decide) rfl (by decide) rfl rfl rfl rfl ?_
                refine jr.iload_n rfl rfl ?_
                refine jr.iald (i := h) (x := v72) rfl (by decide) rfl (by decide) (by omega) (by omega) ((ju_c _ _ (by decide)).trans ((ju_c _ _ (by decide)).trans ((ju_c _ _ (by decide)).trans ((ju_c _ _ (by decide)).trans ((ju_c _ _ (by decide)).trans ((ju_c _ _ (by decide)).trans e72)))))) ?_
                refine jr.iconst rfl ?_
                refine jr.iadd rfl ?_
                refine jr_v rfl rfl (Or.inl rfl) rfl rfl (by decide) rfl ⟨rfl, Nat.le_of_ble_eq_true rfl, Nat.le_of_ble_eq_true rfl⟩ rfl (jc.deep (r_two (RI.u (RI.u (RI.u (RI.u (RI.u (RI.u hI_M (a := 598) (i := 59) (show (0 : Int) ≤ _ ∧ _ ≤ (1 : Int) from by omega)) (a := 598) (i := 61) (show (-9223372036854775808 : Int) ≤ _ ∧ _ ≤ (9223372036854775807 : Int) from by omega)) (a := 598) (i := 62) (show (-9223372036854775808 : Int) ≤ _ ∧ _ ≤ (9223372036854775807 : Int) from by omega)) (a := 598) (i := 65) (show (0 : Int) ≤ _ ∧ _ ≤ (11 : Int) from by omega)) (a := 598) (i := 60) (show (0 : Int) ≤ _ ∧ _ ≤ (255 : Int) from by omega)) (a := 598) (i := 63) (show (0 : Int) ≤ _ ∧ _ ≤ (65535 : Int) from by omega)) (RH.o (RH.o (RH.o (RH.o (RH.o (RH.o hH_M (by decide) (by decide) (by decide)) (by decide) (by decide) (by decide)) (by decide) (by decide) (by decide)) (by decide) (by decide) (by decide)) (by decide) (by decide) (by decide)) (by decide) (by decide) (by decide)) (RF.o (RF.o (RF.o (RF.o (RF.o (RF.o hS_M (by decide) (by decide)) (by decide) (by decide)) (by decide) (by decide)) (by decide) (by decide)) (by decide) (by decide)) (by decide) (by decide)) (Kp.o (Kp.o (Kp.o (Kp.o (Kp.o (Kp.o ht_M rfl) rfl) rfl) rfl) rfl) rfl) (by omega) (by omega)  (fun r74 z74  => ?_)) (by decide))
                refine jr.putf (i := 64) (x := r74) rfl rfl (by decide) rfl (by decide) rfl rfl rfl rfl rfl ?_
                exact jr.vreturn rfl rfl (q _ (RI.u (RI.u (RI.u (RI.u (RI.u (RI.u (RI.u hI_M (a := 598) (i := 59) (show (0 : Int) ≤ _ ∧ _ ≤ (1 : Int) from by omega)) (a := 598) (i := 61) (show (-9223372036854775808 : Int) ≤ _ ∧ _ ≤ (9223372036854775807 : Int) from by omega)) (a := 598) (i := 62) (show (-9223372036854775808 : Int) ≤ _ ∧ _ ≤ (9223372036854775807 : Int) from by omega)) (a := 598) (i := 65) (show (0 : Int) ≤ _ ∧ _ ≤ (11 : Int) from by omega)) (a := 598) (i := 60) (show (0 : Int) ≤ _ ∧ _ ≤ (255 : Int) from by omega)) (a := 598) (i := 63) (show (0 : Int) ≤ _ ∧ _ ≤ (65535 : Int) from by omega)) (a := 598) (i := 64) (show (0 : Int) ≤ _ ∧ _ ≤ (65535 : Int) from by omega)) (RH.o (RH.o (RH.o (RH.o (RH.o (RH.o (RH.o hH_M (by decide) (by decide) (by decide)) (by decide) (by decide) (by decide)) (by decide) (by decide) (by decide)) (by decide) (by decide) (by decide)) (by decide) (by decide) (by decide)) (by decide) (by decide) (by decide)) (by decide) (by decide) (by decide)) (RF.o (RF.o (RF.o (RF.o (RF.o (RF.o (RF.o hS_M (by decide) (by decide)) (by decide) (by decide)) (by decide) (by decide)) (by decide) (by decide)) (by decide) (by decide)) (by decide) (by decide)) (by decide) (by decide)) (Kp.o (Kp.o (Kp.o (Kp.o (Kp.o (Kp.o (Kp.o ht_M rfl) rfl) rfl) rfl) rfl) rfl) rfl) (((ju_i _ _ (by decide)).trans ((ju_i _ _ (by decide)).trans ((ju_i _ _ (by decide)).trans (ju_same _ _ _ _)))).trans (by omega)) (fun q => by rw [((ju_i _ _ (by decide)).trans ((ju_i _ _ (by decide)).trans (ju_same _ _ _ _)))] at q; omega) (by rw [((ju_i _ _ (by decide)).trans ((ju_i _ _ (by decide)).trans (ju_same _ _ _ _)))]; omega) (fun a i f598 => ((ju_c _ _ f598).trans ((ju_c _ _ f598).trans ((ju_c _ _ f598).trans ((ju_c _ _ f598).trans ((ju_c _ _ f598).trans ((ju_c _ _ f598).trans ((ju_c _ _ f598).trans rfl)))))))) (fun i g59 g60 g61 g62 g63 g64 g65 => ((ju_i _ _ g64).trans ((ju_i _ _ g63).trans ((ju_i _ _ g60).trans ((ju_i _ _ g65).trans ((ju_i _ _ g62).trans ((ju_i _ _ g61).trans ((ju_i _ _ g59).trans rfl)))))))))
              · exact absurd h145 h183
            · exact absurd h116 h145
          · refine jr.bipush rfl (by decide) ?_
            refine jr.goto rfl rfl ?_
            refine jr.putf (i := 60) (x := 6) rfl rfl (by decide) rfl (by decide) rfl rfl rfl rfl rfl ?_
            refine jr.aload_n rfl rfl ?_
            refine jr.iload rfl rfl ?_
            refine jr.bipush rfl (by decide) ?_
            refine jr.icmp_ne rfl rfl (by omega) (by omega) (fun h145 => ?_) (fun h145 => ?_)
            · refine jr.aload_n rfl rfl ?_
              refine jr.iload_n rfl rfl ?_
              refine jr.aload_n rfl rfl ?_
              refine jr.getf (i := 8) (v := .ref 604) rfl rfl (by decide) rfl (by decide) rfl rfl rfl rfl ?_
              refine jr.iload_n rfl rfl ?_
              obtain ⟨v77, e77⟩ : ∃ z, M 604 h = z := ⟨_, rfl⟩
              have b77 : 0 ≤ v77 ∧ v77 ≤ 400 := by rw [← e77]; exact (by have q := hI_M 604 h (by decide); rw [xri_row rfl rfl] at q; exact q)
              refine jr.iald (i := h) (x := v77) rfl (by decide) rfl (by decide) (by omega) (by omega) ((ju_c _ _ (by decide)).trans ((ju_c _ _ (by decide)).trans ((ju_c _ _ (by decide)).trans ((ju_c _ _ (by decide)).trans ((ju_c _ _ (by decide)).trans e77))))) ?_
              refine jr_v rfl rfl (Or.inl rfl) rfl rfl (by decide) rfl ⟨rfl, Nat.le_of_ble_eq_true rfl, Nat.le_of_ble_eq_true rfl⟩ rfl (jc.deep (r_two (RI.u (RI.u (RI.u (RI.u (RI.u hI_M (a := 598) (i := 59) (show (0 : Int) ≤ _ ∧ _ ≤ (1 : Int) from by omega)) (a := 598) (i := 61) (show (-9223372036854775808 : Int) ≤ _ ∧ _ ≤ (9223372036854775807 : Int) from by omega)) (a := 598) (i := 62) (show (-9223372036854775808 : Int) ≤ _ ∧ _ ≤ (9223372036854775807 : Int) from by omega)) (a := 598) (i := 65) (show (0 : Int) ≤ _ ∧ _ ≤ (11 : Int) from by omega)) (a := 598) (i := 60) (show (0 : Int) ≤ _ ∧ _ ≤ (255 : Int) from by omega)) (RH.o (RH.o (RH.o (RH.o (RH.o hH_M (by decide) (by decide) (by decide)) (by decide) (by decide) (by decide)) (by decide) (by decide) (by decide)) (by decide) (by decide) (by decide)) (by decide) (by decide) (by decide)) (RF.o (RF.o (RF.o (RF.o (RF.o hS_M (by decide) (by decide)) (by decide) (by decide)) (by decide) (by decide)) (by decide) (by decide)) (by decide) (by decide)) (Kp.o (Kp.o (Kp.o (Kp.o (Kp.o ht_M rfl) rfl) rfl) rfl) rfl) (by omega) (by omega)  (fun r78 z78  => ?_)) (by decide))
              refine jr.putf (i := 63) (x := r78) rfl rfl (by decide) rfl (by decide) rfl rfl rfl rfl rfl ?_
              refine jr.aload_n rfl rfl ?_
              refine jr.iload rfl rfl ?_
              refine jr.bipush rfl (by decide) ?_
              refine jr.icmp_ne rfl rfl (by omega) (by omega) (fun h183 => ?_) (fun h183 => ?_)
              · refine jr.aload_n rfl rfl ?_
                refine jr.iload_n rfl rfl ?_
                refine jr.aload_n rfl rfl ?_
                refine jr.getf (i := 8) (v := .ref 604) rfl rfl (by decide) rfl (by decide) rfl rfl rfl rfl ?_
                refine jr.iload_n rfl rfl ?_
                refine jr.iald (i := h) (x := v77) rfl (by decide) rfl (by decide) (by omega) (by omega) ((ju_c _ _ (by decide)).trans ((ju_c _ _ (by decide)).trans ((ju_c _ _ (by decide)).trans ((ju_c _ _ (by decide)).trans ((ju_c _ _ (by decide)).trans ((ju_c _ _ (by decide)).trans e77)))))) ?_
                refine jr.iconst rfl ?_
                refine jr.iadd rfl ?_
                refine jr_v rfl rfl (Or.inl rfl) rfl rfl (by decide) rfl ⟨rfl, Nat.le_of_ble_eq_true rfl, Nat.le_of_ble_eq_true rfl⟩ rfl (jc.deep (r_two (RI.u (RI.u (RI.u (RI.u (RI.u (RI.u hI_M (a := 598) (i := 59) (show (0 : Int) ≤ _ ∧ _ ≤ (1 : Int) from by omega)) (a := 598) (i := 61) (show (-9223372036854775808 : Int) ≤ _ ∧ _ ≤ (9223372036854775807 : Int) from by omega)) (a := 598) (i := 62) (show (-9223372036854775808 : Int) ≤ _ ∧ _ ≤ (9223372036854775807 : Int) from by omega)) (a := 598) (i := 65) (show (0 : Int) ≤ _ ∧ _ ≤ (11 : Int) from by omega)) (a := 598) (i := 60) (show (0 : Int) ≤ _ ∧ _ ≤ (255 : Int) from by omega)) (a := 598) (i := 63) (show (0 : Int) ≤ _ ∧ _ ≤ (65535 : Int) from by omega)) (RH.o (RH.o (RH.o (RH.o (RH.o (RH.o hH_M (by decide) (by decide) (by decide)) (by decide) (by decide) (by decide)) (by decide) (by decide) (by decide)) (by decide) (by decide) (by decide)) (by decide) (by decide) (by decide)) (by decide) (by decide) (by decide)) (RF.o (RF.o (RF.o (RF.o (RF.o (RF.o hS_M (by decide) (by decide)) (by decide) (by decide)) (by decide) (by decide)) (by decide) (by decide)) (by decide) (by decide)) (by decide) (by decide)) (Kp.o (Kp.o (Kp.o (Kp.o (Kp.o (Kp.o ht_M rfl) rfl) rfl) rfl) rfl) rfl) (by omega) (by omega)  (fun r79 z79  => ?_)) (by decide))
                refine jr.putf (i := 64) (x := r79) rfl rfl (by decide) rfl (by decide) rfl rfl rfl rfl rfl ?_
                exact jr.vreturn rfl rfl (q _ (RI.u (RI.u (RI.u (RI.u (RI.u (RI.u (RI.u hI_M (a := 598) (i := 59) (show (0 : Int) ≤ _ ∧ _ ≤ (1 : Int) from by omega)) (a := 598) (i := 61) (show (-9223372036854775808 : Int) ≤ _ ∧ _ ≤ (9223372036854775807 : Int) from by omega)) (a := 598) (i := 62) (show (-9223372036854775808 : Int) ≤ _ ∧ _ ≤ (9223372036854775807 : Int) from by omega)) (a := 598) (i := 65) (show (0 : Int) ≤ _ ∧ _ ≤ (11 : Int) from by omega)) (a := 598) (i := 60) (show (0 : Int) ≤ _ ∧ _ ≤ (255 : Int) from by omega)) (a := 598) (i := 63) (show (0 : Int) ≤ _ ∧ _ ≤ (65535 : Int) from by omega)) (a := 598) (i := 64) (show (0 : Int) ≤ _ ∧ _ ≤ (65535 : Int) from by omega)) (RH.o (RH.o (RH.o (RH.o (RH.o (RH.o (RH.o hH_M (by decide) (by decide) (by decide)) (by decide) (by decide) (by decide)) (by decide) (by decide) (by decide)) (by decide) (by decide) (by decide)) (by decide) (by decide) (by decide)) (by decide) (by decide) (by decide)) (by decide) (by decide) (by decide)) (RF.o (RF.o (RF.o (RF.o (RF.o (RF.o (RF.o hS_M (by decide) (by decide)) (by decide) (by decide)) (by decide) (by decide)) (by decide) (by decide)) (by decide) (by decide)) (by decide) (by decide)) (by decide) (by decide)) (Kp.o (Kp.o (Kp.o (Kp.o (Kp.o (Kp.o (Kp.o ht_M rfl) rfl) rfl) rfl) rfl) rfl) rfl) (((ju_i _ _ (by decide)).trans ((ju_i _ _ (by decide)).trans ((ju_i _ _ (by decide)).trans (ju_same _ _ _ _)))).trans (by omega)) (fun q => by rw [((ju_i _ _ (by decide)).trans ((ju_i _ _ (by decide)).trans (ju_same _ _ _ _)))] at q; omega) (by rw [((ju_i _ _ (by decide)).trans ((ju_i _ _ (by decide)).trans (ju_same _ _ _ _)))]; omega) (fun a i f598 => ((ju_c _ _ f598).trans ((ju_c _ _ f598).trans ((ju_c _ _ f598).trans ((ju_c _ _ f598).trans ((ju_c _ _ f598).trans ((ju_c _ _ f598).trans ((ju_c _ _ f598).trans rfl)))))))) (fun i g59 g60 g61 g62 g63 g64 g65 => ((ju_i _ _ g64).trans ((ju_i _ _ g63).trans ((ju_i _ _ g60).trans ((ju_i _ _ g65).trans ((ju_i _ _ g62).trans ((ju_i _ _ g61).trans ((ju_i _ _ g59).trans rfl)))))))))
              · exact absurd (by omega) h183
            · exact absurd (by omega) h145
        · refine jr.iconst rfl ?_
          refine jr.goto rfl rfl ?_
          refine jr.putf (i := 60) (x := 1) rfl rfl (by decide) rfl (by decide) rfl rfl rfl rfl rfl ?_
          refine jr.aload_n rfl rfl ?_
          refine jr.iload rfl rfl ?_
          refine jr.bipush rfl (by decide) ?_
          refine jr.icmp_ne rfl rfl (by omega) (by omega) (fun h145 => ?_) (fun h145 => ?_)
          · exact absurd h145 (by omega)
          · refine jr.aload_n rfl rfl ?_
            refine jr.iload_n rfl rfl ?_
            refine jr.aload_n rfl rfl ?_
            refine jr.getf (i := 8) (v := .ref 604) rfl rfl (by decide) rfl (by decide) rfl rfl rfl rfl ?_
            refine jr.iload_n rfl rfl ?_
            obtain ⟨v80, e80⟩ : ∃ z, M 604 h = z := ⟨_, rfl⟩
            have b80 : 0 ≤ v80 ∧ v80 ≤ 400 := by rw [← e80]; exact (by have q := hI_M 604 h (by decide); rw [xri_row rfl rfl] at q; exact q)
            refine jr.iald (i := h) (x := v80) rfl (by decide) rfl (by decide) (by omega) (by omega) ((ju_c _ _ (by decide)).trans ((ju_c _ _ (by decide)).trans ((ju_c _ _ (by decide)).trans ((ju_c _ _ (by decide)).trans ((ju_c _ _ (by decide)).trans e80))))) ?_
            refine jr.iconst rfl ?_
            refine jr.iadd rfl ?_
            refine jr_v rfl rfl (Or.inl rfl) rfl rfl (by decide) rfl ⟨rfl, Nat.le_of_ble_eq_true rfl, Nat.le_of_ble_eq_true rfl⟩ rfl (jc.deep (r_two (RI.u (RI.u (RI.u (RI.u (RI.u hI_M (a := 598) (i := 59) (show (0 : Int) ≤ _ ∧ _ ≤ (1 : Int) from by omega)) (a := 598) (i := 61) (show (-9223372036854775808 : Int) ≤ _ ∧ _ ≤ (9223372036854775807 : Int) from by omega)) (a := 598) (i := 62) (show (-9223372036854775808 : Int) ≤ _ ∧ _ ≤ (9223372036854775807 : Int) from by omega)) (a := 598) (i := 65) (show (0 : Int) ≤ _ ∧ _ ≤ (11 : Int) from by omega)) (a := 598) (i := 60) (show (0 : Int) ≤ _ ∧ _ ≤ (255 : Int) from by omega)) (RH.o (RH.o (RH.o (RH.o (RH.o hH_M (by decide) (by decide) (by decide)) (by decide) (by decide) (by decide)) (by decide) (by decide) (by decide)) (by decide) (by decide) (by decide)) (by decide) (by decide) (by decide)) (RF.o (RF.o (RF.o (RF.o (RF.o hS_M (by decide) (by decide)) (by decide) (by decide)) (by decide) (by decide)) (by decide) (by decide)) (by decide) (by decide)) (Kp.o (Kp.o (Kp.o (Kp.o (Kp.o ht_M rfl) rfl) rfl) rfl) rfl) (by omega) (by omega)  (fun r81 z81  => ?_)) (by decide))
            refine jr.goto rfl rfl ?_
            refine jr.putf (i := 63) (x := r81) rfl rfl (by decide) rfl (by decide) rfl rfl rfl rfl rfl ?_
            refine jr.aload_n rfl rfl ?_
            refine jr.iload rfl rfl ?_
            refine jr.bipush rfl (by decide) ?_
            refine jr.icmp_ne rfl rfl (by omega) (by omega) (fun h183 => ?_) (fun h183 => ?_)
            · exact absurd h183 (by omega)
            · refine jr.aload_n rfl rfl ?_
              refine jr.getf (i := 63) (x := r81) (v := .int (Int32.ofInt (r81))) rfl rfl (by decide) rfl (by decide) rfl rfl (ju_same _ _ _ _) rfl ?_
              refine jr.goto rfl rfl ?_
              refine jr.putf (i := 64) (x := r81) rfl rfl (by decide) rfl (by decide) rfl rfl rfl rfl rfl ?_
              exact jr.vreturn rfl rfl (q _ (RI.u (RI.u (RI.u (RI.u (RI.u (RI.u (RI.u hI_M (a := 598) (i := 59) (show (0 : Int) ≤ _ ∧ _ ≤ (1 : Int) from by omega)) (a := 598) (i := 61) (show (-9223372036854775808 : Int) ≤ _ ∧ _ ≤ (9223372036854775807 : Int) from by omega)) (a := 598) (i := 62) (show (-9223372036854775808 : Int) ≤ _ ∧ _ ≤ (9223372036854775807 : Int) from by omega)) (a := 598) (i := 65) (show (0 : Int) ≤ _ ∧ _ ≤ (11 : Int) from by omega)) (a := 598) (i := 60) (show (0 : Int) ≤ _ ∧ _ ≤ (255 : Int) from by omega)) (a := 598) (i := 63) (show (0 : Int) ≤ _ ∧ _ ≤ (65535 : Int) from by omega)) (a := 598) (i := 64) (show (0 : Int) ≤ _ ∧ _ ≤ (65535 : Int) from by omega)) (RH.o (RH.o (RH.o (RH.o (RH.o (RH.o (RH.o hH_M (by decide) (by decide) (by decide)) (by decide) (by decide) (by decide)) (by decide) (by decide) (by decide)) (by decide) (by decide) (by decide)) (by decide) (by decide) (by decide)) (by decide) (by decide) (by decide)) (by decide) (by decide) (by decide)) (RF.o (RF.o (RF.o (RF.o (RF.o (RF.o (RF.o hS_M (by decide) (by decide)) (by decide) (by decide)) (by decide) (by decide)) (by decide) (by decide)) (by decide) (by decide)) (by decide) (by decide)) (by decide) (by decide)) (Kp.o (Kp.o (Kp.o (Kp.o (Kp.o (Kp.o (Kp.o ht_M rfl) rfl) rfl) rfl) rfl) rfl) rfl) (((ju_i _ _ (by decide)).trans ((ju_i _ _ (by decide)).trans ((ju_i _ _ (by decide)).trans (ju_same _ _ _ _)))).trans (by omega)) (fun q => by rw [((ju_i _ _ (by decide)).trans ((ju_i _ _ (by decide)).trans (ju_same _ _ _ _)))] at q; omega) (by rw [((ju_i _ _ (by decide)).trans ((ju_i _ _ (by decide)).trans (ju_same _ _ _ _)))]; omega) (fun a i f598 => ((ju_c _ _ f598).trans ((ju_c _ _ f598).trans ((ju_c _ _ f598).trans ((ju_c _ _ f598).trans ((ju_c _ _ f598).trans ((ju_c _ _ f598).trans ((ju_c _ _ f598).trans rfl)))))))) (fun i g59 g60 g61 g62 g63 g64 g65 => ((ju_i _ _ g64).trans ((ju_i _ _ g63).trans ((ju_i _ _ g60).trans ((ju_i _ _ g65).trans ((ju_i _ _ g62).trans ((ju_i _ _ g61).trans ((ju_i _ _ g59).trans rfl)))))))))
theorem r_hasEnds_L39 {A : Nat → Option (Nat × (Nat → Int32))} {Q : Option Value → jm → Prop} {T : jm} {M0 : jm} (q : ∀ (r : Int) (M' : jm), RI M' → RH M' → RF M' → Kp T M' → 0 ≤ r ∧ r ≤ 1 → (r = 0 ∨ RE M') → (∀ (a : Nat) (i : Int), a ≠ 598 → a ≠ 603 → a ≠ 604 → a ≠ 605 → M' a i = M0 a i) → (∀ (i : Int), i ≠ 6 → i ≠ 10 → i ≠ 11 → i ≠ 12 → i ≠ 59 → i ≠ 60 → i ≠ 61 → i ≠ 62 → i ≠ 63 → i ≠ 64 → i ≠ 65 → M' 598 i = M0 598 i) → Q (some (.int (Int32.ofInt r))) M') : ∀ (nM : Nat) (M : jm) (h : Int) (t : Int) (x : Int), RI M → RH M → RF M → Kp T M → (∀ (a : Nat) (i : Int), a ≠ 598 → a ≠ 603 → a ≠ 604 → a ≠ 605 → M a i = M0 a i) → (∀ (i : Int), i ≠ 6 → i ≠ 10 → i ≠ 11 → i ≠ 12 → i ≠ 59 → i ≠ 60 → i ≠ 61 → i ≠ 62 → i ≠ 63 → i ≠ 64 → i ≠ 65 → M 598 i = M0 598 i) → 1 ≤ h ∧ h ≤ 13 → 0 ≤ t ∧ t ≤ 11 → 0 ≤ x ∧ x ≤ 23 → t < M 598 6 → (M 603 t = 2 ∧ M 604 t ≤ 380 ∨ M 603 t = 3 ∧ M 604 t ≤ 376) → 13 - h ≤ nM → jr A 6 xm_302 39 [(3, .int (Int32.ofInt (h))), (2, .int (Int32.ofInt (t))), (1, .int (Int32.ofInt (x))), (0, .ref (598))] [] M Q := by
  intro nM
  induction nM using Nat.strongRecOn with
  | ind nM ih =>
    intro M h t x hI_M hH_M hS_M ht_M hF_M hG_M h_h h_t h_x hy0 hy1 hm
    have rc := RH.car hH_M h
    refine jr.iload_n rfl rfl ?_
    refine jr.aload_n rfl rfl ?_
    obtain ⟨v1, e1⟩ : ∃ z, M 598 6 = z := ⟨_, rfl⟩
    have b1 : 0 ≤ v1 ∧ v1 ≤ 12 := by rw [← e1]; exact hI_M 598 6 (by decide)
    refine jr.getf (i := 6) (x := v1) (v := .int (Int32.ofInt (v1))) rfl rfl (by decide) rfl (by decide) rfl rfl e1 rfl ?_
    refine jr.icmp_ge rfl rfl (by omega) (by omega) (fun h44 => ?_) (fun h44 => ?_)
    · refine jr.iload_n rfl rfl ?_
      refine jr.aload_n rfl rfl ?_
      refine jr.getf (i := 6) (x := v1) (v := .int (Int32.ofInt (v1))) rfl rfl (by decide) rfl (by decide) rfl rfl e1 rfl ?_
      refine jr.icmp_ge rfl rfl (by omega) (by omega) (fun h78 => ?_) (fun h78 => ?_)
      · refine jr.iconst rfl ?_
        exact jr.ireturn rfl rfl rfl (q _ _ hI_M hH_M hS_M ht_M (by omega) (Or.inl rfl) (fun a i f598 f603 f604 f605 => (hF_M a i f598 f603 f604 f605)) (fun i g6 g10 g11 g12 g59 g60 g61 g62 g63 g64 g65 => (hG_M i g6 g10 g11 g12 g59 g60 g61 g62 g63 g64 g65)))
      · refine jr.aload_n rfl rfl ?_
        refine jr.getf (i := 7) (v := .ref 603) rfl rfl (by decide) rfl (by decide) rfl rfl rfl rfl ?_
        refine jr.iload_n rfl rfl ?_
        obtain ⟨v2, e2⟩ : ∃ z, M 603 h = z := ⟨_, rfl⟩
        have b2 : 0 ≤ v2 ∧ v2 ≤ 11 := by rw [← e2]; exact (by have q := hI_M 603 h (by decide); rw [xri_row rfl rfl] at q; exact q)
        refine jr.iald (i := h) (x := v2) rfl (by decide) rfl (by decide) (by omega) (by omega) e2 ?_
        refine jr_s rfl rfl (Or.inl rfl) ⟨Nat.le_of_ble_eq_true rfl, Nat.le_of_ble_eq_true rfl⟩ rfl rfl (jc.deep (c_isCarried (by omega) (fun c87 => ?_) (fun c87 => ?_)) (by decide))
        · refine jr.if_ne rfl rfl (by omega) (fun _ => ?_) (fun h => absurd (by decide) h)
          refine jr.aload_n rfl rfl ?_
          refine jr.iload_n rfl rfl ?_
          refine jr.iload_n rfl rfl ?_
          refine jr.iload_n rfl rfl ?_
          obtain ⟨v4, e4⟩ : ∃ z, M 603 t = z := ⟨_, rfl⟩
          have b4 : 0 ≤ v4 ∧ v4 ≤ 11 := by rw [← e4]; exact (by have q := hI_M 603 t (by decide); rw [xri_row rfl rfl] at q; exact q)
          obtain ⟨v5, e5⟩ : ∃ z, M 604 t = z := ⟨_, rfl⟩
          have b5 : 0 ≤ v5 ∧ v5 ≤ 400 := by rw [← e5]; exact (by have q := hI_M 604 t (by decide); rw [xri_row rfl rfl] at q; exact q)
          obtain ⟨v6, e6⟩ : ∃ z, M 604 h = z := ⟨_, rfl⟩
          have b6 : 0 ≤ v6 ∧ v6 ≤ 400 := by rw [← e6]; exact (by have q := hI_M 604 h (by decide); rw [xri_row rfl rfl] at q; exact q)
          refine jr_v rfl rfl (Or.inl rfl) rfl rfl (by decide) rfl ⟨rfl, Nat.le_of_ble_eq_true rfl, Nat.le_of_ble_eq_true rfl⟩ rfl (jc.deep (r_takeEnds hI_M hH_M hS_M ht_M (by omega) (by omega) (by omega) (by rw [e4, e5]; omega) (by rw [e2]; omega) (by rw [e6]; omega) (fun M3 hI_M3 hH_M3 hS_M3 ht_M3 w3_0 w3_1 w3_2 w3_3 w3_4 => ?_)) (by decide))
          refine jr.iconst rfl ?_
          have e7 : M3 598 6 = v1 := ((w3_4 6 (by decide) (by decide) (by decide) (by decide) (by decide) (by decide) (by decide)).trans e1)
          have e8 : M3 603 h = v2 := ((w3_3 603 h (by decide)).trans e2)
          have e9 : M3 603 t = v4 := ((w3_3 603 t (by decide)).trans e4)
          exact jr.ireturn rfl rfl rfl (q _ _ hI_M3 hH_M3 hS_M3 ht_M3 (by omega) (Or.inr (RE.mk' w3_0 (by omega) (by rw [e7]; omega) (by rw [e8]; omega) (fun q => by rw [e8]; have z := w3_1 q; omega) w3_2 (t := t) (by omega) (by rw [e7]; omega) (by rw [e9]; omega))) (fun a i f598 f603 f604 f605 => ((w3_3 a i f598).trans (hF_M a i f598 f603 f604 f605))) (fun i g6 g10 g11 g12 g59 g60 g61 g62 g63 g64 g65 => ((w3_4 i g59 g60 g61 g62 g63 g64 g65).trans (hG_M i g6 g10 g11 g12 g59 g60 g61 g62 g63 g64 g65))))
        · refine jr.if_ne rfl rfl (by omega) (fun h => absurd h (by decide)) (fun _ => ?_)
          refine jr.iconst rfl ?_
          exact jr.ireturn rfl rfl rfl (q _ _ hI_M hH_M hS_M ht_M (by omega) (Or.inl rfl) (fun a i f598 f603 f604 f605 => (hF_M a i f598 f603 f604 f605)) (fun i g6 g10 g11 g12 g59 g60 g61 g62 g63 g64 g65 => (hG_M i g6 g10 g11 g12 g59 g60 g61 g62 g63 g64 g65)))
    · refine jr.aload_n rfl rfl ?_
      refine jr.getf (i := 7) (v := .ref 603) rfl rfl (by decide) rfl (by decide) rfl rfl rfl rfl ?_
      refine jr.iload_n rfl rfl ?_
      obtain ⟨v10, e10⟩ : ∃ z, M 603 h = z := ⟨_, rfl⟩
      have b10 : 0 ≤ v10 ∧ v10 ≤ 11 := by rw [← e10]; exact (by have q := hI_M 603 h (by decide); rw [xri_row rfl rfl] at q; exact q)
      refine jr.iald (i := h) (x := v10) rfl (by decide) rfl (by decide) (by omega) (by omega) e10 ?_
      refine jr.iconst rfl ?_
      refine jr.icmp_eq rfl rfl (by omega) (by omega) (fun h54 => ?_) (fun h54 => ?_)
      · refine jr.iinc (ls' := [_, _, _, _]) rfl rfl (by decide) rfl ?_
        refine jr.goto rfl rfl ?_
        refine jr.pick (ls := [_, _, _, _]) [0, 1, 2, 3] rfl rfl ?_
        exact ih (nM - 1) (by omega) M (h + 1) t x hI_M hH_M hS_M ht_M (fun a i f598 f603 f604 f605 => (hF_M a i f598 f603 f604 f605)) (fun i g6 g10 g11 g12 g59 g60 g61 g62 g63 g64 g65 => (hG_M i g6 g10 g11 g12 g59 g60 g61 g62 g63 g64 g65)) (by omega) (by omega) (by omega) (by omega) (by omega) (by omega)
      · refine jr.aload_n rfl rfl ?_
        refine jr.getf (i := 7) (v := .ref 603) rfl rfl (by decide) rfl (by decide) rfl rfl rfl rfl ?_
        refine jr.iload_n rfl rfl ?_
        refine jr.iald (i := h) (x := v10) rfl (by decide) rfl (by decide) (by omega) (by omega) e10 ?_
        refine jr.iconst rfl ?_
        refine jr.icmp_ne rfl rfl (by omega) (by omega) (fun h64 => ?_) (fun h64 => ?_)
        · refine jr.iload_n rfl rfl ?_
          refine jr.aload_n rfl rfl ?_
          refine jr.getf (i := 6) (x := v1) (v := .int (Int32.ofInt (v1))) rfl rfl (by decide) rfl (by decide) rfl rfl e1 rfl ?_
          refine jr.icmp_ge rfl rfl (by omega) (by omega) (fun h78 => ?_) (fun h78 => ?_)
          · refine jr.iconst rfl ?_
            exact jr.ireturn rfl rfl rfl (q _ _ hI_M hH_M hS_M ht_M (by omega) (Or.inl rfl) (fun a i f598 f603 f604 f605 => (hF_M a i f598 f603 f604 f605)) (fun i g6 g10 g11 g12 g59 g60 g61 g62 g63 g64 g65 => (hG_M i g6 g10 g11 g12 g59 g60 g61 g62 g63 g64 g65)))
          · refine jr.aload_n rfl rfl ?_
            refine jr.getf (i := 7) (v := .ref 603) rfl rfl (by decide) rfl (by decide) rfl rfl rfl rfl ?_
            refine jr.iload_n rfl rfl ?_
            refine jr.iald (i := h) (x := v10) rfl (by decide) rfl (by decide) (by omega) (by omega) e10 ?_
            refine jr_s rfl rfl (Or.inl rfl) ⟨Nat.le_of_ble_eq_true rfl, Nat.le_of_ble_eq_true rfl⟩ rfl rfl (jc.deep (c_isCarried (by omega) (fun c87 => ?_) (fun c87 => ?_)) (by decide))
            · refine jr.if_ne rfl rfl (by omega) (fun _ => ?_) (fun h => absurd (by decide) h)
              refine jr.aload_n rfl rfl ?_
              refine jr.iload_n rfl rfl ?_
              refine jr.iload_n rfl rfl ?_
              refine jr.iload_n rfl rfl ?_
              obtain ⟨v12, e12⟩ : ∃ z, M 603 t = z := ⟨_, rfl⟩
              have b12 : 0 ≤ v12 ∧ v12 ≤ 11 := by rw [← e12]; exact (by have q := hI_M 603 t (by decide); rw [xri_row rfl rfl] at q; exact q)
              obtain ⟨v13, e13⟩ : ∃ z, M 604 t = z := ⟨_, rfl⟩
              have b13 : 0 ≤ v13 ∧ v13 ≤ 400 := by rw [← e13]; exact (by have q := hI_M 604 t (by decide); rw [xri_row rfl rfl] at q; exact q)
              obtain ⟨v14, e14⟩ : ∃ z, M 604 h = z := ⟨_, rfl⟩
              have b14 : 0 ≤ v14 ∧ v14 ≤ 400 := by rw [← e14]; exact (by have q := hI_M 604 h (by decide); rw [xri_row rfl rfl] at q; exact q)
              refine jr_v rfl rfl (Or.inl rfl) rfl rfl (by decide) rfl ⟨rfl, Nat.le_of_ble_eq_true rfl, Nat.le_of_ble_eq_true rfl⟩ rfl (jc.deep (r_takeEnds hI_M hH_M hS_M ht_M (by omega) (by omega) (by omega) (by rw [e12, e13]; omega) (by rw [e10]; omega) (by rw [e14]; omega) (fun M11 hI_M11 hH_M11 hS_M11 ht_M11 w11_0 w11_1 w11_2 w11_3 w11_4 => ?_)) (by decide))
              refine jr.iconst rfl ?_
              have e15 : M11 598 6 = v1 := ((w11_4 6 (by decide) (by decide) (by decide) (by decide) (by decide) (by decide) (by decide)).trans e1)
              have e16 : M11 603 h = v10 := ((w11_3 603 h (by decide)).trans e10)
              have e17 : M11 603 t = v12 := ((w11_3 603 t (by decide)).trans e12)
              exact jr.ireturn rfl rfl rfl (q _ _ hI_M11 hH_M11 hS_M11 ht_M11 (by omega) (Or.inr (RE.mk' w11_0 (by omega) (by rw [e15]; omega) (by rw [e16]; omega) (fun q => by rw [e16]; have z := w11_1 q; omega) w11_2 (t := t) (by omega) (by rw [e15]; omega) (by rw [e17]; omega))) (fun a i f598 f603 f604 f605 => ((w11_3 a i f598).trans (hF_M a i f598 f603 f604 f605))) (fun i g6 g10 g11 g12 g59 g60 g61 g62 g63 g64 g65 => ((w11_4 i g59 g60 g61 g62 g63 g64 g65).trans (hG_M i g6 g10 g11 g12 g59 g60 g61 g62 g63 g64 g65))))
            · refine jr.if_ne rfl rfl (by omega) (fun h => absurd h (by decide)) (fun _ => ?_)
              refine jr.iconst rfl ?_
              exact jr.ireturn rfl rfl rfl (q _ _ hI_M hH_M hS_M ht_M (by omega) (Or.inl rfl) (fun a i f598 f603 f604 f605 => (hF_M a i f598 f603 f604 f605)) (fun i g6 g10 g11 g12 g59 g60 g61 g62 g63 g64 g65 => (hG_M i g6 g10 g11 g12 g59 g60 g61 g62 g63 g64 g65)))
        · refine jr.iinc (ls' := [_, _, _, _]) rfl rfl (by decide) rfl ?_
          refine jr.goto rfl rfl ?_
          refine jr.pick (ls := [_, _, _, _]) [0, 1, 2, 3] rfl rfl ?_
          exact ih (nM - 1) (by omega) M (h + 1) t x hI_M hH_M hS_M ht_M (fun a i f598 f603 f604 f605 => (hF_M a i f598 f603 f604 f605)) (fun i g6 g10 g11 g12 g59 g60 g61 g62 g63 g64 g65 => (hG_M i g6 g10 g11 g12 g59 g60 g61 g62 g63 g64 g65)) (by omega) (by omega) (by omega) (by omega) (by omega) (by omega)
end
