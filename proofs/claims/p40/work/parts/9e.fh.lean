section
/-! ===== the reference: the ends that a packet tells ===== -/
theorem te3 {M : jm} {f g : Int → Int} {N C t a r s j : Int} (h : HT M f N C) (ht : 0 ≤ t ∧ t < C) (hk : M 603 t = 3) (ha : M 604 t = a) (hs : s = 0 ∨ s = 1) (hj : j = 5 + s) (hg : g = f) (hr : ∀ z : Int, r = vof g z 3 a j) : r = adf f N C t s := by
  subst hj
  subst hg
  have hh := HT.f h ht
  unfold adf
  rw [kA_i ht, if_neg (by omega), vA_k ht (show hX g N t = 3 by omega) (by rw [show xcv_2 3 = 7 by decide +kernel]; omega), ← hh.2.1, ha, ← hr]
theorem te2 {M : jm} {f g : Int → Int} {N C t a r s j : Int} (h : HT M f N C) (ht : 0 ≤ t ∧ t < C) (hk : M 603 t = 2) (ha : M 604 t = a) (hs : s = 0 ∨ s = 1) (hj : j = 9 + s) (hg : g = f) (hr : ∀ z : Int, r = vof g z 2 a j) : r = adf f N C t s := by
  subst hj
  subst hg
  have hh := HT.f h ht
  unfold adf
  rw [kA_i ht, if_pos (by omega), vA_k ht (show hX g N t = 2 by omega) (by rw [show xcv_2 2 = 11 by decide +kernel]; omega), ← hh.2.1, ha, ← hr]
theorem tp7 {M : jm} {f g : Int → Int} {N C t a r s : Int} (h : HT M f N C) (ht : 0 ≤ t ∧ t < C) (hk : M 603 t = 7) (ha : M 604 t = a) (h0 : 0 ≤ a ∧ a ≤ 392) (hg : g = f) (hr : r = tw g (a + 4)) (hr0 : 0 ≤ r ∧ r ≤ 65535) : r = epf f N C t s := by
  subst hg
  have hh := HT.f h ht
  unfold epf
  have b1 := h.2.2.2 (a + 4 + 2) (by omega) (by omega)
  have b2 := h.2.2.2 (a + 4 + 2 + 1) (by omega) (by omega)
  rw [kA_i ht, if_pos (by omega), vA_k ht (show hX g N t = 7 by omega) (by decide +kernel), vof_7_3, ← hh.2.1, ha, nbs_4t, ← hr]
  unfold tw
  omega
theorem tp8 {M : jm} {f g : Int → Int} {N C t a r s y : Int} (h : HT M f N C) (ht : 0 ≤ t ∧ t < C) (hk : M 603 t = 8 ∨ M 603 t = 9) (ha : M 604 t = a) (hs : (s = 0 ∧ y = a) ∨ (s = 1 ∧ y = a + 2)) (hg : g = f) (hr : r = tw g y) (hr0 : 0 ≤ r ∧ r ≤ 65535) : r = epf f N C t s := by
  subst hg
  have hh := HT.f h ht
  unfold epf
  rw [kA_i ht, if_neg (by omega)]
  rcases hk with hk | hk
  · rcases hs with ⟨e1, e2⟩ | ⟨e1, e2⟩
    · subst e1; subst e2; rw [vA_k (j := 0) ht (show hX g N t = 8 by omega) (by decide +kernel), vof_8_0, ← hh.2.1, ha, nbs_2t, Int.add_zero, ← hr]; omega
    · subst e1; subst e2; rw [vA_k (j := 1) ht (show hX g N t = 8 by omega) (by decide +kernel), vof_8_1, ← hh.2.1, ha, nbs_2t, ← hr]; omega
  · rcases hs with ⟨e1, e2⟩ | ⟨e1, e2⟩
    · subst e1; subst e2; rw [vA_k (j := 0) ht (show hX g N t = 9 by omega) (by decide +kernel), vof_9_0, ← hh.2.1, ha, nbs_2t, Int.add_zero, ← hr]; omega
    · subst e1; subst e2; rw [vA_k (j := 1) ht (show hX g N t = 9 by omega) (by decide +kernel), vof_9_1, ← hh.2.1, ha, nbs_2t, ← hr]; omega
theorem r_takeEnds_x {A : Nat → Option (Nat × (Nat → Int32))} {Q : Option Value → jm → Prop} {f : Int → Int} {N C : Int} {M : jm} (hI_M : RI M) (hH_M : RH M) (hS_M : RF M) {x : Int} (h_x : 0 ≤ x ∧ x ≤ 23) {t : Int} (h_t : 0 ≤ t ∧ t ≤ 11) {h : Int} (h_h : 0 ≤ h ∧ h ≤ 11) (p0 : (M 603 t = 2 ∧ M 604 t ≤ 380 ∨ M 603 t = 3 ∧ M 604 t ≤ 376)) (p1 : (M 603 h = 7 ∨ M 603 h = 8 ∨ M 603 h = 9)) (p2 : M 604 h ≤ 392) (p3 : HT M f N C) (p4 : rf M x = f) (p5 : (0 ≤ t ∧ t < C) ∧ (0 ≤ h ∧ h < C)) (q : ∀ (M' : jm), RI M' → RH M' → RF M' → M' 598 65 = h → (M' 598 60 = 6 → M 603 h = 8) → (M' 598 60 = 1 ∨ M' 598 60 = 6 ∨ M' 598 60 = 17) → ((M' 598 59 = (if M 603 t = 3 then 1 else 0) ∧ M' 598 60 = nxk (M 603 h)) ∧ (M' 598 61 = adf f N C t 0 ∧ M' 598 62 = adf f N C t 1) ∧ (M' 598 63 = epf f N C h 0 ∧ M' 598 64 = epf f N C h 1)) → (∀ (a : Nat) (i : Int), a ≠ 598 → M' a i = M a i) → (∀ (i : Int), i ≠ 59 → i ≠ 60 → i ≠ 61 → i ≠ 62 → i ≠ 63 → i ≠ 64 → i ≠ 65 → M' 598 i = M 598 i) → Q none M') : jc A 6 301 [.ref (598), .int (Int32.ofInt (x)), .int (Int32.ofInt (t)), .int (Int32.ofInt (h))] M Q := by
  refine jc_of (m := xm_301) rfl (Nat.le_of_ble_eq_true rfl) rfl ?_
  refine jr.aload_n rfl rfl ?_
  refine jr.aload_n rfl rfl ?_
  refine jr.getf (i := 7) (v := .ref 603) rfl rfl (nlt rfl) rfl (nlt rfl) rfl rfl rfl rfl ?_
  refine jr.iload_n rfl rfl ?_
  obtain ⟨v1, e1⟩ : ∃ z, M 603 t = z := ⟨_, rfl⟩
  have b1 : 0 ≤ v1 ∧ v1 ≤ 11 := by rw [← e1]; exact (by have q := hI_M 603 t (Nat.le_of_ble_eq_true rfl); rw [xri_row rfl rfl] at q; exact q)
  refine jr.iald (i := t) (x := v1) rfl (nlt rfl) rfl (Nat.le_of_ble_eq_true rfl) (by omega) (by omega) e1 ?_
  refine jr.iconst rfl ?_
  refine jr.icmp_ne rfl rfl (by first | (refine rgb (by assumption) ?_; exact rfl) | omega) (rgl rfl) (fun h8 => ?_) (fun h8 => ?_)
  · refine jr.iconst rfl ?_
    refine jr.putf (i := 59) (x := 0) rfl rfl (nlt rfl) rfl (nlt rfl) rfl rfl rfl rfl rfl ?_
    refine jr.aload_n rfl rfl ?_
    refine jr.aload_n rfl rfl ?_
    refine jr.getf (i := 59) (x := 0) (v := .int (Int32.ofInt (0))) rfl rfl (nlt rfl) rfl (nlt rfl) rfl rfl (ju_same _ _ _ _) rfl ?_
    refine jr.if_eq rfl rfl (by first | (refine rgb (by assumption) ?_; exact rfl) | omega) (fun h24 => ?_) (fun h24 => ?_)
    · refine jr.aload_n rfl rfl ?_
      refine jr.iload_n rfl rfl ?_
      refine jr.aload_n rfl rfl ?_
      refine jr.getf (i := 8) (v := .ref 604) rfl rfl (nlt rfl) rfl (nlt rfl) rfl rfl rfl rfl ?_
      refine jr.iload_n rfl rfl ?_
      obtain ⟨v2, e2⟩ : ∃ z, M 604 t = z := ⟨_, rfl⟩
      have b2 : 0 ≤ v2 ∧ v2 ≤ 400 := by rw [← e2]; exact (by have q := hI_M 604 t (Nat.le_of_ble_eq_true rfl); rw [xri_row rfl rfl] at q; exact q)
      refine jr.iald (i := t) (x := v2) rfl (nlt rfl) rfl (Nat.le_of_ble_eq_true rfl) (by omega) (by omega) ((ju_c _ _ (by decide)).trans e2) ?_
      refine jr.bipush rfl (jbp _ (nlt rfl)) ?_
      refine jr_v rfl rfl (Or.inl rfl) rfl rfl (nlt rfl) rfl ⟨rfl, Nat.le_of_ble_eq_true rfl, Nat.le_of_ble_eq_true rfl⟩ rfl (jc.deep (r_ofFour_x (RI.u hI_M (a := 598) (i := 59) (show (0 : Int) ≤ _ ∧ _ ≤ (1 : Int) from by omega)) (RH.o hH_M (by decide) (by decide) (by decide)) (RF.o hS_M (by decide) (by decide))  (by omega) (by omega) (by omega)  (fun r3 z3 w3_0 => ?_)) (Nat.le_of_ble_eq_true rfl))
      refine jr.putf (i := 61) (x := r3) rfl rfl (nlt rfl) rfl (nlt rfl) rfl rfl rfl rfl rfl ?_
      refine jr.aload_n rfl rfl ?_
      refine jr.aload_n rfl rfl ?_
      refine jr.getf (i := 59) (x := 0) (v := .int (Int32.ofInt (0))) rfl rfl (nlt rfl) rfl (nlt rfl) rfl rfl ((ju_i _ _ (zne (by decide))).trans (ju_same _ _ _ _)) rfl ?_
      refine jr.if_eq rfl rfl (by first | (refine rgb (by assumption) ?_; exact rfl) | omega) (fun h63 => ?_) (fun h63 => ?_)
      · refine jr.aload_n rfl rfl ?_
        refine jr.iload_n rfl rfl ?_
        refine jr.aload_n rfl rfl ?_
        refine jr.getf (i := 8) (v := .ref 604) rfl rfl (nlt rfl) rfl (nlt rfl) rfl rfl rfl rfl ?_
        refine jr.iload_n rfl rfl ?_
        refine jr.iald (i := t) (x := v2) rfl (nlt rfl) rfl (Nat.le_of_ble_eq_true rfl) (by omega) (by omega) ((ju_c _ _ (by decide)).trans ((ju_c _ _ (by decide)).trans e2)) ?_
        refine jr.bipush rfl (jbp _ (nlt rfl)) ?_
        refine jr_v rfl rfl (Or.inl rfl) rfl rfl (nlt rfl) rfl ⟨rfl, Nat.le_of_ble_eq_true rfl, Nat.le_of_ble_eq_true rfl⟩ rfl (jc.deep (r_ofFour_x (RI.u (RI.u hI_M (a := 598) (i := 59) (show (0 : Int) ≤ _ ∧ _ ≤ (1 : Int) from by omega)) (a := 598) (i := 61) (show (-9223372036854775808 : Int) ≤ _ ∧ _ ≤ (9223372036854775807 : Int) from by omega)) (RH.o (RH.o hH_M (by decide) (by decide) (by decide)) (by decide) (by decide) (by decide)) (RF.o (RF.o hS_M (by decide) (by decide)) (by decide) (by decide))  (by omega) (by omega) (by omega)  (fun r4 z4 w4_0 => ?_)) (Nat.le_of_ble_eq_true rfl))
        refine jr.putf (i := 62) (x := r4) rfl rfl (nlt rfl) rfl (nlt rfl) rfl rfl rfl rfl rfl ?_
        refine jr.aload_n rfl rfl ?_
        refine jr.getf (i := 7) (v := .ref 603) rfl rfl (nlt rfl) rfl (nlt rfl) rfl rfl rfl rfl ?_
        refine jr.iload_n rfl rfl ?_
        obtain ⟨v5, e5⟩ : ∃ z, M 603 h = z := ⟨_, rfl⟩
        have b5 : 0 ≤ v5 ∧ v5 ≤ 11 := by rw [← e5]; exact (by have q := hI_M 603 h (Nat.le_of_ble_eq_true rfl); rw [xri_row rfl rfl] at q; exact q)
        refine jr.iald (i := h) (x := v5) rfl (nlt rfl) rfl (Nat.le_of_ble_eq_true rfl) (by omega) (by omega) ((ju_c _ _ (by decide)).trans ((ju_c _ _ (by decide)).trans ((ju_c _ _ (by decide)).trans e5))) ?_
        refine jr.istore (ls' := [_, _, _, _, _]) rfl (nlt rfl) rfl ?_
        refine jr.aload_n rfl rfl ?_
        refine jr.iload_n rfl rfl ?_
        refine jr.putf (i := 65) (x := h) rfl rfl (nlt rfl) rfl (nlt rfl) rfl rfl rfl rfl rfl ?_
        refine jr.aload_n rfl rfl ?_
        refine jr.iload rfl rfl ?_
        refine jr.bipush rfl (jbp _ (nlt rfl)) ?_
        refine jr.icmp_ne rfl rfl (by first | (refine rgb (by assumption) ?_; exact rfl) | omega) (rgl rfl) (fun h116 => ?_) (fun h116 => ?_)
        · refine jr.iload rfl rfl ?_
          refine jr.bipush rfl (jbp _ (nlt rfl)) ?_
          refine jr.icmp_ne rfl rfl (by first | (refine rgb (by assumption) ?_; exact rfl) | omega) (rgl rfl) (fun h127 => ?_) (fun h127 => ?_)
          · refine jr.bipush rfl (jbp _ (nlt rfl)) ?_
            refine jr.putf (i := 60) (x := 17) rfl rfl (nlt rfl) rfl (nlt rfl) rfl rfl rfl rfl rfl ?_
            refine jr.aload_n rfl rfl ?_
            refine jr.iload rfl rfl ?_
            refine jr.bipush rfl (jbp _ (nlt rfl)) ?_
            refine jr.icmp_ne rfl rfl (by first | (refine rgb (by assumption) ?_; exact rfl) | omega) (rgl rfl) (fun h145 => ?_) (fun h145 => ?_)
            · refine jr.aload_n rfl rfl ?_
              refine jr.iload_n rfl rfl ?_
              refine jr.aload_n rfl rfl ?_
              refine jr.getf (i := 8) (v := .ref 604) rfl rfl (nlt rfl) rfl (nlt rfl) rfl rfl rfl rfl ?_
              refine jr.iload_n rfl rfl ?_
              obtain ⟨v6, e6⟩ : ∃ z, M 604 h = z := ⟨_, rfl⟩
              have b6 : 0 ≤ v6 ∧ v6 ≤ 400 := by rw [← e6]; exact (by have q := hI_M 604 h (Nat.le_of_ble_eq_true rfl); rw [xri_row rfl rfl] at q; exact q)
              refine jr.iald (i := h) (x := v6) rfl (nlt rfl) rfl (Nat.le_of_ble_eq_true rfl) (by omega) (by omega) ((ju_c _ _ (by decide)).trans ((ju_c _ _ (by decide)).trans ((ju_c _ _ (by decide)).trans ((ju_c _ _ (by decide)).trans ((ju_c _ _ (by decide)).trans e6))))) ?_
              refine jr_v rfl rfl (Or.inl rfl) rfl rfl (nlt rfl) rfl ⟨rfl, Nat.le_of_ble_eq_true rfl, Nat.le_of_ble_eq_true rfl⟩ rfl (jc.deep (r_two_x (RI.u (RI.u (RI.u (RI.u (RI.u hI_M (a := 598) (i := 59) (show (0 : Int) ≤ _ ∧ _ ≤ (1 : Int) from by omega)) (a := 598) (i := 61) (show (-9223372036854775808 : Int) ≤ _ ∧ _ ≤ (9223372036854775807 : Int) from by omega)) (a := 598) (i := 62) (show (-9223372036854775808 : Int) ≤ _ ∧ _ ≤ (9223372036854775807 : Int) from by omega)) (a := 598) (i := 65) (show (0 : Int) ≤ _ ∧ _ ≤ (11 : Int) from by omega)) (a := 598) (i := 60) (show (0 : Int) ≤ _ ∧ _ ≤ (255 : Int) from by omega)) (RH.o (RH.o (RH.o (RH.o (RH.o hH_M (by decide) (by decide) (by decide)) (by decide) (by decide) (by decide)) (by decide) (by decide) (by decide)) (by decide) (by decide) (by decide)) (by decide) (by decide) (by decide)) (RF.o (RF.o (RF.o (RF.o (RF.o hS_M (by decide) (by decide)) (by decide) (by decide)) (by decide) (by decide)) (by decide) (by decide)) (by decide) (by decide))  (by omega) (by omega)  (fun r7 z7 w7_0 => ?_)) (Nat.le_of_ble_eq_true rfl))
              refine jr.putf (i := 63) (x := r7) rfl rfl (nlt rfl) rfl (nlt rfl) rfl rfl rfl rfl rfl ?_
              refine jr.aload_n rfl rfl ?_
              refine jr.iload rfl rfl ?_
              refine jr.bipush rfl (jbp _ (nlt rfl)) ?_
              refine jr.icmp_ne rfl rfl (by first | (refine rgb (by assumption) ?_; exact rfl) | omega) (rgl rfl) (fun h183 => ?_) (fun h183 => ?_)
              · refine jr.aload_n rfl rfl ?_
                refine jr.iload_n rfl rfl ?_
                refine jr.aload_n rfl rfl ?_
                refine jr.getf (i := 8) (v := .ref 604) rfl rfl (nlt rfl) rfl (nlt rfl) rfl rfl rfl rfl ?_
                refine jr.iload_n rfl rfl ?_
                refine jr.iald (i := h) (x := v6) rfl (nlt rfl) rfl (Nat.le_of_ble_eq_true rfl) (by omega) (by omega) ((ju_c _ _ (by decide)).trans ((ju_c _ _ (by decide)).trans ((ju_c _ _ (by decide)).trans ((ju_c _ _ (by decide)).trans ((ju_c _ _ (by decide)).trans ((ju_c _ _ (by decide)).trans e6)))))) ?_
                refine jr.iconst rfl ?_
                refine jr.iadd rfl ?_
                refine jr_v rfl rfl (Or.inl rfl) rfl rfl (nlt rfl) rfl ⟨rfl, Nat.le_of_ble_eq_true rfl, Nat.le_of_ble_eq_true rfl⟩ rfl (jc.deep (r_two_x (RI.u (RI.u (RI.u (RI.u (RI.u (RI.u hI_M (a := 598) (i := 59) (show (0 : Int) ≤ _ ∧ _ ≤ (1 : Int) from by omega)) (a := 598) (i := 61) (show (-9223372036854775808 : Int) ≤ _ ∧ _ ≤ (9223372036854775807 : Int) from by omega)) (a := 598) (i := 62) (show (-9223372036854775808 : Int) ≤ _ ∧ _ ≤ (9223372036854775807 : Int) from by omega)) (a := 598) (i := 65) (show (0 : Int) ≤ _ ∧ _ ≤ (11 : Int) from by omega)) (a := 598) (i := 60) (show (0 : Int) ≤ _ ∧ _ ≤ (255 : Int) from by omega)) (a := 598) (i := 63) (show (0 : Int) ≤ _ ∧ _ ≤ (65535 : Int) from by omega)) (RH.o (RH.o (RH.o (RH.o (RH.o (RH.o hH_M (by decide) (by decide) (by decide)) (by decide) (by decide) (by decide)) (by decide) (by decide) (by decide)) (by decide) (by decide) (by decide)) (by decide) (by decide) (by decide)) (by decide) (by decide) (by decide)) (RF.o (RF.o (RF.o (RF.o (RF.o (RF.o hS_M (by decide) (by decide)) (by decide) (by decide)) (by decide) (by decide)) (by decide) (by decide)) (by decide) (by decide)) (by decide) (by decide))  (by omega) (by omega)  (fun r8 z8 w8_0 => ?_)) (Nat.le_of_ble_eq_true rfl))
                refine jr.putf (i := 64) (x := r8) rfl rfl (nlt rfl) rfl (nlt rfl) rfl rfl rfl rfl rfl ?_
                exact jr.vreturn rfl rfl (q _ (RI.u (RI.u (RI.u (RI.u (RI.u (RI.u (RI.u hI_M (a := 598) (i := 59) (show (0 : Int) ≤ _ ∧ _ ≤ (1 : Int) from by omega)) (a := 598) (i := 61) (show (-9223372036854775808 : Int) ≤ _ ∧ _ ≤ (9223372036854775807 : Int) from by omega)) (a := 598) (i := 62) (show (-9223372036854775808 : Int) ≤ _ ∧ _ ≤ (9223372036854775807 : Int) from by omega)) (a := 598) (i := 65) (show (0 : Int) ≤ _ ∧ _ ≤ (11 : Int) from by omega)) (a := 598) (i := 60) (show (0 : Int) ≤ _ ∧ _ ≤ (255 : Int) from by omega)) (a := 598) (i := 63) (show (0 : Int) ≤ _ ∧ _ ≤ (65535 : Int) from by omega)) (a := 598) (i := 64) (show (0 : Int) ≤ _ ∧ _ ≤ (65535 : Int) from by omega)) (RH.o (RH.o (RH.o (RH.o (RH.o (RH.o (RH.o hH_M (by decide) (by decide) (by decide)) (by decide) (by decide) (by decide)) (by decide) (by decide) (by decide)) (by decide) (by decide) (by decide)) (by decide) (by decide) (by decide)) (by decide) (by decide) (by decide)) (by decide) (by decide) (by decide)) (RF.o (RF.o (RF.o (RF.o (RF.o (RF.o (RF.o hS_M (by decide) (by decide)) (by decide) (by decide)) (by decide) (by decide)) (by decide) (by decide)) (by decide) (by decide)) (by decide) (by decide)) (by decide) (by decide))  (((ju_i _ _ (zne (by decide))).trans ((ju_i _ _ (zne (by decide))).trans ((ju_i _ _ (zne (by decide))).trans (ju_same _ _ _ _)))).trans (by omega)) (fun q => by rw [((ju_i _ _ (zne (by decide))).trans ((ju_i _ _ (zne (by decide))).trans (ju_same _ _ _ _)))] at q; omega) (by rw [((ju_i _ _ (zne (by decide))).trans ((ju_i _ _ (zne (by decide))).trans (ju_same _ _ _ _)))]; omega) (by first | (exfalso; omega) | exact ⟨⟨(by rw [show (ju (ju (ju (ju (ju (ju (ju M 598 59 0) 598 61 r3) 598 62 r4) 598 65 h) 598 60 17) 598 63 r7) 598 64 r8) 598 59 = 0 from ((ju_i _ _ (zne (by decide))).trans ((ju_i _ _ (zne (by decide))).trans ((ju_i _ _ (zne (by decide))).trans ((ju_i _ _ (zne (by decide))).trans ((ju_i _ _ (zne (by decide))).trans ((ju_i _ _ (zne (by decide))).trans (ju_same _ _ _ _))))))), e1]; first | (rw [if_pos (by omega)]) | (rw [if_neg (by omega)])), (by rw [show (ju (ju (ju (ju (ju (ju (ju M 598 59 0) 598 61 r3) 598 62 r4) 598 65 h) 598 60 17) 598 63 r7) 598 64 r8) 598 60 = 17 from ((ju_i _ _ (zne (by decide))).trans ((ju_i _ _ (zne (by decide))).trans (ju_same _ _ _ _))), e5]; unfold nxk; (repeat' split) <;> omega)⟩, ⟨(by rw [show (ju (ju (ju (ju (ju (ju (ju M 598 59 0) 598 61 r3) 598 62 r4) 598 65 h) 598 60 17) 598 63 r7) 598 64 r8) 598 61 = r3 from ((ju_i _ _ (zne (by decide))).trans ((ju_i _ _ (zne (by decide))).trans ((ju_i _ _ (zne (by decide))).trans ((ju_i _ _ (zne (by decide))).trans ((ju_i _ _ (zne (by decide))).trans (ju_same _ _ _ _))))))]; exact te2 p3 p5.1 (by omega) e2 (by omega) rfl ((rf_e (fun i => by rw [ju_c _ _ (by decide)])).trans p4) w3_0), (by rw [show (ju (ju (ju (ju (ju (ju (ju M 598 59 0) 598 61 r3) 598 62 r4) 598 65 h) 598 60 17) 598 63 r7) 598 64 r8) 598 62 = r4 from ((ju_i _ _ (zne (by decide))).trans ((ju_i _ _ (zne (by decide))).trans ((ju_i _ _ (zne (by decide))).trans ((ju_i _ _ (zne (by decide))).trans (ju_same _ _ _ _)))))]; exact te2 p3 p5.1 (by omega) e2 (by omega) rfl ((rf_e (fun i => by rw [ju_c _ _ (by decide), ju_c _ _ (by decide)])).trans p4) w4_0)⟩, ⟨(by rw [show (ju (ju (ju (ju (ju (ju (ju M 598 59 0) 598 61 r3) 598 62 r4) 598 65 h) 598 60 17) 598 63 r7) 598 64 r8) 598 63 = r7 from ((ju_i _ _ (zne (by decide))).trans (ju_same _ _ _ _))]; first | exact tp7 p3 p5.2 (by omega) e6 (by omega) ((rf_e (fun i => by rw [ju_c _ _ (by decide), ju_c _ _ (by decide), ju_c _ _ (by decide), ju_c _ _ (by decide), ju_c _ _ (by decide)])).trans p4) w7_0 (by omega) | exact tp8 (s := 0) p3 p5.2 (by omega) e6 (by first | exact Or.inl ⟨rfl, rfl⟩ | exact Or.inr ⟨rfl, rfl⟩) ((rf_e (fun i => by rw [ju_c _ _ (by decide), ju_c _ _ (by decide), ju_c _ _ (by decide), ju_c _ _ (by decide), ju_c _ _ (by decide)])).trans p4) w7_0 (by omega)), (by rw [show (ju (ju (ju (ju (ju (ju (ju M 598 59 0) 598 61 r3) 598 62 r4) 598 65 h) 598 60 17) 598 63 r7) 598 64 r8) 598 64 = r8 from (ju_same _ _ _ _)]; first | exact tp7 p3 p5.2 (by omega) e6 (by omega) ((rf_e (fun i => by rw [ju_c _ _ (by decide), ju_c _ _ (by decide), ju_c _ _ (by decide), ju_c _ _ (by decide), ju_c _ _ (by decide), ju_c _ _ (by decide)])).trans p4) w8_0 (by omega) | exact tp8 (s := 1) p3 p5.2 (by omega) e6 (by first | exact Or.inl ⟨rfl, rfl⟩ | exact Or.inr ⟨rfl, rfl⟩) ((rf_e (fun i => by rw [ju_c _ _ (by decide), ju_c _ _ (by decide), ju_c _ _ (by decide), ju_c _ _ (by decide), ju_c _ _ (by decide), ju_c _ _ (by decide)])).trans p4) w8_0 (by omega))⟩⟩) (fun a i f598 => ((ju_c _ _ f598).trans ((ju_c _ _ f598).trans ((ju_c _ _ f598).trans ((ju_c _ _ f598).trans ((ju_c _ _ f598).trans ((ju_c _ _ f598).trans ((ju_c _ _ f598).trans rfl)))))))) (fun i g59 g60 g61 g62 g63 g64 g65 => ((ju_i _ _ g64).trans ((ju_i _ _ g63).trans ((ju_i _ _ g60).trans ((ju_i _ _ g65).trans ((ju_i _ _ g62).trans ((ju_i _ _ g61).trans ((ju_i _ _ g59).trans rfl)))))))))
              · exact absurd h145 h183
            · exact absurd h116 h145
          · refine jr.bipush rfl (jbp _ (nlt rfl)) ?_
            refine jr.goto rfl rfl ?_
            refine jr.putf (i := 60) (x := 6) rfl rfl (nlt rfl) rfl (nlt rfl) rfl rfl rfl rfl rfl ?_
            refine jr.aload_n rfl rfl ?_
            refine jr.iload rfl rfl ?_
            refine jr.bipush rfl (jbp _ (nlt rfl)) ?_
            refine jr.icmp_ne rfl rfl (by first | (refine rgb (by assumption) ?_; exact rfl) | omega) (rgl rfl) (fun h145 => ?_) (fun h145 => ?_)
            · refine jr.aload_n rfl rfl ?_
              refine jr.iload_n rfl rfl ?_
              refine jr.aload_n rfl rfl ?_
              refine jr.getf (i := 8) (v := .ref 604) rfl rfl (nlt rfl) rfl (nlt rfl) rfl rfl rfl rfl ?_
              refine jr.iload_n rfl rfl ?_
              obtain ⟨v11, e11⟩ : ∃ z, M 604 h = z := ⟨_, rfl⟩
              have b11 : 0 ≤ v11 ∧ v11 ≤ 400 := by rw [← e11]; exact (by have q := hI_M 604 h (Nat.le_of_ble_eq_true rfl); rw [xri_row rfl rfl] at q; exact q)
              refine jr.iald (i := h) (x := v11) rfl (nlt rfl) rfl (Nat.le_of_ble_eq_true rfl) (by omega) (by omega) ((ju_c _ _ (by decide)).trans ((ju_c _ _ (by decide)).trans ((ju_c _ _ (by decide)).trans ((ju_c _ _ (by decide)).trans ((ju_c _ _ (by decide)).trans e11))))) ?_
              refine jr_v rfl rfl (Or.inl rfl) rfl rfl (nlt rfl) rfl ⟨rfl, Nat.le_of_ble_eq_true rfl, Nat.le_of_ble_eq_true rfl⟩ rfl (jc.deep (r_two_x (RI.u (RI.u (RI.u (RI.u (RI.u hI_M (a := 598) (i := 59) (show (0 : Int) ≤ _ ∧ _ ≤ (1 : Int) from by omega)) (a := 598) (i := 61) (show (-9223372036854775808 : Int) ≤ _ ∧ _ ≤ (9223372036854775807 : Int) from by omega)) (a := 598) (i := 62) (show (-9223372036854775808 : Int) ≤ _ ∧ _ ≤ (9223372036854775807 : Int) from by omega)) (a := 598) (i := 65) (show (0 : Int) ≤ _ ∧ _ ≤ (11 : Int) from by omega)) (a := 598) (i := 60) (show (0 : Int) ≤ _ ∧ _ ≤ (255 : Int) from by omega)) (RH.o (RH.o (RH.o (RH.o (RH.o hH_M (by decide) (by decide) (by decide)) (by decide) (by decide) (by decide)) (by decide) (by decide) (by decide)) (by decide) (by decide) (by decide)) (by decide) (by decide) (by decide)) (RF.o (RF.o (RF.o (RF.o (RF.o hS_M (by decide) (by decide)) (by decide) (by decide)) (by decide) (by decide)) (by decide) (by decide)) (by decide) (by decide))  (by omega) (by omega)  (fun r12 z12 w12_0 => ?_)) (Nat.le_of_ble_eq_true rfl))
              refine jr.putf (i := 63) (x := r12) rfl rfl (nlt rfl) rfl (nlt rfl) rfl rfl rfl rfl rfl ?_
              refine jr.aload_n rfl rfl ?_
              refine jr.iload rfl rfl ?_
              refine jr.bipush rfl (jbp _ (nlt rfl)) ?_
              refine jr.icmp_ne rfl rfl (by first | (refine rgb (by assumption) ?_; exact rfl) | omega) (rgl rfl) (fun h183 => ?_) (fun h183 => ?_)
              · refine jr.aload_n rfl rfl ?_
                refine jr.iload_n rfl rfl ?_
                refine jr.aload_n rfl rfl ?_
                refine jr.getf (i := 8) (v := .ref 604) rfl rfl (nlt rfl) rfl (nlt rfl) rfl rfl rfl rfl ?_
                refine jr.iload_n rfl rfl ?_
                refine jr.iald (i := h) (x := v11) rfl (nlt rfl) rfl (Nat.le_of_ble_eq_true rfl) (by omega) (by omega) ((ju_c _ _ (by decide)).trans ((ju_c _ _ (by decide)).trans ((ju_c _ _ (by decide)).trans ((ju_c _ _ (by decide)).trans ((ju_c _ _ (by decide)).trans ((ju_c _ _ (by decide)).trans e11)))))) ?_
                refine jr.iconst rfl ?_
                refine jr.iadd rfl ?_
                refine jr_v rfl rfl (Or.inl rfl) rfl rfl (nlt rfl) rfl ⟨rfl, Nat.le_of_ble_eq_true rfl, Nat.le_of_ble_eq_true rfl⟩ rfl (jc.deep (r_two_x (RI.u (RI.u (RI.u (RI.u (RI.u (RI.u hI_M (a := 598) (i := 59) (show (0 : Int) ≤ _ ∧ _ ≤ (1 : Int) from by omega)) (a := 598) (i := 61) (show (-9223372036854775808 : Int) ≤ _ ∧ _ ≤ (9223372036854775807 : Int) from by omega)) (a := 598) (i := 62) (show (-9223372036854775808 : Int) ≤ _ ∧ _ ≤ (9223372036854775807 : Int) from by omega)) (a := 598) (i := 65) (show (0 : Int) ≤ _ ∧ _ ≤ (11 : Int) from by omega)) (a := 598) (i := 60) (show (0 : Int) ≤ _ ∧ _ ≤ (255 : Int) from by omega)) (a := 598) (i := 63) (show (0 : Int) ≤ _ ∧ _ ≤ (65535 : Int) from by omega)) (RH.o (RH.o (RH.o (RH.o (RH.o (RH.o hH_M (by decide) (by decide) (by decide)) (by decide) (by decide) (by decide)) (by decide) (by decide) (by decide)) (by decide) (by decide) (by decide)) (by decide) (by decide) (by decide)) (by decide) (by decide) (by decide)) (RF.o (RF.o (RF.o (RF.o (RF.o (RF.o hS_M (by decide) (by decide)) (by decide) (by decide)) (by decide) (by decide)) (by decide) (by decide)) (by decide) (by decide)) (by decide) (by decide))  (by omega) (by omega)  (fun r13 z13 w13_0 => ?_)) (Nat.le_of_ble_eq_true rfl))
                refine jr.putf (i := 64) (x := r13) rfl rfl (nlt rfl) rfl (nlt rfl) rfl rfl rfl rfl rfl ?_
                exact jr.vreturn rfl rfl (q _ (RI.u (RI.u (RI.u (RI.u (RI.u (RI.u (RI.u hI_M (a := 598) (i := 59) (show (0 : Int) ≤ _ ∧ _ ≤ (1 : Int) from by omega)) (a := 598) (i := 61) (show (-9223372036854775808 : Int) ≤ _ ∧ _ ≤ (9223372036854775807 : Int) from by omega)) (a := 598) (i := 62) (show (-9223372036854775808 : Int) ≤ _ ∧ _ ≤ (9223372036854775807 : Int) from by omega)) (a := 598) (i := 65) (show (0 : Int) ≤ _ ∧ _ ≤ (11 : Int) from by omega)) (a := 598) (i := 60) (show (0 : Int) ≤ _ ∧ _ ≤ (255 : Int) from by omega)) (a := 598) (i := 63) (show (0 : Int) ≤ _ ∧ _ ≤ (65535 : Int) from by omega)) (a := 598) (i := 64) (show (0 : Int) ≤ _ ∧ _ ≤ (65535 : Int) from by omega)) (RH.o (RH.o (RH.o (RH.o (RH.o (RH.o (RH.o hH_M (by decide) (by decide) (by decide)) (by decide) (by decide) (by decide)) (by decide) (by decide) (by decide)) (by decide) (by decide) (by decide)) (by decide) (by decide) (by decide)) (by decide) (by decide) (by decide)) (by decide) (by decide) (by decide)) (RF.o (RF.o (RF.o (RF.o (RF.o (RF.o (RF.o hS_M (by decide) (by decide)) (by decide) (by decide)) (by decide) (by decide)) (by decide) (by decide)) (by decide) (by decide)) (by decide) (by decide)) (by decide) (by decide))  (((ju_i _ _ (zne (by decide))).trans ((ju_i _ _ (zne (by decide))).trans ((ju_i _ _ (zne (by decide))).trans (ju_same _ _ _ _)))).trans (by omega)) (fun q => by rw [((ju_i _ _ (zne (by decide))).trans ((ju_i _ _ (zne (by decide))).trans (ju_same _ _ _ _)))] at q; omega) (by rw [((ju_i _ _ (zne (by decide))).trans ((ju_i _ _ (zne (by decide))).trans (ju_same _ _ _ _)))]; omega) (by first | (exfalso; omega) | exact ⟨⟨(by rw [show (ju (ju (ju (ju (ju (ju (ju M 598 59 0) 598 61 r3) 598 62 r4) 598 65 h) 598 60 6) 598 63 r12) 598 64 r13) 598 59 = 0 from ((ju_i _ _ (zne (by decide))).trans ((ju_i _ _ (zne (by decide))).trans ((ju_i _ _ (zne (by decide))).trans ((ju_i _ _ (zne (by decide))).trans ((ju_i _ _ (zne (by decide))).trans ((ju_i _ _ (zne (by decide))).trans (ju_same _ _ _ _))))))), e1]; first | (rw [if_pos (by omega)]) | (rw [if_neg (by omega)])), (by rw [show (ju (ju (ju (ju (ju (ju (ju M 598 59 0) 598 61 r3) 598 62 r4) 598 65 h) 598 60 6) 598 63 r12) 598 64 r13) 598 60 = 6 from ((ju_i _ _ (zne (by decide))).trans ((ju_i _ _ (zne (by decide))).trans (ju_same _ _ _ _))), e5]; unfold nxk; (repeat' split) <;> omega)⟩, ⟨(by rw [show (ju (ju (ju (ju (ju (ju (ju M 598 59 0) 598 61 r3) 598 62 r4) 598 65 h) 598 60 6) 598 63 r12) 598 64 r13) 598 61 = r3 from ((ju_i _ _ (zne (by decide))).trans ((ju_i _ _ (zne (by decide))).trans ((ju_i _ _ (zne (by decide))).trans ((ju_i _ _ (zne (by decide))).trans ((ju_i _ _ (zne (by decide))).trans (ju_same _ _ _ _))))))]; exact te2 p3 p5.1 (by omega) e2 (by omega) rfl ((rf_e (fun i => by rw [ju_c _ _ (by decide)])).trans p4) w3_0), (by rw [show (ju (ju (ju (ju (ju (ju (ju M 598 59 0) 598 61 r3) 598 62 r4) 598 65 h) 598 60 6) 598 63 r12) 598 64 r13) 598 62 = r4 from ((ju_i _ _ (zne (by decide))).trans ((ju_i _ _ (zne (by decide))).trans ((ju_i _ _ (zne (by decide))).trans ((ju_i _ _ (zne (by decide))).trans (ju_same _ _ _ _)))))]; exact te2 p3 p5.1 (by omega) e2 (by omega) rfl ((rf_e (fun i => by rw [ju_c _ _ (by decide), ju_c _ _ (by decide)])).trans p4) w4_0)⟩, ⟨(by rw [show (ju (ju (ju (ju (ju (ju (ju M 598 59 0) 598 61 r3) 598 62 r4) 598 65 h) 598 60 6) 598 63 r12) 598 64 r13) 598 63 = r12 from ((ju_i _ _ (zne (by decide))).trans (ju_same _ _ _ _))]; first | exact tp7 p3 p5.2 (by omega) e11 (by omega) ((rf_e (fun i => by rw [ju_c _ _ (by decide), ju_c _ _ (by decide), ju_c _ _ (by decide), ju_c _ _ (by decide), ju_c _ _ (by decide)])).trans p4) w12_0 (by omega) | exact tp8 (s := 0) p3 p5.2 (by omega) e11 (by first | exact Or.inl ⟨rfl, rfl⟩ | exact Or.inr ⟨rfl, rfl⟩) ((rf_e (fun i => by rw [ju_c _ _ (by decide), ju_c _ _ (by decide), ju_c _ _ (by decide), ju_c _ _ (by decide), ju_c _ _ (by decide)])).trans p4) w12_0 (by omega)), (by rw [show (ju (ju (ju (ju (ju (ju (ju M 598 59 0) 598 61 r3) 598 62 r4) 598 65 h) 598 60 6) 598 63 r12) 598 64 r13) 598 64 = r13 from (ju_same _ _ _ _)]; first | exact tp7 p3 p5.2 (by omega) e11 (by omega) ((rf_e (fun i => by rw [ju_c _ _ (by decide), ju_c _ _ (by decide), ju_c _ _ (by decide), ju_c _ _ (by decide), ju_c _ _ (by decide), ju_c _ _ (by decide)])).trans p4) w13_0 (by omega) | exact tp8 (s := 1) p3 p5.2 (by omega) e11 (by first | exact Or.inl ⟨rfl, rfl⟩ | exact Or.inr ⟨rfl, rfl⟩) ((rf_e (fun i => by rw [ju_c _ _ (by decide), ju_c _ _ (by decide), ju_c _ _ (by decide), ju_c _ _ (by decide), ju_c _ _ (by decide), ju_c _ _ (by decide)])).trans p4) w13_0 (by omega))⟩⟩) (fun a i f598 => ((ju_c _ _ f598).trans ((ju_c _ _ f598).trans ((ju_c _ _ f598).trans ((ju_c _ _ f598).trans ((ju_c _ _ f598).trans ((ju_c _ _ f598).trans ((ju_c _ _ f598).trans rfl)))))))) (fun i g59 g60 g61 g62 g63 g64 g65 => ((ju_i _ _ g64).trans ((ju_i _ _ g63).trans ((ju_i _ _ g60).trans ((ju_i _ _ g65).trans ((ju_i _ _ g62).trans ((ju_i _ _ g61).trans ((ju_i _ _ g59).trans rfl)))))))))
              · exact absurd (by omega) h183
            · exact absurd (by omega) h145
        · refine jr.iconst rfl ?_
          refine jr.goto rfl rfl ?_
          refine jr.putf (i := 60) (x := 1) rfl rfl (nlt rfl) rfl (nlt rfl) rfl rfl rfl rfl rfl ?_
          refine jr.aload_n rfl rfl ?_
          refine jr.iload rfl rfl ?_
          refine jr.bipush rfl (jbp _ (nlt rfl)) ?_
          refine jr.icmp_ne rfl rfl (by first | (refine rgb (by assumption) ?_; exact rfl) | omega) (rgl rfl) (fun h145 => ?_) (fun h145 => ?_)
          · exact absurd h145 (by omega)
          · refine jr.aload_n rfl rfl ?_
            refine jr.iload_n rfl rfl ?_
            refine jr.aload_n rfl rfl ?_
            refine jr.getf (i := 8) (v := .ref 604) rfl rfl (nlt rfl) rfl (nlt rfl) rfl rfl rfl rfl ?_
            refine jr.iload_n rfl rfl ?_
            obtain ⟨v14, e14⟩ : ∃ z, M 604 h = z := ⟨_, rfl⟩
            have b14 : 0 ≤ v14 ∧ v14 ≤ 400 := by rw [← e14]; exact (by have q := hI_M 604 h (Nat.le_of_ble_eq_true rfl); rw [xri_row rfl rfl] at q; exact q)
            refine jr.iald (i := h) (x := v14) rfl (nlt rfl) rfl (Nat.le_of_ble_eq_true rfl) (by omega) (by omega) ((ju_c _ _ (by decide)).trans ((ju_c _ _ (by decide)).trans ((ju_c _ _ (by decide)).trans ((ju_c _ _ (by decide)).trans ((ju_c _ _ (by decide)).trans e14))))) ?_
            refine jr.iconst rfl ?_
            refine jr.iadd rfl ?_
            refine jr_v rfl rfl (Or.inl rfl) rfl rfl (nlt rfl) rfl ⟨rfl, Nat.le_of_ble_eq_true rfl, Nat.le_of_ble_eq_true rfl⟩ rfl (jc.deep (r_two_x (RI.u (RI.u (RI.u (RI.u (RI.u hI_M (a := 598) (i := 59) (show (0 : Int) ≤ _ ∧ _ ≤ (1 : Int) from by omega)) (a := 598) (i := 61) (show (-9223372036854775808 : Int) ≤ _ ∧ _ ≤ (9223372036854775807 : Int) from by omega)) (a := 598) (i := 62) (show (-9223372036854775808 : Int) ≤ _ ∧ _ ≤ (9223372036854775807 : Int) from by omega)) (a := 598) (i := 65) (show (0 : Int) ≤ _ ∧ _ ≤ (11 : Int) from by omega)) (a := 598) (i := 60) (show (0 : Int) ≤ _ ∧ _ ≤ (255 : Int) from by omega)) (RH.o (RH.o (RH.o (RH.o (RH.o hH_M (by decide) (by decide) (by decide)) (by decide) (by decide) (by decide)) (by decide) (by decide) (by decide)) (by decide) (by decide) (by decide)) (by decide) (by decide) (by decide)) (RF.o (RF.o (RF.o (RF.o (RF.o hS_M (by decide) (by decide)) (by decide) (by decide)) (by decide) (by decide)) (by decide) (by decide)) (by decide) (by decide))  (by omega) (by omega)  (fun r15 z15 w15_0 => ?_)) (Nat.le_of_ble_eq_true rfl))
            refine jr.goto rfl rfl ?_
            refine jr.putf (i := 63) (x := r15) rfl rfl (nlt rfl) rfl (nlt rfl) rfl rfl rfl rfl rfl ?_
            refine jr.aload_n rfl rfl ?_
            refine jr.iload rfl rfl ?_
            refine jr.bipush rfl (jbp _ (nlt rfl)) ?_
            refine jr.icmp_ne rfl rfl (by first | (refine rgb (by assumption) ?_; exact rfl) | omega) (rgl rfl) (fun h183 => ?_) (fun h183 => ?_)
            · exact absurd h183 (by omega)
            · refine jr.aload_n rfl rfl ?_
              refine jr.getf (i := 63) (x := r15) (v := .int (Int32.ofInt (r15))) rfl rfl (nlt rfl) rfl (nlt rfl) rfl rfl (ju_same _ _ _ _) rfl ?_
              refine jr.goto rfl rfl ?_
              refine jr.putf (i := 64) (x := r15) rfl rfl (nlt rfl) rfl (nlt rfl) rfl rfl rfl rfl rfl ?_
              exact jr.vreturn rfl rfl (q _ (RI.u (RI.u (RI.u (RI.u (RI.u (RI.u (RI.u hI_M (a := 598) (i := 59) (show (0 : Int) ≤ _ ∧ _ ≤ (1 : Int) from by omega)) (a := 598) (i := 61) (show (-9223372036854775808 : Int) ≤ _ ∧ _ ≤ (9223372036854775807 : Int) from by omega)) (a := 598) (i := 62) (show (-9223372036854775808 : Int) ≤ _ ∧ _ ≤ (9223372036854775807 : Int) from by omega)) (a := 598) (i := 65) (show (0 : Int) ≤ _ ∧ _ ≤ (11 : Int) from by omega)) (a := 598) (i := 60) (show (0 : Int) ≤ _ ∧ _ ≤ (255 : Int) from by omega)) (a := 598) (i := 63) (show (0 : Int) ≤ _ ∧ _ ≤ (65535 : Int) from by omega)) (a := 598) (i := 64) (show (0 : Int) ≤ _ ∧ _ ≤ (65535 : Int) from by omega)) (RH.o (RH.o (RH.o (RH.o (RH.o (RH.o (RH.o hH_M (by decide) (by decide) (by decide)) (by decide) (by decide) (by decide)) (by decide) (by decide) (by decide)) (by decide) (by decide) (by decide)) (by decide) (by decide) (by decide)) (by decide) (by decide) (by decide)) (by decide) (by decide) (by decide)) (RF.o (RF.o (RF.o (RF.o (RF.o (RF.o (RF.o hS_M (by decide) (by decide)) (by decide) (by decide)) (by decide) (by decide)) (by decide) (by decide)) (by decide) (by decide)) (by decide) (by decide)) (by decide) (by decide))  (((ju_i _ _ (zne (by decide))).trans ((ju_i _ _ (zne (by decide))).trans ((ju_i _ _ (zne (by decide))).trans (ju_same _ _ _ _)))).trans (by omega)) (fun q => by rw [((ju_i _ _ (zne (by decide))).trans ((ju_i _ _ (zne (by decide))).trans (ju_same _ _ _ _)))] at q; omega) (by rw [((ju_i _ _ (zne (by decide))).trans ((ju_i _ _ (zne (by decide))).trans (ju_same _ _ _ _)))]; omega) (by first | (exfalso; omega) | exact ⟨⟨(by rw [show (ju (ju (ju (ju (ju (ju (ju M 598 59 0) 598 61 r3) 598 62 r4) 598 65 h) 598 60 1) 598 63 r15) 598 64 r15) 598 59 = 0 from ((ju_i _ _ (zne (by decide))).trans ((ju_i _ _ (zne (by decide))).trans ((ju_i _ _ (zne (by decide))).trans ((ju_i _ _ (zne (by decide))).trans ((ju_i _ _ (zne (by decide))).trans ((ju_i _ _ (zne (by decide))).trans (ju_same _ _ _ _))))))), e1]; first | (rw [if_pos (by omega)]) | (rw [if_neg (by omega)])), (by rw [show (ju (ju (ju (ju (ju (ju (ju M 598 59 0) 598 61 r3) 598 62 r4) 598 65 h) 598 60 1) 598 63 r15) 598 64 r15) 598 60 = 1 from ((ju_i _ _ (zne (by decide))).trans ((ju_i _ _ (zne (by decide))).trans (ju_same _ _ _ _))), e5]; unfold nxk; (repeat' split) <;> omega)⟩, ⟨(by rw [show (ju (ju (ju (ju (ju (ju (ju M 598 59 0) 598 61 r3) 598 62 r4) 598 65 h) 598 60 1) 598 63 r15) 598 64 r15) 598 61 = r3 from ((ju_i _ _ (zne (by decide))).trans ((ju_i _ _ (zne (by decide))).trans ((ju_i _ _ (zne (by decide))).trans ((ju_i _ _ (zne (by decide))).trans ((ju_i _ _ (zne (by decide))).trans (ju_same _ _ _ _))))))]; exact te2 p3 p5.1 (by omega) e2 (by omega) rfl ((rf_e (fun i => by rw [ju_c _ _ (by decide)])).trans p4) w3_0), (by rw [show (ju (ju (ju (ju (ju (ju (ju M 598 59 0) 598 61 r3) 598 62 r4) 598 65 h) 598 60 1) 598 63 r15) 598 64 r15) 598 62 = r4 from ((ju_i _ _ (zne (by decide))).trans ((ju_i _ _ (zne (by decide))).trans ((ju_i _ _ (zne (by decide))).trans ((ju_i _ _ (zne (by decide))).trans (ju_same _ _ _ _)))))]; exact te2 p3 p5.1 (by omega) e2 (by omega) rfl ((rf_e (fun i => by rw [ju_c _ _ (by decide), ju_c _ _ (by decide)])).trans p4) w4_0)⟩, ⟨(by rw [show (ju (ju (ju (ju (ju (ju (ju M 598 59 0) 598 61 r3) 598 62 r4) 598 65 h) 598 60 1) 598 63 r15) 598 64 r15) 598 63 = r15 from ((ju_i _ _ (zne (by decide))).trans (ju_same _ _ _ _))]; first | exact tp7 p3 p5.2 (by omega) e14 (by omega) ((rf_e (fun i => by rw [ju_c _ _ (by decide), ju_c _ _ (by decide), ju_c _ _ (by decide), ju_c _ _ (by decide), ju_c _ _ (by decide)])).trans p4) w15_0 (by omega) | exact tp8 (s := 0) p3 p5.2 (by omega) e14 (by first | exact Or.inl ⟨rfl, rfl⟩ | exact Or.inr ⟨rfl, rfl⟩) ((rf_e (fun i => by rw [ju_c _ _ (by decide), ju_c _ _ (by decide), ju_c _ _ (by decide), ju_c _ _ (by decide), ju_c _ _ (by decide)])).trans p4) w15_0 (by omega)), (by rw [show (ju (ju (ju (ju (ju (ju (ju M 598 59 0) 598 61 r3) 598 62 r4) 598 65 h) 598 60 1) 598 63 r15) 598 64 r15) 598 64 = r15 from (ju_same _ _ _ _)]; first | exact tp7 p3 p5.2 (by omega) e14 (by omega) ((rf_e (fun i => by rw [ju_c _ _ (by decide), ju_c _ _ (by decide), ju_c _ _ (by decide), ju_c _ _ (by decide), ju_c _ _ (by decide)])).trans p4) w15_0 (by omega) | exact tp8 (s := 1) p3 p5.2 (by omega) e14 (by first | exact Or.inl ⟨rfl, rfl⟩ | exact Or.inr ⟨rfl, rfl⟩) ((rf_e (fun i => by rw [ju_c _ _ (by decide), ju_c _ _ (by decide), ju_c _ _ (by decide), ju_c _ _ (by decide), ju_c _ _ (by decide)])).trans p4) w15_0 (by omega))⟩⟩) (fun a i f598 => ((ju_c _ _ f598).trans ((ju_c _ _ f598).trans ((ju_c _ _ f598).trans ((ju_c _ _ f598).trans ((ju_c _ _ f598).trans ((ju_c _ _ f598).trans ((ju_c _ _ f598).trans rfl)))))))) (fun i g59 g60 g61 g62 g63 g64 g65 => ((ju_i _ _ g64).trans ((ju_i _ _ g63).trans ((ju_i _ _ g60).trans ((ju_i _ _ g65).trans ((ju_i _ _ g62).trans ((ju_i _ _ g61).trans ((ju_i _ _ g59).trans rfl)))))))))
      · exact absurd (by omega) h63
    · refine jr.aload_n rfl rfl ?_
      refine jr.iload_n rfl rfl ?_
      refine jr.aload_n rfl rfl ?_
      refine jr.getf (i := 8) (v := .ref 604) rfl rfl (nlt rfl) rfl (nlt rfl) rfl rfl rfl rfl ?_
      refine jr.iload_n rfl rfl ?_
      obtain ⟨v16, e16⟩ : ∃ z, M 604 t = z := ⟨_, rfl⟩
      have b16 : 0 ≤ v16 ∧ v16 ≤ 400 := by rw [← e16]; exact (by have q := hI_M 604 t (Nat.le_of_ble_eq_true rfl); rw [xri_row rfl rfl] at q; exact q)
      refine jr.iald (i := t) (x := v16) rfl (nlt rfl) rfl (Nat.le_of_ble_eq_true rfl) (by omega) (by omega) ((ju_c _ _ (by decide)).trans e16) ?_
      refine jr.iconst rfl ?_
      refine jr_v rfl rfl (Or.inl rfl) rfl rfl (nlt rfl) rfl ⟨rfl, Nat.le_of_ble_eq_true rfl, Nat.le_of_ble_eq_true rfl⟩ rfl (jc.deep (r_ofSix_x (RI.u hI_M (a := 598) (i := 59) (show (0 : Int) ≤ _ ∧ _ ≤ (1 : Int) from by omega)) (RH.o hH_M (by decide) (by decide) (by decide)) (RF.o hS_M (by decide) (by decide))  (by omega) (by omega) (by omega)  (fun r17 z17 w17_0 => ?_)) (Nat.le_of_ble_eq_true rfl))
      refine jr.goto rfl rfl ?_
      refine jr.putf (i := 61) (x := r17) rfl rfl (nlt rfl) rfl (nlt rfl) rfl rfl rfl rfl rfl ?_
      refine jr.aload_n rfl rfl ?_
      refine jr.aload_n rfl rfl ?_
      refine jr.getf (i := 59) (x := 0) (v := .int (Int32.ofInt (0))) rfl rfl (nlt rfl) rfl (nlt rfl) rfl rfl ((ju_i _ _ (zne (by decide))).trans (ju_same _ _ _ _)) rfl ?_
      refine jr.if_eq rfl rfl (by first | (refine rgb (by assumption) ?_; exact rfl) | omega) (fun h63 => ?_) (fun h63 => ?_)
      · exact absurd h63 h24
      · refine jr.aload_n rfl rfl ?_
        refine jr.iload_n rfl rfl ?_
        refine jr.aload_n rfl rfl ?_
        refine jr.getf (i := 8) (v := .ref 604) rfl rfl (nlt rfl) rfl (nlt rfl) rfl rfl rfl rfl ?_
        refine jr.iload_n rfl rfl ?_
        refine jr.iald (i := t) (x := v16) rfl (nlt rfl) rfl (Nat.le_of_ble_eq_true rfl) (by omega) (by omega) ((ju_c _ _ (by decide)).trans ((ju_c _ _ (by decide)).trans e16)) ?_
        refine jr.bipush rfl (jbp _ (nlt rfl)) ?_
        refine jr_v rfl rfl (Or.inl rfl) rfl rfl (nlt rfl) rfl ⟨rfl, Nat.le_of_ble_eq_true rfl, Nat.le_of_ble_eq_true rfl⟩ rfl (jc.deep (r_ofSix_x (RI.u (RI.u hI_M (a := 598) (i := 59) (show (0 : Int) ≤ _ ∧ _ ≤ (1 : Int) from by omega)) (a := 598) (i := 61) (show (-9223372036854775808 : Int) ≤ _ ∧ _ ≤ (9223372036854775807 : Int) from by omega)) (RH.o (RH.o hH_M (by decide) (by decide) (by decide)) (by decide) (by decide) (by decide)) (RF.o (RF.o hS_M (by decide) (by decide)) (by decide) (by decide))  (by omega) (by omega) (by omega)  (fun r30 z30 w30_0 => ?_)) (Nat.le_of_ble_eq_true rfl))
        refine jr.goto rfl rfl ?_
        refine jr.putf (i := 62) (x := r30) rfl rfl (nlt rfl) rfl (nlt rfl) rfl rfl rfl rfl rfl ?_
        refine jr.aload_n rfl rfl ?_
        refine jr.getf (i := 7) (v := .ref 603) rfl rfl (nlt rfl) rfl (nlt rfl) rfl rfl rfl rfl ?_
        refine jr.iload_n rfl rfl ?_
        obtain ⟨v31, e31⟩ : ∃ z, M 603 h = z := ⟨_, rfl⟩
        have b31 : 0 ≤ v31 ∧ v31 ≤ 11 := by rw [← e31]; exact (by have q := hI_M 603 h (Nat.le_of_ble_eq_true rfl); rw [xri_row rfl rfl] at q; exact q)
        refine jr.iald (i := h) (x := v31) rfl (nlt rfl) rfl (Nat.le_of_ble_eq_true rfl) (by omega) (by omega) ((ju_c _ _ (by decide)).trans ((ju_c _ _ (by decide)).trans ((ju_c _ _ (by decide)).trans e31))) ?_
        refine jr.istore (ls' := [_, _, _, _, _]) rfl (nlt rfl) rfl ?_
        refine jr.aload_n rfl rfl ?_
        refine jr.iload_n rfl rfl ?_
        refine jr.putf (i := 65) (x := h) rfl rfl (nlt rfl) rfl (nlt rfl) rfl rfl rfl rfl rfl ?_
        refine jr.aload_n rfl rfl ?_
        refine jr.iload rfl rfl ?_
        refine jr.bipush rfl (jbp _ (nlt rfl)) ?_
        refine jr.icmp_ne rfl rfl (by first | (refine rgb (by assumption) ?_; exact rfl) | omega) (rgl rfl) (fun h116 => ?_) (fun h116 => ?_)
        · refine jr.iload rfl rfl ?_
          refine jr.bipush rfl (jbp _ (nlt rfl)) ?_
          refine jr.icmp_ne rfl rfl (by first | (refine rgb (by assumption) ?_; exact rfl) | omega) (rgl rfl) (fun h127 => ?_) (fun h127 => ?_)
          · refine jr.bipush rfl (jbp _ (nlt rfl)) ?_
            refine jr.putf (i := 60) (x := 17) rfl rfl (nlt rfl) rfl (nlt rfl) rfl rfl rfl rfl rfl ?_
            refine jr.aload_n rfl rfl ?_
            refine jr.iload rfl rfl ?_
            refine jr.bipush rfl (jbp _ (nlt rfl)) ?_
            refine jr.icmp_ne rfl rfl (by first | (refine rgb (by assumption) ?_; exact rfl) | omega) (rgl rfl) (fun h145 => ?_) (fun h145 => ?_)
            · refine jr.aload_n rfl rfl ?_
              refine jr.iload_n rfl rfl ?_
              refine jr.aload_n rfl rfl ?_
              refine jr.getf (i := 8) (v := .ref 604) rfl rfl (nlt rfl) rfl (nlt rfl) rfl rfl rfl rfl ?_
              refine jr.iload_n rfl rfl ?_
              obtain ⟨v32, e32⟩ : ∃ z, M 604 h = z := ⟨_, rfl⟩
              have b32 : 0 ≤ v32 ∧ v32 ≤ 400 := by rw [← e32]; exact (by have q := hI_M 604 h (Nat.le_of_ble_eq_true rfl); rw [xri_row rfl rfl] at q; exact q)
              refine jr.iald (i := h) (x := v32) rfl (nlt rfl) rfl (Nat.le_of_ble_eq_true rfl) (by omega) (by omega) ((ju_c _ _ (by decide)).trans ((ju_c _ _ (by decide)).trans ((ju_c _ _ (by decide)).trans ((ju_c _ _ (by decide)).trans ((ju_c _ _ (by decide)).trans e32))))) ?_
              refine jr_v rfl rfl (Or.inl rfl) rfl rfl (nlt rfl) rfl ⟨rfl, Nat.le_of_ble_eq_true rfl, Nat.le_of_ble_eq_true rfl⟩ rfl (jc.deep (r_two_x (RI.u (RI.u (RI.u (RI.u (RI.u hI_M (a := 598) (i := 59) (show (0 : Int) ≤ _ ∧ _ ≤ (1 : Int) from by omega)) (a := 598) (i := 61) (show (-9223372036854775808 : Int) ≤ _ ∧ _ ≤ (9223372036854775807 : Int) from by omega)) (a := 598) (i := 62) (show (-9223372036854775808 : Int) ≤ _ ∧ _ ≤ (9223372036854775807 : Int) from by omega)) (a := 598) (i := 65) (show (0 : Int) ≤ _ ∧ _ ≤ (11 : Int) from by omega)) (a := 598) (i := 60) (show (0 : Int) ≤ _ ∧ _ ≤ (255 : Int) from by omega)) (RH.o (RH.o (RH.o (RH.o (RH.o hH_M (by decide) (by decide) (by decide)) (by decide) (by decide) (by decide)) (by decide) (by decide) (by decide)) (by decide) (by decide) (by decide)) (by decide) (by decide) (by decide)) (RF.o (RF.o (RF.o (RF.o (RF.o hS_M (by decide) (by decide)) (by decide) (by decide)) (by decide) (by decide)) (by decide) (by decide)) (by decide) (by decide))  (by omega) (by omega)  (fun r33 z33 w33_0 => ?_)) (Nat.le_of_ble_eq_true rfl))
              refine jr.putf (i := 63) (x := r33) rfl rfl (nlt rfl) rfl (nlt rfl) rfl rfl rfl rfl rfl ?_
              refine jr.aload_n rfl rfl ?_
              refine jr.iload rfl rfl ?_
              refine jr.bipush rfl (jbp _ (nlt rfl)) ?_
              refine jr.icmp_ne rfl rfl (by first | (refine rgb (by assumption) ?_; exact rfl) | omega) (rgl rfl) (fun h183 => ?_) (fun h183 => ?_)
              · refine jr.aload_n rfl rfl ?_
                refine jr.iload_n rfl rfl ?_
                refine jr.aload_n rfl rfl ?_
                refine jr.getf (i := 8) (v := .ref 604) rfl rfl (nlt rfl) rfl (nlt rfl) rfl rfl rfl rfl ?_
                refine jr.iload_n rfl rfl ?_
                refine jr.iald (i := h) (x := v32) rfl (nlt rfl) rfl (Nat.le_of_ble_eq_true rfl) (by omega) (by omega) ((ju_c _ _ (by decide)).trans ((ju_c _ _ (by decide)).trans ((ju_c _ _ (by decide)).trans ((ju_c _ _ (by decide)).trans ((ju_c _ _ (by decide)).trans ((ju_c _ _ (by decide)).trans e32)))))) ?_
                refine jr.iconst rfl ?_
                refine jr.iadd rfl ?_
                refine jr_v rfl rfl (Or.inl rfl) rfl rfl (nlt rfl) rfl ⟨rfl, Nat.le_of_ble_eq_true rfl, Nat.le_of_ble_eq_true rfl⟩ rfl (jc.deep (r_two_x (RI.u (RI.u (RI.u (RI.u (RI.u (RI.u hI_M (a := 598) (i := 59) (show (0 : Int) ≤ _ ∧ _ ≤ (1 : Int) from by omega)) (a := 598) (i := 61) (show (-9223372036854775808 : Int) ≤ _ ∧ _ ≤ (9223372036854775807 : Int) from by omega)) (a := 598) (i := 62) (show (-9223372036854775808 : Int) ≤ _ ∧ _ ≤ (9223372036854775807 : Int) from by omega)) (a := 598) (i := 65) (show (0 : Int) ≤ _ ∧ _ ≤ (11 : Int) from by omega)) (a := 598) (i := 60) (show (0 : Int) ≤ _ ∧ _ ≤ (255 : Int) from by omega)) (a := 598) (i := 63) (show (0 : Int) ≤ _ ∧ _ ≤ (65535 : Int) from by omega)) (RH.o (RH.o (RH.o (RH.o (RH.o (RH.o hH_M (by decide) (by decide) (by decide)) (by decide) (by decide) (by decide)) (by decide) (by decide) (by decide)) (by decide) (by decide) (by decide)) (by decide) (by decide) (by decide)) (by decide) (by decide) (by decide)) (RF.o (RF.o (RF.o (RF.o (RF.o (RF.o hS_M (by decide) (by decide)) (by decide) (by decide)) (by decide) (by decide)) (by decide) (by decide)) (by decide) (by decide)) (by decide) (by decide))  (by omega) (by omega)  (fun r34 z34 w34_0 => ?_)) (Nat.le_of_ble_eq_true rfl))
                refine jr.putf (i := 64) (x := r34) rfl rfl (nlt rfl) rfl (nlt rfl) rfl rfl rfl rfl rfl ?_
                exact jr.vreturn rfl rfl (q _ (RI.u (RI.u (RI.u (RI.u (RI.u (RI.u (RI.u hI_M (a := 598) (i := 59) (show (0 : Int) ≤ _ ∧ _ ≤ (1 : Int) from by omega)) (a := 598) (i := 61) (show (-9223372036854775808 : Int) ≤ _ ∧ _ ≤ (9223372036854775807 : Int) from by omega)) (a := 598) (i := 62) (show (-9223372036854775808 : Int) ≤ _ ∧ _ ≤ (9223372036854775807 : Int) from by omega)) (a := 598) (i := 65) (show (0 : Int) ≤ _ ∧ _ ≤ (11 : Int) from by omega)) (a := 598) (i := 60) (show (0 : Int) ≤ _ ∧ _ ≤ (255 : Int) from by omega)) (a := 598) (i := 63) (show (0 : Int) ≤ _ ∧ _ ≤ (65535 : Int) from by omega)) (a := 598) (i := 64) (show (0 : Int) ≤ _ ∧ _ ≤ (65535 : Int) from by omega)) (RH.o (RH.o (RH.o (RH.o (RH.o (RH.o (RH.o hH_M (by decide) (by decide) (by decide)) (by decide) (by decide) (by decide)) (by decide) (by decide) (by decide)) (by decide) (by decide) (by decide)) (by decide) (by decide) (by decide)) (by decide) (by decide) (by decide)) (by decide) (by decide) (by decide)) (RF.o (RF.o (RF.o (RF.o (RF.o (RF.o (RF.o hS_M (by decide) (by decide)) (by decide) (by decide)) (by decide) (by decide)) (by decide) (by decide)) (by decide) (by decide)) (by decide) (by decide)) (by decide) (by decide))  (((ju_i _ _ (zne (by decide))).trans ((ju_i _ _ (zne (by decide))).trans ((ju_i _ _ (zne (by decide))).trans (ju_same _ _ _ _)))).trans (by omega)) (fun q => by rw [((ju_i _ _ (zne (by decide))).trans ((ju_i _ _ (zne (by decide))).trans (ju_same _ _ _ _)))] at q; omega) (by rw [((ju_i _ _ (zne (by decide))).trans ((ju_i _ _ (zne (by decide))).trans (ju_same _ _ _ _)))]; omega) (by first | (exfalso; omega) | exact ⟨⟨(by rw [show (ju (ju (ju (ju (ju (ju (ju M 598 59 0) 598 61 r17) 598 62 r30) 598 65 h) 598 60 17) 598 63 r33) 598 64 r34) 598 59 = 0 from ((ju_i _ _ (zne (by decide))).trans ((ju_i _ _ (zne (by decide))).trans ((ju_i _ _ (zne (by decide))).trans ((ju_i _ _ (zne (by decide))).trans ((ju_i _ _ (zne (by decide))).trans ((ju_i _ _ (zne (by decide))).trans (ju_same _ _ _ _))))))), e1]; first | (rw [if_pos (by omega)]) | (rw [if_neg (by omega)])), (by rw [show (ju (ju (ju (ju (ju (ju (ju M 598 59 0) 598 61 r17) 598 62 r30) 598 65 h) 598 60 17) 598 63 r33) 598 64 r34) 598 60 = 17 from ((ju_i _ _ (zne (by decide))).trans ((ju_i _ _ (zne (by decide))).trans (ju_same _ _ _ _))), e31]; unfold nxk; (repeat' split) <;> omega)⟩, ⟨(by rw [show (ju (ju (ju (ju (ju (ju (ju M 598 59 0) 598 61 r17) 598 62 r30) 598 65 h) 598 60 17) 598 63 r33) 598 64 r34) 598 61 = r17 from ((ju_i _ _ (zne (by decide))).trans ((ju_i _ _ (zne (by decide))).trans ((ju_i _ _ (zne (by decide))).trans ((ju_i _ _ (zne (by decide))).trans ((ju_i _ _ (zne (by decide))).trans (ju_same _ _ _ _))))))]; exact te3 p3 p5.1 (by omega) e16 (by omega) rfl ((rf_e (fun i => by rw [ju_c _ _ (by decide)])).trans p4) w17_0), (by rw [show (ju (ju (ju (ju (ju (ju (ju M 598 59 0) 598 61 r17) 598 62 r30) 598 65 h) 598 60 17) 598 63 r33) 598 64 r34) 598 62 = r30 from ((ju_i _ _ (zne (by decide))).trans ((ju_i _ _ (zne (by decide))).trans ((ju_i _ _ (zne (by decide))).trans ((ju_i _ _ (zne (by decide))).trans (ju_same _ _ _ _)))))]; exact te3 p3 p5.1 (by omega) e16 (by omega) rfl ((rf_e (fun i => by rw [ju_c _ _ (by decide), ju_c _ _ (by decide)])).trans p4) w30_0)⟩, ⟨(by rw [show (ju (ju (ju (ju (ju (ju (ju M 598 59 0) 598 61 r17) 598 62 r30) 598 65 h) 598 60 17) 598 63 r33) 598 64 r34) 598 63 = r33 from ((ju_i _ _ (zne (by decide))).trans (ju_same _ _ _ _))]; first | exact tp7 p3 p5.2 (by omega) e32 (by omega) ((rf_e (fun i => by rw [ju_c _ _ (by decide), ju_c _ _ (by decide), ju_c _ _ (by decide), ju_c _ _ (by decide), ju_c _ _ (by decide)])).trans p4) w33_0 (by omega) | exact tp8 (s := 0) p3 p5.2 (by omega) e32 (by first | exact Or.inl ⟨rfl, rfl⟩ | exact Or.inr ⟨rfl, rfl⟩) ((rf_e (fun i => by rw [ju_c _ _ (by decide), ju_c _ _ (by decide), ju_c _ _ (by decide), ju_c _ _ (by decide), ju_c _ _ (by decide)])).trans p4) w33_0 (by omega)), (by rw [show (ju (ju (ju (ju (ju (ju (ju M 598 59 0) 598 61 r17) 598 62 r30) 598 65 h) 598 60 17) 598 63 r33) 598 64 r34) 598 64 = r34 from (ju_same _ _ _ _)]; first | exact tp7 p3 p5.2 (by omega) e32 (by omega) ((rf_e (fun i => by rw [ju_c _ _ (by decide), ju_c _ _ (by decide), ju_c _ _ (by decide), ju_c _ _ (by decide), ju_c _ _ (by decide), ju_c _ _ (by decide)])).trans p4) w34_0 (by omega) | exact tp8 (s := 1) p3 p5.2 (by omega) e32 (by first | exact Or.inl ⟨rfl, rfl⟩ | exact Or.inr ⟨rfl, rfl⟩) ((rf_e (fun i => by rw [ju_c _ _ (by decide), ju_c _ _ (by decide), ju_c _ _ (by decide), ju_c _ _ (by decide), ju_c _ _ (by decide), ju_c _ _ (by decide)])).trans p4) w34_0 (by omega))⟩⟩) (fun a i f598 => ((ju_c _ _ f598).trans ((ju_c _ _ f598).trans ((ju_c _ _ f598).trans ((ju_c _ _ f598).trans ((ju_c _ _ f598).trans ((ju_c _ _ f598).trans ((ju_c _ _ f598).trans rfl)))))))) (fun i g59 g60 g61 g62 g63 g64 g65 => ((ju_i _ _ g64).trans ((ju_i _ _ g63).trans ((ju_i _ _ g60).trans ((ju_i _ _ g65).trans ((ju_i _ _ g62).trans ((ju_i _ _ g61).trans ((ju_i _ _ g59).trans rfl)))))))))
              · exact absurd h145 h183
            · exact absurd h116 h145
          · refine jr.bipush rfl (jbp _ (nlt rfl)) ?_
            refine jr.goto rfl rfl ?_
            refine jr.putf (i := 60) (x := 6) rfl rfl (nlt rfl) rfl (nlt rfl) rfl rfl rfl rfl rfl ?_
            refine jr.aload_n rfl rfl ?_
            refine jr.iload rfl rfl ?_
            refine jr.bipush rfl (jbp _ (nlt rfl)) ?_
            refine jr.icmp_ne rfl rfl (by first | (refine rgb (by assumption) ?_; exact rfl) | omega) (rgl rfl) (fun h145 => ?_) (fun h145 => ?_)
            · refine jr.aload_n rfl rfl ?_
              refine jr.iload_n rfl rfl ?_
              refine jr.aload_n rfl rfl ?_
              refine jr.getf (i := 8) (v := .ref 604) rfl rfl (nlt rfl) rfl (nlt rfl) rfl rfl rfl rfl ?_
              refine jr.iload_n rfl rfl ?_
              obtain ⟨v37, e37⟩ : ∃ z, M 604 h = z := ⟨_, rfl⟩
              have b37 : 0 ≤ v37 ∧ v37 ≤ 400 := by rw [← e37]; exact (by have q := hI_M 604 h (Nat.le_of_ble_eq_true rfl); rw [xri_row rfl rfl] at q; exact q)
              refine jr.iald (i := h) (x := v37) rfl (nlt rfl) rfl (Nat.le_of_ble_eq_true rfl) (by omega) (by omega) ((ju_c _ _ (by decide)).trans ((ju_c _ _ (by decide)).trans ((ju_c _ _ (by decide)).trans ((ju_c _ _ (by decide)).trans ((ju_c _ _ (by decide)).trans e37))))) ?_
              refine jr_v rfl rfl (Or.inl rfl) rfl rfl (nlt rfl) rfl ⟨rfl, Nat.le_of_ble_eq_true rfl, Nat.le_of_ble_eq_true rfl⟩ rfl (jc.deep (r_two_x (RI.u (RI.u (RI.u (RI.u (RI.u hI_M (a := 598) (i := 59) (show (0 : Int) ≤ _ ∧ _ ≤ (1 : Int) from by omega)) (a := 598) (i := 61) (show (-9223372036854775808 : Int) ≤ _ ∧ _ ≤ (9223372036854775807 : Int) from by omega)) (a := 598) (i := 62) (show (-9223372036854775808 : Int) ≤ _ ∧ _ ≤ (9223372036854775807 : Int) from by omega)) (a := 598) (i := 65) (show (0 : Int) ≤ _ ∧ _ ≤ (11 : Int) from by omega)) (a := 598) (i := 60) (show (0 : Int) ≤ _ ∧ _ ≤ (255 : Int) from by omega)) (RH.o (RH.o (RH.o (RH.o (RH.o hH_M (by decide) (by decide) (by decide)) (by decide) (by decide) (by decide)) (by decide) (by decide) (by decide)) (by decide) (by decide) (by decide)) (by decide) (by decide) (by decide)) (RF.o (RF.o (RF.o (RF.o (RF.o hS_M (by decide) (by decide)) (by decide) (by decide)) (by decide) (by decide)) (by decide) (by decide)) (by decide) (by decide))  (by omega) (by omega)  (fun r38 z38 w38_0 => ?_)) (Nat.le_of_ble_eq_true rfl))
              refine jr.putf (i := 63) (x := r38) rfl rfl (nlt rfl) rfl (nlt rfl) rfl rfl rfl rfl rfl ?_
              refine jr.aload_n rfl rfl ?_
              refine jr.iload rfl rfl ?_
              refine jr.bipush rfl (jbp _ (nlt rfl)) ?_
              refine jr.icmp_ne rfl rfl (by first | (refine rgb (by assumption) ?_; exact rfl) | omega) (rgl rfl) (fun h183 => ?_) (fun h183 => ?_)
              · refine jr.aload_n rfl rfl ?_
                refine jr.iload_n rfl rfl ?_
                refine jr.aload_n rfl rfl ?_
                refine jr.getf (i := 8) (v := .ref 604) rfl rfl (nlt rfl) rfl (nlt rfl) rfl rfl rfl rfl ?_
                refine jr.iload_n rfl rfl ?_
                refine jr.iald (i := h) (x := v37) rfl (nlt rfl) rfl (Nat.le_of_ble_eq_true rfl) (by omega) (by omega) ((ju_c _ _ (by decide)).trans ((ju_c _ _ (by decide)).trans ((ju_c _ _ (by decide)).trans ((ju_c _ _ (by decide)).trans ((ju_c _ _ (by decide)).trans ((ju_c _ _ (by decide)).trans e37)))))) ?_
                refine jr.iconst rfl ?_
                refine jr.iadd rfl ?_
                refine jr_v rfl rfl (Or.inl rfl) rfl rfl (nlt rfl) rfl ⟨rfl, Nat.le_of_ble_eq_true rfl, Nat.le_of_ble_eq_true rfl⟩ rfl (jc.deep (r_two_x (RI.u (RI.u (RI.u (RI.u (RI.u (RI.u hI_M (a := 598) (i := 59) (show (0 : Int) ≤ _ ∧ _ ≤ (1 : Int) from by omega)) (a := 598) (i := 61) (show (-9223372036854775808 : Int) ≤ _ ∧ _ ≤ (9223372036854775807 : Int) from by omega)) (a := 598) (i := 62) (show (-9223372036854775808 : Int) ≤ _ ∧ _ ≤ (9223372036854775807 : Int) from by omega)) (a := 598) (i := 65) (show (0 : Int) ≤ _ ∧ _ ≤ (11 : Int) from by omega)) (a := 598) (i := 60) (show (0 : Int) ≤ _ ∧ _ ≤ (255 : Int) from by omega)) (a := 598) (i := 63) (show (0 : Int) ≤ _ ∧ _ ≤ (65535 : Int) from by omega)) (RH.o (RH.o (RH.o (RH.o (RH.o (RH.o hH_M (by decide) (by decide) (by decide)) (by decide) (by decide) (by decide)) (by decide) (by decide) (by decide)) (by decide) (by decide) (by decide)) (by decide) (by decide) (by decide)) (by decide) (by decide) (by decide)) (RF.o (RF.o (RF.o (RF.o (RF.o (RF.o hS_M (by decide) (by decide)) (by decide) (by decide)) (by decide) (by decide)) (by decide) (by decide)) (by decide) (by decide)) (by decide) (by decide))  (by omega) (by omega)  (fun r39 z39 w39_0 => ?_)) (Nat.le_of_ble_eq_true rfl))
                refine jr.putf (i := 64) (x := r39) rfl rfl (nlt rfl) rfl (nlt rfl) rfl rfl rfl rfl rfl ?_
                exact jr.vreturn rfl rfl (q _ (RI.u (RI.u (RI.u (RI.u (RI.u (RI.u (RI.u hI_M (a := 598) (i := 59) (show (0 : Int) ≤ _ ∧ _ ≤ (1 : Int) from by omega)) (a := 598) (i := 61) (show (-9223372036854775808 : Int) ≤ _ ∧ _ ≤ (9223372036854775807 : Int) from by omega)) (a := 598) (i := 62) (show (-9223372036854775808 : Int) ≤ _ ∧ _ ≤ (9223372036854775807 : Int) from by omega)) (a := 598) (i := 65) (show (0 : Int) ≤ _ ∧ _ ≤ (11 : Int) from by omega)) (a := 598) (i := 60) (show (0 : Int) ≤ _ ∧ _ ≤ (255 : Int) from by omega)) (a := 598) (i := 63) (show (0 : Int) ≤ _ ∧ _ ≤ (65535 : Int) from by omega)) (a := 598) (i := 64) (show (0 : Int) ≤ _ ∧ _ ≤ (65535 : Int) from by omega)) (RH.o (RH.o (RH.o (RH.o (RH.o (RH.o (RH.o hH_M (by decide) (by decide) (by decide)) (by decide) (by decide) (by decide)) (by decide) (by decide) (by decide)) (by decide) (by decide) (by decide)) (by decide) (by decide) (by decide)) (by decide) (by decide) (by decide)) (by decide) (by decide) (by decide)) (RF.o (RF.o (RF.o (RF.o (RF.o (RF.o (RF.o hS_M (by decide) (by decide)) (by decide) (by decide)) (by decide) (by decide)) (by decide) (by decide)) (by decide) (by decide)) (by decide) (by decide)) (by decide) (by decide))  (((ju_i _ _ (zne (by decide))).trans ((ju_i _ _ (zne (by decide))).trans ((ju_i _ _ (zne (by decide))).trans (ju_same _ _ _ _)))).trans (by omega)) (fun q => by rw [((ju_i _ _ (zne (by decide))).trans ((ju_i _ _ (zne (by decide))).trans (ju_same _ _ _ _)))] at q; omega) (by rw [((ju_i _ _ (zne (by decide))).trans ((ju_i _ _ (zne (by decide))).trans (ju_same _ _ _ _)))]; omega) (by first | (exfalso; omega) | exact ⟨⟨(by rw [show (ju (ju (ju (ju (ju (ju (ju M 598 59 0) 598 61 r17) 598 62 r30) 598 65 h) 598 60 6) 598 63 r38) 598 64 r39) 598 59 = 0 from ((ju_i _ _ (zne (by decide))).trans ((ju_i _ _ (zne (by decide))).trans ((ju_i _ _ (zne (by decide))).trans ((ju_i _ _ (zne (by decide))).trans ((ju_i _ _ (zne (by decide))).trans ((ju_i _ _ (zne (by decide))).trans (ju_same _ _ _ _))))))), e1]; first | (rw [if_pos (by omega)]) | (rw [if_neg (by omega)])), (by rw [show (ju (ju (ju (ju (ju (ju (ju M 598 59 0) 598 61 r17) 598 62 r30) 598 65 h) 598 60 6) 598 63 r38) 598 64 r39) 598 60 = 6 from ((ju_i _ _ (zne (by decide))).trans ((ju_i _ _ (zne (by decide))).trans (ju_same _ _ _ _))), e31]; unfold nxk; (repeat' split) <;> omega)⟩, ⟨(by rw [show (ju (ju (ju (ju (ju (ju (ju M 598 59 0) 598 61 r17) 598 62 r30) 598 65 h) 598 60 6) 598 63 r38) 598 64 r39) 598 61 = r17 from ((ju_i _ _ (zne (by decide))).trans ((ju_i _ _ (zne (by decide))).trans ((ju_i _ _ (zne (by decide))).trans ((ju_i _ _ (zne (by decide))).trans ((ju_i _ _ (zne (by decide))).trans (ju_same _ _ _ _))))))]; exact te3 p3 p5.1 (by omega) e16 (by omega) rfl ((rf_e (fun i => by rw [ju_c _ _ (by decide)])).trans p4) w17_0), (by rw [show (ju (ju (ju (ju (ju (ju (ju M 598 59 0) 598 61 r17) 598 62 r30) 598 65 h) 598 60 6) 598 63 r38) 598 64 r39) 598 62 = r30 from ((ju_i _ _ (zne (by decide))).trans ((ju_i _ _ (zne (by decide))).trans ((ju_i _ _ (zne (by decide))).trans ((ju_i _ _ (zne (by decide))).trans (ju_same _ _ _ _)))))]; exact te3 p3 p5.1 (by omega) e16 (by omega) rfl ((rf_e (fun i => by rw [ju_c _ _ (by decide), ju_c _ _ (by decide)])).trans p4) w30_0)⟩, ⟨(by rw [show (ju (ju (ju (ju (ju (ju (ju M 598 59 0) 598 61 r17) 598 62 r30) 598 65 h) 598 60 6) 598 63 r38) 598 64 r39) 598 63 = r38 from ((ju_i _ _ (zne (by decide))).trans (ju_same _ _ _ _))]; first | exact tp7 p3 p5.2 (by omega) e37 (by omega) ((rf_e (fun i => by rw [ju_c _ _ (by decide), ju_c _ _ (by decide), ju_c _ _ (by decide), ju_c _ _ (by decide), ju_c _ _ (by decide)])).trans p4) w38_0 (by omega) | exact tp8 (s := 0) p3 p5.2 (by omega) e37 (by first | exact Or.inl ⟨rfl, rfl⟩ | exact Or.inr ⟨rfl, rfl⟩) ((rf_e (fun i => by rw [ju_c _ _ (by decide), ju_c _ _ (by decide), ju_c _ _ (by decide), ju_c _ _ (by decide), ju_c _ _ (by decide)])).trans p4) w38_0 (by omega)), (by rw [show (ju (ju (ju (ju (ju (ju (ju M 598 59 0) 598 61 r17) 598 62 r30) 598 65 h) 598 60 6) 598 63 r38) 598 64 r39) 598 64 = r39 from (ju_same _ _ _ _)]; first | exact tp7 p3 p5.2 (by omega) e37 (by omega) ((rf_e (fun i => by rw [ju_c _ _ (by decide), ju_c _ _ (by decide), ju_c _ _ (by decide), ju_c _ _ (by decide), ju_c _ _ (by decide), ju_c _ _ (by decide)])).trans p4) w39_0 (by omega) | exact tp8 (s := 1) p3 p5.2 (by omega) e37 (by first | exact Or.inl ⟨rfl, rfl⟩ | exact Or.inr ⟨rfl, rfl⟩) ((rf_e (fun i => by rw [ju_c _ _ (by decide), ju_c _ _ (by decide), ju_c _ _ (by decide), ju_c _ _ (by decide), ju_c _ _ (by decide), ju_c _ _ (by decide)])).trans p4) w39_0 (by omega))⟩⟩) (fun a i f598 => ((ju_c _ _ f598).trans ((ju_c _ _ f598).trans ((ju_c _ _ f598).trans ((ju_c _ _ f598).trans ((ju_c _ _ f598).trans ((ju_c _ _ f598).trans ((ju_c _ _ f598).trans rfl)))))))) (fun i g59 g60 g61 g62 g63 g64 g65 => ((ju_i _ _ g64).trans ((ju_i _ _ g63).trans ((ju_i _ _ g60).trans ((ju_i _ _ g65).trans ((ju_i _ _ g62).trans ((ju_i _ _ g61).trans ((ju_i _ _ g59).trans rfl)))))))))
              · exact absurd (by omega) h183
            · exact absurd (by omega) h145
        · refine jr.iconst rfl ?_
          refine jr.goto rfl rfl ?_
          refine jr.putf (i := 60) (x := 1) rfl rfl (nlt rfl) rfl (nlt rfl) rfl rfl rfl rfl rfl ?_
          refine jr.aload_n rfl rfl ?_
          refine jr.iload rfl rfl ?_
          refine jr.bipush rfl (jbp _ (nlt rfl)) ?_
          refine jr.icmp_ne rfl rfl (by first | (refine rgb (by assumption) ?_; exact rfl) | omega) (rgl rfl) (fun h145 => ?_) (fun h145 => ?_)
          · exact absurd h145 (by omega)
          · refine jr.aload_n rfl rfl ?_
            refine jr.iload_n rfl rfl ?_
            refine jr.aload_n rfl rfl ?_
            refine jr.getf (i := 8) (v := .ref 604) rfl rfl (nlt rfl) rfl (nlt rfl) rfl rfl rfl rfl ?_
            refine jr.iload_n rfl rfl ?_
            obtain ⟨v40, e40⟩ : ∃ z, M 604 h = z := ⟨_, rfl⟩
            have b40 : 0 ≤ v40 ∧ v40 ≤ 400 := by rw [← e40]; exact (by have q := hI_M 604 h (Nat.le_of_ble_eq_true rfl); rw [xri_row rfl rfl] at q; exact q)
            refine jr.iald (i := h) (x := v40) rfl (nlt rfl) rfl (Nat.le_of_ble_eq_true rfl) (by omega) (by omega) ((ju_c _ _ (by decide)).trans ((ju_c _ _ (by decide)).trans ((ju_c _ _ (by decide)).trans ((ju_c _ _ (by decide)).trans ((ju_c _ _ (by decide)).trans e40))))) ?_
            refine jr.iconst rfl ?_
            refine jr.iadd rfl ?_
            refine jr_v rfl rfl (Or.inl rfl) rfl rfl (nlt rfl) rfl ⟨rfl, Nat.le_of_ble_eq_true rfl, Nat.le_of_ble_eq_true rfl⟩ rfl (jc.deep (r_two_x (RI.u (RI.u (RI.u (RI.u (RI.u hI_M (a := 598) (i := 59) (show (0 : Int) ≤ _ ∧ _ ≤ (1 : Int) from by omega)) (a := 598) (i := 61) (show (-9223372036854775808 : Int) ≤ _ ∧ _ ≤ (9223372036854775807 : Int) from by omega)) (a := 598) (i := 62) (show (-9223372036854775808 : Int) ≤ _ ∧ _ ≤ (9223372036854775807 : Int) from by omega)) (a := 598) (i := 65) (show (0 : Int) ≤ _ ∧ _ ≤ (11 : Int) from by omega)) (a := 598) (i := 60) (show (0 : Int) ≤ _ ∧ _ ≤ (255 : Int) from by omega)) (RH.o (RH.o (RH.o (RH.o (RH.o hH_M (by decide) (by decide) (by decide)) (by decide) (by decide) (by decide)) (by decide) (by decide) (by decide)) (by decide) (by decide) (by decide)) (by decide) (by decide) (by decide)) (RF.o (RF.o (RF.o (RF.o (RF.o hS_M (by decide) (by decide)) (by decide) (by decide)) (by decide) (by decide)) (by decide) (by decide)) (by decide) (by decide))  (by omega) (by omega)  (fun r41 z41 w41_0 => ?_)) (Nat.le_of_ble_eq_true rfl))
            refine jr.goto rfl rfl ?_
            refine jr.putf (i := 63) (x := r41) rfl rfl (nlt rfl) rfl (nlt rfl) rfl rfl rfl rfl rfl ?_
            refine jr.aload_n rfl rfl ?_
            refine jr.iload rfl rfl ?_
            refine jr.bipush rfl (jbp _ (nlt rfl)) ?_
            refine jr.icmp_ne rfl rfl (by first | (refine rgb (by assumption) ?_; exact rfl) | omega) (rgl rfl) (fun h183 => ?_) (fun h183 => ?_)
            · exact absurd h183 (by omega)
            · refine jr.aload_n rfl rfl ?_
              refine jr.getf (i := 63) (x := r41) (v := .int (Int32.ofInt (r41))) rfl rfl (nlt rfl) rfl (nlt rfl) rfl rfl (ju_same _ _ _ _) rfl ?_
              refine jr.goto rfl rfl ?_
              refine jr.putf (i := 64) (x := r41) rfl rfl (nlt rfl) rfl (nlt rfl) rfl rfl rfl rfl rfl ?_
              exact jr.vreturn rfl rfl (q _ (RI.u (RI.u (RI.u (RI.u (RI.u (RI.u (RI.u hI_M (a := 598) (i := 59) (show (0 : Int) ≤ _ ∧ _ ≤ (1 : Int) from by omega)) (a := 598) (i := 61) (show (-9223372036854775808 : Int) ≤ _ ∧ _ ≤ (9223372036854775807 : Int) from by omega)) (a := 598) (i := 62) (show (-9223372036854775808 : Int) ≤ _ ∧ _ ≤ (9223372036854775807 : Int) from by omega)) (a := 598) (i := 65) (show (0 : Int) ≤ _ ∧ _ ≤ (11 : Int) from by omega)) (a := 598) (i := 60) (show (0 : Int) ≤ _ ∧ _ ≤ (255 : Int) from by omega)) (a := 598) (i := 63) (show (0 : Int) ≤ _ ∧ _ ≤ (65535 : Int) from by omega)) (a := 598) (i := 64) (show (0 : Int) ≤ _ ∧ _ ≤ (65535 : Int) from by omega)) (RH.o (RH.o (RH.o (RH.o (RH.o (RH.o (RH.o hH_M (by decide) (by decide) (by decide)) (by decide) (by decide) (by decide)) (by decide) (by decide) (by decide)) (by decide) (by decide) (by decide)) (by decide) (by decide) (by decide)) (by decide) (by decide) (by decide)) (by decide) (by decide) (by decide)) (RF.o (RF.o (RF.o (RF.o (RF.o (RF.o (RF.o hS_M (by decide) (by decide)) (by decide) (by decide)) (by decide) (by decide)) (by decide) (by decide)) (by decide) (by decide)) (by decide) (by decide)) (by decide) (by decide))  (((ju_i _ _ (zne (by decide))).trans ((ju_i _ _ (zne (by decide))).trans ((ju_i _ _ (zne (by decide))).trans (ju_same _ _ _ _)))).trans (by omega)) (fun q => by rw [((ju_i _ _ (zne (by decide))).trans ((ju_i _ _ (zne (by decide))).trans (ju_same _ _ _ _)))] at q; omega) (by rw [((ju_i _ _ (zne (by decide))).trans ((ju_i _ _ (zne (by decide))).trans (ju_same _ _ _ _)))]; omega) (by first | (exfalso; omega) | exact ⟨⟨(by rw [show (ju (ju (ju (ju (ju (ju (ju M 598 59 0) 598 61 r17) 598 62 r30) 598 65 h) 598 60 1) 598 63 r41) 598 64 r41) 598 59 = 0 from ((ju_i _ _ (zne (by decide))).trans ((ju_i _ _ (zne (by decide))).trans ((ju_i _ _ (zne (by decide))).trans ((ju_i _ _ (zne (by decide))).trans ((ju_i _ _ (zne (by decide))).trans ((ju_i _ _ (zne (by decide))).trans (ju_same _ _ _ _))))))), e1]; first | (rw [if_pos (by omega)]) | (rw [if_neg (by omega)])), (by rw [show (ju (ju (ju (ju (ju (ju (ju M 598 59 0) 598 61 r17) 598 62 r30) 598 65 h) 598 60 1) 598 63 r41) 598 64 r41) 598 60 = 1 from ((ju_i _ _ (zne (by decide))).trans ((ju_i _ _ (zne (by decide))).trans (ju_same _ _ _ _))), e31]; unfold nxk; (repeat' split) <;> omega)⟩, ⟨(by rw [show (ju (ju (ju (ju (ju (ju (ju M 598 59 0) 598 61 r17) 598 62 r30) 598 65 h) 598 60 1) 598 63 r41) 598 64 r41) 598 61 = r17 from ((ju_i _ _ (zne (by decide))).trans ((ju_i _ _ (zne (by decide))).trans ((ju_i _ _ (zne (by decide))).trans ((ju_i _ _ (zne (by decide))).trans ((ju_i _ _ (zne (by decide))).trans (ju_same _ _ _ _))))))]; exact te3 p3 p5.1 (by omega) e16 (by omega) rfl ((rf_e (fun i => by rw [ju_c _ _ (by decide)])).trans p4) w17_0), (by rw [show (ju (ju (ju (ju (ju (ju (ju M 598 59 0) 598 61 r17) 598 62 r30) 598 65 h) 598 60 1) 598 63 r41) 598 64 r41) 598 62 = r30 from ((ju_i _ _ (zne (by decide))).trans ((ju_i _ _ (zne (by decide))).trans ((ju_i _ _ (zne (by decide))).trans ((ju_i _ _ (zne (by decide))).trans (ju_same _ _ _ _)))))]; exact te3 p3 p5.1 (by omega) e16 (by omega) rfl ((rf_e (fun i => by rw [ju_c _ _ (by decide), ju_c _ _ (by decide)])).trans p4) w30_0)⟩, ⟨(by rw [show (ju (ju (ju (ju (ju (ju (ju M 598 59 0) 598 61 r17) 598 62 r30) 598 65 h) 598 60 1) 598 63 r41) 598 64 r41) 598 63 = r41 from ((ju_i _ _ (zne (by decide))).trans (ju_same _ _ _ _))]; first | exact tp7 p3 p5.2 (by omega) e40 (by omega) ((rf_e (fun i => by rw [ju_c _ _ (by decide), ju_c _ _ (by decide), ju_c _ _ (by decide), ju_c _ _ (by decide), ju_c _ _ (by decide)])).trans p4) w41_0 (by omega) | exact tp8 (s := 0) p3 p5.2 (by omega) e40 (by first | exact Or.inl ⟨rfl, rfl⟩ | exact Or.inr ⟨rfl, rfl⟩) ((rf_e (fun i => by rw [ju_c _ _ (by decide), ju_c _ _ (by decide), ju_c _ _ (by decide), ju_c _ _ (by decide), ju_c _ _ (by decide)])).trans p4) w41_0 (by omega)), (by rw [show (ju (ju (ju (ju (ju (ju (ju M 598 59 0) 598 61 r17) 598 62 r30) 598 65 h) 598 60 1) 598 63 r41) 598 64 r41) 598 64 = r41 from (ju_same _ _ _ _)]; first | exact tp7 p3 p5.2 (by omega) e40 (by omega) ((rf_e (fun i => by rw [ju_c _ _ (by decide), ju_c _ _ (by decide), ju_c _ _ (by decide), ju_c _ _ (by decide), ju_c _ _ (by decide)])).trans p4) w41_0 (by omega) | exact tp8 (s := 1) p3 p5.2 (by omega) e40 (by first | exact Or.inl ⟨rfl, rfl⟩ | exact Or.inr ⟨rfl, rfl⟩) ((rf_e (fun i => by rw [ju_c _ _ (by decide), ju_c _ _ (by decide), ju_c _ _ (by decide), ju_c _ _ (by decide), ju_c _ _ (by decide)])).trans p4) w41_0 (by omega))⟩⟩) (fun a i f598 => ((ju_c _ _ f598).trans ((ju_c _ _ f598).trans ((ju_c _ _ f598).trans ((ju_c _ _ f598).trans ((ju_c _ _ f598).trans ((ju_c _ _ f598).trans ((ju_c _ _ f598).trans rfl)))))))) (fun i g59 g60 g61 g62 g63 g64 g65 => ((ju_i _ _ g64).trans ((ju_i _ _ g63).trans ((ju_i _ _ g60).trans ((ju_i _ _ g65).trans ((ju_i _ _ g62).trans ((ju_i _ _ g61).trans ((ju_i _ _ g59).trans rfl)))))))))
  · refine jr.iconst rfl ?_
    refine jr.goto rfl rfl ?_
    refine jr.putf (i := 59) (x := 1) rfl rfl (nlt rfl) rfl (nlt rfl) rfl rfl rfl rfl rfl ?_
    refine jr.aload_n rfl rfl ?_
    refine jr.aload_n rfl rfl ?_
    refine jr.getf (i := 59) (x := 1) (v := .int (Int32.ofInt (1))) rfl rfl (nlt rfl) rfl (nlt rfl) rfl rfl (ju_same _ _ _ _) rfl ?_
    refine jr.if_eq rfl rfl (by first | (refine rgb (by assumption) ?_; exact rfl) | omega) (fun h24 => ?_) (fun h24 => ?_)
    · refine jr.aload_n rfl rfl ?_
      refine jr.iload_n rfl rfl ?_
      refine jr.aload_n rfl rfl ?_
      refine jr.getf (i := 8) (v := .ref 604) rfl rfl (nlt rfl) rfl (nlt rfl) rfl rfl rfl rfl ?_
      refine jr.iload_n rfl rfl ?_
      obtain ⟨v42, e42⟩ : ∃ z, M 604 t = z := ⟨_, rfl⟩
      have b42 : 0 ≤ v42 ∧ v42 ≤ 400 := by rw [← e42]; exact (by have q := hI_M 604 t (Nat.le_of_ble_eq_true rfl); rw [xri_row rfl rfl] at q; exact q)
      refine jr.iald (i := t) (x := v42) rfl (nlt rfl) rfl (Nat.le_of_ble_eq_true rfl) (by omega) (by omega) ((ju_c _ _ (by decide)).trans e42) ?_
      refine jr.bipush rfl (jbp _ (nlt rfl)) ?_
      refine jr_v rfl rfl (Or.inl rfl) rfl rfl (nlt rfl) rfl ⟨rfl, Nat.le_of_ble_eq_true rfl, Nat.le_of_ble_eq_true rfl⟩ rfl (jc.deep (r_ofFour_x (RI.u hI_M (a := 598) (i := 59) (show (0 : Int) ≤ _ ∧ _ ≤ (1 : Int) from by omega)) (RH.o hH_M (by decide) (by decide) (by decide)) (RF.o hS_M (by decide) (by decide))  (by omega) (by omega) (by omega)  (fun r43 z43 w43_0 => ?_)) (Nat.le_of_ble_eq_true rfl))
      refine jr.putf (i := 61) (x := r43) rfl rfl (nlt rfl) rfl (nlt rfl) rfl rfl rfl rfl rfl ?_
      refine jr.aload_n rfl rfl ?_
      refine jr.aload_n rfl rfl ?_
      refine jr.getf (i := 59) (x := 1) (v := .int (Int32.ofInt (1))) rfl rfl (nlt rfl) rfl (nlt rfl) rfl rfl ((ju_i _ _ (zne (by decide))).trans (ju_same _ _ _ _)) rfl ?_
      refine jr.if_eq rfl rfl (by first | (refine rgb (by assumption) ?_; exact rfl) | omega) (fun h63 => ?_) (fun h63 => ?_)
      · refine jr.aload_n rfl rfl ?_
        refine jr.iload_n rfl rfl ?_
        refine jr.aload_n rfl rfl ?_
        refine jr.getf (i := 8) (v := .ref 604) rfl rfl (nlt rfl) rfl (nlt rfl) rfl rfl rfl rfl ?_
        refine jr.iload_n rfl rfl ?_
        refine jr.iald (i := t) (x := v42) rfl (nlt rfl) rfl (Nat.le_of_ble_eq_true rfl) (by omega) (by omega) ((ju_c _ _ (by decide)).trans ((ju_c _ _ (by decide)).trans e42)) ?_
        refine jr.bipush rfl (jbp _ (nlt rfl)) ?_
        refine jr_v rfl rfl (Or.inl rfl) rfl rfl (nlt rfl) rfl ⟨rfl, Nat.le_of_ble_eq_true rfl, Nat.le_of_ble_eq_true rfl⟩ rfl (jc.deep (r_ofFour_x (RI.u (RI.u hI_M (a := 598) (i := 59) (show (0 : Int) ≤ _ ∧ _ ≤ (1 : Int) from by omega)) (a := 598) (i := 61) (show (-9223372036854775808 : Int) ≤ _ ∧ _ ≤ (9223372036854775807 : Int) from by omega)) (RH.o (RH.o hH_M (by decide) (by decide) (by decide)) (by decide) (by decide) (by decide)) (RF.o (RF.o hS_M (by decide) (by decide)) (by decide) (by decide))  (by omega) (by omega) (by omega)  (fun r44 z44 w44_0 => ?_)) (Nat.le_of_ble_eq_true rfl))
        refine jr.putf (i := 62) (x := r44) rfl rfl (nlt rfl) rfl (nlt rfl) rfl rfl rfl rfl rfl ?_
        refine jr.aload_n rfl rfl ?_
        refine jr.getf (i := 7) (v := .ref 603) rfl rfl (nlt rfl) rfl (nlt rfl) rfl rfl rfl rfl ?_
        refine jr.iload_n rfl rfl ?_
        obtain ⟨v45, e45⟩ : ∃ z, M 603 h = z := ⟨_, rfl⟩
        have b45 : 0 ≤ v45 ∧ v45 ≤ 11 := by rw [← e45]; exact (by have q := hI_M 603 h (Nat.le_of_ble_eq_true rfl); rw [xri_row rfl rfl] at q; exact q)
        refine jr.iald (i := h) (x := v45) rfl (nlt rfl) rfl (Nat.le_of_ble_eq_true rfl) (by omega) (by omega) ((ju_c _ _ (by decide)).trans ((ju_c _ _ (by decide)).trans ((ju_c _ _ (by decide)).trans e45))) ?_
        refine jr.istore (ls' := [_, _, _, _, _]) rfl (nlt rfl) rfl ?_
        refine jr.aload_n rfl rfl ?_
        refine jr.iload_n rfl rfl ?_
        refine jr.putf (i := 65) (x := h) rfl rfl (nlt rfl) rfl (nlt rfl) rfl rfl rfl rfl rfl ?_
        refine jr.aload_n rfl rfl ?_
        refine jr.iload rfl rfl ?_
        refine jr.bipush rfl (jbp _ (nlt rfl)) ?_
        refine jr.icmp_ne rfl rfl (by first | (refine rgb (by assumption) ?_; exact rfl) | omega) (rgl rfl) (fun h116 => ?_) (fun h116 => ?_)
        · refine jr.iload rfl rfl ?_
          refine jr.bipush rfl (jbp _ (nlt rfl)) ?_
          refine jr.icmp_ne rfl rfl (by first | (refine rgb (by assumption) ?_; exact rfl) | omega) (rgl rfl) (fun h127 => ?_) (fun h127 => ?_)
          · refine jr.bipush rfl (jbp _ (nlt rfl)) ?_
            refine jr.putf (i := 60) (x := 17) rfl rfl (nlt rfl) rfl (nlt rfl) rfl rfl rfl rfl rfl ?_
            refine jr.aload_n rfl rfl ?_
            refine jr.iload rfl rfl ?_
            refine jr.bipush rfl (jbp _ (nlt rfl)) ?_
            refine jr.icmp_ne rfl rfl (by first | (refine rgb (by assumption) ?_; exact rfl) | omega) (rgl rfl) (fun h145 => ?_) (fun h145 => ?_)
            · refine jr.aload_n rfl rfl ?_
              refine jr.iload_n rfl rfl ?_
              refine jr.aload_n rfl rfl ?_
              refine jr.getf (i := 8) (v := .ref 604) rfl rfl (nlt rfl) rfl (nlt rfl) rfl rfl rfl rfl ?_
              refine jr.iload_n rfl rfl ?_
              obtain ⟨v46, e46⟩ : ∃ z, M 604 h = z := ⟨_, rfl⟩
              have b46 : 0 ≤ v46 ∧ v46 ≤ 400 := by rw [← e46]; exact (by have q := hI_M 604 h (Nat.le_of_ble_eq_true rfl); rw [xri_row rfl rfl] at q; exact q)
              refine jr.iald (i := h) (x := v46) rfl (nlt rfl) rfl (Nat.le_of_ble_eq_true rfl) (by omega) (by omega) ((ju_c _ _ (by decide)).trans ((ju_c _ _ (by decide)).trans ((ju_c _ _ (by decide)).trans ((ju_c _ _ (by decide)).trans ((ju_c _ _ (by decide)).trans e46))))) ?_
              refine jr_v rfl rfl (Or.inl rfl) rfl rfl (nlt rfl) rfl ⟨rfl, Nat.le_of_ble_eq_true rfl, Nat.le_of_ble_eq_true rfl⟩ rfl (jc.deep (r_two_x (RI.u (RI.u (RI.u (RI.u (RI.u hI_M (a := 598) (i := 59) (show (0 : Int) ≤ _ ∧ _ ≤ (1 : Int) from by omega)) (a := 598) (i := 61) (show (-9223372036854775808 : Int) ≤ _ ∧ _ ≤ (9223372036854775807 : Int) from by omega)) (a := 598) (i := 62) (show (-9223372036854775808 : Int) ≤ _ ∧ _ ≤ (9223372036854775807 : Int) from by omega)) (a := 598) (i := 65) (show (0 : Int) ≤ _ ∧ _ ≤ (11 : Int) from by omega)) (a := 598) (i := 60) (show (0 : Int) ≤ _ ∧ _ ≤ (255 : Int) from by omega)) (RH.o (RH.o (RH.o (RH.o (RH.o hH_M (by decide) (by decide) (by decide)) (by decide) (by decide) (by decide)) (by decide) (by decide) (by decide)) (by decide) (by decide) (by decide)) (by decide) (by decide) (by decide)) (RF.o (RF.o (RF.o (RF.o (RF.o hS_M (by decide) (by decide)) (by decide) (by decide)) (by decide) (by decide)) (by decide) (by decide)) (by decide) (by decide))  (by omega) (by omega)  (fun r47 z47 w47_0 => ?_)) (Nat.le_of_ble_eq_true rfl))
              refine jr.putf (i := 63) (x := r47) rfl rfl (nlt rfl) rfl (nlt rfl) rfl rfl rfl rfl rfl ?_
              refine jr.aload_n rfl rfl ?_
              refine jr.iload rfl rfl ?_
              refine jr.bipush rfl (jbp _ (nlt rfl)) ?_
              refine jr.icmp_ne rfl rfl (by first | (refine rgb (by assumption) ?_; exact rfl) | omega) (rgl rfl) (fun h183 => ?_) (fun h183 => ?_)
              · refine jr.aload_n rfl rfl ?_
                refine jr.iload_n rfl rfl ?_
                refine jr.aload_n rfl rfl ?_
                refine jr.getf (i := 8) (v := .ref 604) rfl rfl (nlt rfl) rfl (nlt rfl) rfl rfl rfl rfl ?_
                refine jr.iload_n rfl rfl ?_
                refine jr.iald (i := h) (x := v46) rfl (nlt rfl) rfl (Nat.le_of_ble_eq_true rfl) (by omega) (by omega) ((ju_c _ _ (by decide)).trans ((ju_c _ _ (by decide)).trans ((ju_c _ _ (by decide)).trans ((ju_c _ _ (by decide)).trans ((ju_c _ _ (by decide)).trans ((ju_c _ _ (by decide)).trans e46)))))) ?_
                refine jr.iconst rfl ?_
                refine jr.iadd rfl ?_
                refine jr_v rfl rfl (Or.inl rfl) rfl rfl (nlt rfl) rfl ⟨rfl, Nat.le_of_ble_eq_true rfl, Nat.le_of_ble_eq_true rfl⟩ rfl (jc.deep (r_two_x (RI.u (RI.u (RI.u (RI.u (RI.u (RI.u hI_M (a := 598) (i := 59) (show (0 : Int) ≤ _ ∧ _ ≤ (1 : Int) from by omega)) (a := 598) (i := 61) (show (-9223372036854775808 : Int) ≤ _ ∧ _ ≤ (9223372036854775807 : Int) from by omega)) (a := 598) (i := 62) (show (-9223372036854775808 : Int) ≤ _ ∧ _ ≤ (9223372036854775807 : Int) from by omega)) (a := 598) (i := 65) (show (0 : Int) ≤ _ ∧ _ ≤ (11 : Int) from by omega)) (a := 598) (i := 60) (show (0 : Int) ≤ _ ∧ _ ≤ (255 : Int) from by omega)) (a := 598) (i := 63) (show (0 : Int) ≤ _ ∧ _ ≤ (65535 : Int) from by omega)) (RH.o (RH.o (RH.o (RH.o (RH.o (RH.o hH_M (by decide) (by decide) (by decide)) (by decide) (by decide) (by decide)) (by decide) (by decide) (by decide)) (by decide) (by decide) (by decide)) (by decide) (by decide) (by decide)) (by decide) (by decide) (by decide)) (RF.o (RF.o (RF.o (RF.o (RF.o (RF.o hS_M (by decide) (by decide)) (by decide) (by decide)) (by decide) (by decide)) (by decide) (by decide)) (by decide) (by decide)) (by decide) (by decide))  (by omega) (by omega)  (fun r48 z48 w48_0 => ?_)) (Nat.le_of_ble_eq_true rfl))
                refine jr.putf (i := 64) (x := r48) rfl rfl (nlt rfl) rfl (nlt rfl) rfl rfl rfl rfl rfl ?_
                exact jr.vreturn rfl rfl (q _ (RI.u (RI.u (RI.u (RI.u (RI.u (RI.u (RI.u hI_M (a := 598) (i := 59) (show (0 : Int) ≤ _ ∧ _ ≤ (1 : Int) from by omega)) (a := 598) (i := 61) (show (-9223372036854775808 : Int) ≤ _ ∧ _ ≤ (9223372036854775807 : Int) from by omega)) (a := 598) (i := 62) (show (-9223372036854775808 : Int) ≤ _ ∧ _ ≤ (9223372036854775807 : Int) from by omega)) (a := 598) (i := 65) (show (0 : Int) ≤ _ ∧ _ ≤ (11 : Int) from by omega)) (a := 598) (i := 60) (show (0 : Int) ≤ _ ∧ _ ≤ (255 : Int) from by omega)) (a := 598) (i := 63) (show (0 : Int) ≤ _ ∧ _ ≤ (65535 : Int) from by omega)) (a := 598) (i := 64) (show (0 : Int) ≤ _ ∧ _ ≤ (65535 : Int) from by omega)) (RH.o (RH.o (RH.o (RH.o (RH.o (RH.o (RH.o hH_M (by decide) (by decide) (by decide)) (by decide) (by decide) (by decide)) (by decide) (by decide) (by decide)) (by decide) (by decide) (by decide)) (by decide) (by decide) (by decide)) (by decide) (by decide) (by decide)) (by decide) (by decide) (by decide)) (RF.o (RF.o (RF.o (RF.o (RF.o (RF.o (RF.o hS_M (by decide) (by decide)) (by decide) (by decide)) (by decide) (by decide)) (by decide) (by decide)) (by decide) (by decide)) (by decide) (by decide)) (by decide) (by decide))  (((ju_i _ _ (zne (by decide))).trans ((ju_i _ _ (zne (by decide))).trans ((ju_i _ _ (zne (by decide))).trans (ju_same _ _ _ _)))).trans (by omega)) (fun q => by rw [((ju_i _ _ (zne (by decide))).trans ((ju_i _ _ (zne (by decide))).trans (ju_same _ _ _ _)))] at q; omega) (by rw [((ju_i _ _ (zne (by decide))).trans ((ju_i _ _ (zne (by decide))).trans (ju_same _ _ _ _)))]; omega) (by first | (exfalso; omega) | exact ⟨⟨(by rw [show (ju (ju (ju (ju (ju (ju (ju M 598 59 1) 598 61 r43) 598 62 r44) 598 65 h) 598 60 17) 598 63 r47) 598 64 r48) 598 59 = 1 from ((ju_i _ _ (zne (by decide))).trans ((ju_i _ _ (zne (by decide))).trans ((ju_i _ _ (zne (by decide))).trans ((ju_i _ _ (zne (by decide))).trans ((ju_i _ _ (zne (by decide))).trans ((ju_i _ _ (zne (by decide))).trans (ju_same _ _ _ _))))))), e1]; first | (rw [if_pos (by omega)]) | (rw [if_neg (by omega)])), (by rw [show (ju (ju (ju (ju (ju (ju (ju M 598 59 1) 598 61 r43) 598 62 r44) 598 65 h) 598 60 17) 598 63 r47) 598 64 r48) 598 60 = 17 from ((ju_i _ _ (zne (by decide))).trans ((ju_i _ _ (zne (by decide))).trans (ju_same _ _ _ _))), e45]; unfold nxk; (repeat' split) <;> omega)⟩, ⟨(by rw [show (ju (ju (ju (ju (ju (ju (ju M 598 59 1) 598 61 r43) 598 62 r44) 598 65 h) 598 60 17) 598 63 r47) 598 64 r48) 598 61 = r43 from ((ju_i _ _ (zne (by decide))).trans ((ju_i _ _ (zne (by decide))).trans ((ju_i _ _ (zne (by decide))).trans ((ju_i _ _ (zne (by decide))).trans ((ju_i _ _ (zne (by decide))).trans (ju_same _ _ _ _))))))]; exact te2 p3 p5.1 (by omega) e42 (by omega) rfl ((rf_e (fun i => by rw [ju_c _ _ (by decide)])).trans p4) w43_0), (by rw [show (ju (ju (ju (ju (ju (ju (ju M 598 59 1) 598 61 r43) 598 62 r44) 598 65 h) 598 60 17) 598 63 r47) 598 64 r48) 598 62 = r44 from ((ju_i _ _ (zne (by decide))).trans ((ju_i _ _ (zne (by decide))).trans ((ju_i _ _ (zne (by decide))).trans ((ju_i _ _ (zne (by decide))).trans (ju_same _ _ _ _)))))]; exact te2 p3 p5.1 (by omega) e42 (by omega) rfl ((rf_e (fun i => by rw [ju_c _ _ (by decide), ju_c _ _ (by decide)])).trans p4) w44_0)⟩, ⟨(by rw [show (ju (ju (ju (ju (ju (ju (ju M 598 59 1) 598 61 r43) 598 62 r44) 598 65 h) 598 60 17) 598 63 r47) 598 64 r48) 598 63 = r47 from ((ju_i _ _ (zne (by decide))).trans (ju_same _ _ _ _))]; first | exact tp7 p3 p5.2 (by omega) e46 (by omega) ((rf_e (fun i => by rw [ju_c _ _ (by decide), ju_c _ _ (by decide), ju_c _ _ (by decide), ju_c _ _ (by decide), ju_c _ _ (by decide)])).trans p4) w47_0 (by omega) | exact tp8 (s := 0) p3 p5.2 (by omega) e46 (by first | exact Or.inl ⟨rfl, rfl⟩ | exact Or.inr ⟨rfl, rfl⟩) ((rf_e (fun i => by rw [ju_c _ _ (by decide), ju_c _ _ (by decide), ju_c _ _ (by decide), ju_c _ _ (by decide), ju_c _ _ (by decide)])).trans p4) w47_0 (by omega)), (by rw [show (ju (ju (ju (ju (ju (ju (ju M 598 59 1) 598 61 r43) 598 62 r44) 598 65 h) 598 60 17) 598 63 r47) 598 64 r48) 598 64 = r48 from (ju_same _ _ _ _)]; first | exact tp7 p3 p5.2 (by omega) e46 (by omega) ((rf_e (fun i => by rw [ju_c _ _ (by decide), ju_c _ _ (by decide), ju_c _ _ (by decide), ju_c _ _ (by decide), ju_c _ _ (by decide), ju_c _ _ (by decide)])).trans p4) w48_0 (by omega) | exact tp8 (s := 1) p3 p5.2 (by omega) e46 (by first | exact Or.inl ⟨rfl, rfl⟩ | exact Or.inr ⟨rfl, rfl⟩) ((rf_e (fun i => by rw [ju_c _ _ (by decide), ju_c _ _ (by decide), ju_c _ _ (by decide), ju_c _ _ (by decide), ju_c _ _ (by decide), ju_c _ _ (by decide)])).trans p4) w48_0 (by omega))⟩⟩) (fun a i f598 => ((ju_c _ _ f598).trans ((ju_c _ _ f598).trans ((ju_c _ _ f598).trans ((ju_c _ _ f598).trans ((ju_c _ _ f598).trans ((ju_c _ _ f598).trans ((ju_c _ _ f598).trans rfl)))))))) (fun i g59 g60 g61 g62 g63 g64 g65 => ((ju_i _ _ g64).trans ((ju_i _ _ g63).trans ((ju_i _ _ g60).trans ((ju_i _ _ g65).trans ((ju_i _ _ g62).trans ((ju_i _ _ g61).trans ((ju_i _ _ g59).trans rfl)))))))))
              · exact absurd h145 h183
            · exact absurd h116 h145
          · refine jr.bipush rfl (jbp _ (nlt rfl)) ?_
            refine jr.goto rfl rfl ?_
            refine jr.putf (i := 60) (x := 6) rfl rfl (nlt rfl) rfl (nlt rfl) rfl rfl rfl rfl rfl ?_
            refine jr.aload_n rfl rfl ?_
            refine jr.iload rfl rfl ?_
            refine jr.bipush rfl (jbp _ (nlt rfl)) ?_
            refine jr.icmp_ne rfl rfl (by first | (refine rgb (by assumption) ?_; exact rfl) | omega) (rgl rfl) (fun h145 => ?_) (fun h145 => ?_)
            · refine jr.aload_n rfl rfl ?_
              refine jr.iload_n rfl rfl ?_
              refine jr.aload_n rfl rfl ?_
              refine jr.getf (i := 8) (v := .ref 604) rfl rfl (nlt rfl) rfl (nlt rfl) rfl rfl rfl rfl ?_
              refine jr.iload_n rfl rfl ?_
              obtain ⟨v51, e51⟩ : ∃ z, M 604 h = z := ⟨_, rfl⟩
              have b51 : 0 ≤ v51 ∧ v51 ≤ 400 := by rw [← e51]; exact (by have q := hI_M 604 h (Nat.le_of_ble_eq_true rfl); rw [xri_row rfl rfl] at q; exact q)
              refine jr.iald (i := h) (x := v51) rfl (nlt rfl) rfl (Nat.le_of_ble_eq_true rfl) (by omega) (by omega) ((ju_c _ _ (by decide)).trans ((ju_c _ _ (by decide)).trans ((ju_c _ _ (by decide)).trans ((ju_c _ _ (by decide)).trans ((ju_c _ _ (by decide)).trans e51))))) ?_
              refine jr_v rfl rfl (Or.inl rfl) rfl rfl (nlt rfl) rfl ⟨rfl, Nat.le_of_ble_eq_true rfl, Nat.le_of_ble_eq_true rfl⟩ rfl (jc.deep (r_two_x (RI.u (RI.u (RI.u (RI.u (RI.u hI_M (a := 598) (i := 59) (show (0 : Int) ≤ _ ∧ _ ≤ (1 : Int) from by omega)) (a := 598) (i := 61) (show (-9223372036854775808 : Int) ≤ _ ∧ _ ≤ (9223372036854775807 : Int) from by omega)) (a := 598) (i := 62) (show (-9223372036854775808 : Int) ≤ _ ∧ _ ≤ (9223372036854775807 : Int) from by omega)) (a := 598) (i := 65) (show (0 : Int) ≤ _ ∧ _ ≤ (11 : Int) from by omega)) (a := 598) (i := 60) (show (0 : Int) ≤ _ ∧ _ ≤ (255 : Int) from by omega)) (RH.o (RH.o (RH.o (RH.o (RH.o hH_M (by decide) (by decide) (by decide)) (by decide) (by decide) (by decide)) (by decide) (by decide) (by decide)) (by decide) (by decide) (by decide)) (by decide) (by decide) (by decide)) (RF.o (RF.o (RF.o (RF.o (RF.o hS_M (by decide) (by decide)) (by decide) (by decide)) (by decide) (by decide)) (by decide) (by decide)) (by decide) (by decide))  (by omega) (by omega)  (fun r52 z52 w52_0 => ?_)) (Nat.le_of_ble_eq_true rfl))
              refine jr.putf (i := 63) (x := r52) rfl rfl (nlt rfl) rfl (nlt rfl) rfl rfl rfl rfl rfl ?_
              refine jr.aload_n rfl rfl ?_
              refine jr.iload rfl rfl ?_
              refine jr.bipush rfl (jbp _ (nlt rfl)) ?_
              refine jr.icmp_ne rfl rfl (by first | (refine rgb (by assumption) ?_; exact rfl) | omega) (rgl rfl) (fun h183 => ?_) (fun h183 => ?_)
              · refine jr.aload_n rfl rfl ?_
                refine jr.iload_n rfl rfl ?_
                refine jr.aload_n rfl rfl ?_
                refine jr.getf (i := 8) (v := .ref 604) rfl rfl (nlt rfl) rfl (nlt rfl) rfl rfl rfl rfl ?_
                refine jr.iload_n rfl rfl ?_
                refine jr.iald (i := h) (x := v51) rfl (nlt rfl) rfl (Nat.le_of_ble_eq_true rfl) (by omega) (by omega) ((ju_c _ _ (by decide)).trans ((ju_c _ _ (by decide)).trans ((ju_c _ _ (by decide)).trans ((ju_c _ _ (by decide)).trans ((ju_c _ _ (by decide)).trans ((ju_c _ _ (by decide)).trans e51)))))) ?_
                refine jr.iconst rfl ?_
                refine jr.iadd rfl ?_
                refine jr_v rfl rfl (Or.inl rfl) rfl rfl (nlt rfl) rfl ⟨rfl, Nat.le_of_ble_eq_true rfl, Nat.le_of_ble_eq_true rfl⟩ rfl (jc.deep (r_two_x (RI.u (RI.u (RI.u (RI.u (RI.u (RI.u hI_M (a := 598) (i := 59) (show (0 : Int) ≤ _ ∧ _ ≤ (1 : Int) from by omega)) (a := 598) (i := 61) (show (-9223372036854775808 : Int) ≤ _ ∧ _ ≤ (9223372036854775807 : Int) from by omega)) (a := 598) (i := 62) (show (-9223372036854775808 : Int) ≤ _ ∧ _ ≤ (9223372036854775807 : Int) from by omega)) (a := 598) (i := 65) (show (0 : Int) ≤ _ ∧ _ ≤ (11 : Int) from by omega)) (a := 598) (i := 60) (show (0 : Int) ≤ _ ∧ _ ≤ (255 : Int) from by omega)) (a := 598) (i := 63) (show (0 : Int) ≤ _ ∧ _ ≤ (65535 : Int) from by omega)) (RH.o (RH.o (RH.o (RH.o (RH.o (RH.o hH_M (by decide) (by decide) (by decide)) (by decide) (by decide) (by decide)) (by decide) (by decide) (by decide)) (by decide) (by decide) (by decide)) (by decide) (by decide) (by decide)) (by decide) (by decide) (by decide)) (RF.o (RF.o (RF.o (RF.o (RF.o (RF.o hS_M (by decide) (by decide)) (by decide) (by decide)) (by decide) (by decide)) (by decide) (by decide)) (by decide) (by decide)) (by decide) (by decide))  (by omega) (by omega)  (fun r53 z53 w53_0 => ?_)) (Nat.le_of_ble_eq_true rfl))
                refine jr.putf (i := 64) (x := r53) rfl rfl (nlt rfl) rfl (nlt rfl) rfl rfl rfl rfl rfl ?_
                exact jr.vreturn rfl rfl (q _ (RI.u (RI.u (RI.u (RI.u (RI.u (RI.u (RI.u hI_M (a := 598) (i := 59) (show (0 : Int) ≤ _ ∧ _ ≤ (1 : Int) from by omega)) (a := 598) (i := 61) (show (-9223372036854775808 : Int) ≤ _ ∧ _ ≤ (9223372036854775807 : Int) from by omega)) (a := 598) (i := 62) (show (-9223372036854775808 : Int) ≤ _ ∧ _ ≤ (9223372036854775807 : Int) from by omega)) (a := 598) (i := 65) (show (0 : Int) ≤ _ ∧ _ ≤ (11 : Int) from by omega)) (a := 598) (i := 60) (show (0 : Int) ≤ _ ∧ _ ≤ (255 : Int) from by omega)) (a := 598) (i := 63) (show (0 : Int) ≤ _ ∧ _ ≤ (65535 : Int) from by omega)) (a := 598) (i := 64) (show (0 : Int) ≤ _ ∧ _ ≤ (65535 : Int) from by omega)) (RH.o (RH.o (RH.o (RH.o (RH.o (RH.o (RH.o hH_M (by decide) (by decide) (by decide)) (by decide) (by decide) (by decide)) (by decide) (by decide) (by decide)) (by decide) (by decide) (by decide)) (by decide) (by decide) (by decide)) (by decide) (by decide) (by decide)) (by decide) (by decide) (by decide)) (RF.o (RF.o (RF.o (RF.o (RF.o (RF.o (RF.o hS_M (by decide) (by decide)) (by decide) (by decide)) (by decide) (by decide)) (by decide) (by decide)) (by decide) (by decide)) (by decide) (by decide)) (by decide) (by decide))  (((ju_i _ _ (zne (by decide))).trans ((ju_i _ _ (zne (by decide))).trans ((ju_i _ _ (zne (by decide))).trans (ju_same _ _ _ _)))).trans (by omega)) (fun q => by rw [((ju_i _ _ (zne (by decide))).trans ((ju_i _ _ (zne (by decide))).trans (ju_same _ _ _ _)))] at q; omega) (by rw [((ju_i _ _ (zne (by decide))).trans ((ju_i _ _ (zne (by decide))).trans (ju_same _ _ _ _)))]; omega) (by first | (exfalso; omega) | exact ⟨⟨(by rw [show (ju (ju (ju (ju (ju (ju (ju M 598 59 1) 598 61 r43) 598 62 r44) 598 65 h) 598 60 6) 598 63 r52) 598 64 r53) 598 59 = 1 from ((ju_i _ _ (zne (by decide))).trans ((ju_i _ _ (zne (by decide))).trans ((ju_i _ _ (zne (by decide))).trans ((ju_i _ _ (zne (by decide))).trans ((ju_i _ _ (zne (by decide))).trans ((ju_i _ _ (zne (by decide))).trans (ju_same _ _ _ _))))))), e1]; first | (rw [if_pos (by omega)]) | (rw [if_neg (by omega)])), (by rw [show (ju (ju (ju (ju (ju (ju (ju M 598 59 1) 598 61 r43) 598 62 r44) 598 65 h) 598 60 6) 598 63 r52) 598 64 r53) 598 60 = 6 from ((ju_i _ _ (zne (by decide))).trans ((ju_i _ _ (zne (by decide))).trans (ju_same _ _ _ _))), e45]; unfold nxk; (repeat' split) <;> omega)⟩, ⟨(by rw [show (ju (ju (ju (ju (ju (ju (ju M 598 59 1) 598 61 r43) 598 62 r44) 598 65 h) 598 60 6) 598 63 r52) 598 64 r53) 598 61 = r43 from ((ju_i _ _ (zne (by decide))).trans ((ju_i _ _ (zne (by decide))).trans ((ju_i _ _ (zne (by decide))).trans ((ju_i _ _ (zne (by decide))).trans ((ju_i _ _ (zne (by decide))).trans (ju_same _ _ _ _))))))]; exact te2 p3 p5.1 (by omega) e42 (by omega) rfl ((rf_e (fun i => by rw [ju_c _ _ (by decide)])).trans p4) w43_0), (by rw [show (ju (ju (ju (ju (ju (ju (ju M 598 59 1) 598 61 r43) 598 62 r44) 598 65 h) 598 60 6) 598 63 r52) 598 64 r53) 598 62 = r44 from ((ju_i _ _ (zne (by decide))).trans ((ju_i _ _ (zne (by decide))).trans ((ju_i _ _ (zne (by decide))).trans ((ju_i _ _ (zne (by decide))).trans (ju_same _ _ _ _)))))]; exact te2 p3 p5.1 (by omega) e42 (by omega) rfl ((rf_e (fun i => by rw [ju_c _ _ (by decide), ju_c _ _ (by decide)])).trans p4) w44_0)⟩, ⟨(by rw [show (ju (ju (ju (ju (ju (ju (ju M 598 59 1) 598 61 r43) 598 62 r44) 598 65 h) 598 60 6) 598 63 r52) 598 64 r53) 598 63 = r52 from ((ju_i _ _ (zne (by decide))).trans (ju_same _ _ _ _))]; first | exact tp7 p3 p5.2 (by omega) e51 (by omega) ((rf_e (fun i => by rw [ju_c _ _ (by decide), ju_c _ _ (by decide), ju_c _ _ (by decide), ju_c _ _ (by decide), ju_c _ _ (by decide)])).trans p4) w52_0 (by omega) | exact tp8 (s := 0) p3 p5.2 (by omega) e51 (by first | exact Or.inl ⟨rfl, rfl⟩ | exact Or.inr ⟨rfl, rfl⟩) ((rf_e (fun i => by rw [ju_c _ _ (by decide), ju_c _ _ (by decide), ju_c _ _ (by decide), ju_c _ _ (by decide), ju_c _ _ (by decide)])).trans p4) w52_0 (by omega)), (by rw [show (ju (ju (ju (ju (ju (ju (ju M 598 59 1) 598 61 r43) 598 62 r44) 598 65 h) 598 60 6) 598 63 r52) 598 64 r53) 598 64 = r53 from (ju_same _ _ _ _)]; first | exact tp7 p3 p5.2 (by omega) e51 (by omega) ((rf_e (fun i => by rw [ju_c _ _ (by decide), ju_c _ _ (by decide), ju_c _ _ (by decide), ju_c _ _ (by decide), ju_c _ _ (by decide), ju_c _ _ (by decide)])).trans p4) w53_0 (by omega) | exact tp8 (s := 1) p3 p5.2 (by omega) e51 (by first | exact Or.inl ⟨rfl, rfl⟩ | exact Or.inr ⟨rfl, rfl⟩) ((rf_e (fun i => by rw [ju_c _ _ (by decide), ju_c _ _ (by decide), ju_c _ _ (by decide), ju_c _ _ (by decide), ju_c _ _ (by decide), ju_c _ _ (by decide)])).trans p4) w53_0 (by omega))⟩⟩) (fun a i f598 => ((ju_c _ _ f598).trans ((ju_c _ _ f598).trans ((ju_c _ _ f598).trans ((ju_c _ _ f598).trans ((ju_c _ _ f598).trans ((ju_c _ _ f598).trans ((ju_c _ _ f598).trans rfl)))))))) (fun i g59 g60 g61 g62 g63 g64 g65 => ((ju_i _ _ g64).trans ((ju_i _ _ g63).trans ((ju_i _ _ g60).trans ((ju_i _ _ g65).trans ((ju_i _ _ g62).trans ((ju_i _ _ g61).trans ((ju_i _ _ g59).trans rfl)))))))))
              · exact absurd (by omega) h183
            · exact absurd (by omega) h145
        · refine jr.iconst rfl ?_
          refine jr.goto rfl rfl ?_
          refine jr.putf (i := 60) (x := 1) rfl rfl (nlt rfl) rfl (nlt rfl) rfl rfl rfl rfl rfl ?_
          refine jr.aload_n rfl rfl ?_
          refine jr.iload rfl rfl ?_
          refine jr.bipush rfl (jbp _ (nlt rfl)) ?_
          refine jr.icmp_ne rfl rfl (by first | (refine rgb (by assumption) ?_; exact rfl) | omega) (rgl rfl) (fun h145 => ?_) (fun h145 => ?_)
          · exact absurd h145 (by omega)
          · refine jr.aload_n rfl rfl ?_
            refine jr.iload_n rfl rfl ?_
            refine jr.aload_n rfl rfl ?_
            refine jr.getf (i := 8) (v := .ref 604) rfl rfl (nlt rfl) rfl (nlt rfl) rfl rfl rfl rfl ?_
            refine jr.iload_n rfl rfl ?_
            obtain ⟨v54, e54⟩ : ∃ z, M 604 h = z := ⟨_, rfl⟩
            have b54 : 0 ≤ v54 ∧ v54 ≤ 400 := by rw [← e54]; exact (by have q := hI_M 604 h (Nat.le_of_ble_eq_true rfl); rw [xri_row rfl rfl] at q; exact q)
            refine jr.iald (i := h) (x := v54) rfl (nlt rfl) rfl (Nat.le_of_ble_eq_true rfl) (by omega) (by omega) ((ju_c _ _ (by decide)).trans ((ju_c _ _ (by decide)).trans ((ju_c _ _ (by decide)).trans ((ju_c _ _ (by decide)).trans ((ju_c _ _ (by decide)).trans e54))))) ?_
            refine jr.iconst rfl ?_
            refine jr.iadd rfl ?_
            refine jr_v rfl rfl (Or.inl rfl) rfl rfl (nlt rfl) rfl ⟨rfl, Nat.le_of_ble_eq_true rfl, Nat.le_of_ble_eq_true rfl⟩ rfl (jc.deep (r_two_x (RI.u (RI.u (RI.u (RI.u (RI.u hI_M (a := 598) (i := 59) (show (0 : Int) ≤ _ ∧ _ ≤ (1 : Int) from by omega)) (a := 598) (i := 61) (show (-9223372036854775808 : Int) ≤ _ ∧ _ ≤ (9223372036854775807 : Int) from by omega)) (a := 598) (i := 62) (show (-9223372036854775808 : Int) ≤ _ ∧ _ ≤ (9223372036854775807 : Int) from by omega)) (a := 598) (i := 65) (show (0 : Int) ≤ _ ∧ _ ≤ (11 : Int) from by omega)) (a := 598) (i := 60) (show (0 : Int) ≤ _ ∧ _ ≤ (255 : Int) from by omega)) (RH.o (RH.o (RH.o (RH.o (RH.o hH_M (by decide) (by decide) (by decide)) (by decide) (by decide) (by decide)) (by decide) (by decide) (by decide)) (by decide) (by decide) (by decide)) (by decide) (by decide) (by decide)) (RF.o (RF.o (RF.o (RF.o (RF.o hS_M (by decide) (by decide)) (by decide) (by decide)) (by decide) (by decide)) (by decide) (by decide)) (by decide) (by decide))  (by omega) (by omega)  (fun r55 z55 w55_0 => ?_)) (Nat.le_of_ble_eq_true rfl))
            refine jr.goto rfl rfl ?_
            refine jr.putf (i := 63) (x := r55) rfl rfl (nlt rfl) rfl (nlt rfl) rfl rfl rfl rfl rfl ?_
            refine jr.aload_n rfl rfl ?_
            refine jr.iload rfl rfl ?_
            refine jr.bipush rfl (jbp _ (nlt rfl)) ?_
            refine jr.icmp_ne rfl rfl (by first | (refine rgb (by assumption) ?_; exact rfl) | omega) (rgl rfl) (fun h183 => ?_) (fun h183 => ?_)
            · exact absurd h183 (by omega)
            · refine jr.aload_n rfl rfl ?_
              refine jr.getf (i := 63) (x := r55) (v := .int (Int32.ofInt (r55))) rfl rfl (nlt rfl) rfl (nlt rfl) rfl rfl (ju_same _ _ _ _) rfl ?_
              refine jr.goto rfl rfl ?_
              refine jr.putf (i := 64) (x := r55) rfl rfl (nlt rfl) rfl (nlt rfl) rfl rfl rfl rfl rfl ?_
              exact jr.vreturn rfl rfl (q _ (RI.u (RI.u (RI.u (RI.u (RI.u (RI.u (RI.u hI_M (a := 598) (i := 59) (show (0 : Int) ≤ _ ∧ _ ≤ (1 : Int) from by omega)) (a := 598) (i := 61) (show (-9223372036854775808 : Int) ≤ _ ∧ _ ≤ (9223372036854775807 : Int) from by omega)) (a := 598) (i := 62) (show (-9223372036854775808 : Int) ≤ _ ∧ _ ≤ (9223372036854775807 : Int) from by omega)) (a := 598) (i := 65) (show (0 : Int) ≤ _ ∧ _ ≤ (11 : Int) from by omega)) (a := 598) (i := 60) (show (0 : Int) ≤ _ ∧ _ ≤ (255 : Int) from by omega)) (a := 598) (i := 63) (show (0 : Int) ≤ _ ∧ _ ≤ (65535 : Int) from by omega)) (a := 598) (i := 64) (show (0 : Int) ≤ _ ∧ _ ≤ (65535 : Int) from by omega)) (RH.o (RH.o (RH.o (RH.o (RH.o (RH.o (RH.o hH_M (by decide) (by decide) (by decide)) (by decide) (by decide) (by decide)) (by decide) (by decide) (by decide)) (by decide) (by decide) (by decide)) (by decide) (by decide) (by decide)) (by decide) (by decide) (by decide)) (by decide) (by decide) (by decide)) (RF.o (RF.o (RF.o (RF.o (RF.o (RF.o (RF.o hS_M (by decide) (by decide)) (by decide) (by decide)) (by decide) (by decide)) (by decide) (by decide)) (by decide) (by decide)) (by decide) (by decide)) (by decide) (by decide))  (((ju_i _ _ (zne (by decide))).trans ((ju_i _ _ (zne (by decide))).trans ((ju_i _ _ (zne (by decide))).trans (ju_same _ _ _ _)))).trans (by omega)) (fun q => by rw [((ju_i _ _ (zne (by decide))).trans ((ju_i _ _ (zne (by decide))).trans (ju_same _ _ _ _)))] at q; omega) (by rw [((ju_i _ _ (zne (by decide))).trans ((ju_i _ _ (zne (by decide))).trans (ju_same _ _ _ _)))]; omega) (by first | (exfalso; omega) | exact ⟨⟨(by rw [show (ju (ju (ju (ju (ju (ju (ju M 598 59 1) 598 61 r43) 598 62 r44) 598 65 h) 598 60 1) 598 63 r55) 598 64 r55) 598 59 = 1 from ((ju_i _ _ (zne (by decide))).trans ((ju_i _ _ (zne (by decide))).trans ((ju_i _ _ (zne (by decide))).trans ((ju_i _ _ (zne (by decide))).trans ((ju_i _ _ (zne (by decide))).trans ((ju_i _ _ (zne (by decide))).trans (ju_same _ _ _ _))))))), e1]; first | (rw [if_pos (by omega)]) | (rw [if_neg (by omega)])), (by rw [show (ju (ju (ju (ju (ju (ju (ju M 598 59 1) 598 61 r43) 598 62 r44) 598 65 h) 598 60 1) 598 63 r55) 598 64 r55) 598 60 = 1 from ((ju_i _ _ (zne (by decide))).trans ((ju_i _ _ (zne (by decide))).trans (ju_same _ _ _ _))), e45]; unfold nxk; (repeat' split) <;> omega)⟩, ⟨(by rw [show (ju (ju (ju (ju (ju (ju (ju M 598 59 1) 598 61 r43) 598 62 r44) 598 65 h) 598 60 1) 598 63 r55) 598 64 r55) 598 61 = r43 from ((ju_i _ _ (zne (by decide))).trans ((ju_i _ _ (zne (by decide))).trans ((ju_i _ _ (zne (by decide))).trans ((ju_i _ _ (zne (by decide))).trans ((ju_i _ _ (zne (by decide))).trans (ju_same _ _ _ _))))))]; exact te2 p3 p5.1 (by omega) e42 (by omega) rfl ((rf_e (fun i => by rw [ju_c _ _ (by decide)])).trans p4) w43_0), (by rw [show (ju (ju (ju (ju (ju (ju (ju M 598 59 1) 598 61 r43) 598 62 r44) 598 65 h) 598 60 1) 598 63 r55) 598 64 r55) 598 62 = r44 from ((ju_i _ _ (zne (by decide))).trans ((ju_i _ _ (zne (by decide))).trans ((ju_i _ _ (zne (by decide))).trans ((ju_i _ _ (zne (by decide))).trans (ju_same _ _ _ _)))))]; exact te2 p3 p5.1 (by omega) e42 (by omega) rfl ((rf_e (fun i => by rw [ju_c _ _ (by decide), ju_c _ _ (by decide)])).trans p4) w44_0)⟩, ⟨(by rw [show (ju (ju (ju (ju (ju (ju (ju M 598 59 1) 598 61 r43) 598 62 r44) 598 65 h) 598 60 1) 598 63 r55) 598 64 r55) 598 63 = r55 from ((ju_i _ _ (zne (by decide))).trans (ju_same _ _ _ _))]; first | exact tp7 p3 p5.2 (by omega) e54 (by omega) ((rf_e (fun i => by rw [ju_c _ _ (by decide), ju_c _ _ (by decide), ju_c _ _ (by decide), ju_c _ _ (by decide), ju_c _ _ (by decide)])).trans p4) w55_0 (by omega) | exact tp8 (s := 0) p3 p5.2 (by omega) e54 (by first | exact Or.inl ⟨rfl, rfl⟩ | exact Or.inr ⟨rfl, rfl⟩) ((rf_e (fun i => by rw [ju_c _ _ (by decide), ju_c _ _ (by decide), ju_c _ _ (by decide), ju_c _ _ (by decide), ju_c _ _ (by decide)])).trans p4) w55_0 (by omega)), (by rw [show (ju (ju (ju (ju (ju (ju (ju M 598 59 1) 598 61 r43) 598 62 r44) 598 65 h) 598 60 1) 598 63 r55) 598 64 r55) 598 64 = r55 from (ju_same _ _ _ _)]; first | exact tp7 p3 p5.2 (by omega) e54 (by omega) ((rf_e (fun i => by rw [ju_c _ _ (by decide), ju_c _ _ (by decide), ju_c _ _ (by decide), ju_c _ _ (by decide), ju_c _ _ (by decide)])).trans p4) w55_0 (by omega) | exact tp8 (s := 1) p3 p5.2 (by omega) e54 (by first | exact Or.inl ⟨rfl, rfl⟩ | exact Or.inr ⟨rfl, rfl⟩) ((rf_e (fun i => by rw [ju_c _ _ (by decide), ju_c _ _ (by decide), ju_c _ _ (by decide), ju_c _ _ (by decide), ju_c _ _ (by decide)])).trans p4) w55_0 (by omega))⟩⟩) (fun a i f598 => ((ju_c _ _ f598).trans ((ju_c _ _ f598).trans ((ju_c _ _ f598).trans ((ju_c _ _ f598).trans ((ju_c _ _ f598).trans ((ju_c _ _ f598).trans ((ju_c _ _ f598).trans rfl)))))))) (fun i g59 g60 g61 g62 g63 g64 g65 => ((ju_i _ _ g64).trans ((ju_i _ _ g63).trans ((ju_i _ _ g60).trans ((ju_i _ _ g65).trans ((ju_i _ _ g62).trans ((ju_i _ _ g61).trans ((ju_i _ _ g59).trans rfl)))))))))
      · exact absurd (by omega) h63
    · refine jr.aload_n rfl rfl ?_
      refine jr.iload_n rfl rfl ?_
      refine jr.aload_n rfl rfl ?_
      refine jr.getf (i := 8) (v := .ref 604) rfl rfl (nlt rfl) rfl (nlt rfl) rfl rfl rfl rfl ?_
      refine jr.iload_n rfl rfl ?_
      obtain ⟨v56, e56⟩ : ∃ z, M 604 t = z := ⟨_, rfl⟩
      have b56 : 0 ≤ v56 ∧ v56 ≤ 400 := by rw [← e56]; exact (by have q := hI_M 604 t (Nat.le_of_ble_eq_true rfl); rw [xri_row rfl rfl] at q; exact q)
      refine jr.iald (i := t) (x := v56) rfl (nlt rfl) rfl (Nat.le_of_ble_eq_true rfl) (by omega) (by omega) ((ju_c _ _ (by decide)).trans e56) ?_
      refine jr.iconst rfl ?_
      refine jr_v rfl rfl (Or.inl rfl) rfl rfl (nlt rfl) rfl ⟨rfl, Nat.le_of_ble_eq_true rfl, Nat.le_of_ble_eq_true rfl⟩ rfl (jc.deep (r_ofSix_x (RI.u hI_M (a := 598) (i := 59) (show (0 : Int) ≤ _ ∧ _ ≤ (1 : Int) from by omega)) (RH.o hH_M (by decide) (by decide) (by decide)) (RF.o hS_M (by decide) (by decide))  (by omega) (by omega) (by omega)  (fun r57 z57 w57_0 => ?_)) (Nat.le_of_ble_eq_true rfl))
      refine jr.goto rfl rfl ?_
      refine jr.putf (i := 61) (x := r57) rfl rfl (nlt rfl) rfl (nlt rfl) rfl rfl rfl rfl rfl ?_
      refine jr.aload_n rfl rfl ?_
      refine jr.aload_n rfl rfl ?_
      refine jr.getf (i := 59) (x := 1) (v := .int (Int32.ofInt (1))) rfl rfl (nlt rfl) rfl (nlt rfl) rfl rfl ((ju_i _ _ (zne (by decide))).trans (ju_same _ _ _ _)) rfl ?_
      refine jr.if_eq rfl rfl (by first | (refine rgb (by assumption) ?_; exact rfl) | omega) (fun h63 => ?_) (fun h63 => ?_)
      · exact absurd h63 h24
      · refine jr.aload_n rfl rfl ?_
        refine jr.iload_n rfl rfl ?_
        refine jr.aload_n rfl rfl ?_
        refine jr.getf (i := 8) (v := .ref 604) rfl rfl (nlt rfl) rfl (nlt rfl) rfl rfl rfl rfl ?_
        refine jr.iload_n rfl rfl ?_
        refine jr.iald (i := t) (x := v56) rfl (nlt rfl) rfl (Nat.le_of_ble_eq_true rfl) (by omega) (by omega) ((ju_c _ _ (by decide)).trans ((ju_c _ _ (by decide)).trans e56)) ?_
        refine jr.bipush rfl (jbp _ (nlt rfl)) ?_
        refine jr_v rfl rfl (Or.inl rfl) rfl rfl (nlt rfl) rfl ⟨rfl, Nat.le_of_ble_eq_true rfl, Nat.le_of_ble_eq_true rfl⟩ rfl (jc.deep (r_ofSix_x (RI.u (RI.u hI_M (a := 598) (i := 59) (show (0 : Int) ≤ _ ∧ _ ≤ (1 : Int) from by omega)) (a := 598) (i := 61) (show (-9223372036854775808 : Int) ≤ _ ∧ _ ≤ (9223372036854775807 : Int) from by omega)) (RH.o (RH.o hH_M (by decide) (by decide) (by decide)) (by decide) (by decide) (by decide)) (RF.o (RF.o hS_M (by decide) (by decide)) (by decide) (by decide))  (by omega) (by omega) (by omega)  (fun r70 z70 w70_0 => ?_)) (Nat.le_of_ble_eq_true rfl))
        refine jr.goto rfl rfl ?_
        refine jr.putf (i := 62) (x := r70) rfl rfl (nlt rfl) rfl (nlt rfl) rfl rfl rfl rfl rfl ?_
        refine jr.aload_n rfl rfl ?_
        refine jr.getf (i := 7) (v := .ref 603) rfl rfl (nlt rfl) rfl (nlt rfl) rfl rfl rfl rfl ?_
        refine jr.iload_n rfl rfl ?_
        obtain ⟨v71, e71⟩ : ∃ z, M 603 h = z := ⟨_, rfl⟩
        have b71 : 0 ≤ v71 ∧ v71 ≤ 11 := by rw [← e71]; exact (by have q := hI_M 603 h (Nat.le_of_ble_eq_true rfl); rw [xri_row rfl rfl] at q; exact q)
        refine jr.iald (i := h) (x := v71) rfl (nlt rfl) rfl (Nat.le_of_ble_eq_true rfl) (by omega) (by omega) ((ju_c _ _ (by decide)).trans ((ju_c _ _ (by decide)).trans ((ju_c _ _ (by decide)).trans e71))) ?_
        refine jr.istore (ls' := [_, _, _, _, _]) rfl (nlt rfl) rfl ?_
        refine jr.aload_n rfl rfl ?_
        refine jr.iload_n rfl rfl ?_
        refine jr.putf (i := 65) (x := h) rfl rfl (nlt rfl) rfl (nlt rfl) rfl rfl rfl rfl rfl ?_
        refine jr.aload_n rfl rfl ?_
        refine jr.iload rfl rfl ?_
        refine jr.bipush rfl (jbp _ (nlt rfl)) ?_
        refine jr.icmp_ne rfl rfl (by first | (refine rgb (by assumption) ?_; exact rfl) | omega) (rgl rfl) (fun h116 => ?_) (fun h116 => ?_)
        · refine jr.iload rfl rfl ?_
          refine jr.bipush rfl (jbp _ (nlt rfl)) ?_
          refine jr.icmp_ne rfl rfl (by first | (refine rgb (by assumption) ?_; exact rfl) | omega) (rgl rfl) (fun h127 => ?_) (fun h127 => ?_)
          · refine jr.bipush rfl (jbp _ (nlt rfl)) ?_
            refine jr.putf (i := 60) (x := 17) rfl rfl (nlt rfl) rfl (nlt rfl) rfl rfl rfl rfl rfl ?_
            refine jr.aload_n rfl rfl ?_
            refine jr.iload rfl rfl ?_
            refine jr.bipush rfl (jbp _ (nlt rfl)) ?_
            refine jr.icmp_ne rfl rfl (by first | (refine rgb (by assumption) ?_; exact rfl) | omega) (rgl rfl) (fun h145 => ?_) (fun h145 => ?_)
            · refine jr.aload_n rfl rfl ?_
              refine jr.iload_n rfl rfl ?_
              refine jr.aload_n rfl rfl ?_
              refine jr.getf (i := 8) (v := .ref 604) rfl rfl (nlt rfl) rfl (nlt rfl) rfl rfl rfl rfl ?_
              refine jr.iload_n rfl rfl ?_
              obtain ⟨v72, e72⟩ : ∃ z, M 604 h = z := ⟨_, rfl⟩
              have b72 : 0 ≤ v72 ∧ v72 ≤ 400 := by rw [← e72]; exact (by have q := hI_M 604 h (Nat.le_of_ble_eq_true rfl); rw [xri_row rfl rfl] at q; exact q)
              refine jr.iald (i := h) (x := v72) rfl (nlt rfl) rfl (Nat.le_of_ble_eq_true rfl) (by omega) (by omega) ((ju_c _ _ (by decide)).trans ((ju_c _ _ (by decide)).trans ((ju_c _ _ (by decide)).trans ((ju_c _ _ (by decide)).trans ((ju_c _ _ (by decide)).trans e72))))) ?_
              refine jr_v rfl rfl (Or.inl rfl) rfl rfl (nlt rfl) rfl ⟨rfl, Nat.le_of_ble_eq_true rfl, Nat.le_of_ble_eq_true rfl⟩ rfl (jc.deep (r_two_x (RI.u (RI.u (RI.u (RI.u (RI.u hI_M (a := 598) (i := 59) (show (0 : Int) ≤ _ ∧ _ ≤ (1 : Int) from by omega)) (a := 598) (i := 61) (show (-9223372036854775808 : Int) ≤ _ ∧ _ ≤ (9223372036854775807 : Int) from by omega)) (a := 598) (i := 62) (show (-9223372036854775808 : Int) ≤ _ ∧ _ ≤ (9223372036854775807 : Int) from by omega)) (a := 598) (i := 65) (show (0 : Int) ≤ _ ∧ _ ≤ (11 : Int) from by omega)) (a := 598) (i := 60) (show (0 : Int) ≤ _ ∧ _ ≤ (255 : Int) from by omega)) (RH.o (RH.o (RH.o (RH.o (RH.o hH_M (by decide) (by decide) (by decide)) (by decide) (by decide) (by decide)) (by decide) (by decide) (by decide)) (by decide) (by decide) (by decide)) (by decide) (by decide) (by decide)) (RF.o (RF.o (RF.o (RF.o (RF.o hS_M (by decide) (by decide)) (by decide) (by decide)) (by decide) (by decide)) (by decide) (by decide)) (by decide) (by decide))  (by omega) (by omega)  (fun r73 z73 w73_0 => ?_)) (Nat.le_of_ble_eq_true rfl))
              refine jr.putf (i := 63) (x := r73) rfl rfl (nlt rfl) rfl (nlt rfl) rfl rfl rfl rfl rfl ?_
              refine jr.aload_n rfl rfl ?_
              refine jr.iload rfl rfl ?_
              refine jr.bipush rfl (jbp _ (nlt rfl)) ?_
              refine jr.icmp_ne rfl rfl (by first | (refine rgb (by assumption) ?_; exact rfl) | omega) (rgl rfl) (fun h183 => ?_) (fun h183 => ?_)
              · refine jr.aload_n rfl rfl ?_
                refine jr.iload_n rfl rfl ?_
                refine jr.aload_n rfl rfl ?_
                refine jr.getf (i := 8) (v := .ref 604) rfl rfl (nlt rfl) rfl (nlt rfl) rfl rfl rfl rfl ?_
                refine jr.iload_n rfl rfl ?_
                refine jr.iald (i := h) (x := v72) rfl (nlt rfl) rfl (Nat.le_of_ble_eq_true rfl) (by omega) (by omega) ((ju_c _ _ (by decide)).trans ((ju_c _ _ (by decide)).trans ((ju_c _ _ (by decide)).trans ((ju_c _ _ (by decide)).trans ((ju_c _ _ (by decide)).trans ((ju_c _ _ (by decide)).trans e72)))))) ?_
                refine jr.iconst rfl ?_
                refine jr.iadd rfl ?_
                refine jr_v rfl rfl (Or.inl rfl) rfl rfl (nlt rfl) rfl ⟨rfl, Nat.le_of_ble_eq_true rfl, Nat.le_of_ble_eq_true rfl⟩ rfl (jc.deep (r_two_x (RI.u (RI.u (RI.u (RI.u (RI.u (RI.u hI_M (a := 598) (i := 59) (show (0 : Int) ≤ _ ∧ _ ≤ (1 : Int) from by omega)) (a := 598) (i := 61) (show (-9223372036854775808 : Int) ≤ _ ∧ _ ≤ (9223372036854775807 : Int) from by omega)) (a := 598) (i := 62) (show (-9223372036854775808 : Int) ≤ _ ∧ _ ≤ (9223372036854775807 : Int) from by omega)) (a := 598) (i := 65) (show (0 : Int) ≤ _ ∧ _ ≤ (11 : Int) from by omega)) (a := 598) (i := 60) (show (0 : Int) ≤ _ ∧ _ ≤ (255 : Int) from by omega)) (a := 598) (i := 63) (show (0 : Int) ≤ _ ∧ _ ≤ (65535 : Int) from by omega)) (RH.o (RH.o (RH.o (RH.o (RH.o (RH.o hH_M (by decide) (by decide) (by decide)) (by decide) (by decide) (by decide)) (by decide) (by decide) (by decide)) (by decide) (by decide) (by decide)) (by decide) (by decide) (by decide)) (by decide) (by decide) (by decide)) (RF.o (RF.o (RF.o (RF.o (RF.o (RF.o hS_M (by decide) (by decide)) (by decide) (by decide)) (by decide) (by decide)) (by decide) (by decide)) (by decide) (by decide)) (by decide) (by decide))  (by omega) (by omega)  (fun r74 z74 w74_0 => ?_)) (Nat.le_of_ble_eq_true rfl))
                refine jr.putf (i := 64) (x := r74) rfl rfl (nlt rfl) rfl (nlt rfl) rfl rfl rfl rfl rfl ?_
                exact jr.vreturn rfl rfl (q _ (RI.u (RI.u (RI.u (RI.u (RI.u (RI.u (RI.u hI_M (a := 598) (i := 59) (show (0 : Int) ≤ _ ∧ _ ≤ (1 : Int) from by omega)) (a := 598) (i := 61) (show (-9223372036854775808 : Int) ≤ _ ∧ _ ≤ (9223372036854775807 : Int) from by omega)) (a := 598) (i := 62) (show (-9223372036854775808 : Int) ≤ _ ∧ _ ≤ (9223372036854775807 : Int) from by omega)) (a := 598) (i := 65) (show (0 : Int) ≤ _ ∧ _ ≤ (11 : Int) from by omega)) (a := 598) (i := 60) (show (0 : Int) ≤ _ ∧ _ ≤ (255 : Int) from by omega)) (a := 598) (i := 63) (show (0 : Int) ≤ _ ∧ _ ≤ (65535 : Int) from by omega)) (a := 598) (i := 64) (show (0 : Int) ≤ _ ∧ _ ≤ (65535 : Int) from by omega)) (RH.o (RH.o (RH.o (RH.o (RH.o (RH.o (RH.o hH_M (by decide) (by decide) (by decide)) (by decide) (by decide) (by decide)) (by decide) (by decide) (by decide)) (by decide) (by decide) (by decide)) (by decide) (by decide) (by decide)) (by decide) (by decide) (by decide)) (by decide) (by decide) (by decide)) (RF.o (RF.o (RF.o (RF.o (RF.o (RF.o (RF.o hS_M (by decide) (by decide)) (by decide) (by decide)) (by decide) (by decide)) (by decide) (by decide)) (by decide) (by decide)) (by decide) (by decide)) (by decide) (by decide))  (((ju_i _ _ (zne (by decide))).trans ((ju_i _ _ (zne (by decide))).trans ((ju_i _ _ (zne (by decide))).trans (ju_same _ _ _ _)))).trans (by omega)) (fun q => by rw [((ju_i _ _ (zne (by decide))).trans ((ju_i _ _ (zne (by decide))).trans (ju_same _ _ _ _)))] at q; omega) (by rw [((ju_i _ _ (zne (by decide))).trans ((ju_i _ _ (zne (by decide))).trans (ju_same _ _ _ _)))]; omega) (by first | (exfalso; omega) | exact ⟨⟨(by rw [show (ju (ju (ju (ju (ju (ju (ju M 598 59 1) 598 61 r57) 598 62 r70) 598 65 h) 598 60 17) 598 63 r73) 598 64 r74) 598 59 = 1 from ((ju_i _ _ (zne (by decide))).trans ((ju_i _ _ (zne (by decide))).trans ((ju_i _ _ (zne (by decide))).trans ((ju_i _ _ (zne (by decide))).trans ((ju_i _ _ (zne (by decide))).trans ((ju_i _ _ (zne (by decide))).trans (ju_same _ _ _ _))))))), e1]; first | (rw [if_pos (by omega)]) | (rw [if_neg (by omega)])), (by rw [show (ju (ju (ju (ju (ju (ju (ju M 598 59 1) 598 61 r57) 598 62 r70) 598 65 h) 598 60 17) 598 63 r73) 598 64 r74) 598 60 = 17 from ((ju_i _ _ (zne (by decide))).trans ((ju_i _ _ (zne (by decide))).trans (ju_same _ _ _ _))), e71]; unfold nxk; (repeat' split) <;> omega)⟩, ⟨(by rw [show (ju (ju (ju (ju (ju (ju (ju M 598 59 1) 598 61 r57) 598 62 r70) 598 65 h) 598 60 17) 598 63 r73) 598 64 r74) 598 61 = r57 from ((ju_i _ _ (zne (by decide))).trans ((ju_i _ _ (zne (by decide))).trans ((ju_i _ _ (zne (by decide))).trans ((ju_i _ _ (zne (by decide))).trans ((ju_i _ _ (zne (by decide))).trans (ju_same _ _ _ _))))))]; exact te3 p3 p5.1 (by omega) e56 (by omega) rfl ((rf_e (fun i => by rw [ju_c _ _ (by decide)])).trans p4) w57_0), (by rw [show (ju (ju (ju (ju (ju (ju (ju M 598 59 1) 598 61 r57) 598 62 r70) 598 65 h) 598 60 17) 598 63 r73) 598 64 r74) 598 62 = r70 from ((ju_i _ _ (zne (by decide))).trans ((ju_i _ _ (zne (by decide))).trans ((ju_i _ _ (zne (by decide))).trans ((ju_i _ _ (zne (by decide))).trans (ju_same _ _ _ _)))))]; exact te3 p3 p5.1 (by omega) e56 (by omega) rfl ((rf_e (fun i => by rw [ju_c _ _ (by decide), ju_c _ _ (by decide)])).trans p4) w70_0)⟩, ⟨(by rw [show (ju (ju (ju (ju (ju (ju (ju M 598 59 1) 598 61 r57) 598 62 r70) 598 65 h) 598 60 17) 598 63 r73) 598 64 r74) 598 63 = r73 from ((ju_i _ _ (zne (by decide))).trans (ju_same _ _ _ _))]; first | exact tp7 p3 p5.2 (by omega) e72 (by omega) ((rf_e (fun i => by rw [ju_c _ _ (by decide), ju_c _ _ (by decide), ju_c _ _ (by decide), ju_c _ _ (by decide), ju_c _ _ (by decide)])).trans p4) w73_0 (by omega) | exact tp8 (s := 0) p3 p5.2 (by omega) e72 (by first | exact Or.inl ⟨rfl, rfl⟩ | exact Or.inr ⟨rfl, rfl⟩) ((rf_e (fun i => by rw [ju_c _ _ (by decide), ju_c _ _ (by decide), ju_c _ _ (by decide), ju_c _ _ (by decide), ju_c _ _ (by decide)])).trans p4) w73_0 (by omega)), (by rw [show (ju (ju (ju (ju (ju (ju (ju M 598 59 1) 598 61 r57) 598 62 r70) 598 65 h) 598 60 17) 598 63 r73) 598 64 r74) 598 64 = r74 from (ju_same _ _ _ _)]; first | exact tp7 p3 p5.2 (by omega) e72 (by omega) ((rf_e (fun i => by rw [ju_c _ _ (by decide), ju_c _ _ (by decide), ju_c _ _ (by decide), ju_c _ _ (by decide), ju_c _ _ (by decide), ju_c _ _ (by decide)])).trans p4) w74_0 (by omega) | exact tp8 (s := 1) p3 p5.2 (by omega) e72 (by first | exact Or.inl ⟨rfl, rfl⟩ | exact Or.inr ⟨rfl, rfl⟩) ((rf_e (fun i => by rw [ju_c _ _ (by decide), ju_c _ _ (by decide), ju_c _ _ (by decide), ju_c _ _ (by decide), ju_c _ _ (by decide), ju_c _ _ (by decide)])).trans p4) w74_0 (by omega))⟩⟩) (fun a i f598 => ((ju_c _ _ f598).trans ((ju_c _ _ f598).trans ((ju_c _ _ f598).trans ((ju_c _ _ f598).trans ((ju_c _ _ f598).trans ((ju_c _ _ f598).trans ((ju_c _ _ f598).trans rfl)))))))) (fun i g59 g60 g61 g62 g63 g64 g65 => ((ju_i _ _ g64).trans ((ju_i _ _ g63).trans ((ju_i _ _ g60).trans ((ju_i _ _ g65).trans ((ju_i _ _ g62).trans ((ju_i _ _ g61).trans ((ju_i _ _ g59).trans rfl)))))))))
              · exact absurd h145 h183
            · exact absurd h116 h145
          · refine jr.bipush rfl (jbp _ (nlt rfl)) ?_
            refine jr.goto rfl rfl ?_
            refine jr.putf (i := 60) (x := 6) rfl rfl (nlt rfl) rfl (nlt rfl) rfl rfl rfl rfl rfl ?_
            refine jr.aload_n rfl rfl ?_
            refine jr.iload rfl rfl ?_
            refine jr.bipush rfl (jbp _ (nlt rfl)) ?_
            refine jr.icmp_ne rfl rfl (by first | (refine rgb (by assumption) ?_; exact rfl) | omega) (rgl rfl) (fun h145 => ?_) (fun h145 => ?_)
            · refine jr.aload_n rfl rfl ?_
              refine jr.iload_n rfl rfl ?_
              refine jr.aload_n rfl rfl ?_
              refine jr.getf (i := 8) (v := .ref 604) rfl rfl (nlt rfl) rfl (nlt rfl) rfl rfl rfl rfl ?_
              refine jr.iload_n rfl rfl ?_
              obtain ⟨v77, e77⟩ : ∃ z, M 604 h = z := ⟨_, rfl⟩
              have b77 : 0 ≤ v77 ∧ v77 ≤ 400 := by rw [← e77]; exact (by have q := hI_M 604 h (Nat.le_of_ble_eq_true rfl); rw [xri_row rfl rfl] at q; exact q)
              refine jr.iald (i := h) (x := v77) rfl (nlt rfl) rfl (Nat.le_of_ble_eq_true rfl) (by omega) (by omega) ((ju_c _ _ (by decide)).trans ((ju_c _ _ (by decide)).trans ((ju_c _ _ (by decide)).trans ((ju_c _ _ (by decide)).trans ((ju_c _ _ (by decide)).trans e77))))) ?_
              refine jr_v rfl rfl (Or.inl rfl) rfl rfl (nlt rfl) rfl ⟨rfl, Nat.le_of_ble_eq_true rfl, Nat.le_of_ble_eq_true rfl⟩ rfl (jc.deep (r_two_x (RI.u (RI.u (RI.u (RI.u (RI.u hI_M (a := 598) (i := 59) (show (0 : Int) ≤ _ ∧ _ ≤ (1 : Int) from by omega)) (a := 598) (i := 61) (show (-9223372036854775808 : Int) ≤ _ ∧ _ ≤ (9223372036854775807 : Int) from by omega)) (a := 598) (i := 62) (show (-9223372036854775808 : Int) ≤ _ ∧ _ ≤ (9223372036854775807 : Int) from by omega)) (a := 598) (i := 65) (show (0 : Int) ≤ _ ∧ _ ≤ (11 : Int) from by omega)) (a := 598) (i := 60) (show (0 : Int) ≤ _ ∧ _ ≤ (255 : Int) from by omega)) (RH.o (RH.o (RH.o (RH.o (RH.o hH_M (by decide) (by decide) (by decide)) (by decide) (by decide) (by decide)) (by decide) (by decide) (by decide)) (by decide) (by decide) (by decide)) (by decide) (by decide) (by decide)) (RF.o (RF.o (RF.o (RF.o (RF.o hS_M (by decide) (by decide)) (by decide) (by decide)) (by decide) (by decide)) (by decide) (by decide)) (by decide) (by decide))  (by omega) (by omega)  (fun r78 z78 w78_0 => ?_)) (Nat.le_of_ble_eq_true rfl))
              refine jr.putf (i := 63) (x := r78) rfl rfl (nlt rfl) rfl (nlt rfl) rfl rfl rfl rfl rfl ?_
              refine jr.aload_n rfl rfl ?_
              refine jr.iload rfl rfl ?_
              refine jr.bipush rfl (jbp _ (nlt rfl)) ?_
              refine jr.icmp_ne rfl rfl (by first | (refine rgb (by assumption) ?_; exact rfl) | omega) (rgl rfl) (fun h183 => ?_) (fun h183 => ?_)
              · refine jr.aload_n rfl rfl ?_
                refine jr.iload_n rfl rfl ?_
                refine jr.aload_n rfl rfl ?_
                refine jr.getf (i := 8) (v := .ref 604) rfl rfl (nlt rfl) rfl (nlt rfl) rfl rfl rfl rfl ?_
                refine jr.iload_n rfl rfl ?_
                refine jr.iald (i := h) (x := v77) rfl (nlt rfl) rfl (Nat.le_of_ble_eq_true rfl) (by omega) (by omega) ((ju_c _ _ (by decide)).trans ((ju_c _ _ (by decide)).trans ((ju_c _ _ (by decide)).trans ((ju_c _ _ (by decide)).trans ((ju_c _ _ (by decide)).trans ((ju_c _ _ (by decide)).trans e77)))))) ?_
                refine jr.iconst rfl ?_
                refine jr.iadd rfl ?_
                refine jr_v rfl rfl (Or.inl rfl) rfl rfl (nlt rfl) rfl ⟨rfl, Nat.le_of_ble_eq_true rfl, Nat.le_of_ble_eq_true rfl⟩ rfl (jc.deep (r_two_x (RI.u (RI.u (RI.u (RI.u (RI.u (RI.u hI_M (a := 598) (i := 59) (show (0 : Int) ≤ _ ∧ _ ≤ (1 : Int) from by omega)) (a := 598) (i := 61) (show (-9223372036854775808 : Int) ≤ _ ∧ _ ≤ (9223372036854775807 : Int) from by omega)) (a := 598) (i := 62) (show (-9223372036854775808 : Int) ≤ _ ∧ _ ≤ (9223372036854775807 : Int) from by omega)) (a := 598) (i := 65) (show (0 : Int) ≤ _ ∧ _ ≤ (11 : Int) from by omega)) (a := 598) (i := 60) (show (0 : Int) ≤ _ ∧ _ ≤ (255 : Int) from by omega)) (a := 598) (i := 63) (show (0 : Int) ≤ _ ∧ _ ≤ (65535 : Int) from by omega)) (RH.o (RH.o (RH.o (RH.o (RH.o (RH.o hH_M (by decide) (by decide) (by decide)) (by decide) (by decide) (by decide)) (by decide) (by decide) (by decide)) (by decide) (by decide) (by decide)) (by decide) (by decide) (by decide)) (by decide) (by decide) (by decide)) (RF.o (RF.o (RF.o (RF.o (RF.o (RF.o hS_M (by decide) (by decide)) (by decide) (by decide)) (by decide) (by decide)) (by decide) (by decide)) (by decide) (by decide)) (by decide) (by decide))  (by omega) (by omega)  (fun r79 z79 w79_0 => ?_)) (Nat.le_of_ble_eq_true rfl))
                refine jr.putf (i := 64) (x := r79) rfl rfl (nlt rfl) rfl (nlt rfl) rfl rfl rfl rfl rfl ?_
                exact jr.vreturn rfl rfl (q _ (RI.u (RI.u (RI.u (RI.u (RI.u (RI.u (RI.u hI_M (a := 598) (i := 59) (show (0 : Int) ≤ _ ∧ _ ≤ (1 : Int) from by omega)) (a := 598) (i := 61) (show (-9223372036854775808 : Int) ≤ _ ∧ _ ≤ (9223372036854775807 : Int) from by omega)) (a := 598) (i := 62) (show (-9223372036854775808 : Int) ≤ _ ∧ _ ≤ (9223372036854775807 : Int) from by omega)) (a := 598) (i := 65) (show (0 : Int) ≤ _ ∧ _ ≤ (11 : Int) from by omega)) (a := 598) (i := 60) (show (0 : Int) ≤ _ ∧ _ ≤ (255 : Int) from by omega)) (a := 598) (i := 63) (show (0 : Int) ≤ _ ∧ _ ≤ (65535 : Int) from by omega)) (a := 598) (i := 64) (show (0 : Int) ≤ _ ∧ _ ≤ (65535 : Int) from by omega)) (RH.o (RH.o (RH.o (RH.o (RH.o (RH.o (RH.o hH_M (by decide) (by decide) (by decide)) (by decide) (by decide) (by decide)) (by decide) (by decide) (by decide)) (by decide) (by decide) (by decide)) (by decide) (by decide) (by decide)) (by decide) (by decide) (by decide)) (by decide) (by decide) (by decide)) (RF.o (RF.o (RF.o (RF.o (RF.o (RF.o (RF.o hS_M (by decide) (by decide)) (by decide) (by decide)) (by decide) (by decide)) (by decide) (by decide)) (by decide) (by decide)) (by decide) (by decide)) (by decide) (by decide))  (((ju_i _ _ (zne (by decide))).trans ((ju_i _ _ (zne (by decide))).trans ((ju_i _ _ (zne (by decide))).trans (ju_same _ _ _ _)))).trans (by omega)) (fun q => by rw [((ju_i _ _ (zne (by decide))).trans ((ju_i _ _ (zne (by decide))).trans (ju_same _ _ _ _)))] at q; omega) (by rw [((ju_i _ _ (zne (by decide))).trans ((ju_i _ _ (zne (by decide))).trans (ju_same _ _ _ _)))]; omega) (by first | (exfalso; omega) | exact ⟨⟨(by rw [show (ju (ju (ju (ju (ju (ju (ju M 598 59 1) 598 61 r57) 598 62 r70) 598 65 h) 598 60 6) 598 63 r78) 598 64 r79) 598 59 = 1 from ((ju_i _ _ (zne (by decide))).trans ((ju_i _ _ (zne (by decide))).trans ((ju_i _ _ (zne (by decide))).trans ((ju_i _ _ (zne (by decide))).trans ((ju_i _ _ (zne (by decide))).trans ((ju_i _ _ (zne (by decide))).trans (ju_same _ _ _ _))))))), e1]; first | (rw [if_pos (by omega)]) | (rw [if_neg (by omega)])), (by rw [show (ju (ju (ju (ju (ju (ju (ju M 598 59 1) 598 61 r57) 598 62 r70) 598 65 h) 598 60 6) 598 63 r78) 598 64 r79) 598 60 = 6 from ((ju_i _ _ (zne (by decide))).trans ((ju_i _ _ (zne (by decide))).trans (ju_same _ _ _ _))), e71]; unfold nxk; (repeat' split) <;> omega)⟩, ⟨(by rw [show (ju (ju (ju (ju (ju (ju (ju M 598 59 1) 598 61 r57) 598 62 r70) 598 65 h) 598 60 6) 598 63 r78) 598 64 r79) 598 61 = r57 from ((ju_i _ _ (zne (by decide))).trans ((ju_i _ _ (zne (by decide))).trans ((ju_i _ _ (zne (by decide))).trans ((ju_i _ _ (zne (by decide))).trans ((ju_i _ _ (zne (by decide))).trans (ju_same _ _ _ _))))))]; exact te3 p3 p5.1 (by omega) e56 (by omega) rfl ((rf_e (fun i => by rw [ju_c _ _ (by decide)])).trans p4) w57_0), (by rw [show (ju (ju (ju (ju (ju (ju (ju M 598 59 1) 598 61 r57) 598 62 r70) 598 65 h) 598 60 6) 598 63 r78) 598 64 r79) 598 62 = r70 from ((ju_i _ _ (zne (by decide))).trans ((ju_i _ _ (zne (by decide))).trans ((ju_i _ _ (zne (by decide))).trans ((ju_i _ _ (zne (by decide))).trans (ju_same _ _ _ _)))))]; exact te3 p3 p5.1 (by omega) e56 (by omega) rfl ((rf_e (fun i => by rw [ju_c _ _ (by decide), ju_c _ _ (by decide)])).trans p4) w70_0)⟩, ⟨(by rw [show (ju (ju (ju (ju (ju (ju (ju M 598 59 1) 598 61 r57) 598 62 r70) 598 65 h) 598 60 6) 598 63 r78) 598 64 r79) 598 63 = r78 from ((ju_i _ _ (zne (by decide))).trans (ju_same _ _ _ _))]; first | exact tp7 p3 p5.2 (by omega) e77 (by omega) ((rf_e (fun i => by rw [ju_c _ _ (by decide), ju_c _ _ (by decide), ju_c _ _ (by decide), ju_c _ _ (by decide), ju_c _ _ (by decide)])).trans p4) w78_0 (by omega) | exact tp8 (s := 0) p3 p5.2 (by omega) e77 (by first | exact Or.inl ⟨rfl, rfl⟩ | exact Or.inr ⟨rfl, rfl⟩) ((rf_e (fun i => by rw [ju_c _ _ (by decide), ju_c _ _ (by decide), ju_c _ _ (by decide), ju_c _ _ (by decide), ju_c _ _ (by decide)])).trans p4) w78_0 (by omega)), (by rw [show (ju (ju (ju (ju (ju (ju (ju M 598 59 1) 598 61 r57) 598 62 r70) 598 65 h) 598 60 6) 598 63 r78) 598 64 r79) 598 64 = r79 from (ju_same _ _ _ _)]; first | exact tp7 p3 p5.2 (by omega) e77 (by omega) ((rf_e (fun i => by rw [ju_c _ _ (by decide), ju_c _ _ (by decide), ju_c _ _ (by decide), ju_c _ _ (by decide), ju_c _ _ (by decide), ju_c _ _ (by decide)])).trans p4) w79_0 (by omega) | exact tp8 (s := 1) p3 p5.2 (by omega) e77 (by first | exact Or.inl ⟨rfl, rfl⟩ | exact Or.inr ⟨rfl, rfl⟩) ((rf_e (fun i => by rw [ju_c _ _ (by decide), ju_c _ _ (by decide), ju_c _ _ (by decide), ju_c _ _ (by decide), ju_c _ _ (by decide), ju_c _ _ (by decide)])).trans p4) w79_0 (by omega))⟩⟩) (fun a i f598 => ((ju_c _ _ f598).trans ((ju_c _ _ f598).trans ((ju_c _ _ f598).trans ((ju_c _ _ f598).trans ((ju_c _ _ f598).trans ((ju_c _ _ f598).trans ((ju_c _ _ f598).trans rfl)))))))) (fun i g59 g60 g61 g62 g63 g64 g65 => ((ju_i _ _ g64).trans ((ju_i _ _ g63).trans ((ju_i _ _ g60).trans ((ju_i _ _ g65).trans ((ju_i _ _ g62).trans ((ju_i _ _ g61).trans ((ju_i _ _ g59).trans rfl)))))))))
              · exact absurd (by omega) h183
            · exact absurd (by omega) h145
        · refine jr.iconst rfl ?_
          refine jr.goto rfl rfl ?_
          refine jr.putf (i := 60) (x := 1) rfl rfl (nlt rfl) rfl (nlt rfl) rfl rfl rfl rfl rfl ?_
          refine jr.aload_n rfl rfl ?_
          refine jr.iload rfl rfl ?_
          refine jr.bipush rfl (jbp _ (nlt rfl)) ?_
          refine jr.icmp_ne rfl rfl (by first | (refine rgb (by assumption) ?_; exact rfl) | omega) (rgl rfl) (fun h145 => ?_) (fun h145 => ?_)
          · exact absurd h145 (by omega)
          · refine jr.aload_n rfl rfl ?_
            refine jr.iload_n rfl rfl ?_
            refine jr.aload_n rfl rfl ?_
            refine jr.getf (i := 8) (v := .ref 604) rfl rfl (nlt rfl) rfl (nlt rfl) rfl rfl rfl rfl ?_
            refine jr.iload_n rfl rfl ?_
            obtain ⟨v80, e80⟩ : ∃ z, M 604 h = z := ⟨_, rfl⟩
            have b80 : 0 ≤ v80 ∧ v80 ≤ 400 := by rw [← e80]; exact (by have q := hI_M 604 h (Nat.le_of_ble_eq_true rfl); rw [xri_row rfl rfl] at q; exact q)
            refine jr.iald (i := h) (x := v80) rfl (nlt rfl) rfl (Nat.le_of_ble_eq_true rfl) (by omega) (by omega) ((ju_c _ _ (by decide)).trans ((ju_c _ _ (by decide)).trans ((ju_c _ _ (by decide)).trans ((ju_c _ _ (by decide)).trans ((ju_c _ _ (by decide)).trans e80))))) ?_
            refine jr.iconst rfl ?_
            refine jr.iadd rfl ?_
            refine jr_v rfl rfl (Or.inl rfl) rfl rfl (nlt rfl) rfl ⟨rfl, Nat.le_of_ble_eq_true rfl, Nat.le_of_ble_eq_true rfl⟩ rfl (jc.deep (r_two_x (RI.u (RI.u (RI.u (RI.u (RI.u hI_M (a := 598) (i := 59) (show (0 : Int) ≤ _ ∧ _ ≤ (1 : Int) from by omega)) (a := 598) (i := 61) (show (-9223372036854775808 : Int) ≤ _ ∧ _ ≤ (9223372036854775807 : Int) from by omega)) (a := 598) (i := 62) (show (-9223372036854775808 : Int) ≤ _ ∧ _ ≤ (9223372036854775807 : Int) from by omega)) (a := 598) (i := 65) (show (0 : Int) ≤ _ ∧ _ ≤ (11 : Int) from by omega)) (a := 598) (i := 60) (show (0 : Int) ≤ _ ∧ _ ≤ (255 : Int) from by omega)) (RH.o (RH.o (RH.o (RH.o (RH.o hH_M (by decide) (by decide) (by decide)) (by decide) (by decide) (by decide)) (by decide) (by decide) (by decide)) (by decide) (by decide) (by decide)) (by decide) (by decide) (by decide)) (RF.o (RF.o (RF.o (RF.o (RF.o hS_M (by decide) (by decide)) (by decide) (by decide)) (by decide) (by decide)) (by decide) (by decide)) (by decide) (by decide))  (by omega) (by omega)  (fun r81 z81 w81_0 => ?_)) (Nat.le_of_ble_eq_true rfl))
            refine jr.goto rfl rfl ?_
            refine jr.putf (i := 63) (x := r81) rfl rfl (nlt rfl) rfl (nlt rfl) rfl rfl rfl rfl rfl ?_
            refine jr.aload_n rfl rfl ?_
            refine jr.iload rfl rfl ?_
            refine jr.bipush rfl (jbp _ (nlt rfl)) ?_
            refine jr.icmp_ne rfl rfl (by first | (refine rgb (by assumption) ?_; exact rfl) | omega) (rgl rfl) (fun h183 => ?_) (fun h183 => ?_)
            · exact absurd h183 (by omega)
            · refine jr.aload_n rfl rfl ?_
              refine jr.getf (i := 63) (x := r81) (v := .int (Int32.ofInt (r81))) rfl rfl (nlt rfl) rfl (nlt rfl) rfl rfl (ju_same _ _ _ _) rfl ?_
              refine jr.goto rfl rfl ?_
              refine jr.putf (i := 64) (x := r81) rfl rfl (nlt rfl) rfl (nlt rfl) rfl rfl rfl rfl rfl ?_
              exact jr.vreturn rfl rfl (q _ (RI.u (RI.u (RI.u (RI.u (RI.u (RI.u (RI.u hI_M (a := 598) (i := 59) (show (0 : Int) ≤ _ ∧ _ ≤ (1 : Int) from by omega)) (a := 598) (i := 61) (show (-9223372036854775808 : Int) ≤ _ ∧ _ ≤ (9223372036854775807 : Int) from by omega)) (a := 598) (i := 62) (show (-9223372036854775808 : Int) ≤ _ ∧ _ ≤ (9223372036854775807 : Int) from by omega)) (a := 598) (i := 65) (show (0 : Int) ≤ _ ∧ _ ≤ (11 : Int) from by omega)) (a := 598) (i := 60) (show (0 : Int) ≤ _ ∧ _ ≤ (255 : Int) from by omega)) (a := 598) (i := 63) (show (0 : Int) ≤ _ ∧ _ ≤ (65535 : Int) from by omega)) (a := 598) (i := 64) (show (0 : Int) ≤ _ ∧ _ ≤ (65535 : Int) from by omega)) (RH.o (RH.o (RH.o (RH.o (RH.o (RH.o (RH.o hH_M (by decide) (by decide) (by decide)) (by decide) (by decide) (by decide)) (by decide) (by decide) (by decide)) (by decide) (by decide) (by decide)) (by decide) (by decide) (by decide)) (by decide) (by decide) (by decide)) (by decide) (by decide) (by decide)) (RF.o (RF.o (RF.o (RF.o (RF.o (RF.o (RF.o hS_M (by decide) (by decide)) (by decide) (by decide)) (by decide) (by decide)) (by decide) (by decide)) (by decide) (by decide)) (by decide) (by decide)) (by decide) (by decide))  (((ju_i _ _ (zne (by decide))).trans ((ju_i _ _ (zne (by decide))).trans ((ju_i _ _ (zne (by decide))).trans (ju_same _ _ _ _)))).trans (by omega)) (fun q => by rw [((ju_i _ _ (zne (by decide))).trans ((ju_i _ _ (zne (by decide))).trans (ju_same _ _ _ _)))] at q; omega) (by rw [((ju_i _ _ (zne (by decide))).trans ((ju_i _ _ (zne (by decide))).trans (ju_same _ _ _ _)))]; omega) (by first | (exfalso; omega) | exact ⟨⟨(by rw [show (ju (ju (ju (ju (ju (ju (ju M 598 59 1) 598 61 r57) 598 62 r70) 598 65 h) 598 60 1) 598 63 r81) 598 64 r81) 598 59 = 1 from ((ju_i _ _ (zne (by decide))).trans ((ju_i _ _ (zne (by decide))).trans ((ju_i _ _ (zne (by decide))).trans ((ju_i _ _ (zne (by decide))).trans ((ju_i _ _ (zne (by decide))).trans ((ju_i _ _ (zne (by decide))).trans (ju_same _ _ _ _))))))), e1]; first | (rw [if_pos (by omega)]) | (rw [if_neg (by omega)])), (by rw [show (ju (ju (ju (ju (ju (ju (ju M 598 59 1) 598 61 r57) 598 62 r70) 598 65 h) 598 60 1) 598 63 r81) 598 64 r81) 598 60 = 1 from ((ju_i _ _ (zne (by decide))).trans ((ju_i _ _ (zne (by decide))).trans (ju_same _ _ _ _))), e71]; unfold nxk; (repeat' split) <;> omega)⟩, ⟨(by rw [show (ju (ju (ju (ju (ju (ju (ju M 598 59 1) 598 61 r57) 598 62 r70) 598 65 h) 598 60 1) 598 63 r81) 598 64 r81) 598 61 = r57 from ((ju_i _ _ (zne (by decide))).trans ((ju_i _ _ (zne (by decide))).trans ((ju_i _ _ (zne (by decide))).trans ((ju_i _ _ (zne (by decide))).trans ((ju_i _ _ (zne (by decide))).trans (ju_same _ _ _ _))))))]; exact te3 p3 p5.1 (by omega) e56 (by omega) rfl ((rf_e (fun i => by rw [ju_c _ _ (by decide)])).trans p4) w57_0), (by rw [show (ju (ju (ju (ju (ju (ju (ju M 598 59 1) 598 61 r57) 598 62 r70) 598 65 h) 598 60 1) 598 63 r81) 598 64 r81) 598 62 = r70 from ((ju_i _ _ (zne (by decide))).trans ((ju_i _ _ (zne (by decide))).trans ((ju_i _ _ (zne (by decide))).trans ((ju_i _ _ (zne (by decide))).trans (ju_same _ _ _ _)))))]; exact te3 p3 p5.1 (by omega) e56 (by omega) rfl ((rf_e (fun i => by rw [ju_c _ _ (by decide), ju_c _ _ (by decide)])).trans p4) w70_0)⟩, ⟨(by rw [show (ju (ju (ju (ju (ju (ju (ju M 598 59 1) 598 61 r57) 598 62 r70) 598 65 h) 598 60 1) 598 63 r81) 598 64 r81) 598 63 = r81 from ((ju_i _ _ (zne (by decide))).trans (ju_same _ _ _ _))]; first | exact tp7 p3 p5.2 (by omega) e80 (by omega) ((rf_e (fun i => by rw [ju_c _ _ (by decide), ju_c _ _ (by decide), ju_c _ _ (by decide), ju_c _ _ (by decide), ju_c _ _ (by decide)])).trans p4) w81_0 (by omega) | exact tp8 (s := 0) p3 p5.2 (by omega) e80 (by first | exact Or.inl ⟨rfl, rfl⟩ | exact Or.inr ⟨rfl, rfl⟩) ((rf_e (fun i => by rw [ju_c _ _ (by decide), ju_c _ _ (by decide), ju_c _ _ (by decide), ju_c _ _ (by decide), ju_c _ _ (by decide)])).trans p4) w81_0 (by omega)), (by rw [show (ju (ju (ju (ju (ju (ju (ju M 598 59 1) 598 61 r57) 598 62 r70) 598 65 h) 598 60 1) 598 63 r81) 598 64 r81) 598 64 = r81 from (ju_same _ _ _ _)]; first | exact tp7 p3 p5.2 (by omega) e80 (by omega) ((rf_e (fun i => by rw [ju_c _ _ (by decide), ju_c _ _ (by decide), ju_c _ _ (by decide), ju_c _ _ (by decide), ju_c _ _ (by decide)])).trans p4) w81_0 (by omega) | exact tp8 (s := 1) p3 p5.2 (by omega) e80 (by first | exact Or.inl ⟨rfl, rfl⟩ | exact Or.inr ⟨rfl, rfl⟩) ((rf_e (fun i => by rw [ju_c _ _ (by decide), ju_c _ _ (by decide), ju_c _ _ (by decide), ju_c _ _ (by decide), ju_c _ _ (by decide)])).trans p4) w81_0 (by omega))⟩⟩) (fun a i f598 => ((ju_c _ _ f598).trans ((ju_c _ _ f598).trans ((ju_c _ _ f598).trans ((ju_c _ _ f598).trans ((ju_c _ _ f598).trans ((ju_c _ _ f598).trans ((ju_c _ _ f598).trans rfl)))))))) (fun i g59 g60 g61 g62 g63 g64 g65 => ((ju_i _ _ g64).trans ((ju_i _ _ g63).trans ((ju_i _ _ g60).trans ((ju_i _ _ g65).trans ((ju_i _ _ g62).trans ((ju_i _ _ g61).trans ((ju_i _ _ g59).trans rfl)))))))))
end
section
/-! ===== the reference: hasEnds ===== -/
noncomputable def EN6 (M : jm) (f : Int → Int) (N C t h : Int) : Prop := ((M 598 59 = (if kA f N C t = 3 then 1 else 0) ∧ M 598 60 = nxk (kA f N C h)) ∧ (M 598 61 = adf f N C t 0 ∧ M 598 62 = adf f N C t 1) ∧ (M 598 63 = epf f N C h 0 ∧ M 598 64 = epf f N C h 1)) ∧ M 598 65 = h
theorem rN6 {M : jm} (h : RI M) {x : Int} (h1 : M 600 x ≠ -1) : 0 ≤ M 600 x ∧ M 600 x ≤ 400 := by
  have hq : (-1 : Int) ≤ M 600 x ∧ M 600 x ≤ 400 := by
    have q := h 600 x (by decide)
    rw [xri_row rfl rfl] at q
    exact q
  omega
theorem HQ6.f {M : jm} {f : Int → Int} {N : Int} (h : HQ6 M f N) : M 598 10 = 0 ↔ hX f N (M 598 6) = -1 := by
  have q := h.2.2
  constructor
  · intro u; omega
  · intro u; omega
noncomputable def HN6 (T M : jm) (x r : Int) : Prop := HT M (rf T x) (T 600 x) (M 598 6) ∧ (HE (rf T x) (T 600 x) (M 598 6) ∧ (M 598 10 = 0 ↔ hX (rf T x) (T 600 x) (M 598 6) = -1)) ∧ ((¬ heF (rf T x) (T 600 x) (M 598 6) (M 598 10) ∧ r = 0) ∨ (heF (rf T x) (T 600 x) (M 598 6) (M 598 10) ∧ r = 1 ∧ EN6 M (rf T x) (T 600 x) (M 598 6) (ntf (rf T x) (T 600 x) (M 598 6)) (inf (rf T x) (T 600 x) (M 598 6) (ntf (rf T x) (T 600 x) (M 598 6)))))
theorem HT.q {M M1 : jm} {f : Int → Int} {N C : Int} (h : HT M f N C) (g : ∀ (b : Nat) (i : Int), b ≠ 598 → M1 b i = M b i) (e6 : M1 598 6 = M 598 6) : HT M1 f N C := ⟨by rw [e6]; exact h.1, h.2.1.o g, h.2.2⟩
theorem EN6.m {M M1 : jm} {f : Int → Int} {N C t h : Int} (hh : HT M f N C) (ht : 0 ≤ t ∧ t < C) (hh2 : 0 ≤ h ∧ h < C) (e : (M1 598 59 = (if M 603 t = 3 then 1 else 0) ∧ M1 598 60 = nxk (M 603 h)) ∧ (M1 598 61 = adf f N C t 0 ∧ M1 598 62 = adf f N C t 1) ∧ (M1 598 63 = epf f N C h 0 ∧ M1 598 64 = epf f N C h 1)) (e5 : M1 598 65 = h) : EN6 M1 f N C t h := by
  rw [(HT.f hh ht).1, (HT.f hh hh2).1, ← kA_i ht, ← kA_i hh2] at e
  exact ⟨e, e5⟩
theorem r_hasEnds_L39_x {A : Nat → Option (Nat × (Nat → Int32))} {Q : Option Value → jm → Prop} {M0 : jm} {x0 : Int} (q : ∀ (r : Int) (M' : jm), RI M' → RH M' → RF M' → 0 ≤ r ∧ r ≤ 1 → (r = 0 ∨ RE M') → HN6 M0 M' x0 r → (∀ (a : Nat) (i : Int), a ≠ 598 → a ≠ 603 → a ≠ 604 → a ≠ 605 → M' a i = M0 a i) → (∀ (i : Int), i ≠ 6 → i ≠ 10 → i ≠ 11 → i ≠ 12 → i ≠ 59 → i ≠ 60 → i ≠ 61 → i ≠ 62 → i ≠ 63 → i ≠ 64 → i ≠ 65 → M' 598 i = M0 598 i) → Q (some (.int (Int32.ofInt r))) M') : ∀ (nM : Nat) (M : jm) (h : Int) (t : Int) (x : Int), RI M → RH M → RF M → (∀ (a : Nat) (i : Int), a ≠ 598 → a ≠ 603 → a ≠ 604 → a ≠ 605 → M a i = M0 a i) → (∀ (i : Int), i ≠ 6 → i ≠ 10 → i ≠ 11 → i ≠ 12 → i ≠ 59 → i ≠ 60 → i ≠ 61 → i ≠ 62 → i ≠ 63 → i ≠ 64 → i ≠ 65 → M 598 i = M0 598 i) → 1 ≤ h ∧ h ≤ 13 → 0 ≤ t ∧ t ≤ 11 → 0 ≤ x ∧ x ≤ 23 → t < M 598 6 → (M 603 t = 2 ∧ M 604 t ≤ 380 ∨ M 603 t = 3 ∧ M 604 t ≤ 376) → HT M (rf M0 x) (M0 600 x) (M 598 6) → HE (rf M0 x) (M0 600 x) (M 598 6) ∧ (M 598 10 = 0 ↔ hX (rf M0 x) (M0 600 x) (M 598 6) = -1) → (t = ntf (rf M0 x) (M0 600 x) (M 598 6) ∧ pcf (rf M0 x) (M0 600 x) (M 598 6) = -1 ∧ M 598 10 = 0) → inf (rf M0 x) (M0 600 x) (M 598 6) t = nxI (rf M0 x) (M0 600 x) (M 598 6 - h).toNat h → rf M x = rf M0 x → x = x0 → 13 - h ≤ nM → jr A 6 xm_302 39 [(3, .int (Int32.ofInt (h))), (2, .int (Int32.ofInt (t))), (1, .int (Int32.ofInt (x))), (0, .ref (598))] [] M Q := by
  intro nM
  induction nM using Nat.strongRecOn with
  | ind nM ih =>
    intro M h t x hI_M hH_M hS_M hF_M hG_M h_h h_t h_x hy0 hy1 hy2 hy3 hy4 hy5 hy6 hy7 hm
    subst hy7
    have rc := RH.car hH_M h
    refine jr.iload_n rfl rfl ?_
    refine jr.aload_n rfl rfl ?_
    obtain ⟨v1, e1⟩ : ∃ z, M 598 6 = z := ⟨_, rfl⟩
    have b1 : 0 ≤ v1 ∧ v1 ≤ 12 := by rw [← e1]; exact hI_M 598 6 (Nat.le_of_ble_eq_true rfl)
    refine jr.getf (i := 6) (x := v1) (v := .int (Int32.ofInt (v1))) rfl rfl (nlt rfl) rfl (nlt rfl) rfl rfl e1 rfl ?_
    refine jr.icmp_ge rfl rfl (by first | (refine rgb (by assumption) ?_; exact rfl) | omega) (by first | (refine rgb (by assumption) ?_; exact rfl) | omega) (fun h44 => ?_) (fun h44 => ?_)
    · refine jr.iload_n rfl rfl ?_
      refine jr.aload_n rfl rfl ?_
      refine jr.getf (i := 6) (x := v1) (v := .int (Int32.ofInt (v1))) rfl rfl (nlt rfl) rfl (nlt rfl) rfl rfl e1 rfl ?_
      refine jr.icmp_ge rfl rfl (by first | (refine rgb (by assumption) ?_; exact rfl) | omega) (by first | (refine rgb (by assumption) ?_; exact rfl) | omega) (fun h78 => ?_) (fun h78 => ?_)
      · refine jr.iconst rfl ?_
        exact jr.ireturn rfl rfl rfl (q _ _ hI_M hH_M hS_M  (by first | exact rgq rfl | omega) (Or.inl rfl) ⟨hy2, hy3, Or.inl ⟨(fun u => by have u3 := u.2.2.2; rw [← hy4.1, hy5] at u3; first | (rw [nxI_e (by have h9 := hy2.1; omega)] at u3; unfold kA at u3; rw [if_neg (by omega)] at u3; omega) | (have hc : 0 ≤ h ∧ h < M 598 6 := (by omega); have e : nxI (rf M0 x) (M0 600 x) (M 598 6 - h).toNat h = h := (by have hh := HT.f hy2 hc; rw [nxI_s hc.2, if_neg (by omega)]); have hh := HT.f hy2 hc; rw [e, kA_i hc] at u3; omega)), rfl⟩⟩ (fun a i f598 f603 f604 f605 => (hF_M a i f598 f603 f604 f605)) (fun i g6 g10 g11 g12 g59 g60 g61 g62 g63 g64 g65 => (hG_M i g6 g10 g11 g12 g59 g60 g61 g62 g63 g64 g65)))
      · refine jr.aload_n rfl rfl ?_
        refine jr.getf (i := 7) (v := .ref 603) rfl rfl (nlt rfl) rfl (nlt rfl) rfl rfl rfl rfl ?_
        refine jr.iload_n rfl rfl ?_
        obtain ⟨v2, e2⟩ : ∃ z, M 603 h = z := ⟨_, rfl⟩
        have b2 : 0 ≤ v2 ∧ v2 ≤ 11 := by rw [← e2]; exact (by have q := hI_M 603 h (Nat.le_of_ble_eq_true rfl); rw [xri_row rfl rfl] at q; exact q)
        refine jr.iald (i := h) (x := v2) rfl (nlt rfl) rfl (Nat.le_of_ble_eq_true rfl) (by omega) (by omega) e2 ?_
        refine jr_s rfl rfl (Or.inl rfl) ⟨Nat.le_of_ble_eq_true rfl, Nat.le_of_ble_eq_true rfl⟩ rfl rfl (jc.deep (c_isCarried (by omega) (fun c87 => ?_) (fun c87 => ?_)) (Nat.le_of_ble_eq_true rfl))
        · refine jr.if_ne rfl rfl (by first | exact rgl rfl | omega) (fun _ => ?_) (fun h => absurd (by decide) h)
          refine jr.aload_n rfl rfl ?_
          refine jr.iload_n rfl rfl ?_
          refine jr.iload_n rfl rfl ?_
          refine jr.iload_n rfl rfl ?_
          obtain ⟨v4, e4⟩ : ∃ z, M 603 t = z := ⟨_, rfl⟩
          have b4 : 0 ≤ v4 ∧ v4 ≤ 11 := by rw [← e4]; exact (by have q := hI_M 603 t (Nat.le_of_ble_eq_true rfl); rw [xri_row rfl rfl] at q; exact q)
          obtain ⟨v5, e5⟩ : ∃ z, M 604 t = z := ⟨_, rfl⟩
          have b5 : 0 ≤ v5 ∧ v5 ≤ 400 := by rw [← e5]; exact (by have q := hI_M 604 t (Nat.le_of_ble_eq_true rfl); rw [xri_row rfl rfl] at q; exact q)
          obtain ⟨v6, e6⟩ : ∃ z, M 604 h = z := ⟨_, rfl⟩
          have b6 : 0 ≤ v6 ∧ v6 ≤ 400 := by rw [← e6]; exact (by have q := hI_M 604 h (Nat.le_of_ble_eq_true rfl); rw [xri_row rfl rfl] at q; exact q)
          refine jr_v rfl rfl (Or.inl rfl) rfl rfl (nlt rfl) rfl ⟨rfl, Nat.le_of_ble_eq_true rfl, Nat.le_of_ble_eq_true rfl⟩ rfl (jc.deep (r_takeEnds_x hI_M hH_M hS_M  (by omega) (by omega) (by omega) (by rw [e4, e5]; omega) (by rw [e2]; omega) (by rw [e6]; omega) hy2 hy6 ⟨⟨by omega, by omega⟩, ⟨by omega, by omega⟩⟩ (fun M3 hI_M3 hH_M3 hS_M3  w3_0 w3_1 w3_2 w3_3 w3_4 w3_5 => ?_)) (Nat.le_of_ble_eq_true rfl))
          refine jr.iconst rfl ?_
          have e7 : M3 598 6 = v1 := ((w3_5 6 (zne rfl) (zne rfl) (zne rfl) (zne rfl) (zne rfl) (zne rfl) (zne rfl)).trans e1)
          have e8 : M3 603 h = v2 := ((w3_4 603 h (nne rfl)).trans e2)
          have e9 : M3 603 t = v4 := ((w3_4 603 t (nne rfl)).trans e4)
          exact jr.ireturn rfl rfl rfl (q _ _ hI_M3 hH_M3 hS_M3  (by omega) (Or.inr (RE.mk' w3_0 (by omega) (by rw [e7]; omega) (by rw [e8]; omega) (fun q => by rw [e8]; have z := w3_1 q; omega) w3_2 (t := t) (by omega) (by rw [e7]; omega) (by rw [e9]; omega))) (by have hc : 0 ≤ h ∧ h < M 598 6 := (by omega); have hh := HT.f hy2 hc; have e : nxI (rf M0 x) (M0 600 x) (M 598 6 - h).toNat h = h := (by rw [nxI_s hc.2, if_neg (by omega)]); have hin : inf (rf M0 x) (M0 600 x) (M 598 6) t = h := (by rw [hy5, e]); have e6 : M3 598 6 = M 598 6 := w3_5 6 (zne rfl) (zne rfl) (zne rfl) (zne rfl) (zne rfl) (zne rfl) (zne rfl); have e10 : M3 598 10 = M 598 10 := w3_5 10 (zne rfl) (zne rfl) (zne rfl) (zne rfl) (zne rfl) (zne rfl) (zne rfl); unfold HN6; rw [e6, e10, ← hy4.1, hin]; exact ⟨hy2.q w3_4 e6, hy3, Or.inr ⟨⟨hy4.2.2, by rw [← hy4.1]; omega, hy4.2.1, by rw [← hy4.1, hin, kA_i hc]; omega⟩, rfl, EN6.m hy2 (by omega) hc w3_3 w3_0⟩⟩) (fun a i f598 f603 f604 f605 => ((w3_4 a i f598).trans (hF_M a i f598 f603 f604 f605))) (fun i g6 g10 g11 g12 g59 g60 g61 g62 g63 g64 g65 => ((w3_5 i g59 g60 g61 g62 g63 g64 g65).trans (hG_M i g6 g10 g11 g12 g59 g60 g61 g62 g63 g64 g65))))
        · refine jr.if_ne rfl rfl (by first | exact rgl rfl | omega) (fun h => absurd h (by decide)) (fun _ => ?_)
          refine jr.iconst rfl ?_
          exact jr.ireturn rfl rfl rfl (q _ _ hI_M hH_M hS_M  (by first | exact rgq rfl | omega) (Or.inl rfl) ⟨hy2, hy3, Or.inl ⟨(fun u => by have u3 := u.2.2.2; rw [← hy4.1, hy5] at u3; first | (rw [nxI_e (by have h9 := hy2.1; omega)] at u3; unfold kA at u3; rw [if_neg (by omega)] at u3; omega) | (have hc : 0 ≤ h ∧ h < M 598 6 := (by omega); have e : nxI (rf M0 x) (M0 600 x) (M 598 6 - h).toNat h = h := (by have hh := HT.f hy2 hc; rw [nxI_s hc.2, if_neg (by omega)]); have hh := HT.f hy2 hc; rw [e, kA_i hc] at u3; omega)), rfl⟩⟩ (fun a i f598 f603 f604 f605 => (hF_M a i f598 f603 f604 f605)) (fun i g6 g10 g11 g12 g59 g60 g61 g62 g63 g64 g65 => (hG_M i g6 g10 g11 g12 g59 g60 g61 g62 g63 g64 g65)))
    · refine jr.aload_n rfl rfl ?_
      refine jr.getf (i := 7) (v := .ref 603) rfl rfl (nlt rfl) rfl (nlt rfl) rfl rfl rfl rfl ?_
      refine jr.iload_n rfl rfl ?_
      obtain ⟨v10, e10⟩ : ∃ z, M 603 h = z := ⟨_, rfl⟩
      have b10 : 0 ≤ v10 ∧ v10 ≤ 11 := by rw [← e10]; exact (by have q := hI_M 603 h (Nat.le_of_ble_eq_true rfl); rw [xri_row rfl rfl] at q; exact q)
      refine jr.iald (i := h) (x := v10) rfl (nlt rfl) rfl (Nat.le_of_ble_eq_true rfl) (by omega) (by omega) e10 ?_
      refine jr.iconst rfl ?_
      refine jr.icmp_eq rfl rfl (by first | (refine rgb (by assumption) ?_; exact rfl) | omega) (rgl rfl) (fun h54 => ?_) (fun h54 => ?_)
      · refine jr.iinc (ls' := [_, _, _, _]) rfl rfl (nlt rfl) rfl ?_
        refine jr.goto rfl rfl ?_
        refine jr.pick (ls := [_, _, _, _]) [0, 1, 2, 3] rfl rfl ?_
        exact ih (nM - 1) (by omega) M (h + 1) t x hI_M hH_M hS_M  (fun a i f598 f603 f604 f605 => (hF_M a i f598 f603 f604 f605)) (fun i g6 g10 g11 g12 g59 g60 g61 g62 g63 g64 g65 => (hG_M i g6 g10 g11 g12 g59 g60 g61 g62 g63 g64 g65)) (by omega) (by omega) (by omega) (by omega) (by omega) hy2 hy3 hy4 (by have hc : 0 ≤ h ∧ h < M 598 6 := (by omega); have hh := HT.f hy2 hc; rw [hy5, nxI_s hc.2, if_pos (by omega)]) hy6 (by omega) (by omega)
      · refine jr.aload_n rfl rfl ?_
        refine jr.getf (i := 7) (v := .ref 603) rfl rfl (nlt rfl) rfl (nlt rfl) rfl rfl rfl rfl ?_
        refine jr.iload_n rfl rfl ?_
        refine jr.iald (i := h) (x := v10) rfl (nlt rfl) rfl (Nat.le_of_ble_eq_true rfl) (by omega) (by omega) e10 ?_
        refine jr.iconst rfl ?_
        refine jr.icmp_ne rfl rfl (by first | (refine rgb (by assumption) ?_; exact rfl) | omega) (rgl rfl) (fun h64 => ?_) (fun h64 => ?_)
        · refine jr.iload_n rfl rfl ?_
          refine jr.aload_n rfl rfl ?_
          refine jr.getf (i := 6) (x := v1) (v := .int (Int32.ofInt (v1))) rfl rfl (nlt rfl) rfl (nlt rfl) rfl rfl e1 rfl ?_
          refine jr.icmp_ge rfl rfl (by first | (refine rgb (by assumption) ?_; exact rfl) | omega) (by first | (refine rgb (by assumption) ?_; exact rfl) | omega) (fun h78 => ?_) (fun h78 => ?_)
          · refine jr.iconst rfl ?_
            exact jr.ireturn rfl rfl rfl (q _ _ hI_M hH_M hS_M  (by first | exact rgq rfl | omega) (Or.inl rfl) ⟨hy2, hy3, Or.inl ⟨(fun u => by have u3 := u.2.2.2; rw [← hy4.1, hy5] at u3; first | (rw [nxI_e (by have h9 := hy2.1; omega)] at u3; unfold kA at u3; rw [if_neg (by omega)] at u3; omega) | (have hc : 0 ≤ h ∧ h < M 598 6 := (by omega); have e : nxI (rf M0 x) (M0 600 x) (M 598 6 - h).toNat h = h := (by have hh := HT.f hy2 hc; rw [nxI_s hc.2, if_neg (by omega)]); have hh := HT.f hy2 hc; rw [e, kA_i hc] at u3; omega)), rfl⟩⟩ (fun a i f598 f603 f604 f605 => (hF_M a i f598 f603 f604 f605)) (fun i g6 g10 g11 g12 g59 g60 g61 g62 g63 g64 g65 => (hG_M i g6 g10 g11 g12 g59 g60 g61 g62 g63 g64 g65)))
          · refine jr.aload_n rfl rfl ?_
            refine jr.getf (i := 7) (v := .ref 603) rfl rfl (nlt rfl) rfl (nlt rfl) rfl rfl rfl rfl ?_
            refine jr.iload_n rfl rfl ?_
            refine jr.iald (i := h) (x := v10) rfl (nlt rfl) rfl (Nat.le_of_ble_eq_true rfl) (by omega) (by omega) e10 ?_
            refine jr_s rfl rfl (Or.inl rfl) ⟨Nat.le_of_ble_eq_true rfl, Nat.le_of_ble_eq_true rfl⟩ rfl rfl (jc.deep (c_isCarried (by omega) (fun c87 => ?_) (fun c87 => ?_)) (Nat.le_of_ble_eq_true rfl))
            · refine jr.if_ne rfl rfl (by first | exact rgl rfl | omega) (fun _ => ?_) (fun h => absurd (by decide) h)
              refine jr.aload_n rfl rfl ?_
              refine jr.iload_n rfl rfl ?_
              refine jr.iload_n rfl rfl ?_
              refine jr.iload_n rfl rfl ?_
              obtain ⟨v12, e12⟩ : ∃ z, M 603 t = z := ⟨_, rfl⟩
              have b12 : 0 ≤ v12 ∧ v12 ≤ 11 := by rw [← e12]; exact (by have q := hI_M 603 t (Nat.le_of_ble_eq_true rfl); rw [xri_row rfl rfl] at q; exact q)
              obtain ⟨v13, e13⟩ : ∃ z, M 604 t = z := ⟨_, rfl⟩
              have b13 : 0 ≤ v13 ∧ v13 ≤ 400 := by rw [← e13]; exact (by have q := hI_M 604 t (Nat.le_of_ble_eq_true rfl); rw [xri_row rfl rfl] at q; exact q)
              obtain ⟨v14, e14⟩ : ∃ z, M 604 h = z := ⟨_, rfl⟩
              have b14 : 0 ≤ v14 ∧ v14 ≤ 400 := by rw [← e14]; exact (by have q := hI_M 604 h (Nat.le_of_ble_eq_true rfl); rw [xri_row rfl rfl] at q; exact q)
              refine jr_v rfl rfl (Or.inl rfl) rfl rfl (nlt rfl) rfl ⟨rfl, Nat.le_of_ble_eq_true rfl, Nat.le_of_ble_eq_true rfl⟩ rfl (jc.deep (r_takeEnds_x hI_M hH_M hS_M  (by omega) (by omega) (by omega) (by rw [e12, e13]; omega) (by rw [e10]; omega) (by rw [e14]; omega) hy2 hy6 ⟨⟨by omega, by omega⟩, ⟨by omega, by omega⟩⟩ (fun M11 hI_M11 hH_M11 hS_M11  w11_0 w11_1 w11_2 w11_3 w11_4 w11_5 => ?_)) (Nat.le_of_ble_eq_true rfl))
              refine jr.iconst rfl ?_
              have e15 : M11 598 6 = v1 := ((w11_5 6 (zne rfl) (zne rfl) (zne rfl) (zne rfl) (zne rfl) (zne rfl) (zne rfl)).trans e1)
              have e16 : M11 603 h = v10 := ((w11_4 603 h (nne rfl)).trans e10)
              have e17 : M11 603 t = v12 := ((w11_4 603 t (nne rfl)).trans e12)
              exact jr.ireturn rfl rfl rfl (q _ _ hI_M11 hH_M11 hS_M11  (by omega) (Or.inr (RE.mk' w11_0 (by omega) (by rw [e15]; omega) (by rw [e16]; omega) (fun q => by rw [e16]; have z := w11_1 q; omega) w11_2 (t := t) (by omega) (by rw [e15]; omega) (by rw [e17]; omega))) (by have hc : 0 ≤ h ∧ h < M 598 6 := (by omega); have hh := HT.f hy2 hc; have e : nxI (rf M0 x) (M0 600 x) (M 598 6 - h).toNat h = h := (by rw [nxI_s hc.2, if_neg (by omega)]); have hin : inf (rf M0 x) (M0 600 x) (M 598 6) t = h := (by rw [hy5, e]); have e6 : M11 598 6 = M 598 6 := w11_5 6 (zne rfl) (zne rfl) (zne rfl) (zne rfl) (zne rfl) (zne rfl) (zne rfl); have e10 : M11 598 10 = M 598 10 := w11_5 10 (zne rfl) (zne rfl) (zne rfl) (zne rfl) (zne rfl) (zne rfl) (zne rfl); unfold HN6; rw [e6, e10, ← hy4.1, hin]; exact ⟨hy2.q w11_4 e6, hy3, Or.inr ⟨⟨hy4.2.2, by rw [← hy4.1]; omega, hy4.2.1, by rw [← hy4.1, hin, kA_i hc]; omega⟩, rfl, EN6.m hy2 (by omega) hc w11_3 w11_0⟩⟩) (fun a i f598 f603 f604 f605 => ((w11_4 a i f598).trans (hF_M a i f598 f603 f604 f605))) (fun i g6 g10 g11 g12 g59 g60 g61 g62 g63 g64 g65 => ((w11_5 i g59 g60 g61 g62 g63 g64 g65).trans (hG_M i g6 g10 g11 g12 g59 g60 g61 g62 g63 g64 g65))))
            · refine jr.if_ne rfl rfl (by first | exact rgl rfl | omega) (fun h => absurd h (by decide)) (fun _ => ?_)
              refine jr.iconst rfl ?_
              exact jr.ireturn rfl rfl rfl (q _ _ hI_M hH_M hS_M  (by first | exact rgq rfl | omega) (Or.inl rfl) ⟨hy2, hy3, Or.inl ⟨(fun u => by have u3 := u.2.2.2; rw [← hy4.1, hy5] at u3; first | (rw [nxI_e (by have h9 := hy2.1; omega)] at u3; unfold kA at u3; rw [if_neg (by omega)] at u3; omega) | (have hc : 0 ≤ h ∧ h < M 598 6 := (by omega); have e : nxI (rf M0 x) (M0 600 x) (M 598 6 - h).toNat h = h := (by have hh := HT.f hy2 hc; rw [nxI_s hc.2, if_neg (by omega)]); have hh := HT.f hy2 hc; rw [e, kA_i hc] at u3; omega)), rfl⟩⟩ (fun a i f598 f603 f604 f605 => (hF_M a i f598 f603 f604 f605)) (fun i g6 g10 g11 g12 g59 g60 g61 g62 g63 g64 g65 => (hG_M i g6 g10 g11 g12 g59 g60 g61 g62 g63 g64 g65)))
        · refine jr.iinc (ls' := [_, _, _, _]) rfl rfl (nlt rfl) rfl ?_
          refine jr.goto rfl rfl ?_
          refine jr.pick (ls := [_, _, _, _]) [0, 1, 2, 3] rfl rfl ?_
          exact ih (nM - 1) (by omega) M (h + 1) t x hI_M hH_M hS_M  (fun a i f598 f603 f604 f605 => (hF_M a i f598 f603 f604 f605)) (fun i g6 g10 g11 g12 g59 g60 g61 g62 g63 g64 g65 => (hG_M i g6 g10 g11 g12 g59 g60 g61 g62 g63 g64 g65)) (by omega) (by omega) (by omega) (by omega) (by omega) hy2 hy3 hy4 (by have hc : 0 ≤ h ∧ h < M 598 6 := (by omega); have hh := HT.f hy2 hc; rw [hy5, nxI_s hc.2, if_pos (by omega)]) hy6 (by omega) (by omega)
theorem r_hasEnds_x {A : Nat → Option (Nat × (Nat → Int32))} {Q : Option Value → jm → Prop} {M : jm} (hI_M : RI M) (hH_M : RH M) (hS_M : RF M) {x : Int} (h_x : 0 ≤ x ∧ x ≤ 23) (p0 : M 600 x ≠ -1) (q : ∀ (r : Int) (M' : jm), RI M' → RH M' → RF M' → 0 ≤ r ∧ r ≤ 1 → (r = 0 ∨ RE M') → HN6 M M' x r → (∀ (a : Nat) (i : Int), a ≠ 598 → a ≠ 603 → a ≠ 604 → a ≠ 605 → M' a i = M a i) → (∀ (i : Int), i ≠ 6 → i ≠ 10 → i ≠ 11 → i ≠ 12 → i ≠ 59 → i ≠ 60 → i ≠ 61 → i ≠ 62 → i ≠ 63 → i ≠ 64 → i ≠ 65 → M' 598 i = M 598 i) → Q (some (.int (Int32.ofInt r))) M') : jc A 7 302 [.ref (598), .int (Int32.ofInt (x))] M Q := by
  refine jc_of (m := xm_302) rfl (Nat.le_of_ble_eq_true rfl) rfl ?_
  refine jr.aload_n rfl rfl ?_
  refine jr.iload_n rfl rfl ?_
  obtain ⟨v2, e2⟩ : ∃ z, M 600 x = z := ⟨_, rfl⟩
  have b2 : (-1) ≤ v2 ∧ v2 ≤ 400 := by rw [← e2]; exact (by have q := hI_M 600 x (Nat.le_of_ble_eq_true rfl); rw [xri_row rfl rfl] at q; exact q)
  refine jr_v rfl rfl (Or.inl rfl) rfl rfl (nlt rfl) rfl ⟨rfl, Nat.le_of_ble_eq_true rfl, Nat.le_of_ble_eq_true rfl⟩ rfl (jc.deep (r_look_x hI_M hH_M hS_M  (by omega) (by rw [e2]; omega) (fun M1 hI_M1 hH_M1 hS_M1  w1_0 w1_1 w1_2 w1_3 => ?_)) (Nat.le_of_ble_eq_true rfl))
  refine jr.aload_n rfl rfl ?_
  obtain ⟨v3, e3⟩ : ∃ z, M1 598 10 = z := ⟨_, rfl⟩
  have b3 : 0 ≤ v3 ∧ v3 ≤ 6 := by rw [← e3]; exact hI_M1 598 10 (Nat.le_of_ble_eq_true rfl)
  refine jr.getf (i := 10) (x := v3) (v := .int (Int32.ofInt (v3))) rfl rfl (nlt rfl) rfl (nlt rfl) rfl rfl e3 rfl ?_
  refine jr.if_ne rfl rfl (by first | (refine rgb (by assumption) ?_; exact rfl) | omega) (fun h9 => ?_) (fun h9 => ?_)
  · have sx9 : (1 : Int) ≤ v3 := by omega
    refine jr.iconst rfl ?_
    exact jr.ireturn rfl rfl rfl (q _ _ hI_M1 hH_M1 hS_M1  (by first | exact rgq rfl | omega) (Or.inl rfl) ⟨(HQ6.t w1_1 (rN6 hI_M p0) (fun i h0 h1 => rf_r hI_M x i)), ⟨HQ6.e w1_1, HQ6.f w1_1⟩, Or.inl ⟨(fun h => by unfold heF at h; first | (have h9 := h.1; rw [e3] at h9; omega)), rfl⟩⟩ (fun a i f598 f603 f604 f605 => ((w1_2 a i f598 f603 f604 f605).trans rfl)) (fun i g6 g10 g11 g12 g59 g60 g61 g62 g63 g64 g65 => ((w1_3 i g6 g10 g11 g12).trans rfl)))
  · refine jr.aload_n rfl rfl ?_
    refine jr.iload_n rfl rfl ?_
    refine jr_v rfl rfl (Or.inl rfl) rfl rfl (nlt rfl) rfl ⟨rfl, Nat.le_of_ble_eq_true rfl, Nat.le_of_ble_eq_true rfl⟩ rfl (jc.deep (r_piece_x hI_M1 hH_M1 hS_M1  (by omega) (HQ6.t w1_1 (rN6 hI_M p0) (fun i h0 h1 => rf_r hI_M x i)) (rf_e (fun i => w1_2 601 i (nne rfl) (nne rfl) (nne rfl) (nne rfl))) (fun r4 z4 w4_0 w4_1 w4_2 => ?_)) (Nat.le_of_ble_eq_true rfl))
    refine jr.iconst rfl ?_
    refine jr.icmp_eq rfl rfl (by first | (refine rgb (by assumption) ?_; exact rfl) | omega) (rgl rfl) (fun h18 => ?_) (fun h18 => ?_)
    · refine jr.aload_n rfl rfl ?_
      refine jr_v rfl rfl (Or.inl rfl) rfl rfl (nlt rfl) rfl ⟨rfl, Nat.le_of_ble_eq_true rfl, Nat.le_of_ble_eq_true rfl⟩ rfl (jc.deep (r_net_x hI_M1 hH_M1 hS_M1   (HQ6.t w1_1 (rN6 hI_M p0) (fun i h0 h1 => rf_r hI_M x i)) (fun r5 z5 w5_0 w5_1 w5_2 w5_3 => ?_)) (Nat.le_of_ble_eq_true rfl))
      refine jr.istore_n (ls' := [_, _, _]) rfl (nlt rfl) rfl ?_
      refine jr.iload_n rfl rfl ?_
      refine jr.iconst rfl ?_
      refine jr.icmp_ne rfl rfl (by first | (refine rgb (by assumption) ?_; exact rfl) | omega) (rgl rfl) (fun h30 => ?_) (fun h30 => ?_)
      · have sx30 : (0 : Int) ≤ r5 := by omega
        clear h30
        refine jr.iload_n rfl rfl ?_
        refine jr.iconst rfl ?_
        refine jr.iadd rfl ?_
        refine jr.istore_n (ls' := [_, _, _, _]) rfl (nlt rfl) rfl ?_
        refine jr.pick (ls := [_, _, _, _]) [0, 1, 3, 2] rfl rfl ?_
        exact r_hasEnds_L39_x q 13 M1 (r5 + 1) r5 x hI_M1 hH_M1 hS_M1  (fun a i f598 f603 f604 f605 => ((w1_2 a i f598 f603 f604 f605).trans rfl)) (fun i g6 g10 g11 g12 g59 g60 g61 g62 g63 g64 g65 => ((w1_3 i g6 g10 g11 g12).trans rfl)) (by omega) (by omega) (by omega) (by omega) (by omega) (HQ6.t w1_1 (rN6 hI_M p0) (fun i h0 h1 => rf_r hI_M x i)) ⟨HQ6.e w1_1, HQ6.f w1_1⟩ ⟨w5_3, by rw [← w4_2]; omega, by rw [e3]; omega⟩ rfl (rf_e (fun i => w1_2 601 i (nne rfl) (nne rfl) (nne rfl) (nne rfl))) (by omega) (by omega)
      · refine jr.iconst rfl ?_
        exact jr.ireturn rfl rfl rfl (q _ _ hI_M1 hH_M1 hS_M1  (by first | exact rgq rfl | omega) (Or.inl rfl) ⟨(HQ6.t w1_1 (rN6 hI_M p0) (fun i h0 h1 => rf_r hI_M x i)), ⟨HQ6.e w1_1, HQ6.f w1_1⟩, Or.inl ⟨(fun h => by unfold heF at h; first | (have h9 := h.1; rw [e3] at h9; omega) | (have h9 := h.2.2.1; rw [← w4_2] at h9; omega) | (have h9 := h.2.1; rw [← w5_3] at h9; omega)), rfl⟩⟩ (fun a i f598 f603 f604 f605 => ((w1_2 a i f598 f603 f604 f605).trans rfl)) (fun i g6 g10 g11 g12 g59 g60 g61 g62 g63 g64 g65 => ((w1_3 i g6 g10 g11 g12).trans rfl)))
    · have sx18 : (0 : Int) ≤ r4 := by omega
      clear h18
      refine jr.iconst rfl ?_
      exact jr.ireturn rfl rfl rfl (q _ _ hI_M1 hH_M1 hS_M1  (by first | exact rgq rfl | omega) (Or.inl rfl) ⟨(HQ6.t w1_1 (rN6 hI_M p0) (fun i h0 h1 => rf_r hI_M x i)), ⟨HQ6.e w1_1, HQ6.f w1_1⟩, Or.inl ⟨(fun h => by unfold heF at h; first | (have h9 := h.1; rw [e3] at h9; omega) | (have h9 := h.2.2.1; rw [← w4_2] at h9; omega) | (have h9 := h.2.1; rw [← w5_3] at h9; omega)), rfl⟩⟩ (fun a i f598 f603 f604 f605 => ((w1_2 a i f598 f603 f604 f605).trans rfl)) (fun i g6 g10 g11 g12 g59 g60 g61 g62 g63 g64 g65 => ((w1_3 i g6 g10 g11 g12).trans rfl)))
end
