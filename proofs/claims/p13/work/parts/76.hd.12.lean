section
/-! ===== the reference: field, read, carried, sums, repair ===== -/
theorem r_field_x {A : Nat → Option (Nat × (Nat → Int32))} {Q : Option Value → jm → Prop} {M : jm} (hI_M : RI M) (hH_M : RH M) (hS_M : RF M) {x : Int} (h_x : (-2147483648) ≤ x ∧ x ≤ 2147483647) {h : Int} (h_h : (-2147483648) ≤ h ∧ h ≤ 2147483647) {j : Int} (h_j : (-2147483648) ≤ j ∧ j ≤ 2147483647) (q : ∀ (r : Int) (M' : jm), RI M' → RH M' → RF M' → (-9223372036854775808) ≤ r ∧ r ≤ 9223372036854775807 → (((x < 0 ∨ 23 < x ∨ M 600 x = -1) ∧ r = -2) ∨ (((0 ≤ x ∧ x ≤ 23) ∧ M 600 x ≠ -1) ∧ ∃ C : Int, HE (rf M x) (M 600 x) C ∧ r = vA (rf M x) (M 600 x) C h j)) → (∀ (a : Nat) (i : Int), a ≠ 598 → a ≠ 603 → a ≠ 604 → a ≠ 605 → M' a i = M a i) → (∀ (i : Int), i ≠ 6 → i ≠ 10 → i ≠ 11 → i ≠ 12 → M' 598 i = M 598 i) → Q (some (.long (Int64.ofInt r))) M') : jc A 7 276 [.ref (598), .int (Int32.ofInt (x)), .int (Int32.ofInt (h)), .int (Int32.ofInt (j))] M Q := by
  refine jc_of (m := xm_276) rfl (Nat.le_of_ble_eq_true rfl) rfl ?_
  refine jr.aload_n rfl rfl ?_
  refine jr.iload_n rfl rfl ?_
  refine jr_v rfl rfl (Or.inl rfl) rfl rfl (by decide) rfl ⟨rfl, Nat.le_of_ble_eq_true rfl, Nat.le_of_ble_eq_true rfl⟩ rfl (jc.deep (c_isThere hI_M (by omega) (fun l2 u2 t2 => ?_) (fun n2 => ?_)) (by decide))
  · refine jr.if_ne rfl rfl (by omega) (fun _ => ?_) (fun h => absurd (by decide) h)
    refine jr.aload_n rfl rfl ?_
    refine jr.iload_n rfl rfl ?_
    obtain ⟨v2, e2⟩ : ∃ z, M 600 x = z := ⟨_, rfl⟩
    have b2 : (-1) ≤ v2 ∧ v2 ≤ 400 := by rw [← e2]; exact (by have q := hI_M 600 x (by decide); rw [xri_row rfl rfl] at q; exact q)
    refine jr_v rfl rfl (Or.inl rfl) rfl rfl (by decide) rfl ⟨rfl, Nat.le_of_ble_eq_true rfl, Nat.le_of_ble_eq_true rfl⟩ rfl (jc.deep (r_look_x hI_M hH_M hS_M  (by omega) (by rw [e2]; omega) (fun M1 hI_M1 hH_M1 hS_M1  w1_0 w1_1 w1_2 w1_3 => ?_)) (by decide))
    refine jr.iload_n rfl rfl ?_
    refine jr.i2l rfl (by omega) ?_
    refine jr.lconst (x := 0) rfl (by decide) ?_
    refine jr.aload_n rfl rfl ?_
    obtain ⟨v3, e3⟩ : ∃ z, M1 598 6 = z := ⟨_, rfl⟩
    have b3 : 0 ≤ v3 ∧ v3 ≤ 12 := by rw [← e3]; exact hI_M1 598 6 (by decide)
    refine jr.getf (i := 6) (x := v3) (v := .int (Int32.ofInt (v3))) rfl rfl (by decide) rfl (by decide) rfl rfl e3 rfl ?_
    refine jr.iconst rfl ?_
    refine jr.isub rfl ?_
    refine jr.i2l rfl (by omega) ?_
    refine jr_s rfl rfl (Or.inl rfl) ⟨Nat.le_of_ble_eq_true rfl, Nat.le_of_ble_eq_true rfl⟩ rfl rfl (jc.deep (c_within (by omega) (by omega) (by omega) (fun l27 u27 => ?_) (fun n27 => ?_)) (by decide))
    · refine jr.if_eq rfl rfl (by omega) (fun h => absurd h (by decide)) (fun _ => ?_)
      refine jr.iload_n rfl rfl ?_
      refine jr.i2l rfl (by omega) ?_
      refine jr.lconst (x := 0) rfl (by decide) ?_
      refine jr.aload_n rfl rfl ?_
      refine jr.getf (i := 7) (v := .ref 603) rfl rfl (by decide) rfl (by decide) rfl rfl rfl rfl ?_
      refine jr.iload_n rfl rfl ?_
      obtain ⟨v4, e4⟩ : ∃ z, M1 603 h = z := ⟨_, rfl⟩
      have b4 : 0 ≤ v4 ∧ v4 ≤ 11 := by rw [← e4]; exact (by have q := hI_M1 603 h (by decide); rw [xri_row rfl rfl] at q; exact q)
      refine jr.iald (i := h) (x := v4) rfl (by decide) rfl (by decide) (by omega) (by omega) e4 ?_
      refine jr_s rfl rfl (Or.inl rfl) ⟨Nat.le_of_ble_eq_true rfl, Nat.le_of_ble_eq_true rfl⟩ rfl rfl (jc.deep (r_fields_x hI_M1 hH_M1 hS_M1  (by omega)  (fun r5 z5 w5_0 => ?_)) (by decide))
      refine jr.iconst rfl ?_
      refine jr.isub rfl ?_
      refine jr.i2l rfl (by omega) ?_
      refine jr_s rfl rfl (Or.inl rfl) ⟨Nat.le_of_ble_eq_true rfl, Nat.le_of_ble_eq_true rfl⟩ rfl rfl (jc.deep (c_within (by omega) (by omega) (by omega) (fun l48 u48 => ?_) (fun n48 => ?_)) (by decide))
      · refine jr.if_ne rfl rfl (by omega) (fun _ => ?_) (fun h => absurd (by decide) h)
        refine jr.aload_n rfl rfl ?_
        refine jr.iload_n rfl rfl ?_
        refine jr.aload_n rfl rfl ?_
        refine jr.getf (i := 7) (v := .ref 603) rfl rfl (by decide) rfl (by decide) rfl rfl rfl rfl ?_
        refine jr.iload_n rfl rfl ?_
        refine jr.iald (i := h) (x := v4) rfl (by decide) rfl (by decide) (by omega) (by omega) e4 ?_
        refine jr.aload_n rfl rfl ?_
        refine jr.getf (i := 8) (v := .ref 604) rfl rfl (by decide) rfl (by decide) rfl rfl rfl rfl ?_
        refine jr.iload_n rfl rfl ?_
        obtain ⟨v6, e6⟩ : ∃ z, M1 604 h = z := ⟨_, rfl⟩
        have b6 : 0 ≤ v6 ∧ v6 ≤ 400 := by rw [← e6]; exact (by have q := hI_M1 604 h (by decide); rw [xri_row rfl rfl] at q; exact q)
        refine jr.iald (i := h) (x := v6) rfl (by decide) rfl (by decide) (by omega) (by omega) e6 ?_
        refine jr.aload_n rfl rfl ?_
        refine jr.getf (i := 9) (v := .ref 605) rfl rfl (by decide) rfl (by decide) rfl rfl rfl rfl ?_
        refine jr.iload_n rfl rfl ?_
        obtain ⟨v7, e7⟩ : ∃ z, M1 605 h = z := ⟨_, rfl⟩
        have b7 : 0 ≤ v7 ∧ v7 ≤ 400 := by rw [← e7]; exact (by have q := hI_M1 605 h (by decide); rw [xri_row rfl rfl] at q; exact q)
        refine jr.iald (i := h) (x := v7) rfl (by decide) rfl (by decide) (by omega) (by omega) e7 ?_
        refine jr.iload_n rfl rfl ?_
        refine jr_v rfl rfl (Or.inl rfl) rfl rfl (by decide) rfl ⟨rfl, Nat.le_of_ble_eq_true rfl, Nat.le_of_ble_eq_true rfl⟩ rfl (jc.deep (r_valueOf_x hI_M1 hH_M1 hS_M1  (by omega) (by omega) (by omega) (by omega) (by omega) (by have q := (hH_M1 h).1; rw [e6, e4] at q; exact q) (by omega) (fun r8 z8 w8_0 => ?_)) (by decide))
        exact jr.lreturn rfl rfl (q _ _ hI_M1 hH_M1 hS_M1  (by omega) (Or.inr ⟨by omega, M1 598 6, HQ6.e w1_1, (by have hr := w1_1.2.1 h (by omega) (by omega); have hk : M1 603 h = _ := hr.2.1; rw [e4] at hk; have h2 : M1 604 h = _ := hr.2.2.1; have h3 : M1 605 h = _ := hr.2.2.2; rw [e6] at h2; rw [e7] at h3; refine vA_in ⟨by omega, by omega⟩ hk.symm h2.symm ⟨by omega, by omega⟩ ?_; have hw := w8_0; rw [h3, rf_e (M := M) (fun i => w1_2 601 i (by decide) (by decide) (by decide) (by decide))] at hw; exact hw)⟩) (fun a i f598 f603 f604 f605 => ((w1_2 a i f598 f603 f604 f605).trans rfl)) (fun i g6 g10 g11 g12 => ((w1_3 i g6 g10 g11 g12).trans rfl)))
      · refine jr.if_ne rfl rfl (by omega) (fun h => absurd h (by decide)) (fun _ => ?_)
        refine jr.ldc2 (x := (-1)) rfl rfl (by decide) ?_
        exact jr.lreturn rfl rfl (q _ _ hI_M1 hH_M1 hS_M1  (by omega) (Or.inr ⟨by omega, M1 598 6, HQ6.e w1_1, (by have hr := w1_1.2.1 h (by omega) (by omega); have hk : M1 603 h = _ := hr.2.1; rw [e4] at hk; exact vA_out (Or.inr (by rw [← hk]; omega)))⟩) (fun a i f598 f603 f604 f605 => ((w1_2 a i f598 f603 f604 f605).trans rfl)) (fun i g6 g10 g11 g12 => ((w1_3 i g6 g10 g11 g12).trans rfl)))
    · refine jr.if_eq rfl rfl (by omega) (fun _ => ?_) (fun h => absurd (by decide) h)
      refine jr.ldc2 (x := (-1)) rfl rfl (by decide) ?_
      exact jr.lreturn rfl rfl (q _ _ hI_M1 hH_M1 hS_M1  (by omega) (Or.inr ⟨by omega, M1 598 6, HQ6.e w1_1, (vA_out (Or.inl (by omega)))⟩) (fun a i f598 f603 f604 f605 => ((w1_2 a i f598 f603 f604 f605).trans rfl)) (fun i g6 g10 g11 g12 => ((w1_3 i g6 g10 g11 g12).trans rfl)))
  · refine jr.if_ne rfl rfl (by omega) (fun h => absurd h (by decide)) (fun _ => ?_)
    refine jr.ldc2 (x := (-2)) rfl rfl (by decide) ?_
    exact jr.lreturn rfl rfl (q _ _ hI_M hH_M hS_M  (by omega) (Or.inl ⟨by omega, by omega⟩) (fun a i f598 f603 f604 f605 => rfl) (fun i g6 g10 g11 g12 => rfl))
theorem r_read_x {A : Nat → Option (Nat × (Nat → Int32))} {Q : Option Value → jm → Prop} {M : jm} (hI_M : RI M) (hH_M : RH M) (hS_M : RF M) {x : Int} (h_x : (-2147483648) ≤ x ∧ x ≤ 2147483647) (q : ∀ (r : Int) (M' : jm), RI M' → RH M' → RF M' → (-20) ≤ r ∧ r ≤ 12 → (((x < 0 ∨ 23 < x) ∧ r = -3 ∧ M' = M) ∨ (((0 ≤ x ∧ x ≤ 23) ∧ M 600 x = -1) ∧ (M' 598 13 = 2 ∧ M' 598 14 = 0 ∧ M' 598 15 = -1 ∧ M' 598 16 = -1) ∧ r = -12) ∨ (((0 ≤ x ∧ x ≤ 23) ∧ M 600 x ≠ -1) ∧ ∃ C : Int, HE (rf M x) (M 600 x) C ∧ RDF (rf M x) (M 600 x) C (M' 598 13) (M' 598 14) (M' 598 15) (M' 598 16) r)) → (∀ (a : Nat) (i : Int), a ≠ 598 → a ≠ 603 → a ≠ 604 → a ≠ 605 → M' a i = M a i) → (∀ (i : Int), i ≠ 6 → i ≠ 10 → i ≠ 11 → i ≠ 12 → i ≠ 13 → i ≠ 14 → i ≠ 15 → i ≠ 16 → M' 598 i = M 598 i) → Q (some (.int (Int32.ofInt r))) M') : jc A 5 267 [.ref (598), .int (Int32.ofInt (x))] M Q := by
  refine jc_of (m := xm_267) rfl (Nat.le_of_ble_eq_true rfl) rfl ?_
  refine jr.iload_n rfl rfl ?_
  refine jr_s rfl rfl (Or.inl rfl) ⟨Nat.le_of_ble_eq_true rfl, Nat.le_of_ble_eq_true rfl⟩ rfl rfl (jc.deep (c_isPN (by omega) (fun l1 u1 => ?_) (fun n1 => ?_)) (by decide))
  · refine jr.if_ne rfl rfl (by omega) (fun _ => ?_) (fun h => absurd (by decide) h)
    refine jr.aload_n rfl rfl ?_
    refine jr.getf (i := 3) (v := .ref 600) rfl rfl (by decide) rfl (by decide) rfl rfl rfl rfl ?_
    refine jr.iload_n rfl rfl ?_
    obtain ⟨v1, e1⟩ : ∃ z, M 600 x = z := ⟨_, rfl⟩
    have b1 : (-1) ≤ v1 ∧ v1 ≤ 400 := by rw [← e1]; exact (by have q := hI_M 600 x (by decide); rw [xri_row rfl rfl] at q; exact q)
    refine jr.iald (i := x) (x := v1) rfl (by decide) rfl (by decide) (by omega) (by omega) e1 ?_
    refine jr.iconst rfl ?_
    refine jr.icmp_ne rfl rfl (by omega) (by omega) (fun h17 => ?_) (fun h17 => ?_)
    · have sx17 : (0 : Int) ≤ v1 := by omega
      clear h17
      refine jr.aload_n rfl rfl ?_
      refine jr.iload_n rfl rfl ?_
      refine jr_v rfl rfl (Or.inl rfl) rfl rfl (by decide) rfl ⟨rfl, Nat.le_of_ble_eq_true rfl, Nat.le_of_ble_eq_true rfl⟩ rfl (jc.deep (r_look_x hI_M hH_M hS_M  (by omega) (by rw [e1]; omega) (fun M2 hI_M2 hH_M2 hS_M2  w2_0 w2_1 w2_2 w2_3 => ?_)) (by decide))
      refine jr.aload_n rfl rfl ?_
      refine jr.aload_n rfl rfl ?_
      obtain ⟨v3, e3⟩ : ∃ z, M2 598 10 = z := ⟨_, rfl⟩
      have b3 : 0 ≤ v3 ∧ v3 ≤ 6 := by rw [← e3]; exact hI_M2 598 10 (by decide)
      refine jr.getf (i := 10) (x := v3) (v := .int (Int32.ofInt (v3))) rfl rfl (by decide) rfl (by decide) rfl rfl e3 rfl ?_
      refine jr.putf (i := 13) (x := v3) rfl rfl (by decide) rfl (by decide) rfl rfl rfl rfl rfl ?_
      refine jr.aload_n rfl rfl ?_
      refine jr.aload_n rfl rfl ?_
      obtain ⟨v4, e4⟩ : ∃ z, M2 598 6 = z := ⟨_, rfl⟩
      have b4 : 0 ≤ v4 ∧ v4 ≤ 12 := by rw [← e4]; exact hI_M2 598 6 (by decide)
      refine jr.getf (i := 6) (x := v4) (v := .int (Int32.ofInt (v4))) rfl rfl (by decide) rfl (by decide) rfl rfl ((ju_i _ _ (by decide)).trans e4) rfl ?_
      refine jr.putf (i := 14) (x := v4) rfl rfl (by decide) rfl (by decide) rfl rfl rfl rfl rfl ?_
      refine jr.aload_n rfl rfl ?_
      refine jr.aload_n rfl rfl ?_
      refine jr.getf (i := 10) (x := v3) (v := .int (Int32.ofInt (v3))) rfl rfl (by decide) rfl (by decide) rfl rfl ((ju_i _ _ (by decide)).trans ((ju_i _ _ (by decide)).trans e3)) rfl ?_
      refine jr.if_ne rfl rfl (by omega) (fun h61 => ?_) (fun h61 => ?_)
      · have sx61 : (1 : Int) ≤ v3 := by omega
        clear h61
        refine jr.aload_n rfl rfl ?_
        obtain ⟨v5, e5⟩ : ∃ z, M2 598 11 = z := ⟨_, rfl⟩
        have b5 : (-1) ≤ v5 ∧ v5 ≤ 400 := by rw [← e5]; exact hI_M2 598 11 (by decide)
        refine jr.getf (i := 11) (x := v5) (v := .int (Int32.ofInt (v5))) rfl rfl (by decide) rfl (by decide) rfl rfl ((ju_i _ _ (by decide)).trans ((ju_i _ _ (by decide)).trans e5)) rfl ?_
        refine jr.putf (i := 15) (x := v5) rfl rfl (by decide) rfl (by decide) rfl rfl rfl rfl rfl ?_
        refine jr.aload_n rfl rfl ?_
        refine jr.aload_n rfl rfl ?_
        refine jr.getf (i := 10) (x := v3) (v := .int (Int32.ofInt (v3))) rfl rfl (by decide) rfl (by decide) rfl rfl ((ju_i _ _ (by decide)).trans ((ju_i _ _ (by decide)).trans ((ju_i _ _ (by decide)).trans e3))) rfl ?_
        refine jr.if_ne rfl rfl (by omega) (fun h80 => ?_) (fun h80 => ?_)
        · refine jr.aload_n rfl rfl ?_
          obtain ⟨v6, e6⟩ : ∃ z, M2 598 12 = z := ⟨_, rfl⟩
          have b6 : (-1) ≤ v6 ∧ v6 ≤ 11 := by rw [← e6]; exact hI_M2 598 12 (by decide)
          refine jr.getf (i := 12) (x := v6) (v := .int (Int32.ofInt (v6))) rfl rfl (by decide) rfl (by decide) rfl rfl ((ju_i _ _ (by decide)).trans ((ju_i _ _ (by decide)).trans ((ju_i _ _ (by decide)).trans e6))) rfl ?_
          refine jr.putf (i := 16) (x := v6) rfl rfl (by decide) rfl (by decide) rfl rfl rfl rfl rfl ?_
          refine jr.aload_n rfl rfl ?_
          refine jr.getf (i := 10) (x := v3) (v := .int (Int32.ofInt (v3))) rfl rfl (by decide) rfl (by decide) rfl rfl ((ju_i _ _ (by decide)).trans ((ju_i _ _ (by decide)).trans ((ju_i _ _ (by decide)).trans ((ju_i _ _ (by decide)).trans e3)))) rfl ?_
          refine jr.if_ne rfl rfl (by omega) (fun h98 => ?_) (fun h98 => ?_)
          · refine jr.bipush rfl (by decide) ?_
            refine jr.aload_n rfl rfl ?_
            refine jr.getf (i := 10) (x := v3) (v := .int (Int32.ofInt (v3))) rfl rfl (by decide) rfl (by decide) rfl rfl ((ju_i _ _ (by decide)).trans ((ju_i _ _ (by decide)).trans ((ju_i _ _ (by decide)).trans ((ju_i _ _ (by decide)).trans e3)))) rfl ?_
            refine jr.isub rfl ?_
            exact jr.ireturn rfl rfl rfl (q _ _ (RI.u (RI.u (RI.u (RI.u hI_M2 (a := 598) (i := 13) (show (-1 : Int) ≤ _ ∧ _ ≤ (6 : Int) from by omega)) (a := 598) (i := 14) (show (-1 : Int) ≤ _ ∧ _ ≤ (12 : Int) from by omega)) (a := 598) (i := 15) (show (-1 : Int) ≤ _ ∧ _ ≤ (400 : Int) from by omega)) (a := 598) (i := 16) (show (-1 : Int) ≤ _ ∧ _ ≤ (11 : Int) from by omega)) (RH.o (RH.o (RH.o (RH.o hH_M2 (by decide) (by decide) (by decide)) (by decide) (by decide) (by decide)) (by decide) (by decide) (by decide)) (by decide) (by decide) (by decide)) (RF.o (RF.o (RF.o (RF.o hS_M2 (by decide) (by decide)) (by decide) (by decide)) (by decide) (by decide)) (by decide) (by decide))  (by omega) (by have q0 : (ju (ju (ju (ju M2 598 13 v3) 598 14 v4) 598 15 v5) 598 16 v6) 598 13 = v3 := ((ju_i _ _ (by decide)).trans ((ju_i _ _ (by decide)).trans ((ju_i _ _ (by decide)).trans (ju_same _ _ _ _)))); have q1 : (ju (ju (ju (ju M2 598 13 v3) 598 14 v4) 598 15 v5) 598 16 v6) 598 14 = v4 := ((ju_i _ _ (by decide)).trans ((ju_i _ _ (by decide)).trans (ju_same _ _ _ _))); have q2 : (ju (ju (ju (ju M2 598 13 v3) 598 14 v4) 598 15 v5) 598 16 v6) 598 15 = v5 := ((ju_i _ _ (by decide)).trans (ju_same _ _ _ _)); have q3 : (ju (ju (ju (ju M2 598 13 v3) 598 14 v4) 598 15 v5) 598 16 v6) 598 16 = v6 := (ju_same _ _ _ _); have r6 : M2 598 6 = v4 := e4; have r10 : M2 598 10 = v3 := e3; have r11 : M2 598 11 = v5 := e5; have r12 : M2 598 12 = v6 := e6; have h9 := w2_1; exact Or.inr (Or.inr ⟨by omega, M2 598 6, HQ6.e h9, ⟨by omega, Or.elim h9.2.2 (fun u => Or.inl ⟨u.1, by omega, by omega, by omega, by omega⟩) (fun u => Or.inr ⟨u.1, u.2.1, by omega, by omega, by omega, by omega⟩)⟩⟩)) (fun a i f598 f603 f604 f605 => ((ju_c _ _ f598).trans ((ju_c _ _ f598).trans ((ju_c _ _ f598).trans ((ju_c _ _ f598).trans ((w2_2 a i f598 f603 f604 f605).trans rfl)))))) (fun i g6 g10 g11 g12 g13 g14 g15 g16 => ((ju_i _ _ g16).trans ((ju_i _ _ g15).trans ((ju_i _ _ g14).trans ((ju_i _ _ g13).trans ((w2_3 i g6 g10 g11 g12).trans rfl)))))))
          · exact absurd (by omega) h98
        · exact absurd (by omega) h80
      · refine jr.iconst rfl ?_
        refine jr.goto rfl rfl ?_
        refine jr.putf (i := 15) (x := (-1)) rfl rfl (by decide) rfl (by decide) rfl rfl rfl rfl rfl ?_
        refine jr.aload_n rfl rfl ?_
        refine jr.aload_n rfl rfl ?_
        refine jr.getf (i := 10) (x := v3) (v := .int (Int32.ofInt (v3))) rfl rfl (by decide) rfl (by decide) rfl rfl ((ju_i _ _ (by decide)).trans ((ju_i _ _ (by decide)).trans ((ju_i _ _ (by decide)).trans e3))) rfl ?_
        refine jr.if_ne rfl rfl (by omega) (fun h80 => ?_) (fun h80 => ?_)
        · exact absurd h80 (by omega)
        · refine jr.iconst rfl ?_
          refine jr.goto rfl rfl ?_
          refine jr.putf (i := 16) (x := (-1)) rfl rfl (by decide) rfl (by decide) rfl rfl rfl rfl rfl ?_
          refine jr.aload_n rfl rfl ?_
          refine jr.getf (i := 10) (x := v3) (v := .int (Int32.ofInt (v3))) rfl rfl (by decide) rfl (by decide) rfl rfl ((ju_i _ _ (by decide)).trans ((ju_i _ _ (by decide)).trans ((ju_i _ _ (by decide)).trans ((ju_i _ _ (by decide)).trans e3)))) rfl ?_
          refine jr.if_ne rfl rfl (by omega) (fun h98 => ?_) (fun h98 => ?_)
          · exact absurd h98 (by omega)
          · refine jr.aload_n rfl rfl ?_
            refine jr.getf (i := 6) (x := v4) (v := .int (Int32.ofInt (v4))) rfl rfl (by decide) rfl (by decide) rfl rfl ((ju_i _ _ (by decide)).trans ((ju_i _ _ (by decide)).trans ((ju_i _ _ (by decide)).trans ((ju_i _ _ (by decide)).trans e4)))) rfl ?_
            refine jr.goto rfl rfl ?_
            obtain ⟨v7, e7⟩ : ∃ z, M2 598 11 = z := ⟨_, rfl⟩
            have b7 : (-1) ≤ v7 ∧ v7 ≤ 400 := by rw [← e7]; exact hI_M2 598 11 (by decide)
            obtain ⟨v8, e8⟩ : ∃ z, M2 598 12 = z := ⟨_, rfl⟩
            have b8 : (-1) ≤ v8 ∧ v8 ≤ 11 := by rw [← e8]; exact hI_M2 598 12 (by decide)
            exact jr.ireturn rfl rfl rfl (q _ _ (RI.u (RI.u (RI.u (RI.u hI_M2 (a := 598) (i := 13) (show (-1 : Int) ≤ _ ∧ _ ≤ (6 : Int) from by omega)) (a := 598) (i := 14) (show (-1 : Int) ≤ _ ∧ _ ≤ (12 : Int) from by omega)) (a := 598) (i := 15) (show (-1 : Int) ≤ _ ∧ _ ≤ (400 : Int) from by omega)) (a := 598) (i := 16) (show (-1 : Int) ≤ _ ∧ _ ≤ (11 : Int) from by omega)) (RH.o (RH.o (RH.o (RH.o hH_M2 (by decide) (by decide) (by decide)) (by decide) (by decide) (by decide)) (by decide) (by decide) (by decide)) (by decide) (by decide) (by decide)) (RF.o (RF.o (RF.o (RF.o hS_M2 (by decide) (by decide)) (by decide) (by decide)) (by decide) (by decide)) (by decide) (by decide))  (by omega) (by have q0 : (ju (ju (ju (ju M2 598 13 v3) 598 14 v4) 598 15 (-1)) 598 16 (-1)) 598 13 = v3 := ((ju_i _ _ (by decide)).trans ((ju_i _ _ (by decide)).trans ((ju_i _ _ (by decide)).trans (ju_same _ _ _ _)))); have q1 : (ju (ju (ju (ju M2 598 13 v3) 598 14 v4) 598 15 (-1)) 598 16 (-1)) 598 14 = v4 := ((ju_i _ _ (by decide)).trans ((ju_i _ _ (by decide)).trans (ju_same _ _ _ _))); have q2 : (ju (ju (ju (ju M2 598 13 v3) 598 14 v4) 598 15 (-1)) 598 16 (-1)) 598 15 = -1 := ((ju_i _ _ (by decide)).trans (ju_same _ _ _ _)); have q3 : (ju (ju (ju (ju M2 598 13 v3) 598 14 v4) 598 15 (-1)) 598 16 (-1)) 598 16 = -1 := (ju_same _ _ _ _); have r6 : M2 598 6 = v4 := e4; have r10 : M2 598 10 = v3 := e3; have r11 : M2 598 11 = v7 := e7; have r12 : M2 598 12 = v8 := e8; have h9 := w2_1; exact Or.inr (Or.inr ⟨by omega, M2 598 6, HQ6.e h9, ⟨by omega, Or.elim h9.2.2 (fun u => Or.inl ⟨u.1, by omega, by omega, by omega, by omega⟩) (fun u => Or.inr ⟨u.1, u.2.1, by omega, by omega, by omega, by omega⟩)⟩⟩)) (fun a i f598 f603 f604 f605 => ((ju_c _ _ f598).trans ((ju_c _ _ f598).trans ((ju_c _ _ f598).trans ((ju_c _ _ f598).trans ((w2_2 a i f598 f603 f604 f605).trans rfl)))))) (fun i g6 g10 g11 g12 g13 g14 g15 g16 => ((ju_i _ _ g16).trans ((ju_i _ _ g15).trans ((ju_i _ _ g14).trans ((ju_i _ _ g13).trans ((w2_3 i g6 g10 g11 g12).trans rfl)))))))
    · refine jr.aload_n rfl rfl ?_
      refine jr.iconst rfl ?_
      refine jr.putf (i := 6) (x := 0) rfl rfl (by decide) rfl (by decide) rfl rfl rfl rfl rfl ?_
      refine jr.aload_n rfl rfl ?_
      refine jr.iconst rfl ?_
      refine jr.iconst rfl ?_
      refine jr.iconst rfl ?_
      refine jr_v rfl rfl (Or.inl rfl) rfl rfl (by decide) rfl ⟨rfl, Nat.le_of_ble_eq_true rfl, Nat.le_of_ble_eq_true rfl⟩ rfl (jc.deep (r_finds_x (RI.u hI_M (a := 598) (i := 6) (show (0 : Int) ≤ _ ∧ _ ≤ (12 : Int) from by omega)) (RH.o hH_M (by decide) (by decide) (by decide)) (RF.o hS_M (by decide) (by decide))  (by omega) (by omega) (by omega)  (fun M9 hI_M9 hH_M9 hS_M9  w9_0 w9_1 w9_2 => ?_)) (by decide))
      refine jr.goto rfl rfl ?_
      refine jr.aload_n rfl rfl ?_
      refine jr.aload_n rfl rfl ?_
      obtain ⟨v10, e10⟩ : ∃ z, M9 598 10 = z := ⟨_, rfl⟩
      have b10 : 0 ≤ v10 ∧ v10 ≤ 6 := by rw [← e10]; exact hI_M9 598 10 (by decide)
      refine jr.getf (i := 10) (x := v10) (v := .int (Int32.ofInt (v10))) rfl rfl (by decide) rfl (by decide) rfl rfl e10 rfl ?_
      refine jr.putf (i := 13) (x := v10) rfl rfl (by decide) rfl (by decide) rfl rfl rfl rfl rfl ?_
      refine jr.aload_n rfl rfl ?_
      refine jr.aload_n rfl rfl ?_
      have e11 : M9 598 6 = 0 := ((w9_2 6 (by decide) (by decide) (by decide)).trans (ju_same _ _ _ _))
      refine jr.getf (i := 6) (x := 0) (v := .int (Int32.ofInt (0))) rfl rfl (by decide) rfl (by decide) rfl rfl ((ju_i _ _ (by decide)).trans e11) rfl ?_
      refine jr.putf (i := 14) (x := 0) rfl rfl (by decide) rfl (by decide) rfl rfl rfl rfl rfl ?_
      refine jr.aload_n rfl rfl ?_
      refine jr.aload_n rfl rfl ?_
      refine jr.getf (i := 10) (x := v10) (v := .int (Int32.ofInt (v10))) rfl rfl (by decide) rfl (by decide) rfl rfl ((ju_i _ _ (by decide)).trans ((ju_i _ _ (by decide)).trans e10)) rfl ?_
      refine jr.if_ne rfl rfl (by omega) (fun h61 => ?_) (fun h61 => ?_)
      · have sx61 : (1 : Int) ≤ v10 := by omega
        clear h61
        refine jr.aload_n rfl rfl ?_
        obtain ⟨v12, e12⟩ : ∃ z, M9 598 11 = z := ⟨_, rfl⟩
        have b12 : (-1) ≤ v12 ∧ v12 ≤ 400 := by rw [← e12]; exact hI_M9 598 11 (by decide)
        refine jr.getf (i := 11) (x := v12) (v := .int (Int32.ofInt (v12))) rfl rfl (by decide) rfl (by decide) rfl rfl ((ju_i _ _ (by decide)).trans ((ju_i _ _ (by decide)).trans e12)) rfl ?_
        refine jr.putf (i := 15) (x := v12) rfl rfl (by decide) rfl (by decide) rfl rfl rfl rfl rfl ?_
        refine jr.aload_n rfl rfl ?_
        refine jr.aload_n rfl rfl ?_
        refine jr.getf (i := 10) (x := v10) (v := .int (Int32.ofInt (v10))) rfl rfl (by decide) rfl (by decide) rfl rfl ((ju_i _ _ (by decide)).trans ((ju_i _ _ (by decide)).trans ((ju_i _ _ (by decide)).trans e10))) rfl ?_
        refine jr.if_ne rfl rfl (by omega) (fun h80 => ?_) (fun h80 => ?_)
        · refine jr.aload_n rfl rfl ?_
          obtain ⟨v13, e13⟩ : ∃ z, M9 598 12 = z := ⟨_, rfl⟩
          have b13 : (-1) ≤ v13 ∧ v13 ≤ 11 := by rw [← e13]; exact hI_M9 598 12 (by decide)
          refine jr.getf (i := 12) (x := v13) (v := .int (Int32.ofInt (v13))) rfl rfl (by decide) rfl (by decide) rfl rfl ((ju_i _ _ (by decide)).trans ((ju_i _ _ (by decide)).trans ((ju_i _ _ (by decide)).trans e13))) rfl ?_
          refine jr.putf (i := 16) (x := v13) rfl rfl (by decide) rfl (by decide) rfl rfl rfl rfl rfl ?_
          refine jr.aload_n rfl rfl ?_
          refine jr.getf (i := 10) (x := v10) (v := .int (Int32.ofInt (v10))) rfl rfl (by decide) rfl (by decide) rfl rfl ((ju_i _ _ (by decide)).trans ((ju_i _ _ (by decide)).trans ((ju_i _ _ (by decide)).trans ((ju_i _ _ (by decide)).trans e10)))) rfl ?_
          refine jr.if_ne rfl rfl (by omega) (fun h98 => ?_) (fun h98 => ?_)
          · refine jr.bipush rfl (by decide) ?_
            refine jr.aload_n rfl rfl ?_
            refine jr.getf (i := 10) (x := v10) (v := .int (Int32.ofInt (v10))) rfl rfl (by decide) rfl (by decide) rfl rfl ((ju_i _ _ (by decide)).trans ((ju_i _ _ (by decide)).trans ((ju_i _ _ (by decide)).trans ((ju_i _ _ (by decide)).trans e10)))) rfl ?_
            refine jr.isub rfl ?_
            exact jr.ireturn rfl rfl rfl (q _ _ (RI.u (RI.u (RI.u (RI.u hI_M9 (a := 598) (i := 13) (show (-1 : Int) ≤ _ ∧ _ ≤ (6 : Int) from by omega)) (a := 598) (i := 14) (show (-1 : Int) ≤ _ ∧ _ ≤ (12 : Int) from by omega)) (a := 598) (i := 15) (show (-1 : Int) ≤ _ ∧ _ ≤ (400 : Int) from by omega)) (a := 598) (i := 16) (show (-1 : Int) ≤ _ ∧ _ ≤ (11 : Int) from by omega)) (RH.o (RH.o (RH.o (RH.o hH_M9 (by decide) (by decide) (by decide)) (by decide) (by decide) (by decide)) (by decide) (by decide) (by decide)) (by decide) (by decide) (by decide)) (RF.o (RF.o (RF.o (RF.o hS_M9 (by decide) (by decide)) (by decide) (by decide)) (by decide) (by decide)) (by decide) (by decide))  (by omega) (by have q0 : (ju (ju (ju (ju M9 598 13 v10) 598 14 0) 598 15 v12) 598 16 v13) 598 13 = v10 := ((ju_i _ _ (by decide)).trans ((ju_i _ _ (by decide)).trans ((ju_i _ _ (by decide)).trans (ju_same _ _ _ _)))); have q1 : (ju (ju (ju (ju M9 598 13 v10) 598 14 0) 598 15 v12) 598 16 v13) 598 14 = 0 := ((ju_i _ _ (by decide)).trans ((ju_i _ _ (by decide)).trans (ju_same _ _ _ _))); have q2 : (ju (ju (ju (ju M9 598 13 v10) 598 14 0) 598 15 v12) 598 16 v13) 598 15 = v12 := ((ju_i _ _ (by decide)).trans (ju_same _ _ _ _)); have q3 : (ju (ju (ju (ju M9 598 13 v10) 598 14 0) 598 15 v12) 598 16 v13) 598 16 = v13 := (ju_same _ _ _ _); have r6 : M9 598 6 = 0 := e11; have r10 : M9 598 10 = v10 := e10; have r11 : M9 598 11 = v12 := e12; have r12 : M9 598 12 = v13 := e13; have h9 := w9_0; exact Or.inr (Or.inl ⟨by omega, by omega, by omega⟩)) (fun a i f598 f603 f604 f605 => ((ju_c _ _ f598).trans ((ju_c _ _ f598).trans ((ju_c _ _ f598).trans ((ju_c _ _ f598).trans ((w9_1 a i f598).trans ((ju_c _ _ f598).trans rfl))))))) (fun i g6 g10 g11 g12 g13 g14 g15 g16 => ((ju_i _ _ g16).trans ((ju_i _ _ g15).trans ((ju_i _ _ g14).trans ((ju_i _ _ g13).trans ((w9_2 i g10 g11 g12).trans ((ju_i _ _ g6).trans rfl))))))))
          · exact absurd (by omega) h98
        · exact absurd (by omega) h80
      · refine jr.iconst rfl ?_
        refine jr.goto rfl rfl ?_
        refine jr.putf (i := 15) (x := (-1)) rfl rfl (by decide) rfl (by decide) rfl rfl rfl rfl rfl ?_
        refine jr.aload_n rfl rfl ?_
        refine jr.aload_n rfl rfl ?_
        refine jr.getf (i := 10) (x := v10) (v := .int (Int32.ofInt (v10))) rfl rfl (by decide) rfl (by decide) rfl rfl ((ju_i _ _ (by decide)).trans ((ju_i _ _ (by decide)).trans ((ju_i _ _ (by decide)).trans e10))) rfl ?_
        refine jr.if_ne rfl rfl (by omega) (fun h80 => ?_) (fun h80 => ?_)
        · exact absurd h80 (by omega)
        · refine jr.iconst rfl ?_
          refine jr.goto rfl rfl ?_
          refine jr.putf (i := 16) (x := (-1)) rfl rfl (by decide) rfl (by decide) rfl rfl rfl rfl rfl ?_
          refine jr.aload_n rfl rfl ?_
          refine jr.getf (i := 10) (x := v10) (v := .int (Int32.ofInt (v10))) rfl rfl (by decide) rfl (by decide) rfl rfl ((ju_i _ _ (by decide)).trans ((ju_i _ _ (by decide)).trans ((ju_i _ _ (by decide)).trans ((ju_i _ _ (by decide)).trans e10)))) rfl ?_
          refine jr.if_ne rfl rfl (by omega) (fun h98 => ?_) (fun h98 => ?_)
          · exact absurd h98 (by omega)
          · refine jr.aload_n rfl rfl ?_
            refine jr.getf (i := 6) (x := 0) (v := .int (Int32.ofInt (0))) rfl rfl (by decide) rfl (by decide) rfl rfl ((ju_i _ _ (by decide)).trans ((ju_i _ _ (by decide)).trans ((ju_i _ _ (by decide)).trans ((ju_i _ _ (by decide)).trans e11)))) rfl ?_
            refine jr.goto rfl rfl ?_
            obtain ⟨v14, e14⟩ : ∃ z, M9 598 11 = z := ⟨_, rfl⟩
            have b14 : (-1) ≤ v14 ∧ v14 ≤ 400 := by rw [← e14]; exact hI_M9 598 11 (by decide)
            obtain ⟨v15, e15⟩ : ∃ z, M9 598 12 = z := ⟨_, rfl⟩
            have b15 : (-1) ≤ v15 ∧ v15 ≤ 11 := by rw [← e15]; exact hI_M9 598 12 (by decide)
            exact jr.ireturn rfl rfl rfl (q _ _ (RI.u (RI.u (RI.u (RI.u hI_M9 (a := 598) (i := 13) (show (-1 : Int) ≤ _ ∧ _ ≤ (6 : Int) from by omega)) (a := 598) (i := 14) (show (-1 : Int) ≤ _ ∧ _ ≤ (12 : Int) from by omega)) (a := 598) (i := 15) (show (-1 : Int) ≤ _ ∧ _ ≤ (400 : Int) from by omega)) (a := 598) (i := 16) (show (-1 : Int) ≤ _ ∧ _ ≤ (11 : Int) from by omega)) (RH.o (RH.o (RH.o (RH.o hH_M9 (by decide) (by decide) (by decide)) (by decide) (by decide) (by decide)) (by decide) (by decide) (by decide)) (by decide) (by decide) (by decide)) (RF.o (RF.o (RF.o (RF.o hS_M9 (by decide) (by decide)) (by decide) (by decide)) (by decide) (by decide)) (by decide) (by decide))  (by omega) (by have q0 : (ju (ju (ju (ju M9 598 13 v10) 598 14 0) 598 15 (-1)) 598 16 (-1)) 598 13 = v10 := ((ju_i _ _ (by decide)).trans ((ju_i _ _ (by decide)).trans ((ju_i _ _ (by decide)).trans (ju_same _ _ _ _)))); have q1 : (ju (ju (ju (ju M9 598 13 v10) 598 14 0) 598 15 (-1)) 598 16 (-1)) 598 14 = 0 := ((ju_i _ _ (by decide)).trans ((ju_i _ _ (by decide)).trans (ju_same _ _ _ _))); have q2 : (ju (ju (ju (ju M9 598 13 v10) 598 14 0) 598 15 (-1)) 598 16 (-1)) 598 15 = -1 := ((ju_i _ _ (by decide)).trans (ju_same _ _ _ _)); have q3 : (ju (ju (ju (ju M9 598 13 v10) 598 14 0) 598 15 (-1)) 598 16 (-1)) 598 16 = -1 := (ju_same _ _ _ _); have r6 : M9 598 6 = 0 := e11; have r10 : M9 598 10 = v10 := e10; have r11 : M9 598 11 = v14 := e14; have r12 : M9 598 12 = v15 := e15; have h9 := w9_0; exact Or.inr (Or.inl ⟨by omega, by omega, by omega⟩)) (fun a i f598 f603 f604 f605 => ((ju_c _ _ f598).trans ((ju_c _ _ f598).trans ((ju_c _ _ f598).trans ((ju_c _ _ f598).trans ((w9_1 a i f598).trans ((ju_c _ _ f598).trans rfl))))))) (fun i g6 g10 g11 g12 g13 g14 g15 g16 => ((ju_i _ _ g16).trans ((ju_i _ _ g15).trans ((ju_i _ _ g14).trans ((ju_i _ _ g13).trans ((w9_2 i g10 g11 g12).trans ((ju_i _ _ g6).trans rfl))))))))
  · refine jr.if_ne rfl rfl (by omega) (fun h => absurd h (by decide)) (fun _ => ?_)
    refine jr.bipush rfl (by decide) ?_
    exact jr.ireturn rfl rfl rfl (q _ _ hI_M hH_M hS_M  (by omega) (Or.inl ⟨by omega, by omega, rfl⟩) (fun a i f598 f603 f604 f605 => rfl) (fun i g6 g10 g11 g12 g13 g14 g15 g16 => rfl))
end
