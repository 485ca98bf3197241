section
/-! ===== the reference: contracts, 35.pe ===== -/
theorem TK.adv {M M' : jm} (h : TK M' < TK M) (h1 : 0 ≤ M 598 74) (h2 : 0 ≤ M' 598 74) : M 598 73 + min 1 (M' 598 74) ≤ M' 598 73 := by
  unfold TK at h
  omega
theorem RVq_1 {ib : Int} : (ib = 0 → RVq 1 ib = 4) ∧ (ib = 1 → RVq 1 ib = 2) ∧ RVq 0 ib = 0 := by
  refine ⟨fun e => ?_, fun e => ?_, ?_⟩
  · subst e; decide
  · subst e; decide
  · unfold RVq; rw [if_pos rfl]
noncomputable def HIX (P : Prop) : Prop := P
theorem HIX.i {P : Prop} (h : P) : HIX P := h
theorem HIX.e {P : Prop} (h : HIX P) : P := h
theorem r_closeBlock {A : Nat → Option (Nat × (Nat → Int32))} {Q : Option Value → jm → Prop} {M : jm} (hI_M : RI M) (hH_M : RH M) (hS_M : RF M) (p0 : DS M 0) (p1 : 1 ≤ M 598 107) (p2 : 1 ≤ M 598 88) (p3 : M 598 74 = 3) (q : ∀ (M' : jm), RI M' → RH M' → RF M' → (BT M' ∨ (TK M' < TK M ∧ ((1 ≤ M' 598 107 ∧ DS M' 0) ∨ (M' 598 107 = 0 ∧ DS M' 1 ∧ 1 ≤ M' 598 90 ∧ M' 659 (M' 598 90 - 1) = 3)))) → TK M' ≤ TK M → M' 598 73 ≤ M' 598 72 → (M' 598 80 ≠ 0 ∨ TK M' < TK M) → (∀ (a : Nat) (i : Int), a ≠ 598 → a ≠ 658 → a ≠ 659 → a ≠ 660 → a ≠ 668 → a ≠ 669 → M' a i = M a i) → (∀ (i : Int), i ≠ 73 → i ≠ 74 → i ≠ 75 → i ≠ 76 → i ≠ 77 → i ≠ 78 → i ≠ 79 → i ≠ 80 → i ≠ 81 → i ≠ 90 → i ≠ 100 → i ≠ 101 → i ≠ 107 → M' 598 i = M 598 i) → Q none M') : jc A 6 368 [.ref (598)] M Q := by
  obtain ⟨ds1, ds2, ds3, ds4, ds5, ds6, ds7, ds8, ds9⟩ := id p0
  have dpx := XS.dep ds2
  have sl := XS.sgle ds2
  have b101 : (0 : Int) ≤ M 598 101 ∧ M 598 101 ≤ 1 := hI_M 598 101 (Nat.le_of_ble_eq_true rfl)
  have bM_107 : (0 : Int) ≤ M 598 107 ∧ M 598 107 ≤ 16 := hI_M 598 107 (Nat.le_of_ble_eq_true rfl)
  have bM_73 : (0 : Int) ≤ M 598 73 ∧ M 598 73 ≤ 1600 := hI_M 598 73 (Nat.le_of_ble_eq_true rfl)
  have bM_88 : (0 : Int) ≤ M 598 88 ∧ M 598 88 ≤ 16 := hI_M 598 88 (Nat.le_of_ble_eq_true rfl)
  have bM_100 : (0 : Int) ≤ M 598 100 ∧ M 598 100 ≤ 13 := hI_M 598 100 (Nat.le_of_ble_eq_true rfl)
  refine jc_of (m := xm_368) rfl (Nat.le_of_ble_eq_true rfl) rfl ?_
  refine jr.aload_n rfl rfl ?_
  refine jr.dup rfl rfl ?_
  obtain ⟨v1, e1⟩ : ∃ z, M 598 107 = z := ⟨_, rfl⟩
  have b1 : 0 ≤ v1 ∧ v1 ≤ 16 := by rw [← e1]; exact hI_M 598 107 (Nat.le_of_ble_eq_true rfl)
  refine jr.getf (i := 107) (x := v1) (v := .int (Int32.ofInt (v1))) rfl rfl (nlt rfl) rfl (nlt rfl) rfl rfl e1 rfl ?_
  refine jr.iconst rfl ?_
  refine jr.isub rfl ?_
  refine jr.putf (i := 107) (x := (v1 - 1)) rfl rfl (nlt rfl) rfl (nlt rfl) rfl rfl rfl rfl rfl ?_
  refine jr.aload_n rfl rfl ?_
  refine jr.dup rfl rfl ?_
  obtain ⟨v2, e2⟩ : ∃ z, M 598 100 = z := ⟨_, rfl⟩
  have b2 : 0 ≤ v2 ∧ v2 ≤ 13 := by rw [← e2]; exact hI_M 598 100 (Nat.le_of_ble_eq_true rfl)
  refine jr.getf (i := 100) (x := v2) (v := .int (Int32.ofInt (v2))) rfl rfl (nlt rfl) rfl (nlt rfl) rfl rfl ((ju_i _ _ (zne (by decide))).trans e2) rfl ?_
  refine jr.iconst rfl ?_
  refine jr.isub rfl ?_
  refine jr.putf (i := 100) (x := (v2 - 1)) rfl rfl (nlt rfl) rfl (nlt rfl) rfl rfl rfl rfl rfl ?_
  refine jr.aload_n rfl rfl ?_
  refine jr.getf (i := 108) (v := .ref 668) rfl rfl (nlt rfl) rfl (nlt rfl) rfl rfl rfl rfl ?_
  refine jr.aload_n rfl rfl ?_
  refine jr.getf (i := 107) (x := (v1 - 1)) (v := .int (Int32.ofInt (v1 - 1))) rfl rfl (nlt rfl) rfl (nlt rfl) rfl rfl ((ju_i _ _ (zne (by decide))).trans (ju_same _ _ _ _)) rfl ?_
  obtain ⟨v3, e3⟩ : ∃ z, M 668 (v1 - 1) = z := ⟨_, rfl⟩
  have b3 : 0 ≤ v3 ∧ v3 ≤ 3 := by rw [← e3]; exact (by have q := hI_M 668 (v1 - 1) (Nat.le_of_ble_eq_true rfl); rw [xri_row rfl rfl] at q; exact q)
  refine jr.iald (i := (v1 - 1)) (x := v3) rfl (nlt rfl) rfl (Nat.le_of_ble_eq_true rfl) (by omega) (by omega) ((ju_c _ _ (by decide)).trans ((ju_c _ _ (by decide)).trans e3)) ?_
  refine jr.istore_n (ls' := [_, _]) rfl (nlt rfl) rfl ?_
  refine jr.aload_n rfl rfl ?_
  refine jr.getf (i := 109) (v := .ref 669) rfl rfl (nlt rfl) rfl (nlt rfl) rfl rfl rfl rfl ?_
  refine jr.aload_n rfl rfl ?_
  refine jr.getf (i := 107) (x := (v1 - 1)) (v := .int (Int32.ofInt (v1 - 1))) rfl rfl (nlt rfl) rfl (nlt rfl) rfl rfl ((ju_i _ _ (zne (by decide))).trans (ju_same _ _ _ _)) rfl ?_
  obtain ⟨v4, e4⟩ : ∃ z, M 669 (v1 - 1) = z := ⟨_, rfl⟩
  have b4 : 0 ≤ v4 ∧ v4 ≤ 2200 := by rw [← e4]; exact (by have q := hI_M 669 (v1 - 1) (Nat.le_of_ble_eq_true rfl); rw [xri_row rfl rfl] at q; exact q)
  refine jr.iald (i := (v1 - 1)) (x := v4) rfl (nlt rfl) rfl (Nat.le_of_ble_eq_true rfl) (by omega) (by omega) ((ju_c _ _ (by decide)).trans ((ju_c _ _ (by decide)).trans e4)) ?_
  refine jr.istore_n (ls' := [_, _, _]) rfl (nlt rfl) rfl ?_
  refine jr.aload_n rfl rfl ?_
  obtain ⟨v6, e6⟩ : ∃ z, M 598 73 = z := ⟨_, rfl⟩
  have b6 : 0 ≤ v6 ∧ v6 ≤ 1600 := by rw [← e6]; exact hI_M 598 73 (Nat.le_of_ble_eq_true rfl)
  obtain ⟨v7, e7⟩ : ∃ z, M 598 72 = z := ⟨_, rfl⟩
  have b7 : 0 ≤ v7 ∧ v7 ≤ 1600 := by rw [← e7]; exact hI_M 598 72 (Nat.le_of_ble_eq_true rfl)
  obtain ⟨v9, e9⟩ : ∃ z, M 598 74 = z := ⟨_, rfl⟩
  have b9 : 0 ≤ v9 ∧ v9 ≤ 4 := by rw [← e9]; exact hI_M 598 74 (Nat.le_of_ble_eq_true rfl)
  obtain ⟨v11, e11⟩ : ∃ z, M 598 89 = z := ⟨_, rfl⟩
  have b11 : 0 ≤ v11 ∧ v11 ≤ 301 := by rw [← e11]; exact hI_M 598 89 (Nat.le_of_ble_eq_true rfl)
  refine jr_v rfl rfl (Or.inl rfl) rfl rfl (nlt rfl) rfl ⟨rfl, Nat.le_of_ble_eq_true rfl, Nat.le_of_ble_eq_true rfl⟩ rfl (jc.deep (r_next (RI.u (RI.u hI_M (a := 598) (i := 107) (show (0 : Int) ≤ _ ∧ _ ≤ (16 : Int) from by omega)) (a := 598) (i := 100) (show (0 : Int) ≤ _ ∧ _ ≤ (13 : Int) from by omega)) (RH.o (RH.o hH_M (by decide) (by decide) (by decide)) (by decide) (by decide) (by decide)) (RF.o (RF.o hS_M (by decide) (by decide)) (by decide) (by decide))   (by rw [((ju_i _ _ (zne (by decide))).trans ((ju_i _ _ (zne (by decide))).trans e6)), ((ju_i _ _ (zne (by decide))).trans ((ju_i _ _ (zne (by decide))).trans e7))]; omega) (fun M5 hI_M5 hH_M5 hS_M5  w5_0 w5_1 w5_2 w5_3 w5_4 w5_5 w5_6 => ?_)) (Nat.le_of_ble_eq_true rfl))
  have y14 : (ju (ju M 598 107 (v1 - 1)) 598 100 (v2 - 1)) 598 73 = v6 := ((ju_i _ _ (zne (by decide))).trans ((ju_i _ _ (zne (by decide))).trans e6))
  have y15 : (ju (ju M 598 107 (v1 - 1)) 598 100 (v2 - 1)) 598 74 = v9 := ((ju_i _ _ (zne (by decide))).trans ((ju_i _ _ (zne (by decide))).trans e9))
  have tb5 : TK (ju (ju M 598 107 (v1 - 1)) 598 100 (v2 - 1)) = TK M := ((TK.o (Or.inr ⟨by decide, by decide⟩)).trans ((TK.o (Or.inr ⟨by decide, by decide⟩)).trans rfl))
  have y8 : (ju (ju M 598 107 (v1 - 1)) 598 100 (v2 - 1)) 598 73 = v6 := ((ju_i _ _ (zne (by decide))).trans ((ju_i _ _ (zne (by decide))).trans e6))
  have y10 : (ju (ju M 598 107 (v1 - 1)) 598 100 (v2 - 1)) 598 74 = v9 := ((ju_i _ _ (zne (by decide))).trans ((ju_i _ _ (zne (by decide))).trans e9))
  have y12 : (ju (ju M 598 107 (v1 - 1)) 598 100 (v2 - 1)) 598 89 = v11 := ((ju_i _ _ (zne (by decide))).trans ((ju_i _ _ (zne (by decide))).trans e11))
  have y13 : (ju (ju M 598 107 (v1 - 1)) 598 100 (v2 - 1)) 598 100 = v2 - 1 := (ju_same _ _ _ _)
  have x5_89 := w5_6 89 (zne rfl) (zne rfl) (zne rfl) (zne rfl) (zne rfl) (zne rfl) (zne rfl)
  have x5_100 := w5_6 100 (zne rfl) (zne rfl) (zne rfl) (zne rfl) (zne rfl) (zne rfl) (zne rfl)
  have x5_88 := w5_6 88 (zne rfl) (zne rfl) (zne rfl) (zne rfl) (zne rfl) (zne rfl) (zne rfl)
  have x5_101 := w5_6 101 (zne rfl) (zne rfl) (zne rfl) (zne rfl) (zne rfl) (zne rfl) (zne rfl)
  have bq74 : (0 : Int) ≤ M5 598 74 ∧ M5 598 74 ≤ 4 := hI_M5 598 74 (Nat.le_of_ble_eq_true rfl)
  have adv := TK.adv (w5_3 (by omega)) (by omega) (by omega)
  have hu : 2 ≤ v3 → _ := fun q => XS.unblk ds2 e1 e2 (by omega) (by rw [e3]; exact q) (by omega)
  rw [e3, e4] at hu
  have hv : v3 ≤ 1 → _ := fun q => XS.unblk0 ds2 e1 e2 (by omega) (by rw [e3]; exact q)
  rw [e3] at hv
  have hU := fun (q : 2 ≤ v3) => XS.fr2 (hu q).1 w5_5 (w5_6 88 (zne rfl) (zne rfl) (zne rfl) (zne rfl) (zne rfl) (zne rfl) (zne rfl)) (w5_6 90 (zne rfl) (zne rfl) (zne rfl) (zne rfl) (zne rfl) (zne rfl) (zne rfl)) (w5_6 101 (zne rfl) (zne rfl) (zne rfl) (zne rfl) (zne rfl) (zne rfl) (zne rfl)) (w5_6 107 (zne rfl) (zne rfl) (zne rfl) (zne rfl) (zne rfl) (zne rfl) (zne rfl)) (k' := 0 + 2 + min 1 (M5 598 74)) (d' := 0) (z' := 0) (by omega) (by omega) (by omega) (by omega)
  have rl := RVq_le (show (0 : Int) ≤ 1 by decide) (M 598 101)
  have hV := fun (q : v3 ≤ 1) => XS.fr2 (hv q).1 w5_5 (w5_6 88 (zne rfl) (zne rfl) (zne rfl) (zne rfl) (zne rfl) (zne rfl) (zne rfl)) (w5_6 90 (zne rfl) (zne rfl) (zne rfl) (zne rfl) (zne rfl) (zne rfl) (zne rfl)) (w5_6 101 (zne rfl) (zne rfl) (zne rfl) (zne rfl) (zne rfl) (zne rfl) (zne rfl)) (w5_6 107 (zne rfl) (zne rfl) (zne rfl) (zne rfl) (zne rfl) (zne rfl) (zne rfl)) (k' := 0 + RVq 1 (M 598 101)) (d' := 0) (z' := 0) (by omega) (by omega) (by omega) (by omega)
  have hu2 := HIX.i hu
  have hv2 := HIX.i hv
  have hU2 := HIX.i hU
  have hV2 := HIX.i hV
  clear hu hv hU hV
  have hA := AK.cp (AK.cp (M' := (ju (ju M 598 107 (v1 - 1)) 598 100 (v2 - 1))) ds8 (CP.o (CP.o (CP.rfl _) (by decide) (Or.inr (by decide))) (by decide) (Or.inr (by decide))) (fun i => by rw [ju_c _ _ (by decide), ju_c _ _ (by decide)]) (by rw [ju_i _ _ (zne (by decide)), ju_i _ _ (zne (by decide))])) (CP.f (CP.rfl _) (fun i => w5_5 659 i (nne rfl)) (w5_6 90 (zne rfl) (zne rfl) (zne rfl) (zne rfl) (zne rfl) (zne rfl) (zne rfl))) (fun i => w5_5 663 i (nne rfl)) (w5_6 96 (zne rfl) (zne rfl) (zne rfl) (zne rfl) (zne rfl) (zne rfl) (zne rfl))
  have hB := LB.fr (LB.fr (M' := (ju (ju M 598 107 (v1 - 1)) 598 100 (v2 - 1))) ds7 (fun i => by rw [ju_c _ _ (by decide), ju_c _ _ (by decide)]) (by rw [ju_i _ _ (zne (by decide)), ju_i _ _ (zne (by decide))])) (fun i => w5_5 659 i (nne rfl)) (w5_6 90 (zne rfl) (zne rfl) (zne rfl) (zne rfl) (zne rfl) (zne rfl) (zne rfl))
  refine jr.iload_n rfl rfl ?_
  refine jr.if_ne rfl rfl (by first | (refine rgb (by assumption) ?_; exact rfl) | omega) (fun h45 => ?_) (fun h45 => ?_)
  · have sx45 : (1 : Int) ≤ v3 := by omega
    clear h45
    refine jr.iload_n rfl rfl ?_
    refine jr.iconst rfl ?_
    refine jr.icmp_ne rfl rfl (by first | (refine rgb (by assumption) ?_; exact rfl) | omega) (rgl rfl) (fun h97 => ?_) (fun h97 => ?_)
    · have sx97 : (2 : Int) ≤ v3 := by omega
      clear h97
      refine jr.iload_n rfl rfl ?_
      refine jr.iconst rfl ?_
      refine jr.icmp_ne rfl rfl (by first | (refine rgb (by assumption) ?_; exact rfl) | omega) (rgl rfl) (fun h111 => ?_) (fun h111 => ?_)
      · have sx111 : (3 : Int) ≤ v3 := by omega
        clear h111
        refine jr.aload_n rfl rfl ?_
        refine jr.getf (i := 95) (v := .ref 660) rfl rfl (nlt rfl) rfl (nlt rfl) rfl rfl rfl rfl ?_
        refine jr.iload_n rfl rfl ?_
        refine jr.aload_n rfl rfl ?_
        obtain ⟨v16, e16⟩ : ∃ z, M 598 90 = z := ⟨_, rfl⟩
        have b16 : 0 ≤ v16 ∧ v16 ≤ 2200 := by rw [← e16]; exact hI_M 598 90 (Nat.le_of_ble_eq_true rfl)
        have e17 : M5 598 90 = v16 := ((w5_6 90 (zne rfl) (zne rfl) (zne rfl) (zne rfl) (zne rfl) (zne rfl) (zne rfl)).trans ((ju_i _ _ (zne (by decide))).trans ((ju_i _ _ (zne (by decide))).trans e16)))
        refine jr.getf (i := 90) (x := v16) (v := .int (Int32.ofInt (v16))) rfl rfl (nlt rfl) rfl (nlt rfl) rfl rfl e17 rfl ?_
        refine jr.i2l rfl (by omega) ?_
        obtain ⟨_, hz0, hz1, hz2, hz3, hz4⟩ := hu2.e (by omega)
        refine jr.last (i := v4) (x := v16) rfl (nlt rfl) rfl (Nat.le_of_ble_eq_true rfl) (by omega) (by omega) ?_
        have e18 : M5 598 72 = v7 := ((w5_6 72 (zne rfl) (zne rfl) (zne rfl) (zne rfl) (zne rfl) (zne rfl) (zne rfl)).trans ((ju_i _ _ (zne (by decide))).trans ((ju_i _ _ (zne (by decide))).trans e7)))
        have y19 : (ju M5 660 v4 v16) 598 72 = v7 := ((ju_c _ _ (by decide)).trans e18)
        obtain ⟨v20, e20⟩ : ∃ z, M5 598 73 = z := ⟨_, rfl⟩
        have b20 : 0 ≤ v20 ∧ v20 ≤ 1600 := by rw [← e20]; exact hI_M5 598 73 (Nat.le_of_ble_eq_true rfl)
        have y21 : (ju M5 660 v4 v16) 598 73 = v20 := ((ju_c _ _ (by decide)).trans e20)
        obtain ⟨v22, e22⟩ : ∃ z, M5 598 74 = z := ⟨_, rfl⟩
        have b22 : 0 ≤ v22 ∧ v22 ≤ 4 := by rw [← e22]; exact hI_M5 598 74 (Nat.le_of_ble_eq_true rfl)
        have y23 : (ju M5 660 v4 v16) 598 74 = v22 := ((ju_c _ _ (by decide)).trans e22)
        obtain ⟨v24, e24⟩ : ∃ z, M5 598 79 = z := ⟨_, rfl⟩
        have b24 : 0 ≤ v24 ∧ v24 ≤ 255 := by rw [← e24]; exact hI_M5 598 79 (Nat.le_of_ble_eq_true rfl)
        have y25 : (ju M5 660 v4 v16) 598 79 = v24 := ((ju_c _ _ (by decide)).trans e24)
        obtain ⟨v26, e26⟩ : ∃ z, M 598 80 = z := ⟨_, rfl⟩
        have b26 : 0 ≤ v26 ∧ v26 ≤ 7 := by rw [← e26]; exact hI_M 598 80 (Nat.le_of_ble_eq_true rfl)
        have e27 : M5 598 80 = v26 := ((w5_6 80 (zne rfl) (zne rfl) (zne rfl) (zne rfl) (zne rfl) (zne rfl) (zne rfl)).trans ((ju_i _ _ (zne (by decide))).trans ((ju_i _ _ (zne (by decide))).trans e26)))
        have y28 : (ju M5 660 v4 v16) 598 80 = v26 := ((ju_c _ _ (by decide)).trans e27)
        have e29 : M5 598 89 = v11 := ((w5_6 89 (zne rfl) (zne rfl) (zne rfl) (zne rfl) (zne rfl) (zne rfl) (zne rfl)).trans ((ju_i _ _ (zne (by decide))).trans ((ju_i _ _ (zne (by decide))).trans e11)))
        have y30 : (ju M5 660 v4 v16) 598 89 = v11 := ((ju_c _ _ (by decide)).trans e29)
        have y31 : (ju M5 660 v4 v16) 598 90 = v16 := ((ju_c _ _ (by decide)).trans e17)
        obtain ⟨v32, e32⟩ : ∃ z, M 598 96 = z := ⟨_, rfl⟩
        have b32 : 0 ≤ v32 ∧ v32 ≤ 300 := by rw [← e32]; exact hI_M 598 96 (Nat.le_of_ble_eq_true rfl)
        have e33 : M5 598 96 = v32 := ((w5_6 96 (zne rfl) (zne rfl) (zne rfl) (zne rfl) (zne rfl) (zne rfl) (zne rfl)).trans ((ju_i _ _ (zne (by decide))).trans ((ju_i _ _ (zne (by decide))).trans e32)))
        have y34 : (ju M5 660 v4 v16) 598 96 = v32 := ((ju_c _ _ (by decide)).trans e33)
        have e35 : M5 598 100 = v2 - 1 := ((w5_6 100 (zne rfl) (zne rfl) (zne rfl) (zne rfl) (zne rfl) (zne rfl) (zne rfl)).trans (ju_same _ _ _ _))
        have y36 : (ju M5 660 v4 v16) 598 100 = v2 - 1 := ((ju_c _ _ (by decide)).trans e35)
        have e37 : M5 598 107 = v1 - 1 := ((w5_6 107 (zne rfl) (zne rfl) (zne rfl) (zne rfl) (zne rfl) (zne rfl) (zne rfl)).trans ((ju_i _ _ (zne (by decide))).trans (ju_same _ _ _ _)))
        have y38 : (ju M5 660 v4 v16) 598 107 = v1 - 1 := ((ju_c _ _ (by decide)).trans e37)
        have y39 : TK (ju M5 660 v4 v16) = TK M5 := ((TK.o (Or.inl (by decide))).trans rfl)
        obtain ⟨_, hp0, hp1, hp2, hp3, hp4⟩ := hu2.e (by omega)
        have x90_ := w5_6 90 (zne rfl) (zne rfl) (zne rfl) (zne rfl) (zne rfl) (zne rfl) (zne rfl)
        have hX := XS.patch (hU2.e (by omega)) e17 (by omega) (by omega) (by rw [w5_5 659 _ (nne rfl), ju_c _ _ (by decide), ju_c _ _ (by decide)]; omega) (by have z := hB; unfold LB at z; rw [e17] at z; exact z.resolve_left (by omega))
        have hA := AK.cp (M' := (ju M5 660 v4 v16)) hA (CP.o (CP.rfl _) (by decide) (Or.inl (by decide))) (fun i => ju_c _ _ (by decide)) (ju_c _ _ (by decide))
        have hB := LB.fr (M' := (ju M5 660 v4 v16)) hB (fun i => ju_c _ _ (by decide)) (ju_c _ _ (by decide))
        exact jr.vreturn rfl rfl (q _ (RI.u hI_M5 (a := 660) (i := v4) (by rw [xri_row rfl rfl]; show (-9223372036854775808 : Int) ≤ _ ∧ _ ≤ (9223372036854775807 : Int); omega)) (RH.o hH_M5 (by decide) (by decide) (by decide)) (RF.o hS_M5 (by decide) (by decide))  (Or.inr ⟨by omega, Or.inl ⟨by omega, ⟨by omega, XS.adj hX (k' := 0) (z' := 0) (by omega) (by omega) (by omega), by omega, by omega, by omega, by omega, hB, hA, by omega⟩⟩⟩) (by omega) (by omega) (by omega) (fun a i f598 f658 f659 f660 f668 f669 => ((ju_c _ _ f660).trans ((w5_5 a i f598).trans ((ju_c _ _ f598).trans ((ju_c _ _ f598).trans rfl))))) (fun i g73 g74 g75 g76 g77 g78 g79 g80 g81 g90 g100 g101 g107 => ((ju_c _ _ (by decide)).trans ((w5_6 i g73 g74 g75 g76 g77 g78 g79).trans ((ju_i _ _ g100).trans ((ju_i _ _ g107).trans rfl))))))
      · refine jr.aload_n rfl rfl ?_
        refine jr.iconst rfl ?_
        refine jr_v rfl rfl (Or.inl rfl) rfl rfl (nlt rfl) rfl ⟨rfl, Nat.le_of_ble_eq_true rfl, Nat.le_of_ble_eq_true rfl⟩ rfl (jc.deep (c_isWord hI_M5 (by omega) (fun t116_0 t116_1 => ?_) (fun f116_0 => ?_)) (Nat.le_of_ble_eq_true rfl))
        · refine jr.if_eq rfl rfl (by first | exact rgl rfl | omega) (fun h => absurd h (by decide)) (fun _ => ?_)
          refine jr.aload_n rfl rfl ?_
          obtain ⟨v41, e41⟩ : ∃ z, M 598 90 = z := ⟨_, rfl⟩
          have b41 : 0 ≤ v41 ∧ v41 ≤ 2200 := by rw [← e41]; exact hI_M 598 90 (Nat.le_of_ble_eq_true rfl)
          have e42 : M5 598 90 = v41 := ((w5_6 90 (zne rfl) (zne rfl) (zne rfl) (zne rfl) (zne rfl) (zne rfl) (zne rfl)).trans ((ju_i _ _ (zne (by decide))).trans ((ju_i _ _ (zne (by decide))).trans e41)))
          refine jr.getf (i := 90) (x := v41) (v := .int (Int32.ofInt (v41))) rfl rfl (nlt rfl) rfl (nlt rfl) rfl rfl e42 rfl ?_
          refine jr.istore_n (ls' := [_, _, _, _]) rfl (nlt rfl) rfl ?_
          refine jr.aload_n rfl rfl ?_
          refine jr.iconst rfl ?_
          refine jr.lconst (x := 0) rfl (by decide) ?_
          refine jr_v rfl rfl (Or.inl rfl) rfl rfl (nlt rfl) rfl ⟨rfl, Nat.le_of_ble_eq_true rfl, Nat.le_of_ble_eq_true rfl⟩ rfl (jc.deep (r_emit e42 (by omega) (by omega) (by omega) ?_) (Nat.le_of_ble_eq_true rfl))
          refine jr.aload_n rfl rfl ?_
          refine jr.getf (i := 95) (v := .ref 660) rfl rfl (nlt rfl) rfl (nlt rfl) rfl rfl rfl rfl ?_
          refine jr.iload_n rfl rfl ?_
          refine jr.aload_n rfl rfl ?_
          refine jr.getf (i := 90) (x := (v41 + 1)) (v := .int (Int32.ofInt (v41 + 1))) rfl rfl (nlt rfl) rfl (nlt rfl) rfl rfl (ju_same _ _ _ _) rfl ?_
          refine jr.i2l rfl (by omega) ?_
          obtain ⟨_, hz0, hz1, hz2, hz3, hz4⟩ := hu2.e (by omega)
          refine jr.last (i := v4) (x := (v41 + 1)) rfl (nlt rfl) rfl (Nat.le_of_ble_eq_true rfl) (by omega) (by omega) ?_
          refine jr.aload_n rfl rfl ?_
          obtain ⟨v44, e44⟩ : ∃ z, M5 598 73 = z := ⟨_, rfl⟩
          have b44 : 0 ≤ v44 ∧ v44 ≤ 1600 := by rw [← e44]; exact hI_M5 598 73 (Nat.le_of_ble_eq_true rfl)
          have e45 : M5 598 72 = v7 := ((w5_6 72 (zne rfl) (zne rfl) (zne rfl) (zne rfl) (zne rfl) (zne rfl) (zne rfl)).trans ((ju_i _ _ (zne (by decide))).trans ((ju_i _ _ (zne (by decide))).trans e7)))
          have e47 : M5 598 100 = v2 - 1 := ((w5_6 100 (zne rfl) (zne rfl) (zne rfl) (zne rfl) (zne rfl) (zne rfl) (zne rfl)).trans (ju_same _ _ _ _))
          have e49 : M5 598 107 = v1 - 1 := ((w5_6 107 (zne rfl) (zne rfl) (zne rfl) (zne rfl) (zne rfl) (zne rfl) (zne rfl)).trans ((ju_i _ _ (zne (by decide))).trans (ju_same _ _ _ _)))
          obtain ⟨v52, e52⟩ : ∃ z, M5 598 74 = z := ⟨_, rfl⟩
          have b52 : 0 ≤ v52 ∧ v52 ≤ 4 := by rw [← e52]; exact hI_M5 598 74 (Nat.le_of_ble_eq_true rfl)
          have e56 : M5 598 89 = v11 := ((w5_6 89 (zne rfl) (zne rfl) (zne rfl) (zne rfl) (zne rfl) (zne rfl) (zne rfl)).trans ((ju_i _ _ (zne (by decide))).trans ((ju_i _ _ (zne (by decide))).trans e11)))
          have e58 : M5 598 100 = v2 - 1 := ((w5_6 100 (zne rfl) (zne rfl) (zne rfl) (zne rfl) (zne rfl) (zne rfl) (zne rfl)).trans (ju_same _ _ _ _))
          refine jr_v rfl rfl (Or.inl rfl) rfl rfl (nlt rfl) rfl ⟨rfl, Nat.le_of_ble_eq_true rfl, Nat.le_of_ble_eq_true rfl⟩ rfl (jc.deep (r_next (RI.u (RI.u (RI.u (RI.u hI_M5 (a := 659) (i := v41) (by rw [xri_row rfl rfl]; show (0 : Int) ≤ _ ∧ _ ≤ (1000 : Int); omega)) (a := 660) (i := v41) (by rw [xri_row rfl rfl]; show (-9223372036854775808 : Int) ≤ _ ∧ _ ≤ (9223372036854775807 : Int); omega)) (a := 598) (i := 90) (show (0 : Int) ≤ _ ∧ _ ≤ (2200 : Int) from by omega)) (a := 660) (i := v4) (by rw [xri_row rfl rfl]; show (-9223372036854775808 : Int) ≤ _ ∧ _ ≤ (9223372036854775807 : Int); omega)) (RH.o (RH.o (RH.o (RH.o hH_M5 (by decide) (by decide) (by decide)) (by decide) (by decide) (by decide)) (by decide) (by decide) (by decide)) (by decide) (by decide) (by decide)) (RF.o (RF.o (RF.o (RF.o hS_M5 (by decide) (by decide)) (by decide) (by decide)) (by decide) (by decide)) (by decide) (by decide))   (by rw [((ju_c _ _ (by decide)).trans ((ju_i _ _ (zne (by decide))).trans ((ju_c _ _ (by decide)).trans ((ju_c _ _ (by decide)).trans e44)))), ((ju_c _ _ (by decide)).trans ((ju_i _ _ (zne (by decide))).trans ((ju_c _ _ (by decide)).trans ((ju_c _ _ (by decide)).trans e45))))]; omega) (fun M43 hI_M43 hH_M43 hS_M43  w43_0 w43_1 w43_2 w43_3 w43_4 w43_5 w43_6 => ?_)) (Nat.le_of_ble_eq_true rfl))
          have y60 : (ju (ju (ju (ju M5 659 v41 2) 660 v41 0) 598 90 (v41 + 1)) 660 v4 (v41 + 1)) 598 73 = v44 := ((ju_c _ _ (by decide)).trans ((ju_i _ _ (zne (by decide))).trans ((ju_c _ _ (by decide)).trans ((ju_c _ _ (by decide)).trans e44))))
          have y61 : (ju (ju (ju (ju M5 659 v41 2) 660 v41 0) 598 90 (v41 + 1)) 660 v4 (v41 + 1)) 598 74 = v52 := ((ju_c _ _ (by decide)).trans ((ju_i _ _ (zne (by decide))).trans ((ju_c _ _ (by decide)).trans ((ju_c _ _ (by decide)).trans e52))))
          have tb43 : TK (ju (ju (ju (ju M5 659 v41 2) 660 v41 0) 598 90 (v41 + 1)) 660 v4 (v41 + 1)) = TK M5 := ((TK.o (Or.inl (by decide))).trans ((TK.o (Or.inr ⟨by decide, by decide⟩)).trans ((TK.o (Or.inl (by decide))).trans ((TK.o (Or.inl (by decide))).trans rfl))))
          obtain ⟨_, hp0, hp1, hp2, hp3, hp4⟩ := hu2.e (by omega)
          have x90_ := w5_6 90 (zne rfl) (zne rfl) (zne rfl) (zne rfl) (zne rfl) (zne rfl) (zne rfl)
          have hX := XS.els (hU2.e (by omega)) e42 (by omega) (by omega) (by rw [w5_5 659 _ (nne rfl), ju_c _ _ (by decide), ju_c _ _ (by decide)]; omega) (by have z := hB; unfold LB at z; rw [e42] at z; exact z.resolve_left (by omega)) 1 (by omega) (by omega) (by omega)
          have hA := AK.cp (M' := (ju (ju (ju (ju M5 659 v41 2) 660 v41 0) 598 90 (v41 + 1)) 660 v4 (v41 + 1))) (AK.emit (op := 2) (a := 0) hA e42) (CP.o (CP.rfl _) (by decide) (Or.inl (by decide))) (fun i => ju_c _ _ (by decide)) (ju_c _ _ (by decide))
          have hB : LB _ := LB.fr (M' := (ju (ju (ju (ju M5 659 v41 2) 660 v41 0) 598 90 (v41 + 1)) 660 v4 (v41 + 1))) (LB.emit (M := M5) (c := v41) (op := 2) (a := 0) (by decide)) (fun i => ju_c _ _ (by decide)) (ju_c _ _ (by decide))
          have bq74b : (0 : Int) ≤ M43 598 74 ∧ M43 598 74 ≤ 4 := hI_M43 598 74 (Nat.le_of_ble_eq_true rfl)
          have y51 : (ju (ju (ju (ju M5 659 v41 2) 660 v41 0) 598 90 (v41 + 1)) 660 v4 (v41 + 1)) 598 73 = v44 := ((ju_c _ _ (by decide)).trans ((ju_i _ _ (zne (by decide))).trans ((ju_c _ _ (by decide)).trans ((ju_c _ _ (by decide)).trans e44))))
          have y53 : (ju (ju (ju (ju M5 659 v41 2) 660 v41 0) 598 90 (v41 + 1)) 660 v4 (v41 + 1)) 598 74 = v52 := ((ju_c _ _ (by decide)).trans ((ju_i _ _ (zne (by decide))).trans ((ju_c _ _ (by decide)).trans ((ju_c _ _ (by decide)).trans e52))))
          have adv2 := TK.adv (w43_3 (by omega)) (by omega) (by omega)
          have y54 : (ju (ju (ju (ju M5 659 v41 2) 660 v41 0) 598 90 (v41 + 1)) 660 v4 (v41 + 1)) 598 73 = v44 := ((ju_c _ _ (by decide)).trans ((ju_i _ _ (zne (by decide))).trans ((ju_c _ _ (by decide)).trans ((ju_c _ _ (by decide)).trans e44))))
          have y55 : (ju (ju (ju (ju M5 659 v41 2) 660 v41 0) 598 90 (v41 + 1)) 660 v4 (v41 + 1)) 598 74 = v52 := ((ju_c _ _ (by decide)).trans ((ju_i _ _ (zne (by decide))).trans ((ju_c _ _ (by decide)).trans ((ju_c _ _ (by decide)).trans e52))))
          have y57 : (ju (ju (ju (ju M5 659 v41 2) 660 v41 0) 598 90 (v41 + 1)) 660 v4 (v41 + 1)) 598 89 = v11 := ((ju_c _ _ (by decide)).trans ((ju_i _ _ (zne (by decide))).trans ((ju_c _ _ (by decide)).trans ((ju_c _ _ (by decide)).trans e56))))
          have y59 : (ju (ju (ju (ju M5 659 v41 2) 660 v41 0) 598 90 (v41 + 1)) 660 v4 (v41 + 1)) 598 100 = v2 - 1 := ((ju_c _ _ (by decide)).trans ((ju_i _ _ (zne (by decide))).trans ((ju_c _ _ (by decide)).trans ((ju_c _ _ (by decide)).trans e58))))
          have x43_89 := w43_6 89 (zne rfl) (zne rfl) (zne rfl) (zne rfl) (zne rfl) (zne rfl) (zne rfl)
          have x43_100 := w43_6 100 (zne rfl) (zne rfl) (zne rfl) (zne rfl) (zne rfl) (zne rfl) (zne rfl)
          have hX := XS.fr2 hX w43_5 (w43_6 88 (zne rfl) (zne rfl) (zne rfl) (zne rfl) (zne rfl) (zne rfl) (zne rfl)) (w43_6 90 (zne rfl) (zne rfl) (zne rfl) (zne rfl) (zne rfl) (zne rfl) (zne rfl)) (w43_6 101 (zne rfl) (zne rfl) (zne rfl) (zne rfl) (zne rfl) (zne rfl) (zne rfl)) (w43_6 107 (zne rfl) (zne rfl) (zne rfl) (zne rfl) (zne rfl) (zne rfl) (zne rfl)) (k' := 1 + min 1 (M43 598 74)) (d' := 0) (z' := 0) (by omega) (by omega) (by omega) (by omega)
          have hA := AK.cp hA (CP.f (CP.rfl _) (fun i => w43_5 659 i (nne rfl)) (w43_6 90 (zne rfl) (zne rfl) (zne rfl) (zne rfl) (zne rfl) (zne rfl) (zne rfl))) (fun i => w43_5 663 i (nne rfl)) (w43_6 96 (zne rfl) (zne rfl) (zne rfl) (zne rfl) (zne rfl) (zne rfl) (zne rfl))
          have hB := LB.fr hB (fun i => w43_5 659 i (nne rfl)) (w43_6 90 (zne rfl) (zne rfl) (zne rfl) (zne rfl) (zne rfl) (zne rfl) (zne rfl))
          refine jr.aload_n rfl rfl ?_
          refine jr.iconst rfl ?_
          refine jr.iload_n rfl rfl ?_
          obtain ⟨v63, e63⟩ : ∃ z, M43 598 73 = z := ⟨_, rfl⟩
          have b63 : 0 ≤ v63 ∧ v63 ≤ 1600 := by rw [← e63]; exact hI_M43 598 73 (Nat.le_of_ble_eq_true rfl)
          have e64 : M43 598 72 = v7 := ((w43_6 72 (zne rfl) (zne rfl) (zne rfl) (zne rfl) (zne rfl) (zne rfl) (zne rfl)).trans ((ju_c _ _ (by decide)).trans ((ju_i _ _ (zne (by decide))).trans ((ju_c _ _ (by decide)).trans ((ju_c _ _ (by decide)).trans e45)))))
          obtain ⟨v65, e65⟩ : ∃ z, M 598 80 = z := ⟨_, rfl⟩
          have b65 : 0 ≤ v65 ∧ v65 ≤ 7 := by rw [← e65]; exact hI_M 598 80 (Nat.le_of_ble_eq_true rfl)
          have e66 : M5 598 80 = v65 := ((w5_6 80 (zne rfl) (zne rfl) (zne rfl) (zne rfl) (zne rfl) (zne rfl) (zne rfl)).trans ((ju_i _ _ (zne (by decide))).trans ((ju_i _ _ (zne (by decide))).trans e65)))
          have e67 : M43 598 80 = v65 := ((w43_6 80 (zne rfl) (zne rfl) (zne rfl) (zne rfl) (zne rfl) (zne rfl) (zne rfl)).trans ((ju_c _ _ (by decide)).trans ((ju_i _ _ (zne (by decide))).trans ((ju_c _ _ (by decide)).trans ((ju_c _ _ (by decide)).trans e66)))))
          have e68 : M43 598 100 = v2 - 1 := ((w43_6 100 (zne rfl) (zne rfl) (zne rfl) (zne rfl) (zne rfl) (zne rfl) (zne rfl)).trans ((ju_c _ _ (by decide)).trans ((ju_i _ _ (zne (by decide))).trans ((ju_c _ _ (by decide)).trans ((ju_c _ _ (by decide)).trans e58)))))
          have e69 : M5 598 107 = v1 - 1 := ((w5_6 107 (zne rfl) (zne rfl) (zne rfl) (zne rfl) (zne rfl) (zne rfl) (zne rfl)).trans ((ju_i _ _ (zne (by decide))).trans (ju_same _ _ _ _)))
          have e70 : M43 598 107 = v1 - 1 := ((w43_6 107 (zne rfl) (zne rfl) (zne rfl) (zne rfl) (zne rfl) (zne rfl) (zne rfl)).trans ((ju_c _ _ (by decide)).trans ((ju_i _ _ (zne (by decide))).trans ((ju_c _ _ (by decide)).trans ((ju_c _ _ (by decide)).trans e69)))))
          have e72 : M43 598 90 = v41 + 1 := ((w43_6 90 (zne rfl) (zne rfl) (zne rfl) (zne rfl) (zne rfl) (zne rfl) (zne rfl)).trans ((ju_c _ _ (by decide)).trans (ju_same _ _ _ _)))
          obtain ⟨v74, e74⟩ : ∃ z, M43 598 74 = z := ⟨_, rfl⟩
          have b74 : 0 ≤ v74 ∧ v74 ≤ 4 := by rw [← e74]; exact hI_M43 598 74 (Nat.le_of_ble_eq_true rfl)
          refine jr_v rfl rfl (Or.inl rfl) rfl rfl (nlt rfl) rfl ⟨rfl, Nat.le_of_ble_eq_true rfl, Nat.le_of_ble_eq_true rfl⟩ rfl (jc.deep (r_beginBlock hI_M43 hH_M43 hS_M43  (by omega) (by omega) (by rw [e63, e64]; omega) (by rw [e67, e68]; intro q; omega) (by rw [e70]; omega) (fun M62 hI_M62 hH_M62 hS_M62  w62_0 w62_1 w62_2 w62_3 w62_4 w62_5 w62_6 w62_7 w62_8 w62_9 w62_10 w62_11 => ?_)) (Nat.le_of_ble_eq_true rfl))
          refine jr.goto rfl rfl ?_
          have e76 : M62 598 72 = v7 := ((w62_11 72 (zne rfl) (zne rfl) (zne rfl) (zne rfl) (zne rfl) (zne rfl) (zne rfl) (zne rfl) (zne rfl) (zne rfl) (zne rfl)).trans e64)
          obtain ⟨v78, e78⟩ : ∃ z, M62 598 73 = z := ⟨_, rfl⟩
          have b78 : 0 ≤ v78 ∧ v78 ≤ 1600 := by rw [← e78]; exact hI_M62 598 73 (Nat.le_of_ble_eq_true rfl)
          obtain ⟨v80, e80⟩ : ∃ z, M62 598 74 = z := ⟨_, rfl⟩
          have b80 : 0 ≤ v80 ∧ v80 ≤ 4 := by rw [← e80]; exact hI_M62 598 74 (Nat.le_of_ble_eq_true rfl)
          obtain ⟨v82, e82⟩ : ∃ z, M62 598 79 = z := ⟨_, rfl⟩
          have b82 : 0 ≤ v82 ∧ v82 ≤ 255 := by rw [← e82]; exact hI_M62 598 79 (Nat.le_of_ble_eq_true rfl)
          obtain ⟨v84, e84⟩ : ∃ z, M62 598 80 = z := ⟨_, rfl⟩
          have b84 : 0 ≤ v84 ∧ v84 ≤ 7 := by rw [← e84]; exact hI_M62 598 80 (Nat.le_of_ble_eq_true rfl)
          have e86 : M43 598 89 = v11 := ((w43_6 89 (zne rfl) (zne rfl) (zne rfl) (zne rfl) (zne rfl) (zne rfl) (zne rfl)).trans ((ju_c _ _ (by decide)).trans ((ju_i _ _ (zne (by decide))).trans ((ju_c _ _ (by decide)).trans ((ju_c _ _ (by decide)).trans e56)))))
          have e87 : M62 598 89 = v11 := ((w62_11 89 (zne rfl) (zne rfl) (zne rfl) (zne rfl) (zne rfl) (zne rfl) (zne rfl) (zne rfl) (zne rfl) (zne rfl) (zne rfl)).trans e86)
          have e89 : M62 598 90 = v41 + 1 := ((w62_11 90 (zne rfl) (zne rfl) (zne rfl) (zne rfl) (zne rfl) (zne rfl) (zne rfl) (zne rfl) (zne rfl) (zne rfl) (zne rfl)).trans e72)
          obtain ⟨v91, e91⟩ : ∃ z, M 598 96 = z := ⟨_, rfl⟩
          have b91 : 0 ≤ v91 ∧ v91 ≤ 300 := by rw [← e91]; exact hI_M 598 96 (Nat.le_of_ble_eq_true rfl)
          have e92 : M5 598 96 = v91 := ((w5_6 96 (zne rfl) (zne rfl) (zne rfl) (zne rfl) (zne rfl) (zne rfl) (zne rfl)).trans ((ju_i _ _ (zne (by decide))).trans ((ju_i _ _ (zne (by decide))).trans e91)))
          have e93 : M43 598 96 = v91 := ((w43_6 96 (zne rfl) (zne rfl) (zne rfl) (zne rfl) (zne rfl) (zne rfl) (zne rfl)).trans ((ju_c _ _ (by decide)).trans ((ju_i _ _ (zne (by decide))).trans ((ju_c _ _ (by decide)).trans ((ju_c _ _ (by decide)).trans e92)))))
          have e94 : M62 598 96 = v91 := ((w62_11 96 (zne rfl) (zne rfl) (zne rfl) (zne rfl) (zne rfl) (zne rfl) (zne rfl) (zne rfl) (zne rfl) (zne rfl) (zne rfl)).trans e93)
          obtain ⟨v96, e96⟩ : ∃ z, M62 598 100 = z := ⟨_, rfl⟩
          have b96 : 0 ≤ v96 ∧ v96 ≤ 13 := by rw [← e96]; exact hI_M62 598 100 (Nat.le_of_ble_eq_true rfl)
          obtain ⟨v98, e98⟩ : ∃ z, M62 598 107 = z := ⟨_, rfl⟩
          have b98 : 0 ≤ v98 ∧ v98 ≤ 16 := by rw [← e98]; exact hI_M62 598 107 (Nat.le_of_ble_eq_true rfl)
          have e100 : M43 659 v41 = 2 := ((w43_5 659 v41 (nne rfl)).trans ((ju_c _ _ (by decide)).trans ((ju_c _ _ (by decide)).trans ((ju_c _ _ (by decide)).trans (ju_same _ _ _ _)))))
          exact jr.vreturn rfl rfl (q _ hI_M62 hH_M62 hS_M62  (by by_cases hf : v84 = 0; (first | (have hX := w62_9 0 _ 0 0 _ hX (by omega) (fun q => by exfalso; omega) (fun _ => ⟨by omega, by omega, by omega, by omega, (e100).trans (by decide), rfl⟩) (by rw [RVq_s (by omega)]; omega) (by omega); have hB := LB.fr hB (fun i => w62_10 659 i (nne rfl) (nne rfl) (nne rfl)) (w62_11 90 (zne rfl) (zne rfl) (zne rfl) (zne rfl) (zne rfl) (zne rfl) (zne rfl) (zne rfl) (zne rfl) (zne rfl) (zne rfl)); have hA := AK.cp hA (CP.f (CP.rfl _) (fun i => w62_10 659 i (nne rfl) (nne rfl) (nne rfl)) (w62_11 90 (zne rfl) (zne rfl) (zne rfl) (zne rfl) (zne rfl) (zne rfl) (zne rfl) (zne rfl) (zne rfl) (zne rfl) (zne rfl))) (fun i => w62_10 663 i (nne rfl) (nne rfl) (nne rfl)) (w62_11 96 (zne rfl) (zne rfl) (zne rfl) (zne rfl) (zne rfl) (zne rfl) (zne rfl) (zne rfl) (zne rfl) (zne rfl) (zne rfl)); exact Or.inr ⟨by omega, Or.inl ⟨by omega, ⟨by omega, XS.adj hX (k' := 0) (z' := 0) (by omega) (by omega) (by omega), by omega, by omega, by omega, by omega, hB, hA, by omega⟩⟩⟩) | (exfalso; omega)); (exact Or.inl ⟨by omega, by omega⟩)) (by omega) (by omega) (by omega) (fun a i f598 f658 f659 f660 f668 f669 => ((w62_10 a i f598 f668 f669).trans ((w43_5 a i f598).trans ((ju_c _ _ f660).trans ((ju_c _ _ f598).trans ((ju_c _ _ f660).trans ((ju_c _ _ f659).trans ((w5_5 a i f598).trans ((ju_c _ _ f598).trans ((ju_c _ _ f598).trans rfl)))))))))) (fun i g73 g74 g75 g76 g77 g78 g79 g80 g81 g90 g100 g101 g107 => ((w62_11 i g73 g74 g75 g76 g77 g78 g79 g80 g81 g100 g107).trans ((w43_6 i g73 g74 g75 g76 g77 g78 g79).trans ((ju_c _ _ (by decide)).trans ((ju_i _ _ g90).trans ((ju_c _ _ (by decide)).trans ((ju_c _ _ (by decide)).trans ((w5_6 i g73 g74 g75 g76 g77 g78 g79).trans ((ju_i _ _ g100).trans ((ju_i _ _ g107).trans rfl)))))))))))
        · refine jr.if_eq rfl rfl (by first | exact rgl rfl | omega) (fun _ => ?_) (fun h => absurd (by decide) h)
          refine jr.aload_n rfl rfl ?_
          refine jr.getf (i := 95) (v := .ref 660) rfl rfl (nlt rfl) rfl (nlt rfl) rfl rfl rfl rfl ?_
          refine jr.iload_n rfl rfl ?_
          refine jr.aload_n rfl rfl ?_
          obtain ⟨v101, e101⟩ : ∃ z, M 598 90 = z := ⟨_, rfl⟩
          have b101 : 0 ≤ v101 ∧ v101 ≤ 2200 := by rw [← e101]; exact hI_M 598 90 (Nat.le_of_ble_eq_true rfl)
          have e102 : M5 598 90 = v101 := ((w5_6 90 (zne rfl) (zne rfl) (zne rfl) (zne rfl) (zne rfl) (zne rfl) (zne rfl)).trans ((ju_i _ _ (zne (by decide))).trans ((ju_i _ _ (zne (by decide))).trans e101)))
          refine jr.getf (i := 90) (x := v101) (v := .int (Int32.ofInt (v101))) rfl rfl (nlt rfl) rfl (nlt rfl) rfl rfl e102 rfl ?_
          refine jr.i2l rfl (by omega) ?_
          obtain ⟨_, hz0, hz1, hz2, hz3, hz4⟩ := hu2.e (by omega)
          refine jr.last (i := v4) (x := v101) rfl (nlt rfl) rfl (Nat.le_of_ble_eq_true rfl) (by omega) (by omega) ?_
          have e103 : M5 598 72 = v7 := ((w5_6 72 (zne rfl) (zne rfl) (zne rfl) (zne rfl) (zne rfl) (zne rfl) (zne rfl)).trans ((ju_i _ _ (zne (by decide))).trans ((ju_i _ _ (zne (by decide))).trans e7)))
          have y104 : (ju M5 660 v4 v101) 598 72 = v7 := ((ju_c _ _ (by decide)).trans e103)
          obtain ⟨v105, e105⟩ : ∃ z, M5 598 73 = z := ⟨_, rfl⟩
          have b105 : 0 ≤ v105 ∧ v105 ≤ 1600 := by rw [← e105]; exact hI_M5 598 73 (Nat.le_of_ble_eq_true rfl)
          have y106 : (ju M5 660 v4 v101) 598 73 = v105 := ((ju_c _ _ (by decide)).trans e105)
          obtain ⟨v107, e107⟩ : ∃ z, M5 598 74 = z := ⟨_, rfl⟩
          have b107 : 0 ≤ v107 ∧ v107 ≤ 4 := by rw [← e107]; exact hI_M5 598 74 (Nat.le_of_ble_eq_true rfl)
          have y108 : (ju M5 660 v4 v101) 598 74 = v107 := ((ju_c _ _ (by decide)).trans e107)
          obtain ⟨v109, e109⟩ : ∃ z, M5 598 79 = z := ⟨_, rfl⟩
          have b109 : 0 ≤ v109 ∧ v109 ≤ 255 := by rw [← e109]; exact hI_M5 598 79 (Nat.le_of_ble_eq_true rfl)
          have y110 : (ju M5 660 v4 v101) 598 79 = v109 := ((ju_c _ _ (by decide)).trans e109)
          obtain ⟨v111, e111⟩ : ∃ z, M 598 80 = z := ⟨_, rfl⟩
          have b111 : 0 ≤ v111 ∧ v111 ≤ 7 := by rw [← e111]; exact hI_M 598 80 (Nat.le_of_ble_eq_true rfl)
          have e112 : M5 598 80 = v111 := ((w5_6 80 (zne rfl) (zne rfl) (zne rfl) (zne rfl) (zne rfl) (zne rfl) (zne rfl)).trans ((ju_i _ _ (zne (by decide))).trans ((ju_i _ _ (zne (by decide))).trans e111)))
          have y113 : (ju M5 660 v4 v101) 598 80 = v111 := ((ju_c _ _ (by decide)).trans e112)
          have e114 : M5 598 89 = v11 := ((w5_6 89 (zne rfl) (zne rfl) (zne rfl) (zne rfl) (zne rfl) (zne rfl) (zne rfl)).trans ((ju_i _ _ (zne (by decide))).trans ((ju_i _ _ (zne (by decide))).trans e11)))
          have y115 : (ju M5 660 v4 v101) 598 89 = v11 := ((ju_c _ _ (by decide)).trans e114)
          have y116 : (ju M5 660 v4 v101) 598 90 = v101 := ((ju_c _ _ (by decide)).trans e102)
          obtain ⟨v117, e117⟩ : ∃ z, M 598 96 = z := ⟨_, rfl⟩
          have b117 : 0 ≤ v117 ∧ v117 ≤ 300 := by rw [← e117]; exact hI_M 598 96 (Nat.le_of_ble_eq_true rfl)
          have e118 : M5 598 96 = v117 := ((w5_6 96 (zne rfl) (zne rfl) (zne rfl) (zne rfl) (zne rfl) (zne rfl) (zne rfl)).trans ((ju_i _ _ (zne (by decide))).trans ((ju_i _ _ (zne (by decide))).trans e117)))
          have y119 : (ju M5 660 v4 v101) 598 96 = v117 := ((ju_c _ _ (by decide)).trans e118)
          have e120 : M5 598 100 = v2 - 1 := ((w5_6 100 (zne rfl) (zne rfl) (zne rfl) (zne rfl) (zne rfl) (zne rfl) (zne rfl)).trans (ju_same _ _ _ _))
          have y121 : (ju M5 660 v4 v101) 598 100 = v2 - 1 := ((ju_c _ _ (by decide)).trans e120)
          have e122 : M5 598 107 = v1 - 1 := ((w5_6 107 (zne rfl) (zne rfl) (zne rfl) (zne rfl) (zne rfl) (zne rfl) (zne rfl)).trans ((ju_i _ _ (zne (by decide))).trans (ju_same _ _ _ _)))
          have y123 : (ju M5 660 v4 v101) 598 107 = v1 - 1 := ((ju_c _ _ (by decide)).trans e122)
          have y124 : TK (ju M5 660 v4 v101) = TK M5 := ((TK.o (Or.inl (by decide))).trans rfl)
          obtain ⟨_, hp0, hp1, hp2, hp3, hp4⟩ := hu2.e (by omega)
          have x90_ := w5_6 90 (zne rfl) (zne rfl) (zne rfl) (zne rfl) (zne rfl) (zne rfl) (zne rfl)
          have hX := XS.patch (hU2.e (by omega)) e102 (by omega) (by omega) (by rw [w5_5 659 _ (nne rfl), ju_c _ _ (by decide), ju_c _ _ (by decide)]; omega) (by have z := hB; unfold LB at z; rw [e102] at z; exact z.resolve_left (by omega))
          have hA := AK.cp (M' := (ju M5 660 v4 v101)) hA (CP.o (CP.rfl _) (by decide) (Or.inl (by decide))) (fun i => ju_c _ _ (by decide)) (ju_c _ _ (by decide))
          have hB := LB.fr (M' := (ju M5 660 v4 v101)) hB (fun i => ju_c _ _ (by decide)) (ju_c _ _ (by decide))
          exact jr.vreturn rfl rfl (q _ (RI.u hI_M5 (a := 660) (i := v4) (by rw [xri_row rfl rfl]; show (-9223372036854775808 : Int) ≤ _ ∧ _ ≤ (9223372036854775807 : Int); omega)) (RH.o hH_M5 (by decide) (by decide) (by decide)) (RF.o hS_M5 (by decide) (by decide))  (Or.inr ⟨by omega, Or.inl ⟨by omega, ⟨by omega, XS.adj hX (k' := 0) (z' := 0) (by omega) (by omega) (by omega), by omega, by omega, by omega, by omega, hB, hA, by omega⟩⟩⟩) (by omega) (by omega) (by omega) (fun a i f598 f658 f659 f660 f668 f669 => ((ju_c _ _ f660).trans ((w5_5 a i f598).trans ((ju_c _ _ f598).trans ((ju_c _ _ f598).trans rfl))))) (fun i g73 g74 g75 g76 g77 g78 g79 g80 g81 g90 g100 g101 g107 => ((ju_c _ _ (by decide)).trans ((w5_6 i g73 g74 g75 g76 g77 g78 g79).trans ((ju_i _ _ g100).trans ((ju_i _ _ g107).trans rfl))))))
    · refine jr.aload_n rfl rfl ?_
      refine jr.iconst rfl ?_
      refine jr.lconst (x := 0) rfl (by decide) ?_
      obtain ⟨v126, e126⟩ : ∃ z, M 598 90 = z := ⟨_, rfl⟩
      have b126 : 0 ≤ v126 ∧ v126 ≤ 2200 := by rw [← e126]; exact hI_M 598 90 (Nat.le_of_ble_eq_true rfl)
      have e127 : M5 598 90 = v126 := ((w5_6 90 (zne rfl) (zne rfl) (zne rfl) (zne rfl) (zne rfl) (zne rfl) (zne rfl)).trans ((ju_i _ _ (zne (by decide))).trans ((ju_i _ _ (zne (by decide))).trans e126)))
      have e128 : M5 598 100 = v2 - 1 := ((w5_6 100 (zne rfl) (zne rfl) (zne rfl) (zne rfl) (zne rfl) (zne rfl) (zne rfl)).trans (ju_same _ _ _ _))
      have e130 : M5 598 107 = v1 - 1 := ((w5_6 107 (zne rfl) (zne rfl) (zne rfl) (zne rfl) (zne rfl) (zne rfl) (zne rfl)).trans ((ju_i _ _ (zne (by decide))).trans (ju_same _ _ _ _)))
      refine jr_v rfl rfl (Or.inl rfl) rfl rfl (nlt rfl) rfl ⟨rfl, Nat.le_of_ble_eq_true rfl, Nat.le_of_ble_eq_true rfl⟩ rfl (jc.deep (r_emit e127 (by omega) (by omega) (by omega) ?_) (Nat.le_of_ble_eq_true rfl))
      obtain ⟨_, hn1, hib⟩ := hv2.e (by omega)
      have rv1 := RVq_1 (ib := M 598 101)
      have hX := XS.adj (hV2.e (by omega)) (k' := 0 + 2) (z' := 0) (by omega) (by omega) (by omega)
      have hX := XS.fin hX e127 (by omega) (by omega)
      have hA := AK.emit (op := 3) (a := 0) hA e127
      have hB : LB _ := LB.emit (M := M5) (c := v126) (op := 3) (a := 0) (by decide)
      refine jr.goto rfl rfl ?_
      have e132 : M5 598 72 = v7 := ((w5_6 72 (zne rfl) (zne rfl) (zne rfl) (zne rfl) (zne rfl) (zne rfl) (zne rfl)).trans ((ju_i _ _ (zne (by decide))).trans ((ju_i _ _ (zne (by decide))).trans e7)))
      have y133 : (ju (ju (ju M5 659 v126 3) 660 v126 0) 598 90 (v126 + 1)) 598 72 = v7 := ((ju_i _ _ (zne (by decide))).trans ((ju_c _ _ (by decide)).trans ((ju_c _ _ (by decide)).trans e132)))
      obtain ⟨v134, e134⟩ : ∃ z, M5 598 73 = z := ⟨_, rfl⟩
      have b134 : 0 ≤ v134 ∧ v134 ≤ 1600 := by rw [← e134]; exact hI_M5 598 73 (Nat.le_of_ble_eq_true rfl)
      have y135 : (ju (ju (ju M5 659 v126 3) 660 v126 0) 598 90 (v126 + 1)) 598 73 = v134 := ((ju_i _ _ (zne (by decide))).trans ((ju_c _ _ (by decide)).trans ((ju_c _ _ (by decide)).trans e134)))
      obtain ⟨v136, e136⟩ : ∃ z, M5 598 74 = z := ⟨_, rfl⟩
      have b136 : 0 ≤ v136 ∧ v136 ≤ 4 := by rw [← e136]; exact hI_M5 598 74 (Nat.le_of_ble_eq_true rfl)
      have y137 : (ju (ju (ju M5 659 v126 3) 660 v126 0) 598 90 (v126 + 1)) 598 74 = v136 := ((ju_i _ _ (zne (by decide))).trans ((ju_c _ _ (by decide)).trans ((ju_c _ _ (by decide)).trans e136)))
      obtain ⟨v138, e138⟩ : ∃ z, M5 598 79 = z := ⟨_, rfl⟩
      have b138 : 0 ≤ v138 ∧ v138 ≤ 255 := by rw [← e138]; exact hI_M5 598 79 (Nat.le_of_ble_eq_true rfl)
      have y139 : (ju (ju (ju M5 659 v126 3) 660 v126 0) 598 90 (v126 + 1)) 598 79 = v138 := ((ju_i _ _ (zne (by decide))).trans ((ju_c _ _ (by decide)).trans ((ju_c _ _ (by decide)).trans e138)))
      obtain ⟨v140, e140⟩ : ∃ z, M 598 80 = z := ⟨_, rfl⟩
      have b140 : 0 ≤ v140 ∧ v140 ≤ 7 := by rw [← e140]; exact hI_M 598 80 (Nat.le_of_ble_eq_true rfl)
      have e141 : M5 598 80 = v140 := ((w5_6 80 (zne rfl) (zne rfl) (zne rfl) (zne rfl) (zne rfl) (zne rfl) (zne rfl)).trans ((ju_i _ _ (zne (by decide))).trans ((ju_i _ _ (zne (by decide))).trans e140)))
      have y142 : (ju (ju (ju M5 659 v126 3) 660 v126 0) 598 90 (v126 + 1)) 598 80 = v140 := ((ju_i _ _ (zne (by decide))).trans ((ju_c _ _ (by decide)).trans ((ju_c _ _ (by decide)).trans e141)))
      have e143 : M5 598 89 = v11 := ((w5_6 89 (zne rfl) (zne rfl) (zne rfl) (zne rfl) (zne rfl) (zne rfl) (zne rfl)).trans ((ju_i _ _ (zne (by decide))).trans ((ju_i _ _ (zne (by decide))).trans e11)))
      have y144 : (ju (ju (ju M5 659 v126 3) 660 v126 0) 598 90 (v126 + 1)) 598 89 = v11 := ((ju_i _ _ (zne (by decide))).trans ((ju_c _ _ (by decide)).trans ((ju_c _ _ (by decide)).trans e143)))
      have y145 : (ju (ju (ju M5 659 v126 3) 660 v126 0) 598 90 (v126 + 1)) 598 90 = v126 + 1 := (ju_same _ _ _ _)
      obtain ⟨v146, e146⟩ : ∃ z, M 598 96 = z := ⟨_, rfl⟩
      have b146 : 0 ≤ v146 ∧ v146 ≤ 300 := by rw [← e146]; exact hI_M 598 96 (Nat.le_of_ble_eq_true rfl)
      have e147 : M5 598 96 = v146 := ((w5_6 96 (zne rfl) (zne rfl) (zne rfl) (zne rfl) (zne rfl) (zne rfl) (zne rfl)).trans ((ju_i _ _ (zne (by decide))).trans ((ju_i _ _ (zne (by decide))).trans e146)))
      have y148 : (ju (ju (ju M5 659 v126 3) 660 v126 0) 598 90 (v126 + 1)) 598 96 = v146 := ((ju_i _ _ (zne (by decide))).trans ((ju_c _ _ (by decide)).trans ((ju_c _ _ (by decide)).trans e147)))
      have y149 : (ju (ju (ju M5 659 v126 3) 660 v126 0) 598 90 (v126 + 1)) 598 100 = v2 - 1 := ((ju_i _ _ (zne (by decide))).trans ((ju_c _ _ (by decide)).trans ((ju_c _ _ (by decide)).trans e128)))
      have y150 : (ju (ju (ju M5 659 v126 3) 660 v126 0) 598 90 (v126 + 1)) 598 107 = v1 - 1 := ((ju_i _ _ (zne (by decide))).trans ((ju_c _ _ (by decide)).trans ((ju_c _ _ (by decide)).trans e130)))
      have y151 : TK (ju (ju (ju M5 659 v126 3) 660 v126 0) 598 90 (v126 + 1)) = TK M5 := ((TK.o (Or.inr ⟨by decide, by decide⟩)).trans ((TK.o (Or.inl (by decide))).trans ((TK.o (Or.inl (by decide))).trans rfl)))
      exact jr.vreturn rfl rfl (q _ (RI.u (RI.u (RI.u hI_M5 (a := 659) (i := v126) (by rw [xri_row rfl rfl]; show (0 : Int) ≤ _ ∧ _ ≤ (1000 : Int); omega)) (a := 660) (i := v126) (by rw [xri_row rfl rfl]; show (-9223372036854775808 : Int) ≤ _ ∧ _ ≤ (9223372036854775807 : Int); omega)) (a := 598) (i := 90) (show (0 : Int) ≤ _ ∧ _ ≤ (2200 : Int) from by omega)) (RH.o (RH.o (RH.o hH_M5 (by decide) (by decide) (by decide)) (by decide) (by decide) (by decide)) (by decide) (by decide) (by decide)) (RF.o (RF.o (RF.o hS_M5 (by decide) (by decide)) (by decide) (by decide)) (by decide) (by decide))  (Or.inr ⟨by omega, Or.inr ⟨by omega, ⟨by omega, XS.adj hX (k' := 0) (z' := 1) (by omega) (by omega) (by omega), by omega, by omega, by omega, by omega, hB, hA, by omega⟩, by omega, by rw [ju_same, show v126 + 1 - 1 = v126 by omega, ju_c _ _ (by decide), ju_c _ _ (by decide), ju_same]⟩⟩) (by omega) (by omega) (by omega) (fun a i f598 f658 f659 f660 f668 f669 => ((ju_c _ _ f598).trans ((ju_c _ _ f660).trans ((ju_c _ _ f659).trans ((w5_5 a i f598).trans ((ju_c _ _ f598).trans ((ju_c _ _ f598).trans rfl))))))) (fun i g73 g74 g75 g76 g77 g78 g79 g80 g81 g90 g100 g101 g107 => ((ju_i _ _ g90).trans ((ju_c _ _ (by decide)).trans ((ju_c _ _ (by decide)).trans ((w5_6 i g73 g74 g75 g76 g77 g78 g79).trans ((ju_i _ _ g100).trans ((ju_i _ _ g107).trans rfl))))))))
  · refine jr.aload_n rfl rfl ?_
    refine jr.iconst rfl ?_
    refine jr.lconst (x := 0) rfl (by decide) ?_
    obtain ⟨v152, e152⟩ : ∃ z, M 598 90 = z := ⟨_, rfl⟩
    have b152 : 0 ≤ v152 ∧ v152 ≤ 2200 := by rw [← e152]; exact hI_M 598 90 (Nat.le_of_ble_eq_true rfl)
    have e153 : M5 598 90 = v152 := ((w5_6 90 (zne rfl) (zne rfl) (zne rfl) (zne rfl) (zne rfl) (zne rfl) (zne rfl)).trans ((ju_i _ _ (zne (by decide))).trans ((ju_i _ _ (zne (by decide))).trans e152)))
    have e154 : M5 598 100 = v2 - 1 := ((w5_6 100 (zne rfl) (zne rfl) (zne rfl) (zne rfl) (zne rfl) (zne rfl) (zne rfl)).trans (ju_same _ _ _ _))
    have e156 : M5 598 107 = v1 - 1 := ((w5_6 107 (zne rfl) (zne rfl) (zne rfl) (zne rfl) (zne rfl) (zne rfl) (zne rfl)).trans ((ju_i _ _ (zne (by decide))).trans (ju_same _ _ _ _)))
    refine jr_v rfl rfl (Or.inl rfl) rfl rfl (nlt rfl) rfl ⟨rfl, Nat.le_of_ble_eq_true rfl, Nat.le_of_ble_eq_true rfl⟩ rfl (jc.deep (r_emit e153 (by omega) (by omega) (by omega) ?_) (Nat.le_of_ble_eq_true rfl))
    obtain ⟨_, hn1, hib⟩ := hv2.e (by omega)
    have rv1 := RVq_1 (ib := M 598 101)
    have hX := XS.adj (hV2.e (by omega)) (k' := 2 + 2) (z' := 0) (by omega) (by omega) (by omega)
    have hX := XS.fin hX e153 (by omega) (by omega)
    have hA := AK.emit (op := 3) (a := 0) hA e153
    have hB : LB _ := LB.emit (M := M5) (c := v152) (op := 3) (a := 0) (by decide)
    refine jr.aload_n rfl rfl ?_
    refine jr.iconst rfl ?_
    refine jr_v rfl rfl (Or.inl rfl) rfl rfl (nlt rfl) rfl ⟨rfl, Nat.le_of_ble_eq_true rfl, Nat.le_of_ble_eq_true rfl⟩ rfl (jc.deep (c_isWord (RI.u (RI.u (RI.u hI_M5 (a := 659) (i := v152) (by rw [xri_row rfl rfl]; show (0 : Int) ≤ _ ∧ _ ≤ (1000 : Int); omega)) (a := 660) (i := v152) (by rw [xri_row rfl rfl]; show (-9223372036854775808 : Int) ≤ _ ∧ _ ≤ (9223372036854775807 : Int); omega)) (a := 598) (i := 90) (show (0 : Int) ≤ _ ∧ _ ≤ (2200 : Int) from by omega)) (by omega) (fun t56_0 t56_1 => ?_) (fun f56_0 => ?_)) (Nat.le_of_ble_eq_true rfl))
    · refine jr.if_eq rfl rfl (by first | exact rgl rfl | omega) (fun h => absurd h (by decide)) (fun _ => ?_)
      refine jr.aload_n rfl rfl ?_
      obtain ⟨v159, e159⟩ : ∃ z, M5 598 73 = z := ⟨_, rfl⟩
      have b159 : 0 ≤ v159 ∧ v159 ≤ 1600 := by rw [← e159]; exact hI_M5 598 73 (Nat.le_of_ble_eq_true rfl)
      have e160 : M5 598 72 = v7 := ((w5_6 72 (zne rfl) (zne rfl) (zne rfl) (zne rfl) (zne rfl) (zne rfl) (zne rfl)).trans ((ju_i _ _ (zne (by decide))).trans ((ju_i _ _ (zne (by decide))).trans e7)))
      obtain ⟨v162, e162⟩ : ∃ z, M5 598 74 = z := ⟨_, rfl⟩
      have b162 : 0 ≤ v162 ∧ v162 ≤ 4 := by rw [← e162]; exact hI_M5 598 74 (Nat.le_of_ble_eq_true rfl)
      have e164 : M5 598 89 = v11 := ((w5_6 89 (zne rfl) (zne rfl) (zne rfl) (zne rfl) (zne rfl) (zne rfl) (zne rfl)).trans ((ju_i _ _ (zne (by decide))).trans ((ju_i _ _ (zne (by decide))).trans e11)))
      refine jr_v rfl rfl (Or.inl rfl) rfl rfl (nlt rfl) rfl ⟨rfl, Nat.le_of_ble_eq_true rfl, Nat.le_of_ble_eq_true rfl⟩ rfl (jc.deep (r_next (RI.u (RI.u (RI.u hI_M5 (a := 659) (i := v152) (by rw [xri_row rfl rfl]; show (0 : Int) ≤ _ ∧ _ ≤ (1000 : Int); omega)) (a := 660) (i := v152) (by rw [xri_row rfl rfl]; show (-9223372036854775808 : Int) ≤ _ ∧ _ ≤ (9223372036854775807 : Int); omega)) (a := 598) (i := 90) (show (0 : Int) ≤ _ ∧ _ ≤ (2200 : Int) from by omega)) (RH.o (RH.o (RH.o hH_M5 (by decide) (by decide) (by decide)) (by decide) (by decide) (by decide)) (by decide) (by decide) (by decide)) (RF.o (RF.o (RF.o hS_M5 (by decide) (by decide)) (by decide) (by decide)) (by decide) (by decide))   (by rw [((ju_i _ _ (zne (by decide))).trans ((ju_c _ _ (by decide)).trans ((ju_c _ _ (by decide)).trans e159))), ((ju_i _ _ (zne (by decide))).trans ((ju_c _ _ (by decide)).trans ((ju_c _ _ (by decide)).trans e160)))]; omega) (fun M158 hI_M158 hH_M158 hS_M158  w158_0 w158_1 w158_2 w158_3 w158_4 w158_5 w158_6 => ?_)) (Nat.le_of_ble_eq_true rfl))
      have y167 : (ju (ju (ju M5 659 v152 3) 660 v152 0) 598 90 (v152 + 1)) 598 73 = v159 := ((ju_i _ _ (zne (by decide))).trans ((ju_c _ _ (by decide)).trans ((ju_c _ _ (by decide)).trans e159)))
      have y168 : (ju (ju (ju M5 659 v152 3) 660 v152 0) 598 90 (v152 + 1)) 598 74 = v162 := ((ju_i _ _ (zne (by decide))).trans ((ju_c _ _ (by decide)).trans ((ju_c _ _ (by decide)).trans e162)))
      have tb158 : TK (ju (ju (ju M5 659 v152 3) 660 v152 0) 598 90 (v152 + 1)) = TK M5 := ((TK.o (Or.inr ⟨by decide, by decide⟩)).trans ((TK.o (Or.inl (by decide))).trans ((TK.o (Or.inl (by decide))).trans rfl)))
      have y161 : (ju (ju (ju M5 659 v152 3) 660 v152 0) 598 90 (v152 + 1)) 598 73 = v159 := ((ju_i _ _ (zne (by decide))).trans ((ju_c _ _ (by decide)).trans ((ju_c _ _ (by decide)).trans e159)))
      have y163 : (ju (ju (ju M5 659 v152 3) 660 v152 0) 598 90 (v152 + 1)) 598 74 = v162 := ((ju_i _ _ (zne (by decide))).trans ((ju_c _ _ (by decide)).trans ((ju_c _ _ (by decide)).trans e162)))
      have y165 : (ju (ju (ju M5 659 v152 3) 660 v152 0) 598 90 (v152 + 1)) 598 89 = v11 := ((ju_i _ _ (zne (by decide))).trans ((ju_c _ _ (by decide)).trans ((ju_c _ _ (by decide)).trans e164)))
      have y166 : (ju (ju (ju M5 659 v152 3) 660 v152 0) 598 90 (v152 + 1)) 598 100 = v2 - 1 := ((ju_i _ _ (zne (by decide))).trans ((ju_c _ _ (by decide)).trans ((ju_c _ _ (by decide)).trans e154)))
      have x158_89 := w158_6 89 (zne rfl) (zne rfl) (zne rfl) (zne rfl) (zne rfl) (zne rfl) (zne rfl)
      have x158_100 := w158_6 100 (zne rfl) (zne rfl) (zne rfl) (zne rfl) (zne rfl) (zne rfl) (zne rfl)
      have hX := XS.fr2 hX w158_5 (w158_6 88 (zne rfl) (zne rfl) (zne rfl) (zne rfl) (zne rfl) (zne rfl) (zne rfl)) (w158_6 90 (zne rfl) (zne rfl) (zne rfl) (zne rfl) (zne rfl) (zne rfl) (zne rfl)) (w158_6 101 (zne rfl) (zne rfl) (zne rfl) (zne rfl) (zne rfl) (zne rfl) (zne rfl)) (w158_6 107 (zne rfl) (zne rfl) (zne rfl) (zne rfl) (zne rfl) (zne rfl) (zne rfl)) (k' := 2) (d' := 0) (z' := 0) (by omega) (by omega) (by omega) (by omega)
      have hA := AK.cp hA (CP.f (CP.rfl _) (fun i => w158_5 659 i (nne rfl)) (w158_6 90 (zne rfl) (zne rfl) (zne rfl) (zne rfl) (zne rfl) (zne rfl) (zne rfl))) (fun i => w158_5 663 i (nne rfl)) (w158_6 96 (zne rfl) (zne rfl) (zne rfl) (zne rfl) (zne rfl) (zne rfl) (zne rfl))
      have hB := LB.fr hB (fun i => w158_5 659 i (nne rfl)) (w158_6 90 (zne rfl) (zne rfl) (zne rfl) (zne rfl) (zne rfl) (zne rfl) (zne rfl))
      refine jr.aload_n rfl rfl ?_
      refine jr.iconst rfl ?_
      refine jr.putf (i := 101) (x := 1) rfl rfl (nlt rfl) rfl (nlt rfl) rfl rfl rfl rfl rfl ?_
      refine jr.aload_n rfl rfl ?_
      refine jr.getf (i := 93) (v := .ref 658) rfl rfl (nlt rfl) rfl (nlt rfl) rfl rfl rfl rfl ?_
      refine jr.aload_n rfl rfl ?_
      obtain ⟨v169, e169⟩ : ∃ z, M 598 88 = z := ⟨_, rfl⟩
      have b169 : 0 ≤ v169 ∧ v169 ≤ 16 := by rw [← e169]; exact hI_M 598 88 (Nat.le_of_ble_eq_true rfl)
      have e170 : M5 598 88 = v169 := ((w5_6 88 (zne rfl) (zne rfl) (zne rfl) (zne rfl) (zne rfl) (zne rfl) (zne rfl)).trans ((ju_i _ _ (zne (by decide))).trans ((ju_i _ _ (zne (by decide))).trans e169)))
      have e171 : M158 598 88 = v169 := ((w158_6 88 (zne rfl) (zne rfl) (zne rfl) (zne rfl) (zne rfl) (zne rfl) (zne rfl)).trans ((ju_i _ _ (zne (by decide))).trans ((ju_c _ _ (by decide)).trans ((ju_c _ _ (by decide)).trans e170))))
      refine jr.getf (i := 88) (x := v169) (v := .int (Int32.ofInt (v169))) rfl rfl (nlt rfl) rfl (nlt rfl) rfl rfl ((ju_i _ _ (zne (by decide))).trans e171) rfl ?_
      refine jr.iconst rfl ?_
      refine jr.isub rfl ?_
      refine jr.aload_n rfl rfl ?_
      have e172 : M158 598 90 = v152 + 1 := ((w158_6 90 (zne rfl) (zne rfl) (zne rfl) (zne rfl) (zne rfl) (zne rfl) (zne rfl)).trans (ju_same _ _ _ _))
      refine jr.getf (i := 90) (x := (v152 + 1)) (v := .int (Int32.ofInt (v152 + 1))) rfl rfl (nlt rfl) rfl (nlt rfl) rfl rfl ((ju_i _ _ (zne (by decide))).trans e172) rfl ?_
      refine jr.iast (i := (v169 - 1)) (x := (v152 + 1)) rfl (nlt rfl) rfl (Nat.le_of_ble_eq_true rfl) (by omega) (by omega) ?_
      refine jr.aload_n rfl rfl ?_
      refine jr.iconst rfl ?_
      refine jr.iconst rfl ?_
      obtain ⟨v174, e174⟩ : ∃ z, M158 598 73 = z := ⟨_, rfl⟩
      have b174 : 0 ≤ v174 ∧ v174 ≤ 1600 := by rw [← e174]; exact hI_M158 598 73 (Nat.le_of_ble_eq_true rfl)
      have e175 : M158 598 72 = v7 := ((w158_6 72 (zne rfl) (zne rfl) (zne rfl) (zne rfl) (zne rfl) (zne rfl) (zne rfl)).trans ((ju_i _ _ (zne (by decide))).trans ((ju_c _ _ (by decide)).trans ((ju_c _ _ (by decide)).trans e160))))
      obtain ⟨v176, e176⟩ : ∃ z, M 598 80 = z := ⟨_, rfl⟩
      have b176 : 0 ≤ v176 ∧ v176 ≤ 7 := by rw [← e176]; exact hI_M 598 80 (Nat.le_of_ble_eq_true rfl)
      have e177 : M5 598 80 = v176 := ((w5_6 80 (zne rfl) (zne rfl) (zne rfl) (zne rfl) (zne rfl) (zne rfl) (zne rfl)).trans ((ju_i _ _ (zne (by decide))).trans ((ju_i _ _ (zne (by decide))).trans e176)))
      have e178 : M158 598 80 = v176 := ((w158_6 80 (zne rfl) (zne rfl) (zne rfl) (zne rfl) (zne rfl) (zne rfl) (zne rfl)).trans ((ju_i _ _ (zne (by decide))).trans ((ju_c _ _ (by decide)).trans ((ju_c _ _ (by decide)).trans e177))))
      have e179 : M158 598 100 = v2 - 1 := ((w158_6 100 (zne rfl) (zne rfl) (zne rfl) (zne rfl) (zne rfl) (zne rfl) (zne rfl)).trans ((ju_i _ _ (zne (by decide))).trans ((ju_c _ _ (by decide)).trans ((ju_c _ _ (by decide)).trans e154))))
      have e180 : M158 598 107 = v1 - 1 := ((w158_6 107 (zne rfl) (zne rfl) (zne rfl) (zne rfl) (zne rfl) (zne rfl) (zne rfl)).trans ((ju_i _ _ (zne (by decide))).trans ((ju_c _ _ (by decide)).trans ((ju_c _ _ (by decide)).trans e156))))
      obtain ⟨v184, e184⟩ : ∃ z, M158 598 74 = z := ⟨_, rfl⟩
      have b184 : 0 ≤ v184 ∧ v184 ≤ 4 := by rw [← e184]; exact hI_M158 598 74 (Nat.le_of_ble_eq_true rfl)
      obtain ⟨v188, e188⟩ : ∃ z, M158 598 79 = z := ⟨_, rfl⟩
      have b188 : 0 ≤ v188 ∧ v188 ≤ 255 := by rw [← e188]; exact hI_M158 598 79 (Nat.le_of_ble_eq_true rfl)
      refine jr_v rfl rfl (Or.inl rfl) rfl rfl (nlt rfl) rfl ⟨rfl, Nat.le_of_ble_eq_true rfl, Nat.le_of_ble_eq_true rfl⟩ rfl (jc.deep (r_beginBlock (RI.u (RI.u hI_M158 (a := 598) (i := 101) (show (0 : Int) ≤ _ ∧ _ ≤ (1 : Int) from by omega)) (a := 658) (i := (v169 - 1)) (by rw [xri_row rfl rfl]; show (-1 : Int) ≤ _ ∧ _ ≤ (2200 : Int); omega)) (RH.o (RH.o hH_M158 (by decide) (by decide) (by decide)) (by decide) (by decide) (by decide)) (RF.o (RF.o hS_M158 (by decide) (by decide)) (by decide) (by decide))  (by omega) (by omega) (by rw [((ju_c _ _ (by decide)).trans ((ju_i _ _ (zne (by decide))).trans e174)), ((ju_c _ _ (by decide)).trans ((ju_i _ _ (zne (by decide))).trans e175))]; omega) (by rw [((ju_c _ _ (by decide)).trans ((ju_i _ _ (zne (by decide))).trans e178)), ((ju_c _ _ (by decide)).trans ((ju_i _ _ (zne (by decide))).trans e179))]; intro q; omega) (by rw [((ju_c _ _ (by decide)).trans ((ju_i _ _ (zne (by decide))).trans e180))]; omega) (fun M173 hI_M173 hH_M173 hS_M173  w173_0 w173_1 w173_2 w173_3 w173_4 w173_5 w173_6 w173_7 w173_8 w173_9 w173_10 w173_11 => ?_)) (Nat.le_of_ble_eq_true rfl))
      have y186 : (ju (ju M158 598 101 1) 658 (v169 - 1) (v152 + 1)) 598 73 = v174 := ((ju_c _ _ (by decide)).trans ((ju_i _ _ (zne (by decide))).trans e174))
      have y187 : (ju (ju M158 598 101 1) 658 (v169 - 1) (v152 + 1)) 598 74 = v184 := ((ju_c _ _ (by decide)).trans ((ju_i _ _ (zne (by decide))).trans e184))
      have y189 : (ju (ju M158 598 101 1) 658 (v169 - 1) (v152 + 1)) 598 79 = v188 := ((ju_c _ _ (by decide)).trans ((ju_i _ _ (zne (by decide))).trans e188))
      have y190 : (ju (ju M158 598 101 1) 658 (v169 - 1) (v152 + 1)) 598 80 = v176 := ((ju_c _ _ (by decide)).trans ((ju_i _ _ (zne (by decide))).trans e178))
      have y191 : (ju (ju M158 598 101 1) 658 (v169 - 1) (v152 + 1)) 598 90 = v152 + 1 := ((ju_c _ _ (by decide)).trans ((ju_i _ _ (zne (by decide))).trans e172))
      have y192 : (ju (ju M158 598 101 1) 658 (v169 - 1) (v152 + 1)) 598 101 = 1 := ((ju_c _ _ (by decide)).trans (ju_same _ _ _ _))
      have y193 : (ju (ju M158 598 101 1) 658 (v169 - 1) (v152 + 1)) 598 107 = v1 - 1 := ((ju_c _ _ (by decide)).trans ((ju_i _ _ (zne (by decide))).trans e180))
      have tb173 : TK (ju (ju M158 598 101 1) 658 (v169 - 1) (v152 + 1)) = TK M158 := ((TK.o (Or.inl (by decide))).trans ((TK.o (Or.inr ⟨by decide, by decide⟩)).trans rfl))
      have hX := XS.bhd (XS.ib hX (by rw [e180]; omega) 1) ((ju_i _ _ (zne (by decide))).trans e172) (v169 - 1) (by have z := hB; unfold LB at z; rw [e172] at z; rw [ju_c _ _ (by decide)]; exact z)
      have hA := AK.cp (M' := (ju (ju M158 598 101 1) 658 (v169 - 1) (v152 + 1))) hA (CP.o (CP.o (CP.rfl _) (by decide) (Or.inr (by decide))) (by decide) (Or.inl (by decide))) (fun i => by rw [ju_c _ _ (by decide), ju_c _ _ (by decide)]) (by rw [ju_c _ _ (by decide), ju_i _ _ (zne (by decide))])
      have hB := LB.fr (M' := (ju (ju M158 598 101 1) 658 (v169 - 1) (v152 + 1))) hB (fun i => by rw [ju_c _ _ (by decide), ju_c _ _ (by decide)]) (by rw [ju_c _ _ (by decide), ju_i _ _ (zne (by decide))])
      have y181 : (ju (ju M158 598 101 1) 658 (v169 - 1) (v152 + 1)) 598 101 = 1 := ((ju_c _ _ (by decide)).trans (ju_same _ _ _ _))
      have y182 : (ju (ju M158 598 101 1) 658 (v169 - 1) (v152 + 1)) 598 107 = v1 - 1 := ((ju_c _ _ (by decide)).trans ((ju_i _ _ (zne (by decide))).trans e180))
      have y183 : (ju (ju M158 598 101 1) 658 (v169 - 1) (v152 + 1)) 598 90 = v152 + 1 := ((ju_c _ _ (by decide)).trans ((ju_i _ _ (zne (by decide))).trans e172))
      have y185 : (ju (ju M158 598 101 1) 658 (v169 - 1) (v152 + 1)) 598 74 = v184 := ((ju_c _ _ (by decide)).trans ((ju_i _ _ (zne (by decide))).trans e184))
      refine jr.goto rfl rfl ?_
      have e194 : M173 598 72 = v7 := ((w173_11 72 (zne rfl) (zne rfl) (zne rfl) (zne rfl) (zne rfl) (zne rfl) (zne rfl) (zne rfl) (zne rfl) (zne rfl) (zne rfl)).trans ((ju_c _ _ (by decide)).trans ((ju_i _ _ (zne (by decide))).trans e175)))
      obtain ⟨v196, e196⟩ : ∃ z, M173 598 73 = z := ⟨_, rfl⟩
      have b196 : 0 ≤ v196 ∧ v196 ≤ 1600 := by rw [← e196]; exact hI_M173 598 73 (Nat.le_of_ble_eq_true rfl)
      obtain ⟨v198, e198⟩ : ∃ z, M173 598 74 = z := ⟨_, rfl⟩
      have b198 : 0 ≤ v198 ∧ v198 ≤ 4 := by rw [← e198]; exact hI_M173 598 74 (Nat.le_of_ble_eq_true rfl)
      obtain ⟨v200, e200⟩ : ∃ z, M173 598 79 = z := ⟨_, rfl⟩
      have b200 : 0 ≤ v200 ∧ v200 ≤ 255 := by rw [← e200]; exact hI_M173 598 79 (Nat.le_of_ble_eq_true rfl)
      obtain ⟨v202, e202⟩ : ∃ z, M173 598 80 = z := ⟨_, rfl⟩
      have b202 : 0 ≤ v202 ∧ v202 ≤ 7 := by rw [← e202]; exact hI_M173 598 80 (Nat.le_of_ble_eq_true rfl)
      have e204 : M158 598 89 = v11 := ((w158_6 89 (zne rfl) (zne rfl) (zne rfl) (zne rfl) (zne rfl) (zne rfl) (zne rfl)).trans ((ju_i _ _ (zne (by decide))).trans ((ju_c _ _ (by decide)).trans ((ju_c _ _ (by decide)).trans e164))))
      have e205 : M173 598 89 = v11 := ((w173_11 89 (zne rfl) (zne rfl) (zne rfl) (zne rfl) (zne rfl) (zne rfl) (zne rfl) (zne rfl) (zne rfl) (zne rfl) (zne rfl)).trans ((ju_c _ _ (by decide)).trans ((ju_i _ _ (zne (by decide))).trans e204)))
      have e207 : M173 598 90 = v152 + 1 := ((w173_11 90 (zne rfl) (zne rfl) (zne rfl) (zne rfl) (zne rfl) (zne rfl) (zne rfl) (zne rfl) (zne rfl) (zne rfl) (zne rfl)).trans ((ju_c _ _ (by decide)).trans ((ju_i _ _ (zne (by decide))).trans e172)))
      obtain ⟨v209, e209⟩ : ∃ z, M 598 96 = z := ⟨_, rfl⟩
      have b209 : 0 ≤ v209 ∧ v209 ≤ 300 := by rw [← e209]; exact hI_M 598 96 (Nat.le_of_ble_eq_true rfl)
      have e210 : M5 598 96 = v209 := ((w5_6 96 (zne rfl) (zne rfl) (zne rfl) (zne rfl) (zne rfl) (zne rfl) (zne rfl)).trans ((ju_i _ _ (zne (by decide))).trans ((ju_i _ _ (zne (by decide))).trans e209)))
      have e211 : M158 598 96 = v209 := ((w158_6 96 (zne rfl) (zne rfl) (zne rfl) (zne rfl) (zne rfl) (zne rfl) (zne rfl)).trans ((ju_i _ _ (zne (by decide))).trans ((ju_c _ _ (by decide)).trans ((ju_c _ _ (by decide)).trans e210))))
      have e212 : M173 598 96 = v209 := ((w173_11 96 (zne rfl) (zne rfl) (zne rfl) (zne rfl) (zne rfl) (zne rfl) (zne rfl) (zne rfl) (zne rfl) (zne rfl) (zne rfl)).trans ((ju_c _ _ (by decide)).trans ((ju_i _ _ (zne (by decide))).trans e211)))
      obtain ⟨v214, e214⟩ : ∃ z, M173 598 100 = z := ⟨_, rfl⟩
      have b214 : 0 ≤ v214 ∧ v214 ≤ 13 := by rw [← e214]; exact hI_M173 598 100 (Nat.le_of_ble_eq_true rfl)
      obtain ⟨v216, e216⟩ : ∃ z, M173 598 107 = z := ⟨_, rfl⟩
      have b216 : 0 ≤ v216 ∧ v216 ≤ 16 := by rw [← e216]; exact hI_M173 598 107 (Nat.le_of_ble_eq_true rfl)
      exact jr.vreturn rfl rfl (q _ hI_M173 hH_M173 hS_M173  (by by_cases hf : v202 = 0; (first | (have e0 : (ju (ju M158 598 101 1) 658 (v169 - 1) (v152 + 1)) 598 107 = 0 := (by omega); have e1 : (ju (ju M158 598 101 1) 658 (v169 - 1) (v152 + 1)) 598 101 = 1 := (by omega); have hX := w173_9 0 2 0 0 _ hX (by omega) (fun _ => ⟨by omega, by omega, by omega, rfl⟩) (fun q => by exfalso; omega) (by rw [e0, e1]; decide) (by omega); have hB := LB.fr hB (fun i => w173_10 659 i (nne rfl) (nne rfl) (nne rfl)) (w173_11 90 (zne rfl) (zne rfl) (zne rfl) (zne rfl) (zne rfl) (zne rfl) (zne rfl) (zne rfl) (zne rfl) (zne rfl) (zne rfl)); have hA := AK.cp hA (CP.f (CP.rfl _) (fun i => w173_10 659 i (nne rfl) (nne rfl) (nne rfl)) (w173_11 90 (zne rfl) (zne rfl) (zne rfl) (zne rfl) (zne rfl) (zne rfl) (zne rfl) (zne rfl) (zne rfl) (zne rfl) (zne rfl))) (fun i => w173_10 663 i (nne rfl) (nne rfl) (nne rfl)) (w173_11 96 (zne rfl) (zne rfl) (zne rfl) (zne rfl) (zne rfl) (zne rfl) (zne rfl) (zne rfl) (zne rfl) (zne rfl) (zne rfl)); exact Or.inr ⟨by omega, Or.inl ⟨by omega, ⟨by omega, XS.adj hX (k' := 0) (z' := 0) (by omega) (by omega) (by omega), by omega, by omega, by omega, by omega, hB, hA, by omega⟩⟩⟩) | (exfalso; omega)); (exact Or.inl ⟨by omega, by omega⟩)) (by omega) (by omega) (by omega) (fun a i f598 f658 f659 f660 f668 f669 => ((w173_10 a i f598 f668 f669).trans ((ju_c _ _ f658).trans ((ju_c _ _ f598).trans ((w158_5 a i f598).trans ((ju_c _ _ f598).trans ((ju_c _ _ f660).trans ((ju_c _ _ f659).trans ((w5_5 a i f598).trans ((ju_c _ _ f598).trans ((ju_c _ _ f598).trans rfl))))))))))) (fun i g73 g74 g75 g76 g77 g78 g79 g80 g81 g90 g100 g101 g107 => ((w173_11 i g73 g74 g75 g76 g77 g78 g79 g80 g81 g100 g107).trans ((ju_c _ _ (by decide)).trans ((ju_i _ _ g101).trans ((w158_6 i g73 g74 g75 g76 g77 g78 g79).trans ((ju_i _ _ g90).trans ((ju_c _ _ (by decide)).trans ((ju_c _ _ (by decide)).trans ((w5_6 i g73 g74 g75 g76 g77 g78 g79).trans ((ju_i _ _ g100).trans ((ju_i _ _ g107).trans rfl))))))))))))
    · refine jr.if_eq rfl rfl (by first | exact rgl rfl | omega) (fun _ => ?_) (fun h => absurd (by decide) h)
      have e218 : M5 598 72 = v7 := ((w5_6 72 (zne rfl) (zne rfl) (zne rfl) (zne rfl) (zne rfl) (zne rfl) (zne rfl)).trans ((ju_i _ _ (zne (by decide))).trans ((ju_i _ _ (zne (by decide))).trans e7)))
      have y219 : (ju (ju (ju M5 659 v152 3) 660 v152 0) 598 90 (v152 + 1)) 598 72 = v7 := ((ju_i _ _ (zne (by decide))).trans ((ju_c _ _ (by decide)).trans ((ju_c _ _ (by decide)).trans e218)))
      obtain ⟨v220, e220⟩ : ∃ z, M5 598 73 = z := ⟨_, rfl⟩
      have b220 : 0 ≤ v220 ∧ v220 ≤ 1600 := by rw [← e220]; exact hI_M5 598 73 (Nat.le_of_ble_eq_true rfl)
      have y221 : (ju (ju (ju M5 659 v152 3) 660 v152 0) 598 90 (v152 + 1)) 598 73 = v220 := ((ju_i _ _ (zne (by decide))).trans ((ju_c _ _ (by decide)).trans ((ju_c _ _ (by decide)).trans e220)))
      obtain ⟨v222, e222⟩ : ∃ z, M5 598 74 = z := ⟨_, rfl⟩
      have b222 : 0 ≤ v222 ∧ v222 ≤ 4 := by rw [← e222]; exact hI_M5 598 74 (Nat.le_of_ble_eq_true rfl)
      have y223 : (ju (ju (ju M5 659 v152 3) 660 v152 0) 598 90 (v152 + 1)) 598 74 = v222 := ((ju_i _ _ (zne (by decide))).trans ((ju_c _ _ (by decide)).trans ((ju_c _ _ (by decide)).trans e222)))
      obtain ⟨v224, e224⟩ : ∃ z, M5 598 79 = z := ⟨_, rfl⟩
      have b224 : 0 ≤ v224 ∧ v224 ≤ 255 := by rw [← e224]; exact hI_M5 598 79 (Nat.le_of_ble_eq_true rfl)
      have y225 : (ju (ju (ju M5 659 v152 3) 660 v152 0) 598 90 (v152 + 1)) 598 79 = v224 := ((ju_i _ _ (zne (by decide))).trans ((ju_c _ _ (by decide)).trans ((ju_c _ _ (by decide)).trans e224)))
      obtain ⟨v226, e226⟩ : ∃ z, M 598 80 = z := ⟨_, rfl⟩
      have b226 : 0 ≤ v226 ∧ v226 ≤ 7 := by rw [← e226]; exact hI_M 598 80 (Nat.le_of_ble_eq_true rfl)
      have e227 : M5 598 80 = v226 := ((w5_6 80 (zne rfl) (zne rfl) (zne rfl) (zne rfl) (zne rfl) (zne rfl) (zne rfl)).trans ((ju_i _ _ (zne (by decide))).trans ((ju_i _ _ (zne (by decide))).trans e226)))
      have y228 : (ju (ju (ju M5 659 v152 3) 660 v152 0) 598 90 (v152 + 1)) 598 80 = v226 := ((ju_i _ _ (zne (by decide))).trans ((ju_c _ _ (by decide)).trans ((ju_c _ _ (by decide)).trans e227)))
      have e229 : M5 598 89 = v11 := ((w5_6 89 (zne rfl) (zne rfl) (zne rfl) (zne rfl) (zne rfl) (zne rfl) (zne rfl)).trans ((ju_i _ _ (zne (by decide))).trans ((ju_i _ _ (zne (by decide))).trans e11)))
      have y230 : (ju (ju (ju M5 659 v152 3) 660 v152 0) 598 90 (v152 + 1)) 598 89 = v11 := ((ju_i _ _ (zne (by decide))).trans ((ju_c _ _ (by decide)).trans ((ju_c _ _ (by decide)).trans e229)))
      have y231 : (ju (ju (ju M5 659 v152 3) 660 v152 0) 598 90 (v152 + 1)) 598 90 = v152 + 1 := (ju_same _ _ _ _)
      obtain ⟨v232, e232⟩ : ∃ z, M 598 96 = z := ⟨_, rfl⟩
      have b232 : 0 ≤ v232 ∧ v232 ≤ 300 := by rw [← e232]; exact hI_M 598 96 (Nat.le_of_ble_eq_true rfl)
      have e233 : M5 598 96 = v232 := ((w5_6 96 (zne rfl) (zne rfl) (zne rfl) (zne rfl) (zne rfl) (zne rfl) (zne rfl)).trans ((ju_i _ _ (zne (by decide))).trans ((ju_i _ _ (zne (by decide))).trans e232)))
      have y234 : (ju (ju (ju M5 659 v152 3) 660 v152 0) 598 90 (v152 + 1)) 598 96 = v232 := ((ju_i _ _ (zne (by decide))).trans ((ju_c _ _ (by decide)).trans ((ju_c _ _ (by decide)).trans e233)))
      have y235 : (ju (ju (ju M5 659 v152 3) 660 v152 0) 598 90 (v152 + 1)) 598 100 = v2 - 1 := ((ju_i _ _ (zne (by decide))).trans ((ju_c _ _ (by decide)).trans ((ju_c _ _ (by decide)).trans e154)))
      have y236 : (ju (ju (ju M5 659 v152 3) 660 v152 0) 598 90 (v152 + 1)) 598 107 = v1 - 1 := ((ju_i _ _ (zne (by decide))).trans ((ju_c _ _ (by decide)).trans ((ju_c _ _ (by decide)).trans e156)))
      have y237 : TK (ju (ju (ju M5 659 v152 3) 660 v152 0) 598 90 (v152 + 1)) = TK M5 := ((TK.o (Or.inr ⟨by decide, by decide⟩)).trans ((TK.o (Or.inl (by decide))).trans ((TK.o (Or.inl (by decide))).trans rfl)))
      exact jr.vreturn rfl rfl (q _ (RI.u (RI.u (RI.u hI_M5 (a := 659) (i := v152) (by rw [xri_row rfl rfl]; show (0 : Int) ≤ _ ∧ _ ≤ (1000 : Int); omega)) (a := 660) (i := v152) (by rw [xri_row rfl rfl]; show (-9223372036854775808 : Int) ≤ _ ∧ _ ≤ (9223372036854775807 : Int); omega)) (a := 598) (i := 90) (show (0 : Int) ≤ _ ∧ _ ≤ (2200 : Int) from by omega)) (RH.o (RH.o (RH.o hH_M5 (by decide) (by decide) (by decide)) (by decide) (by decide) (by decide)) (by decide) (by decide) (by decide)) (RF.o (RF.o (RF.o hS_M5 (by decide) (by decide)) (by decide) (by decide)) (by decide) (by decide))  (Or.inr ⟨by omega, Or.inr ⟨by omega, ⟨by omega, XS.adj hX (k' := 0) (z' := 1) (by omega) (by omega) (by omega), by omega, by omega, by omega, by omega, hB, hA, by omega⟩, by omega, by rw [ju_same, show v152 + 1 - 1 = v152 by omega, ju_c _ _ (by decide), ju_c _ _ (by decide), ju_same]⟩⟩) (by omega) (by omega) (by omega) (fun a i f598 f658 f659 f660 f668 f669 => ((ju_c _ _ f598).trans ((ju_c _ _ f660).trans ((ju_c _ _ f659).trans ((w5_5 a i f598).trans ((ju_c _ _ f598).trans ((ju_c _ _ f598).trans rfl))))))) (fun i g73 g74 g75 g76 g77 g78 g79 g80 g81 g90 g100 g101 g107 => ((ju_i _ _ g90).trans ((ju_c _ _ (by decide)).trans ((ju_c _ _ (by decide)).trans ((w5_6 i g73 g74 g75 g76 g77 g78 g79).trans ((ju_i _ _ g100).trans ((ju_i _ _ g107).trans rfl))))))))
end
section
/-! ===== the reference: contracts, 35.pf ===== -/
theorem XS.dpz {M : jm} {b k d z x : Int} (h : XS M b k d z x) (hb : M 598 107 = 0) : XS (ju M 598 100 0) b k 0 z x := by
  rw [XS.rows] at h ⊢
  obtain ⟨ht, P, D, E, h⟩ := h
  obtain ⟨⟨g1, g2, g3, g4, g5, g6, g7, g8, g9, g10, g11⟩, i1, i2, i3, i4, i5, i6, i7, i8⟩ := id h
  have q := h.adj (nn' := M 598 89) (tt' := M 598 73) (k' := k) (z' := z) (dp' := 0) (d' := 0) (by omega) g11 (by omega) (by omega)
  simp (decide := true) only [jw_o, jw_s, fu_ne, fu_eq, ne_eq, not_false_eq_true]
  exact ⟨_, _, _, _, q⟩
theorem r_chain_L148 {A : Nat → Option (Nat × (Nat → Int32))} {Q : Option Value → jm → Prop} {dd : Int} {M0 : jm} (q : ∀ (M' : jm), RI M' → RH M' → RF M' → (BT M' ∨ (DS M' 1 ∧ M' 598 107 = 0 ∧ TK M' < TK M0 ∧ 1 ≤ M' 598 88 ∧ 1 ≤ M' 598 90 ∧ M' 659 (M' 598 90 - 1) = 3)) → TK M' ≤ TK M0 → M' 598 73 ≤ M' 598 72 → (M' 598 80 ≠ 0 ∨ TK M' < TK M0) → (∀ (a : Nat) (i : Int), a ≠ 598 → a ≠ 659 → a ≠ 660 → a ≠ 661 → a ≠ 662 → a ≠ 663 → a ≠ 664 → a ≠ 665 → a ≠ 666 → a ≠ 667 → a ≠ 668 → a ≠ 669 → a ≠ 656 → a ≠ 657 → a ≠ 658 → M' a i = M0 a i) → (∀ (i : Int), i ≠ 73 → i ≠ 74 → i ≠ 75 → i ≠ 76 → i ≠ 77 → i ≠ 78 → i ≠ 79 → i ≠ 80 → i ≠ 81 → i ≠ 89 → i ≠ 90 → i ≠ 96 → i ≠ 100 → i ≠ 102 → i ≠ 107 → i ≠ 88 → i ≠ 101 → M' 598 i = M0 598 i) → Q none M') : ∀ (nM : Nat) (M : jm) , RI M → RH M → RF M → (∀ (a : Nat) (i : Int), a ≠ 598 → a ≠ 659 → a ≠ 660 → a ≠ 661 → a ≠ 662 → a ≠ 663 → a ≠ 664 → a ≠ 665 → a ≠ 666 → a ≠ 667 → a ≠ 668 → a ≠ 669 → a ≠ 656 → a ≠ 657 → a ≠ 658 → M a i = M0 a i) → (∀ (i : Int), i ≠ 73 → i ≠ 74 → i ≠ 75 → i ≠ 76 → i ≠ 77 → i ≠ 78 → i ≠ 79 → i ≠ 80 → i ≠ 81 → i ≠ 89 → i ≠ 90 → i ≠ 96 → i ≠ 100 → i ≠ 102 → i ≠ 107 → i ≠ 88 → i ≠ 101 → M 598 i = M0 598 i) → (BT M ∨ (1 ≤ M 598 107 ∧ DS M 0) ∨ (M 598 107 = 0 ∧ DS M 1 ∧ 1 ≤ M 598 90 ∧ M 659 (M 598 90 - 1) = 3)) → M 598 73 ≤ M 598 72 → TK M ≤ TK M0 → (M 598 80 ≠ 0 ∨ TK M < TK M0) → 1 ≤ M 598 88 → TK M + 1 - min 1 (M 598 80) ≤ nM → jr A 8 xm_369 148 [(0, .ref (598))] [] M Q := by
  intro nM
  induction nM using Nat.strongRecOn with
  | ind nM ih =>
    intro M  hI_M hH_M hS_M hF_M hG_M  hy0 hy1 hy2 hy3 hy4 hm
    rcases hy0 with hz | hz | hz
    · obtain ⟨za, zc⟩ := id hz
      refine jr.aload_n rfl rfl ?_
      obtain ⟨v1, e1⟩ : ∃ z, M 598 80 = z := ⟨_, rfl⟩
      have b1 : 0 ≤ v1 ∧ v1 ≤ 7 := by rw [← e1]; exact hI_M 598 80 (Nat.le_of_ble_eq_true rfl)
      refine jr_v rfl rfl (Or.inl rfl) rfl rfl (nlt rfl) rfl ⟨rfl, Nat.le_of_ble_eq_true rfl, Nat.le_of_ble_eq_true rfl⟩ rfl (jc.deep (c_good hI_M  (fun t149_0 => ?_) (fun f149_0 => ?_)) (Nat.le_of_ble_eq_true rfl))
      · exfalso
        omega
      · refine jr.if_eq rfl rfl (by first | exact rgl rfl | omega) (fun _ => ?_) (fun h => absurd (by decide) h)
        exact jr.vreturn rfl rfl (q _ hI_M hH_M hS_M  (Or.inl hz) (by omega) (by omega) (by omega) (fun a i f598 f659 f660 f661 f662 f663 f664 f665 f666 f667 f668 f669 f656 f657 f658 => (hF_M a i f598 f659 f660 f661 f662 f663 f664 f665 f666 f667 f668 f669 f656 f657 f658)) (fun i g73 g74 g75 g76 g77 g78 g79 g80 g81 g89 g90 g96 g100 g102 g107 g88 g101 => (hG_M i g73 g74 g75 g76 g77 g78 g79 g80 g81 g89 g90 g96 g100 g102 g107 g88 g101)))
    · obtain ⟨zb1, ⟨ds1, ds2, ds3, ds4, ds5, ds6, ds7, ds8, ds9⟩⟩ := id hz
      have b74 : (0 : Int) ≤ M 598 74 ∧ M 598 74 ≤ 4 := hI_M 598 74 (Nat.le_of_ble_eq_true rfl)
      have b73 : (0 : Int) ≤ M 598 73 ∧ M 598 73 ≤ 1600 := hI_M 598 73 (Nat.le_of_ble_eq_true rfl)
      have tg := TK.ge (M := M) (by omega) (by omega)
      obtain ⟨vb, hvb⟩ : ∃ z, M 598 107 = z := ⟨_, rfl⟩
      have bvb : (0 : Int) ≤ vb ∧ vb ≤ 16 := by rw [← hvb]; exact hI_M 598 107 (Nat.le_of_ble_eq_true rfl)
      refine jr.aload_n rfl rfl ?_
      obtain ⟨v2, e2⟩ : ∃ z, M 598 80 = z := ⟨_, rfl⟩
      have b2 : 0 ≤ v2 ∧ v2 ≤ 7 := by rw [← e2]; exact hI_M 598 80 (Nat.le_of_ble_eq_true rfl)
      refine jr_v rfl rfl (Or.inl rfl) rfl rfl (nlt rfl) rfl ⟨rfl, Nat.le_of_ble_eq_true rfl, Nat.le_of_ble_eq_true rfl⟩ rfl (jc.deep (c_good hI_M  (fun t149_0 => ?_) (fun f149_0 => ?_)) (Nat.le_of_ble_eq_true rfl))
      · refine jr.if_eq rfl rfl (by first | exact rgl rfl | omega) (fun h => absurd h (by decide)) (fun _ => ?_)
        refine jr.aload_n rfl rfl ?_
        refine jr.getf (i := 107) (x := vb) (v := .int (Int32.ofInt (vb))) rfl rfl (nlt rfl) rfl (nlt rfl) rfl rfl hvb rfl ?_
        refine jr.if_le rfl rfl (by first | (refine rgb (by assumption) ?_; exact rfl) | omega) (fun h159 => ?_) (fun h159 => ?_)
        · exact absurd h159 (by omega)
        · refine jr.aload_n rfl rfl ?_
          refine jr.bipush rfl (jbp _ (nlt rfl)) ?_
          refine jr_v rfl rfl (Or.inl rfl) rfl rfl (nlt rfl) rfl ⟨rfl, Nat.le_of_ble_eq_true rfl, Nat.le_of_ble_eq_true rfl⟩ rfl (jc.deep (c_isSign hI_M (by omega) (fun t165_0 t165_1 => ?_) (fun f165_0 => ?_)) (Nat.le_of_ble_eq_true rfl))
          · refine jr.if_eq rfl rfl (by first | exact rgl rfl | omega) (fun h => absurd h (by decide)) (fun _ => ?_)
            refine jr.aload_n rfl rfl ?_
            obtain ⟨v4, e4⟩ : ∃ z, M 598 88 = z := ⟨_, rfl⟩
            have b4 : 0 ≤ v4 ∧ v4 ≤ 16 := by rw [← e4]; exact hI_M 598 88 (Nat.le_of_ble_eq_true rfl)
            obtain ⟨v5, e5⟩ : ∃ z, M 598 74 = z := ⟨_, rfl⟩
            have b5 : 0 ≤ v5 ∧ v5 ≤ 4 := by rw [← e5]; exact hI_M 598 74 (Nat.le_of_ble_eq_true rfl)
            refine jr_v rfl rfl (Or.inl rfl) rfl rfl (nlt rfl) rfl ⟨rfl, Nat.le_of_ble_eq_true rfl, Nat.le_of_ble_eq_true rfl⟩ rfl (jc.deep (r_closeBlock hI_M hH_M hS_M   hz.2 (by rw [hvb]; omega) (by rw [e4]; omega) (by rw [e5]; omega) (fun M3 hI_M3 hH_M3 hS_M3  w3_0 w3_1 w3_2 w3_3 w3_4 w3_5 => ?_)) (Nat.le_of_ble_eq_true rfl))
            refine jr.goto rfl rfl ?_
            obtain ⟨v6, e6⟩ : ∃ z, M3 598 73 = z := ⟨_, rfl⟩
            have b6 : 0 ≤ v6 ∧ v6 ≤ 1600 := by rw [← e6]; exact hI_M3 598 73 (Nat.le_of_ble_eq_true rfl)
            obtain ⟨v7, e7⟩ : ∃ z, M 598 72 = z := ⟨_, rfl⟩
            have b7 : 0 ≤ v7 ∧ v7 ≤ 1600 := by rw [← e7]; exact hI_M 598 72 (Nat.le_of_ble_eq_true rfl)
            have e8 : M3 598 72 = v7 := ((w3_5 72 (zne rfl) (zne rfl) (zne rfl) (zne rfl) (zne rfl) (zne rfl) (zne rfl) (zne rfl) (zne rfl) (zne rfl) (zne rfl) (zne rfl) (zne rfl)).trans e7)
            obtain ⟨v9, e9⟩ : ∃ z, M3 598 80 = z := ⟨_, rfl⟩
            have b9 : 0 ≤ v9 ∧ v9 ≤ 7 := by rw [← e9]; exact hI_M3 598 80 (Nat.le_of_ble_eq_true rfl)
            have e11 : M3 598 88 = v4 := ((w3_5 88 (zne rfl) (zne rfl) (zne rfl) (zne rfl) (zne rfl) (zne rfl) (zne rfl) (zne rfl) (zne rfl) (zne rfl) (zne rfl) (zne rfl) (zne rfl)).trans e4)
            refine jr.pick (ls := [_]) [0] rfl rfl ?_
            exact ih (nM - 1) (by omega) M3  hI_M3 hH_M3 hS_M3  (fun a i f598 f659 f660 f661 f662 f663 f664 f665 f666 f667 f668 f669 f656 f657 f658 => ((w3_4 a i f598 f658 f659 f660 f668 f669).trans (hF_M a i f598 f659 f660 f661 f662 f663 f664 f665 f666 f667 f668 f669 f656 f657 f658))) (fun i g73 g74 g75 g76 g77 g78 g79 g80 g81 g89 g90 g96 g100 g102 g107 g88 g101 => ((w3_5 i g73 g74 g75 g76 g77 g78 g79 g80 g81 g90 g100 g101 g107).trans (hG_M i g73 g74 g75 g76 g77 g78 g79 g80 g81 g89 g90 g96 g100 g102 g107 g88 g101)))  (by rcases w3_0 with z | ⟨z, z1 | z1⟩; (exact Or.inl z); (exact Or.inr (Or.inl z1)); (exact Or.inr (Or.inr z1))) (by rw [e6, e8] <;> omega) (by omega) (by omega) (by rw [e11] <;> omega) (by omega)
          · refine jr.if_eq rfl rfl (by first | exact rgl rfl | omega) (fun _ => ?_) (fun h => absurd (by decide) h)
            refine jr.aload_n rfl rfl ?_
            obtain ⟨v14, e14⟩ : ∃ z, M 598 88 = z := ⟨_, rfl⟩
            have b14 : 0 ≤ v14 ∧ v14 ≤ 16 := by rw [← e14]; exact hI_M 598 88 (Nat.le_of_ble_eq_true rfl)
            refine jr_v rfl rfl (Or.inl rfl) rfl rfl (nlt rfl) rfl ⟨rfl, Nat.le_of_ble_eq_true rfl, Nat.le_of_ble_eq_true rfl⟩ rfl (jc.deep (r_deed hI_M hH_M hS_M   hz.2 (by rw [hvb]; omega) (by rw [e14]; omega) (fun M13 hI_M13 hH_M13 hS_M13  w13_0 w13_1 w13_2 w13_3 w13_4 w13_5 w13_6 => ?_)) (Nat.le_of_ble_eq_true rfl))
            refine jr.goto rfl rfl ?_
            obtain ⟨v15, e15⟩ : ∃ z, M13 598 73 = z := ⟨_, rfl⟩
            have b15 : 0 ≤ v15 ∧ v15 ≤ 1600 := by rw [← e15]; exact hI_M13 598 73 (Nat.le_of_ble_eq_true rfl)
            obtain ⟨v16, e16⟩ : ∃ z, M 598 72 = z := ⟨_, rfl⟩
            have b16 : 0 ≤ v16 ∧ v16 ≤ 1600 := by rw [← e16]; exact hI_M 598 72 (Nat.le_of_ble_eq_true rfl)
            have e17 : M13 598 72 = v16 := ((w13_6 72 (zne rfl) (zne rfl) (zne rfl) (zne rfl) (zne rfl) (zne rfl) (zne rfl) (zne rfl) (zne rfl) (zne rfl) (zne rfl) (zne rfl) (zne rfl) (zne rfl) (zne rfl)).trans e16)
            obtain ⟨v18, e18⟩ : ∃ z, M13 598 80 = z := ⟨_, rfl⟩
            have b18 : 0 ≤ v18 ∧ v18 ≤ 7 := by rw [← e18]; exact hI_M13 598 80 (Nat.le_of_ble_eq_true rfl)
            have e20 : M13 598 88 = v14 := ((w13_6 88 (zne rfl) (zne rfl) (zne rfl) (zne rfl) (zne rfl) (zne rfl) (zne rfl) (zne rfl) (zne rfl) (zne rfl) (zne rfl) (zne rfl) (zne rfl) (zne rfl) (zne rfl)).trans e14)
            refine jr.pick (ls := [_]) [0] rfl rfl ?_
            exact ih (nM - 1) (by omega) M13  hI_M13 hH_M13 hS_M13  (fun a i f598 f659 f660 f661 f662 f663 f664 f665 f666 f667 f668 f669 f656 f657 f658 => ((w13_5 a i f598 f659 f660 f661 f662 f663 f664 f665 f666 f667 f668 f669).trans (hF_M a i f598 f659 f660 f661 f662 f663 f664 f665 f666 f667 f668 f669 f656 f657 f658))) (fun i g73 g74 g75 g76 g77 g78 g79 g80 g81 g89 g90 g96 g100 g102 g107 g88 g101 => ((w13_6 i g73 g74 g75 g76 g77 g78 g79 g80 g81 g89 g90 g96 g100 g102 g107).trans (hG_M i g73 g74 g75 g76 g77 g78 g79 g80 g81 g89 g90 g96 g100 g102 g107 g88 g101)))  (by rcases w13_0 with z | ⟨z, z1⟩; (exact Or.inl z); (exact Or.inr (Or.inl ⟨by omega, z⟩))) (by rw [e15, e17] <;> omega) (by omega) (by omega) (by rw [e20] <;> omega) (by omega)
      · exfalso
        omega
    · obtain ⟨zb1, ⟨ds1, ds2, ds3, ds4, ds5, ds6, ds7, ds8, ds9⟩, zb2, zb3⟩ := id hz
      refine jr.aload_n rfl rfl ?_
      obtain ⟨v22, e22⟩ : ∃ z, M 598 80 = z := ⟨_, rfl⟩
      have b22 : 0 ≤ v22 ∧ v22 ≤ 7 := by rw [← e22]; exact hI_M 598 80 (Nat.le_of_ble_eq_true rfl)
      refine jr_v rfl rfl (Or.inl rfl) rfl rfl (nlt rfl) rfl ⟨rfl, Nat.le_of_ble_eq_true rfl, Nat.le_of_ble_eq_true rfl⟩ rfl (jc.deep (c_good hI_M  (fun t149_0 => ?_) (fun f149_0 => ?_)) (Nat.le_of_ble_eq_true rfl))
      · refine jr.if_eq rfl rfl (by first | exact rgl rfl | omega) (fun h => absurd h (by decide)) (fun _ => ?_)
        refine jr.aload_n rfl rfl ?_
        refine jr.getf (i := 107) (x := 0) (v := .int (Int32.ofInt (0))) rfl rfl (nlt rfl) rfl (nlt rfl) rfl rfl zb1 rfl ?_
        refine jr.if_le rfl rfl (by first | (refine rgb (by assumption) ?_; exact rfl) | omega) (fun h159 => ?_) (fun h159 => ?_)
        · exact jr.vreturn rfl rfl (q _ hI_M hH_M hS_M  (Or.inr ⟨hz.2.1, hz.1, by omega, by omega, hz.2.2.1, hz.2.2.2⟩) (by omega) (by omega) (by omega) (fun a i f598 f659 f660 f661 f662 f663 f664 f665 f666 f667 f668 f669 f656 f657 f658 => (hF_M a i f598 f659 f660 f661 f662 f663 f664 f665 f666 f667 f668 f669 f656 f657 f658)) (fun i g73 g74 g75 g76 g77 g78 g79 g80 g81 g89 g90 g96 g100 g102 g107 g88 g101 => (hG_M i g73 g74 g75 g76 g77 g78 g79 g80 g81 g89 g90 g96 g100 g102 g107 g88 g101)))
        · exact absurd (by omega) h159
      · exfalso
        omega
theorem r_chain_L82 {A : Nat → Option (Nat × (Nat → Int32))} {Q : Option Value → jm → Prop} {dd : Int} {M0 : jm} (q : ∀ (M' : jm), RI M' → RH M' → RF M' → (BT M' ∨ (DS M' 1 ∧ M' 598 107 = 0 ∧ TK M' < TK M0 ∧ 1 ≤ M' 598 88 ∧ 1 ≤ M' 598 90 ∧ M' 659 (M' 598 90 - 1) = 3)) → TK M' ≤ TK M0 → M' 598 73 ≤ M' 598 72 → (M' 598 80 ≠ 0 ∨ TK M' < TK M0) → (∀ (a : Nat) (i : Int), a ≠ 598 → a ≠ 659 → a ≠ 660 → a ≠ 661 → a ≠ 662 → a ≠ 663 → a ≠ 664 → a ≠ 665 → a ≠ 666 → a ≠ 667 → a ≠ 668 → a ≠ 669 → a ≠ 656 → a ≠ 657 → a ≠ 658 → M' a i = M0 a i) → (∀ (i : Int), i ≠ 73 → i ≠ 74 → i ≠ 75 → i ≠ 76 → i ≠ 77 → i ≠ 78 → i ≠ 79 → i ≠ 80 → i ≠ 81 → i ≠ 89 → i ≠ 90 → i ≠ 96 → i ≠ 100 → i ≠ 102 → i ≠ 107 → i ≠ 88 → i ≠ 101 → M' 598 i = M0 598 i) → Q none M') : ∀ (M : jm) , RI M → RH M → RF M → (∀ (a : Nat) (i : Int), a ≠ 598 → a ≠ 659 → a ≠ 660 → a ≠ 661 → a ≠ 662 → a ≠ 663 → a ≠ 664 → a ≠ 665 → a ≠ 666 → a ≠ 667 → a ≠ 668 → a ≠ 669 → a ≠ 656 → a ≠ 657 → a ≠ 658 → M a i = M0 a i) → (∀ (i : Int), i ≠ 73 → i ≠ 74 → i ≠ 75 → i ≠ 76 → i ≠ 77 → i ≠ 78 → i ≠ 79 → i ≠ 80 → i ≠ 81 → i ≠ 89 → i ≠ 90 → i ≠ 96 → i ≠ 100 → i ≠ 102 → i ≠ 107 → i ≠ 88 → i ≠ 101 → M 598 i = M0 598 i) → XS M 0 0 dd 0 (-1) → AK M → LB M → M 598 96 ≤ M 598 89 ∧ M 598 89 ≤ 300 → M 598 73 ≤ M 598 72 → M 598 107 = 0 → 0 ≤ M 598 88 ∧ M 598 88 ≤ 15 → (M 598 74 = 3 → M 598 79 ≠ 10 ∧ M 598 79 ≠ 11) → TK M < TK M0 → M 598 74 = 1 → M 598 80 = 0 → jr A 8 xm_369 82 [(0, .ref (598))] [] M Q := by
    intro M  hI_M hH_M hS_M hF_M hG_M  hy0 hy1 hy2 hy3 hy4 hy5 hy6 hy7 hy8 hy9 hy10
    have hX := hy0
    have hA := hy1
    have hB := hy2
    have dpx := XS.dep hy0
    have sl := XS.sgle hy0
    have kb := XS.kz hy0
    have bM_107 : (0 : Int) ≤ M 598 107 ∧ M 598 107 ≤ 16 := hI_M 598 107 (Nat.le_of_ble_eq_true rfl)
    have bM_73 : (0 : Int) ≤ M 598 73 ∧ M 598 73 ≤ 1600 := hI_M 598 73 (Nat.le_of_ble_eq_true rfl)
    have bM_88 : (0 : Int) ≤ M 598 88 ∧ M 598 88 ≤ 16 := hI_M 598 88 (Nat.le_of_ble_eq_true rfl)
    have bM_100 : (0 : Int) ≤ M 598 100 ∧ M 598 100 ≤ 13 := hI_M 598 100 (Nat.le_of_ble_eq_true rfl)
    refine jr.aload_n rfl rfl ?_
    refine jr.getf (i := 91) (v := .ref 656) rfl rfl (nlt rfl) rfl (nlt rfl) rfl rfl rfl rfl ?_
    refine jr.aload_n rfl rfl ?_
    obtain ⟨v1, e1⟩ : ∃ z, M 598 88 = z := ⟨_, rfl⟩
    have b1 : 0 ≤ v1 ∧ v1 ≤ 16 := by rw [← e1]; exact hI_M 598 88 (Nat.le_of_ble_eq_true rfl)
    refine jr.getf (i := 88) (x := v1) (v := .int (Int32.ofInt (v1))) rfl rfl (nlt rfl) rfl (nlt rfl) rfl rfl e1 rfl ?_
    refine jr.aload_n rfl rfl ?_
    obtain ⟨v2, e2⟩ : ∃ z, M 598 77 = z := ⟨_, rfl⟩
    have b2 : (-9223372036854775808) ≤ v2 ∧ v2 ≤ 9223372036854775807 := by rw [← e2]; exact hI_M 598 77 (Nat.le_of_ble_eq_true rfl)
    refine jr.getf (i := 77) (x := v2) (v := .long (Int64.ofInt (v2))) rfl rfl (nlt rfl) rfl (nlt rfl) rfl rfl e2 rfl ?_
    refine jr.last (i := v1) (x := v2) rfl (nlt rfl) rfl (Nat.le_of_ble_eq_true rfl) (by omega) (by omega) ?_
    refine jr.aload_n rfl rfl ?_
    refine jr.getf (i := 92) (v := .ref 657) rfl rfl (nlt rfl) rfl (nlt rfl) rfl rfl rfl rfl ?_
    refine jr.aload_n rfl rfl ?_
    refine jr.getf (i := 88) (x := v1) (v := .int (Int32.ofInt (v1))) rfl rfl (nlt rfl) rfl (nlt rfl) rfl rfl ((ju_c _ _ (by decide)).trans e1) rfl ?_
    refine jr.aload_n rfl rfl ?_
    obtain ⟨v3, e3⟩ : ∃ z, M 598 90 = z := ⟨_, rfl⟩
    have b3 : 0 ≤ v3 ∧ v3 ≤ 2200 := by rw [← e3]; exact hI_M 598 90 (Nat.le_of_ble_eq_true rfl)
    refine jr.getf (i := 90) (x := v3) (v := .int (Int32.ofInt (v3))) rfl rfl (nlt rfl) rfl (nlt rfl) rfl rfl ((ju_c _ _ (by decide)).trans e3) rfl ?_
    refine jr.iast (i := v1) (x := v3) rfl (nlt rfl) rfl (Nat.le_of_ble_eq_true rfl) (by omega) (by omega) ?_
    refine jr.aload_n rfl rfl ?_
    refine jr.getf (i := 93) (v := .ref 658) rfl rfl (nlt rfl) rfl (nlt rfl) rfl rfl rfl rfl ?_
    refine jr.aload_n rfl rfl ?_
    refine jr.getf (i := 88) (x := v1) (v := .int (Int32.ofInt (v1))) rfl rfl (nlt rfl) rfl (nlt rfl) rfl rfl ((ju_c _ _ (by decide)).trans ((ju_c _ _ (by decide)).trans e1)) rfl ?_
    refine jr.iconst rfl ?_
    refine jr.iast (i := v1) (x := (-1)) rfl (nlt rfl) rfl (Nat.le_of_ble_eq_true rfl) (by omega) (by omega) ?_
    refine jr.aload_n rfl rfl ?_
    refine jr.dup rfl rfl ?_
    refine jr.getf (i := 88) (x := v1) (v := .int (Int32.ofInt (v1))) rfl rfl (nlt rfl) rfl (nlt rfl) rfl rfl ((ju_c _ _ (by decide)).trans ((ju_c _ _ (by decide)).trans ((ju_c _ _ (by decide)).trans e1))) rfl ?_
    refine jr.iconst rfl ?_
    refine jr.iadd rfl ?_
    refine jr.putf (i := 88) (x := (v1 + 1)) rfl rfl (nlt rfl) rfl (nlt rfl) rfl rfl rfl rfl rfl ?_
    refine jr.aload_n rfl rfl ?_
    obtain ⟨v5, e5⟩ : ∃ z, M 598 73 = z := ⟨_, rfl⟩
    have b5 : 0 ≤ v5 ∧ v5 ≤ 1600 := by rw [← e5]; exact hI_M 598 73 (Nat.le_of_ble_eq_true rfl)
    obtain ⟨v6, e6⟩ : ∃ z, M 598 72 = z := ⟨_, rfl⟩
    have b6 : 0 ≤ v6 ∧ v6 ≤ 1600 := by rw [← e6]; exact hI_M 598 72 (Nat.le_of_ble_eq_true rfl)
    obtain ⟨v10, e10⟩ : ∃ z, M 598 74 = z := ⟨_, rfl⟩
    have b10 : 0 ≤ v10 ∧ v10 ≤ 4 := by rw [← e10]; exact hI_M 598 74 (Nat.le_of_ble_eq_true rfl)
    obtain ⟨v12, e12⟩ : ∃ z, M 598 89 = z := ⟨_, rfl⟩
    have b12 : 0 ≤ v12 ∧ v12 ≤ 301 := by rw [← e12]; exact hI_M 598 89 (Nat.le_of_ble_eq_true rfl)
    obtain ⟨v14, e14⟩ : ∃ z, M 598 100 = z := ⟨_, rfl⟩
    have b14 : 0 ≤ v14 ∧ v14 ≤ 13 := by rw [← e14]; exact hI_M 598 100 (Nat.le_of_ble_eq_true rfl)
    obtain ⟨v16, e16⟩ : ∃ z, M 598 107 = z := ⟨_, rfl⟩
    have b16 : 0 ≤ v16 ∧ v16 ≤ 16 := by rw [← e16]; exact hI_M 598 107 (Nat.le_of_ble_eq_true rfl)
    refine jr_v rfl rfl (Or.inl rfl) rfl rfl (nlt rfl) rfl ⟨rfl, Nat.le_of_ble_eq_true rfl, Nat.le_of_ble_eq_true rfl⟩ rfl (jc.deep (r_next (RI.u (RI.u (RI.u (RI.u hI_M (a := 656) (i := v1) (by rw [xri_row rfl rfl]; show (-9223372036854775808 : Int) ≤ _ ∧ _ ≤ (9223372036854775807 : Int); omega)) (a := 657) (i := v1) (by rw [xri_row rfl rfl]; show (0 : Int) ≤ _ ∧ _ ≤ (2200 : Int); omega)) (a := 658) (i := v1) (by rw [xri_row rfl rfl]; show (-1 : Int) ≤ _ ∧ _ ≤ (2200 : Int); omega)) (a := 598) (i := 88) (show (0 : Int) ≤ _ ∧ _ ≤ (16 : Int) from by omega)) (RH.o (RH.o (RH.o (RH.o hH_M (by decide) (by decide) (by decide)) (by decide) (by decide) (by decide)) (by decide) (by decide) (by decide)) (by decide) (by decide) (by decide)) (RF.o (RF.o (RF.o (RF.o hS_M (by decide) (by decide)) (by decide) (by decide)) (by decide) (by decide)) (by decide) (by decide))   (by rw [((ju_i _ _ (zne (by decide))).trans ((ju_c _ _ (by decide)).trans ((ju_c _ _ (by decide)).trans ((ju_c _ _ (by decide)).trans e5)))), ((ju_i _ _ (zne (by decide))).trans ((ju_c _ _ (by decide)).trans ((ju_c _ _ (by decide)).trans ((ju_c _ _ (by decide)).trans e6))))]; omega) (fun M4 hI_M4 hH_M4 hS_M4  w4_0 w4_1 w4_2 w4_3 w4_4 w4_5 w4_6 => ?_)) (Nat.le_of_ble_eq_true rfl))
    have y18 : (ju (ju (ju (ju M 656 v1 v2) 657 v1 v3) 658 v1 (-1)) 598 88 (v1 + 1)) 598 73 = v5 := ((ju_i _ _ (zne (by decide))).trans ((ju_c _ _ (by decide)).trans ((ju_c _ _ (by decide)).trans ((ju_c _ _ (by decide)).trans e5))))
    have y19 : (ju (ju (ju (ju M 656 v1 v2) 657 v1 v3) 658 v1 (-1)) 598 88 (v1 + 1)) 598 74 = v10 := ((ju_i _ _ (zne (by decide))).trans ((ju_c _ _ (by decide)).trans ((ju_c _ _ (by decide)).trans ((ju_c _ _ (by decide)).trans e10))))
    have tb4 : TK (ju (ju (ju (ju M 656 v1 v2) 657 v1 v3) 658 v1 (-1)) 598 88 (v1 + 1)) = TK M := ((TK.o (Or.inr ⟨by decide, by decide⟩)).trans ((TK.o (Or.inl (by decide))).trans ((TK.o (Or.inl (by decide))).trans ((TK.o (Or.inl (by decide))).trans rfl))))
    have hX := XS.chn (nm := v2) hX e1 e3 (by omega) (by have z := hB; unfold LB at z; rw [e3] at z; exact z)
    have hA := AK.cp (M' := (ju (ju (ju (ju M 656 v1 v2) 657 v1 v3) 658 v1 (-1)) 598 88 (v1 + 1))) hA (CP.o (CP.o (CP.o (CP.o (CP.rfl _) (by decide) (Or.inl (by decide))) (by decide) (Or.inl (by decide))) (by decide) (Or.inl (by decide))) (by decide) (Or.inr (by decide))) (fun i => by rw [ju_c _ _ (by decide), ju_c _ _ (by decide), ju_c _ _ (by decide), ju_c _ _ (by decide)]) (by rw [ju_i _ _ (zne (by decide)), ju_c _ _ (by decide), ju_c _ _ (by decide), ju_c _ _ (by decide)])
    have hB := LB.fr (M' := (ju (ju (ju (ju M 656 v1 v2) 657 v1 v3) 658 v1 (-1)) 598 88 (v1 + 1))) hB (fun i => by rw [ju_c _ _ (by decide), ju_c _ _ (by decide), ju_c _ _ (by decide), ju_c _ _ (by decide)]) (by rw [ju_i _ _ (zne (by decide)), ju_c _ _ (by decide), ju_c _ _ (by decide), ju_c _ _ (by decide)])
    have y9 : (ju (ju (ju (ju M 656 v1 v2) 657 v1 v3) 658 v1 (-1)) 598 88 (v1 + 1)) 598 73 = v5 := ((ju_i _ _ (zne (by decide))).trans ((ju_c _ _ (by decide)).trans ((ju_c _ _ (by decide)).trans ((ju_c _ _ (by decide)).trans e5))))
    have y11 : (ju (ju (ju (ju M 656 v1 v2) 657 v1 v3) 658 v1 (-1)) 598 88 (v1 + 1)) 598 74 = v10 := ((ju_i _ _ (zne (by decide))).trans ((ju_c _ _ (by decide)).trans ((ju_c _ _ (by decide)).trans ((ju_c _ _ (by decide)).trans e10))))
    have y13 : (ju (ju (ju (ju M 656 v1 v2) 657 v1 v3) 658 v1 (-1)) 598 88 (v1 + 1)) 598 89 = v12 := ((ju_i _ _ (zne (by decide))).trans ((ju_c _ _ (by decide)).trans ((ju_c _ _ (by decide)).trans ((ju_c _ _ (by decide)).trans e12))))
    have y15 : (ju (ju (ju (ju M 656 v1 v2) 657 v1 v3) 658 v1 (-1)) 598 88 (v1 + 1)) 598 100 = v14 := ((ju_i _ _ (zne (by decide))).trans ((ju_c _ _ (by decide)).trans ((ju_c _ _ (by decide)).trans ((ju_c _ _ (by decide)).trans e14))))
    have y17 : (ju (ju (ju (ju M 656 v1 v2) 657 v1 v3) 658 v1 (-1)) 598 88 (v1 + 1)) 598 107 = v16 := ((ju_i _ _ (zne (by decide))).trans ((ju_c _ _ (by decide)).trans ((ju_c _ _ (by decide)).trans ((ju_c _ _ (by decide)).trans e16))))
    have x4_89 := w4_6 89 (zne rfl) (zne rfl) (zne rfl) (zne rfl) (zne rfl) (zne rfl) (zne rfl)
    have x4_100 := w4_6 100 (zne rfl) (zne rfl) (zne rfl) (zne rfl) (zne rfl) (zne rfl) (zne rfl)
    have x4_107 := w4_6 107 (zne rfl) (zne rfl) (zne rfl) (zne rfl) (zne rfl) (zne rfl) (zne rfl)
    have hX := XS.fr2 hX w4_5 (w4_6 88 (zne rfl) (zne rfl) (zne rfl) (zne rfl) (zne rfl) (zne rfl) (zne rfl)) (w4_6 90 (zne rfl) (zne rfl) (zne rfl) (zne rfl) (zne rfl) (zne rfl) (zne rfl)) (w4_6 101 (zne rfl) (zne rfl) (zne rfl) (zne rfl) (zne rfl) (zne rfl) (zne rfl)) (w4_6 107 (zne rfl) (zne rfl) (zne rfl) (zne rfl) (zne rfl) (zne rfl) (zne rfl)) (k' := 0 + 4) (d' := dd) (z' := 0) (by omega) (by omega) (by omega) (by omega)
    have hA := AK.cp hA (CP.f (CP.rfl _) (fun i => w4_5 659 i (nne rfl)) (w4_6 90 (zne rfl) (zne rfl) (zne rfl) (zne rfl) (zne rfl) (zne rfl) (zne rfl))) (fun i => w4_5 663 i (nne rfl)) (w4_6 96 (zne rfl) (zne rfl) (zne rfl) (zne rfl) (zne rfl) (zne rfl) (zne rfl))
    have hB := LB.fr hB (fun i => w4_5 659 i (nne rfl)) (w4_6 90 (zne rfl) (zne rfl) (zne rfl) (zne rfl) (zne rfl) (zne rfl) (zne rfl))
    refine jr.aload_n rfl rfl ?_
    refine jr.iconst rfl ?_
    refine jr.putf (i := 100) (x := 0) rfl rfl (nlt rfl) rfl (nlt rfl) rfl rfl rfl rfl rfl ?_
    refine jr.aload_n rfl rfl ?_
    refine jr.iconst rfl ?_
    refine jr.putf (i := 101) (x := 0) rfl rfl (nlt rfl) rfl (nlt rfl) rfl rfl rfl rfl rfl ?_
    refine jr.aload_n rfl rfl ?_
    refine jr.iconst rfl ?_
    refine jr.iconst rfl ?_
    obtain ⟨v21, e21⟩ : ∃ z, M4 598 73 = z := ⟨_, rfl⟩
    have b21 : 0 ≤ v21 ∧ v21 ≤ 1600 := by rw [← e21]; exact hI_M4 598 73 (Nat.le_of_ble_eq_true rfl)
    have e22 : M4 598 72 = v6 := ((w4_6 72 (zne rfl) (zne rfl) (zne rfl) (zne rfl) (zne rfl) (zne rfl) (zne rfl)).trans ((ju_i _ _ (zne (by decide))).trans ((ju_c _ _ (by decide)).trans ((ju_c _ _ (by decide)).trans ((ju_c _ _ (by decide)).trans e6)))))
    obtain ⟨v23, e23⟩ : ∃ z, M 598 80 = z := ⟨_, rfl⟩
    have b23 : 0 ≤ v23 ∧ v23 ≤ 7 := by rw [← e23]; exact hI_M 598 80 (Nat.le_of_ble_eq_true rfl)
    have e24 : M4 598 80 = v23 := ((w4_6 80 (zne rfl) (zne rfl) (zne rfl) (zne rfl) (zne rfl) (zne rfl) (zne rfl)).trans ((ju_i _ _ (zne (by decide))).trans ((ju_c _ _ (by decide)).trans ((ju_c _ _ (by decide)).trans ((ju_c _ _ (by decide)).trans e23)))))
    have e25 : M4 598 107 = v16 := ((w4_6 107 (zne rfl) (zne rfl) (zne rfl) (zne rfl) (zne rfl) (zne rfl) (zne rfl)).trans ((ju_i _ _ (zne (by decide))).trans ((ju_c _ _ (by decide)).trans ((ju_c _ _ (by decide)).trans ((ju_c _ _ (by decide)).trans e16)))))
    have e28 : M4 598 90 = v3 := ((w4_6 90 (zne rfl) (zne rfl) (zne rfl) (zne rfl) (zne rfl) (zne rfl) (zne rfl)).trans ((ju_i _ _ (zne (by decide))).trans ((ju_c _ _ (by decide)).trans ((ju_c _ _ (by decide)).trans ((ju_c _ _ (by decide)).trans e3)))))
    obtain ⟨v30, e30⟩ : ∃ z, M4 598 74 = z := ⟨_, rfl⟩
    have b30 : 0 ≤ v30 ∧ v30 ≤ 4 := by rw [← e30]; exact hI_M4 598 74 (Nat.le_of_ble_eq_true rfl)
    obtain ⟨v34, e34⟩ : ∃ z, M4 598 79 = z := ⟨_, rfl⟩
    have b34 : 0 ≤ v34 ∧ v34 ≤ 255 := by rw [← e34]; exact hI_M4 598 79 (Nat.le_of_ble_eq_true rfl)
    refine jr_v rfl rfl (Or.inl rfl) rfl rfl (nlt rfl) rfl ⟨rfl, Nat.le_of_ble_eq_true rfl, Nat.le_of_ble_eq_true rfl⟩ rfl (jc.deep (r_beginBlock (RI.u (RI.u hI_M4 (a := 598) (i := 100) (show (0 : Int) ≤ _ ∧ _ ≤ (13 : Int) from by omega)) (a := 598) (i := 101) (show (0 : Int) ≤ _ ∧ _ ≤ (1 : Int) from by omega)) (RH.o (RH.o hH_M4 (by decide) (by decide) (by decide)) (by decide) (by decide) (by decide)) (RF.o (RF.o hS_M4 (by decide) (by decide)) (by decide) (by decide))  (by omega) (by omega) (by rw [((ju_i _ _ (zne (by decide))).trans ((ju_i _ _ (zne (by decide))).trans e21)), ((ju_i _ _ (zne (by decide))).trans ((ju_i _ _ (zne (by decide))).trans e22))]; omega) (by rw [((ju_i _ _ (zne (by decide))).trans ((ju_i _ _ (zne (by decide))).trans e24)), ((ju_i _ _ (zne (by decide))).trans (ju_same _ _ _ _))]; intro q; omega) (by rw [((ju_i _ _ (zne (by decide))).trans ((ju_i _ _ (zne (by decide))).trans e25))]; omega) (fun M20 hI_M20 hH_M20 hS_M20  w20_0 w20_1 w20_2 w20_3 w20_4 w20_5 w20_6 w20_7 w20_8 w20_9 w20_10 w20_11 => ?_)) (Nat.le_of_ble_eq_true rfl))
    have y32 : (ju (ju M4 598 100 0) 598 101 0) 598 73 = v21 := ((ju_i _ _ (zne (by decide))).trans ((ju_i _ _ (zne (by decide))).trans e21))
    have y33 : (ju (ju M4 598 100 0) 598 101 0) 598 74 = v30 := ((ju_i _ _ (zne (by decide))).trans ((ju_i _ _ (zne (by decide))).trans e30))
    have y35 : (ju (ju M4 598 100 0) 598 101 0) 598 79 = v34 := ((ju_i _ _ (zne (by decide))).trans ((ju_i _ _ (zne (by decide))).trans e34))
    have y36 : (ju (ju M4 598 100 0) 598 101 0) 598 80 = v23 := ((ju_i _ _ (zne (by decide))).trans ((ju_i _ _ (zne (by decide))).trans e24))
    have y37 : (ju (ju M4 598 100 0) 598 101 0) 598 90 = v3 := ((ju_i _ _ (zne (by decide))).trans ((ju_i _ _ (zne (by decide))).trans e28))
    have y38 : (ju (ju M4 598 100 0) 598 101 0) 598 101 = 0 := (ju_same _ _ _ _)
    have y39 : (ju (ju M4 598 100 0) 598 101 0) 598 107 = v16 := ((ju_i _ _ (zne (by decide))).trans ((ju_i _ _ (zne (by decide))).trans e25))
    have tb20 : TK (ju (ju M4 598 100 0) 598 101 0) = TK M4 := ((TK.o (Or.inr ⟨by decide, by decide⟩)).trans ((TK.o (Or.inr ⟨by decide, by decide⟩)).trans rfl))
    have hX := XS.ib (XS.dpz hX (by rw [e25]; omega)) (by rw [((ju_i _ _ (zne (by decide))).trans e25)]; omega) 0
    have hA := AK.cp (M' := (ju (ju M4 598 100 0) 598 101 0)) hA (CP.o (CP.o (CP.rfl _) (by decide) (Or.inr (by decide))) (by decide) (Or.inr (by decide))) (fun i => by rw [ju_c _ _ (by decide), ju_c _ _ (by decide)]) (by rw [ju_i _ _ (zne (by decide)), ju_i _ _ (zne (by decide))])
    have hB := LB.fr (M' := (ju (ju M4 598 100 0) 598 101 0)) hB (fun i => by rw [ju_c _ _ (by decide), ju_c _ _ (by decide)]) (by rw [ju_i _ _ (zne (by decide)), ju_i _ _ (zne (by decide))])
    have y26 : (ju (ju M4 598 100 0) 598 101 0) 598 101 = 0 := (ju_same _ _ _ _)
    have y27 : (ju (ju M4 598 100 0) 598 101 0) 598 107 = v16 := ((ju_i _ _ (zne (by decide))).trans ((ju_i _ _ (zne (by decide))).trans e25))
    have y29 : (ju (ju M4 598 100 0) 598 101 0) 598 90 = v3 := ((ju_i _ _ (zne (by decide))).trans ((ju_i _ _ (zne (by decide))).trans e28))
    have y31 : (ju (ju M4 598 100 0) 598 101 0) 598 74 = v30 := ((ju_i _ _ (zne (by decide))).trans ((ju_i _ _ (zne (by decide))).trans e30))
    have e40 : M20 598 72 = v6 := ((w20_11 72 (zne rfl) (zne rfl) (zne rfl) (zne rfl) (zne rfl) (zne rfl) (zne rfl) (zne rfl) (zne rfl) (zne rfl) (zne rfl)).trans ((ju_i _ _ (zne (by decide))).trans ((ju_i _ _ (zne (by decide))).trans e22)))
    obtain ⟨v42, e42⟩ : ∃ z, M20 598 73 = z := ⟨_, rfl⟩
    have b42 : 0 ≤ v42 ∧ v42 ≤ 1600 := by rw [← e42]; exact hI_M20 598 73 (Nat.le_of_ble_eq_true rfl)
    obtain ⟨v44, e44⟩ : ∃ z, M20 598 74 = z := ⟨_, rfl⟩
    have b44 : 0 ≤ v44 ∧ v44 ≤ 4 := by rw [← e44]; exact hI_M20 598 74 (Nat.le_of_ble_eq_true rfl)
    obtain ⟨v46, e46⟩ : ∃ z, M20 598 79 = z := ⟨_, rfl⟩
    have b46 : 0 ≤ v46 ∧ v46 ≤ 255 := by rw [← e46]; exact hI_M20 598 79 (Nat.le_of_ble_eq_true rfl)
    obtain ⟨v48, e48⟩ : ∃ z, M20 598 80 = z := ⟨_, rfl⟩
    have b48 : 0 ≤ v48 ∧ v48 ≤ 7 := by rw [← e48]; exact hI_M20 598 80 (Nat.le_of_ble_eq_true rfl)
    have e50 : M4 598 89 = v12 := ((w4_6 89 (zne rfl) (zne rfl) (zne rfl) (zne rfl) (zne rfl) (zne rfl) (zne rfl)).trans ((ju_i _ _ (zne (by decide))).trans ((ju_c _ _ (by decide)).trans ((ju_c _ _ (by decide)).trans ((ju_c _ _ (by decide)).trans e12)))))
    have e51 : M20 598 89 = v12 := ((w20_11 89 (zne rfl) (zne rfl) (zne rfl) (zne rfl) (zne rfl) (zne rfl) (zne rfl) (zne rfl) (zne rfl) (zne rfl) (zne rfl)).trans ((ju_i _ _ (zne (by decide))).trans ((ju_i _ _ (zne (by decide))).trans e50)))
    have e53 : M20 598 90 = v3 := ((w20_11 90 (zne rfl) (zne rfl) (zne rfl) (zne rfl) (zne rfl) (zne rfl) (zne rfl) (zne rfl) (zne rfl) (zne rfl) (zne rfl)).trans ((ju_i _ _ (zne (by decide))).trans ((ju_i _ _ (zne (by decide))).trans e28)))
    obtain ⟨v55, e55⟩ : ∃ z, M 598 96 = z := ⟨_, rfl⟩
    have b55 : 0 ≤ v55 ∧ v55 ≤ 300 := by rw [← e55]; exact hI_M 598 96 (Nat.le_of_ble_eq_true rfl)
    have e56 : M4 598 96 = v55 := ((w4_6 96 (zne rfl) (zne rfl) (zne rfl) (zne rfl) (zne rfl) (zne rfl) (zne rfl)).trans ((ju_i _ _ (zne (by decide))).trans ((ju_c _ _ (by decide)).trans ((ju_c _ _ (by decide)).trans ((ju_c _ _ (by decide)).trans e55)))))
    have e57 : M20 598 96 = v55 := ((w20_11 96 (zne rfl) (zne rfl) (zne rfl) (zne rfl) (zne rfl) (zne rfl) (zne rfl) (zne rfl) (zne rfl) (zne rfl) (zne rfl)).trans ((ju_i _ _ (zne (by decide))).trans ((ju_i _ _ (zne (by decide))).trans e56)))
    obtain ⟨v59, e59⟩ : ∃ z, M20 598 100 = z := ⟨_, rfl⟩
    have b59 : 0 ≤ v59 ∧ v59 ≤ 13 := by rw [← e59]; exact hI_M20 598 100 (Nat.le_of_ble_eq_true rfl)
    obtain ⟨v61, e61⟩ : ∃ z, M20 598 107 = z := ⟨_, rfl⟩
    have b61 : 0 ≤ v61 ∧ v61 ≤ 16 := by rw [← e61]; exact hI_M20 598 107 (Nat.le_of_ble_eq_true rfl)
    have e64 : M4 598 88 = v1 + 1 := ((w4_6 88 (zne rfl) (zne rfl) (zne rfl) (zne rfl) (zne rfl) (zne rfl) (zne rfl)).trans (ju_same _ _ _ _))
    have e65 : M20 598 88 = v1 + 1 := ((w20_11 88 (zne rfl) (zne rfl) (zne rfl) (zne rfl) (zne rfl) (zne rfl) (zne rfl) (zne rfl) (zne rfl) (zne rfl) (zne rfl)).trans ((ju_i _ _ (zne (by decide))).trans ((ju_i _ _ (zne (by decide))).trans e64)))
    refine jr.pick (ls := [_]) [0] rfl rfl ?_
    exact r_chain_L148 (dd := dd) q 3203 M20  hI_M20 hH_M20 hS_M20  (fun a i f598 f659 f660 f661 f662 f663 f664 f665 f666 f667 f668 f669 f656 f657 f658 => ((w20_10 a i f598 f668 f669).trans ((ju_c _ _ f598).trans ((ju_c _ _ f598).trans ((w4_5 a i f598).trans ((ju_c _ _ f598).trans ((ju_c _ _ f658).trans ((ju_c _ _ f657).trans ((ju_c _ _ f656).trans (hF_M a i f598 f659 f660 f661 f662 f663 f664 f665 f666 f667 f668 f669 f656 f657 f658)))))))))) (fun i g73 g74 g75 g76 g77 g78 g79 g80 g81 g89 g90 g96 g100 g102 g107 g88 g101 => ((w20_11 i g73 g74 g75 g76 g77 g78 g79 g80 g81 g100 g107).trans ((ju_i _ _ g101).trans ((ju_i _ _ g100).trans ((w4_6 i g73 g74 g75 g76 g77 g78 g79).trans ((ju_i _ _ g88).trans ((ju_c _ _ (by decide)).trans ((ju_c _ _ (by decide)).trans ((ju_c _ _ (by decide)).trans (hG_M i g73 g74 g75 g76 g77 g78 g79 g80 g81 g89 g90 g96 g100 g102 g107 g88 g101))))))))))  (by by_cases hf : v48 = 0; (first | (have e0 : (ju (ju M4 598 100 0) 598 101 0) 598 107 = 0 := (by omega); have e1 : (ju (ju M4 598 100 0) 598 101 0) 598 101 = 0 := (by omega); have hX := w20_9 0 (0 + 4) 0 0 _ hX (by omega) (fun _ => ⟨by omega, by omega, by omega, rfl⟩) (fun q => by exfalso; omega) (by rw [e0, e1]; decide) (by omega); have hB := LB.fr hB (fun i => w20_10 659 i (nne rfl) (nne rfl) (nne rfl)) (w20_11 90 (zne rfl) (zne rfl) (zne rfl) (zne rfl) (zne rfl) (zne rfl) (zne rfl) (zne rfl) (zne rfl) (zne rfl) (zne rfl)); have hA := AK.cp hA (CP.f (CP.rfl _) (fun i => w20_10 659 i (nne rfl) (nne rfl) (nne rfl)) (w20_11 90 (zne rfl) (zne rfl) (zne rfl) (zne rfl) (zne rfl) (zne rfl) (zne rfl) (zne rfl) (zne rfl) (zne rfl) (zne rfl))) (fun i => w20_10 663 i (nne rfl) (nne rfl) (nne rfl)) (w20_11 96 (zne rfl) (zne rfl) (zne rfl) (zne rfl) (zne rfl) (zne rfl) (zne rfl) (zne rfl) (zne rfl) (zne rfl) (zne rfl)); exact Or.inr (Or.inl ⟨by omega, ⟨by omega, XS.adj hX (k' := 0) (z' := 0) (by omega) (by omega) (by omega), by omega, by omega, by omega, by omega, hB, hA, by omega⟩⟩)) | (exfalso; omega)); (exact Or.inl ⟨by omega, by omega⟩)) (by rw [e42, e40] <;> omega) (by omega) (by omega) (by rw [e65] <;> omega) (by have t := TK.le (M := M20) (by omega); omega)
theorem r_chain_L37 {A : Nat → Option (Nat × (Nat → Int32))} {Q : Option Value → jm → Prop} {dd : Int} {M0 : jm} (q : ∀ (M' : jm), RI M' → RH M' → RF M' → (BT M' ∨ (DS M' 1 ∧ M' 598 107 = 0 ∧ TK M' < TK M0 ∧ 1 ≤ M' 598 88 ∧ 1 ≤ M' 598 90 ∧ M' 659 (M' 598 90 - 1) = 3)) → TK M' ≤ TK M0 → M' 598 73 ≤ M' 598 72 → (M' 598 80 ≠ 0 ∨ TK M' < TK M0) → (∀ (a : Nat) (i : Int), a ≠ 598 → a ≠ 659 → a ≠ 660 → a ≠ 661 → a ≠ 662 → a ≠ 663 → a ≠ 664 → a ≠ 665 → a ≠ 666 → a ≠ 667 → a ≠ 668 → a ≠ 669 → a ≠ 656 → a ≠ 657 → a ≠ 658 → M' a i = M0 a i) → (∀ (i : Int), i ≠ 73 → i ≠ 74 → i ≠ 75 → i ≠ 76 → i ≠ 77 → i ≠ 78 → i ≠ 79 → i ≠ 80 → i ≠ 81 → i ≠ 89 → i ≠ 90 → i ≠ 96 → i ≠ 100 → i ≠ 102 → i ≠ 107 → i ≠ 88 → i ≠ 101 → M' 598 i = M0 598 i) → Q none M') : ∀ (nM : Nat) (M : jm) (k : Int), RI M → RH M → RF M → (∀ (a : Nat) (i : Int), a ≠ 598 → a ≠ 659 → a ≠ 660 → a ≠ 661 → a ≠ 662 → a ≠ 663 → a ≠ 664 → a ≠ 665 → a ≠ 666 → a ≠ 667 → a ≠ 668 → a ≠ 669 → a ≠ 656 → a ≠ 657 → a ≠ 658 → M a i = M0 a i) → (∀ (i : Int), i ≠ 73 → i ≠ 74 → i ≠ 75 → i ≠ 76 → i ≠ 77 → i ≠ 78 → i ≠ 79 → i ≠ 80 → i ≠ 81 → i ≠ 89 → i ≠ 90 → i ≠ 96 → i ≠ 100 → i ≠ 102 → i ≠ 107 → i ≠ 88 → i ≠ 101 → M 598 i = M0 598 i) → 0 ≤ k ∧ k ≤ 16 → XS M 0 0 dd 0 (-1) → AK M → LB M → M 598 96 ≤ M 598 89 ∧ M 598 89 ≤ 300 → M 598 73 ≤ M 598 72 → M 598 107 = 0 → 0 ≤ M 598 88 ∧ M 598 88 ≤ 15 → (M 598 74 = 3 → M 598 79 ≠ 10 ∧ M 598 79 ≠ 11) → TK M < TK M0 → M 598 74 = 1 → 16 - k ≤ nM → jr A 8 xm_369 37 [(1, .int (Int32.ofInt (k))), (0, .ref (598))] [] M Q := by
  intro nM
  induction nM using Nat.strongRecOn with
  | ind nM ih =>
    intro M k hI_M hH_M hS_M hF_M hG_M h_k hy0 hy1 hy2 hy3 hy4 hy5 hy6 hy7 hy8 hy9 hm
    have hX := hy0
    have hA := hy1
    have hB := hy2
    have dpx := XS.dep hy0
    have sl := XS.sgle hy0
    have kb := XS.kz hy0
    have bM_107 : (0 : Int) ≤ M 598 107 ∧ M 598 107 ≤ 16 := hI_M 598 107 (Nat.le_of_ble_eq_true rfl)
    have bM_73 : (0 : Int) ≤ M 598 73 ∧ M 598 73 ≤ 1600 := hI_M 598 73 (Nat.le_of_ble_eq_true rfl)
    have bM_88 : (0 : Int) ≤ M 598 88 ∧ M 598 88 ≤ 16 := hI_M 598 88 (Nat.le_of_ble_eq_true rfl)
    have bM_100 : (0 : Int) ≤ M 598 100 ∧ M 598 100 ≤ 13 := hI_M 598 100 (Nat.le_of_ble_eq_true rfl)
    refine jr.iload_n rfl rfl ?_
    refine jr.aload_n rfl rfl ?_
    obtain ⟨v1, e1⟩ : ∃ z, M 598 88 = z := ⟨_, rfl⟩
    have b1 : 0 ≤ v1 ∧ v1 ≤ 16 := by rw [← e1]; exact hI_M 598 88 (Nat.le_of_ble_eq_true rfl)
    refine jr.getf (i := 88) (x := v1) (v := .int (Int32.ofInt (v1))) rfl rfl (nlt rfl) rfl (nlt rfl) rfl rfl e1 rfl ?_
    refine jr.icmp_ge rfl rfl (by first | (refine rgb (by assumption) ?_; exact rfl) | omega) (by first | (refine rgb (by assumption) ?_; exact rfl) | omega) (fun h42 => ?_) (fun h42 => ?_)
    · refine jr.aload_n rfl rfl ?_
      refine jr_v rfl rfl (Or.inl rfl) rfl rfl (nlt rfl) rfl ⟨rfl, Nat.le_of_ble_eq_true rfl, Nat.le_of_ble_eq_true rfl⟩ rfl (jc.deep (c_good hI_M  (fun t75_0 => ?_) (fun f75_0 => ?_)) (Nat.le_of_ble_eq_true rfl))
      · refine jr.if_ne rfl rfl (by first | exact rgl rfl | omega) (fun _ => ?_) (fun h => absurd (by decide) h)
        obtain ⟨v2, e2⟩ : ∃ z, M 598 96 = z := ⟨_, rfl⟩
        have b2 : 0 ≤ v2 ∧ v2 ≤ 300 := by rw [← e2]; exact hI_M 598 96 (Nat.le_of_ble_eq_true rfl)
        obtain ⟨v3, e3⟩ : ∃ z, M 598 89 = z := ⟨_, rfl⟩
        have b3 : 0 ≤ v3 ∧ v3 ≤ 301 := by rw [← e3]; exact hI_M 598 89 (Nat.le_of_ble_eq_true rfl)
        obtain ⟨v4, e4⟩ : ∃ z, M 598 73 = z := ⟨_, rfl⟩
        have b4 : 0 ≤ v4 ∧ v4 ≤ 1600 := by rw [← e4]; exact hI_M 598 73 (Nat.le_of_ble_eq_true rfl)
        obtain ⟨v5, e5⟩ : ∃ z, M 598 72 = z := ⟨_, rfl⟩
        have b5 : 0 ≤ v5 ∧ v5 ≤ 1600 := by rw [← e5]; exact hI_M 598 72 (Nat.le_of_ble_eq_true rfl)
        obtain ⟨v6, e6⟩ : ∃ z, M 598 107 = z := ⟨_, rfl⟩
        have b6 : 0 ≤ v6 ∧ v6 ≤ 16 := by rw [← e6]; exact hI_M 598 107 (Nat.le_of_ble_eq_true rfl)
        obtain ⟨v7, e7⟩ : ∃ z, M 598 74 = z := ⟨_, rfl⟩
        have b7 : 0 ≤ v7 ∧ v7 ≤ 4 := by rw [← e7]; exact hI_M 598 74 (Nat.le_of_ble_eq_true rfl)
        obtain ⟨v8, e8⟩ : ∃ z, M 598 79 = z := ⟨_, rfl⟩
        have b8 : 0 ≤ v8 ∧ v8 ≤ 255 := by rw [← e8]; exact hI_M 598 79 (Nat.le_of_ble_eq_true rfl)
        obtain ⟨v9, e9⟩ : ∃ z, M 598 80 = z := ⟨_, rfl⟩
        have b9 : 0 ≤ v9 ∧ v9 ≤ 7 := by rw [← e9]; exact hI_M 598 80 (Nat.le_of_ble_eq_true rfl)
        refine jr.pick (ls := [_]) [1] rfl rfl ?_
        exact r_chain_L82 q M  hI_M hH_M hS_M  (fun a i f598 f659 f660 f661 f662 f663 f664 f665 f666 f667 f668 f669 f656 f657 f658 => (hF_M a i f598 f659 f660 f661 f662 f663 f664 f665 f666 f667 f668 f669 f656 f657 f658)) (fun i g73 g74 g75 g76 g77 g78 g79 g80 g81 g89 g90 g96 g100 g102 g107 g88 g101 => (hG_M i g73 g74 g75 g76 g77 g78 g79 g80 g81 g89 g90 g96 g100 g102 g107 g88 g101))  hX hA hB (by rw [e2, e3] <;> omega) (by rw [e4, e5] <;> omega) (by rw [e6] <;> omega) (by rw [e1] <;> omega) (by rw [e7, e8] <;> omega) (by omega) (by rw [e7] <;> omega) (by rw [e9] <;> omega)
      · refine jr.if_ne rfl rfl (by first | exact rgl rfl | omega) (fun h => absurd h (by decide)) (fun _ => ?_)
        obtain ⟨v10, e10⟩ : ∃ z, M 598 72 = z := ⟨_, rfl⟩
        have b10 : 0 ≤ v10 ∧ v10 ≤ 1600 := by rw [← e10]; exact hI_M 598 72 (Nat.le_of_ble_eq_true rfl)
        obtain ⟨v12, e12⟩ : ∃ z, M 598 73 = z := ⟨_, rfl⟩
        have b12 : 0 ≤ v12 ∧ v12 ≤ 1600 := by rw [← e12]; exact hI_M 598 73 (Nat.le_of_ble_eq_true rfl)
        obtain ⟨v14, e14⟩ : ∃ z, M 598 80 = z := ⟨_, rfl⟩
        have b14 : 0 ≤ v14 ∧ v14 ≤ 7 := by rw [← e14]; exact hI_M 598 80 (Nat.le_of_ble_eq_true rfl)
        obtain ⟨v16, e16⟩ : ∃ z, M 598 90 = z := ⟨_, rfl⟩
        have b16 : 0 ≤ v16 ∧ v16 ≤ 2200 := by rw [← e16]; exact hI_M 598 90 (Nat.le_of_ble_eq_true rfl)
        exact jr.vreturn rfl rfl (q _ hI_M hH_M hS_M  (Or.inl ⟨by omega, by omega⟩) (by omega) (by omega) (by omega) (fun a i f598 f659 f660 f661 f662 f663 f664 f665 f666 f667 f668 f669 f656 f657 f658 => (hF_M a i f598 f659 f660 f661 f662 f663 f664 f665 f666 f667 f668 f669 f656 f657 f658)) (fun i g73 g74 g75 g76 g77 g78 g79 g80 g81 g89 g90 g96 g100 g102 g107 g88 g101 => (hG_M i g73 g74 g75 g76 g77 g78 g79 g80 g81 g89 g90 g96 g100 g102 g107 g88 g101)))
    · refine jr.aload_n rfl rfl ?_
      refine jr.getf (i := 91) (v := .ref 656) rfl rfl (nlt rfl) rfl (nlt rfl) rfl rfl rfl rfl ?_
      refine jr.iload_n rfl rfl ?_
      obtain ⟨v18, e18⟩ : ∃ z, M 656 k = z := ⟨_, rfl⟩
      have b18 : (-9223372036854775808) ≤ v18 ∧ v18 ≤ 9223372036854775807 := by rw [← e18]; exact (by have q := hI_M 656 k (Nat.le_of_ble_eq_true rfl); rw [xri_row rfl rfl] at q; exact q)
      refine jr.lald (i := k) (x := v18) rfl (nlt rfl) rfl (Nat.le_of_ble_eq_true rfl) (by omega) (by omega) e18 ?_
      refine jr.aload_n rfl rfl ?_
      obtain ⟨v19, e19⟩ : ∃ z, M 598 77 = z := ⟨_, rfl⟩
      have b19 : (-9223372036854775808) ≤ v19 ∧ v19 ≤ 9223372036854775807 := by rw [← e19]; exact hI_M 598 77 (Nat.le_of_ble_eq_true rfl)
      refine jr.getf (i := 77) (x := v19) (v := .long (Int64.ofInt (v19))) rfl rfl (nlt rfl) rfl (nlt rfl) rfl rfl e19 rfl ?_
      refine jr.lcmp_ne rfl rfl rfl (by omega) (by omega) (fun h55 => ?_) (fun h55 => ?_)
      · refine jr.iinc (ls' := [_, _]) rfl rfl (nlt rfl) rfl ?_
        refine jr.goto rfl rfl ?_
        obtain ⟨v20, e20⟩ : ∃ z, M 598 96 = z := ⟨_, rfl⟩
        have b20 : 0 ≤ v20 ∧ v20 ≤ 300 := by rw [← e20]; exact hI_M 598 96 (Nat.le_of_ble_eq_true rfl)
        obtain ⟨v21, e21⟩ : ∃ z, M 598 89 = z := ⟨_, rfl⟩
        have b21 : 0 ≤ v21 ∧ v21 ≤ 301 := by rw [← e21]; exact hI_M 598 89 (Nat.le_of_ble_eq_true rfl)
        obtain ⟨v22, e22⟩ : ∃ z, M 598 73 = z := ⟨_, rfl⟩
        have b22 : 0 ≤ v22 ∧ v22 ≤ 1600 := by rw [← e22]; exact hI_M 598 73 (Nat.le_of_ble_eq_true rfl)
        obtain ⟨v23, e23⟩ : ∃ z, M 598 72 = z := ⟨_, rfl⟩
        have b23 : 0 ≤ v23 ∧ v23 ≤ 1600 := by rw [← e23]; exact hI_M 598 72 (Nat.le_of_ble_eq_true rfl)
        obtain ⟨v24, e24⟩ : ∃ z, M 598 107 = z := ⟨_, rfl⟩
        have b24 : 0 ≤ v24 ∧ v24 ≤ 16 := by rw [← e24]; exact hI_M 598 107 (Nat.le_of_ble_eq_true rfl)
        obtain ⟨v25, e25⟩ : ∃ z, M 598 74 = z := ⟨_, rfl⟩
        have b25 : 0 ≤ v25 ∧ v25 ≤ 4 := by rw [← e25]; exact hI_M 598 74 (Nat.le_of_ble_eq_true rfl)
        obtain ⟨v26, e26⟩ : ∃ z, M 598 79 = z := ⟨_, rfl⟩
        have b26 : 0 ≤ v26 ∧ v26 ≤ 255 := by rw [← e26]; exact hI_M 598 79 (Nat.le_of_ble_eq_true rfl)
        refine jr.pick (ls := [_, _]) [0, 1] rfl rfl ?_
        exact ih (nM - 1) (by omega) M (k + 1) hI_M hH_M hS_M  (fun a i f598 f659 f660 f661 f662 f663 f664 f665 f666 f667 f668 f669 f656 f657 f658 => (hF_M a i f598 f659 f660 f661 f662 f663 f664 f665 f666 f667 f668 f669 f656 f657 f658)) (fun i g73 g74 g75 g76 g77 g78 g79 g80 g81 g89 g90 g96 g100 g102 g107 g88 g101 => (hG_M i g73 g74 g75 g76 g77 g78 g79 g80 g81 g89 g90 g96 g100 g102 g107 g88 g101)) (by omega) hX hA hB (by rw [e20, e21] <;> omega) (by rw [e22, e23] <;> omega) (by rw [e24] <;> omega) (by rw [e1] <;> omega) (by rw [e25, e26] <;> omega) (by omega) (by rw [e25] <;> omega) (by omega)
      · refine jr.aload_n rfl rfl ?_
        refine jr.iconst rfl ?_
        refine jr.aload_n rfl rfl ?_
        obtain ⟨v27, e27⟩ : ∃ z, M 598 75 = z := ⟨_, rfl⟩
        have b27 : 0 ≤ v27 ∧ v27 ≤ 1600 := by rw [← e27]; exact hI_M 598 75 (Nat.le_of_ble_eq_true rfl)
        refine jr.getf (i := 75) (x := v27) (v := .int (Int32.ofInt (v27))) rfl rfl (nlt rfl) rfl (nlt rfl) rfl rfl e27 rfl ?_
        obtain ⟨v29, e29⟩ : ∃ z, M 598 73 = z := ⟨_, rfl⟩
        have b29 : 0 ≤ v29 ∧ v29 ≤ 1600 := by rw [← e29]; exact hI_M 598 73 (Nat.le_of_ble_eq_true rfl)
        obtain ⟨v31, e31⟩ : ∃ z, M 598 74 = z := ⟨_, rfl⟩
        have b31 : 0 ≤ v31 ∧ v31 ≤ 4 := by rw [← e31]; exact hI_M 598 74 (Nat.le_of_ble_eq_true rfl)
        obtain ⟨v33, e33⟩ : ∃ z, M 598 89 = z := ⟨_, rfl⟩
        have b33 : 0 ≤ v33 ∧ v33 ≤ 301 := by rw [← e33]; exact hI_M 598 89 (Nat.le_of_ble_eq_true rfl)
        obtain ⟨v35, e35⟩ : ∃ z, M 598 100 = z := ⟨_, rfl⟩
        have b35 : 0 ≤ v35 ∧ v35 ≤ 13 := by rw [← e35]; exact hI_M 598 100 (Nat.le_of_ble_eq_true rfl)
        refine jr_v rfl rfl (Or.inl rfl) rfl rfl (nlt rfl) rfl ⟨rfl, Nat.le_of_ble_eq_true rfl, Nat.le_of_ble_eq_true rfl⟩ rfl (jc.deep (r_fails hI_M hH_M hS_M  (by omega) (by omega)  (fun M28 hI_M28 hH_M28 hS_M28  w28_0 w28_1 w28_2 => ?_)) (Nat.le_of_ble_eq_true rfl))
        have tk28 : TK M28 = TK M := TK.fr (w28_2 73 (zne rfl) (zne rfl)) (w28_2 74 (zne rfl) (zne rfl))
        have x28_73 := w28_2 73 (zne rfl) (zne rfl)
        have x28_74 := w28_2 74 (zne rfl) (zne rfl)
        have x28_89 := w28_2 89 (zne rfl) (zne rfl)
        have x28_100 := w28_2 100 (zne rfl) (zne rfl)
        have hX := XS.fr2 hX w28_1 (w28_2 88 (zne rfl) (zne rfl)) (w28_2 90 (zne rfl) (zne rfl)) (w28_2 101 (zne rfl) (zne rfl)) (w28_2 107 (zne rfl) (zne rfl)) (k' := 0) (d' := dd) (z' := 0) (by omega) (by omega) (by omega) (by omega)
        have hA := AK.cp hA (CP.f (CP.rfl _) (fun i => w28_1 659 i (nne rfl)) (w28_2 90 (zne rfl) (zne rfl))) (fun i => w28_1 663 i (nne rfl)) (w28_2 96 (zne rfl) (zne rfl))
        have hB := LB.fr hB (fun i => w28_1 659 i (nne rfl)) (w28_2 90 (zne rfl) (zne rfl))
        refine jr.iinc (ls' := [_, _]) rfl rfl (nlt rfl) rfl ?_
        refine jr.goto rfl rfl ?_
        obtain ⟨v37, e37⟩ : ∃ z, M 598 96 = z := ⟨_, rfl⟩
        have b37 : 0 ≤ v37 ∧ v37 ≤ 300 := by rw [← e37]; exact hI_M 598 96 (Nat.le_of_ble_eq_true rfl)
        have e38 : M28 598 96 = v37 := ((w28_2 96 (zne rfl) (zne rfl)).trans e37)
        have e39 : M28 598 89 = v33 := ((w28_2 89 (zne rfl) (zne rfl)).trans e33)
        have e40 : M28 598 73 = v29 := ((w28_2 73 (zne rfl) (zne rfl)).trans e29)
        obtain ⟨v41, e41⟩ : ∃ z, M 598 72 = z := ⟨_, rfl⟩
        have b41 : 0 ≤ v41 ∧ v41 ≤ 1600 := by rw [← e41]; exact hI_M 598 72 (Nat.le_of_ble_eq_true rfl)
        have e42 : M28 598 72 = v41 := ((w28_2 72 (zne rfl) (zne rfl)).trans e41)
        obtain ⟨v43, e43⟩ : ∃ z, M 598 107 = z := ⟨_, rfl⟩
        have b43 : 0 ≤ v43 ∧ v43 ≤ 16 := by rw [← e43]; exact hI_M 598 107 (Nat.le_of_ble_eq_true rfl)
        have e44 : M28 598 107 = v43 := ((w28_2 107 (zne rfl) (zne rfl)).trans e43)
        have e45 : M28 598 88 = v1 := ((w28_2 88 (zne rfl) (zne rfl)).trans e1)
        have e46 : M28 598 74 = v31 := ((w28_2 74 (zne rfl) (zne rfl)).trans e31)
        obtain ⟨v47, e47⟩ : ∃ z, M 598 79 = z := ⟨_, rfl⟩
        have b47 : 0 ≤ v47 ∧ v47 ≤ 255 := by rw [← e47]; exact hI_M 598 79 (Nat.le_of_ble_eq_true rfl)
        have e48 : M28 598 79 = v47 := ((w28_2 79 (zne rfl) (zne rfl)).trans e47)
        refine jr.pick (ls := [_, _]) [0, 1] rfl rfl ?_
        exact ih (nM - 1) (by omega) M28 (k + 1) hI_M28 hH_M28 hS_M28  (fun a i f598 f659 f660 f661 f662 f663 f664 f665 f666 f667 f668 f669 f656 f657 f658 => ((w28_1 a i f598).trans (hF_M a i f598 f659 f660 f661 f662 f663 f664 f665 f666 f667 f668 f669 f656 f657 f658))) (fun i g73 g74 g75 g76 g77 g78 g79 g80 g81 g89 g90 g96 g100 g102 g107 g88 g101 => ((w28_2 i g80 g81).trans (hG_M i g73 g74 g75 g76 g77 g78 g79 g80 g81 g89 g90 g96 g100 g102 g107 g88 g101))) (by omega) hX hA hB (by rw [e38, e39] <;> omega) (by rw [e40, e42] <;> omega) (by rw [e44] <;> omega) (by rw [e45] <;> omega) (by rw [e46, e48] <;> omega) (by omega) (by rw [e46] <;> omega) (by omega)
theorem r_chain {A : Nat → Option (Nat × (Nat → Int32))} {Q : Option Value → jm → Prop} {dd : Int} {M : jm} (hI_M : RI M) (hH_M : RH M) (hS_M : RF M) (p0 : XS M 0 0 dd 1 (-1)) (p1 : AK M) (p2 : LB M) (p3 : (M 598 80 = 0 ∧ M 598 96 ≤ M 598 89 ∧ M 598 89 ≤ 300 ∧ M 598 107 = 0)) (p4 : M 598 73 ≤ M 598 72) (p5 : (M 598 74 = 3 → M 598 79 ≠ 10 ∧ M 598 79 ≠ 11)) (p6 : M 598 74 = 1) (q : ∀ (M' : jm), RI M' → RH M' → RF M' → (BT M' ∨ (DS M' 1 ∧ M' 598 107 = 0 ∧ TK M' < TK M ∧ 1 ≤ M' 598 88 ∧ 1 ≤ M' 598 90 ∧ M' 659 (M' 598 90 - 1) = 3)) → TK M' ≤ TK M → M' 598 73 ≤ M' 598 72 → (M' 598 80 ≠ 0 ∨ TK M' < TK M) → (∀ (a : Nat) (i : Int), a ≠ 598 → a ≠ 659 → a ≠ 660 → a ≠ 661 → a ≠ 662 → a ≠ 663 → a ≠ 664 → a ≠ 665 → a ≠ 666 → a ≠ 667 → a ≠ 668 → a ≠ 669 → a ≠ 656 → a ≠ 657 → a ≠ 658 → M' a i = M a i) → (∀ (i : Int), i ≠ 73 → i ≠ 74 → i ≠ 75 → i ≠ 76 → i ≠ 77 → i ≠ 78 → i ≠ 79 → i ≠ 80 → i ≠ 81 → i ≠ 89 → i ≠ 90 → i ≠ 96 → i ≠ 100 → i ≠ 102 → i ≠ 107 → i ≠ 88 → i ≠ 101 → M' 598 i = M 598 i) → Q none M') : jc A 9 369 [.ref (598)] M Q := by
  have hX := p0
  have hA := p1
  have hB := p2
  have dpx := XS.dep p0
  have sl := XS.sgle p0
  have kb := XS.kz p0
  have bM_107 : (0 : Int) ≤ M 598 107 ∧ M 598 107 ≤ 16 := hI_M 598 107 (Nat.le_of_ble_eq_true rfl)
  have bM_73 : (0 : Int) ≤ M 598 73 ∧ M 598 73 ≤ 1600 := hI_M 598 73 (Nat.le_of_ble_eq_true rfl)
  have bM_88 : (0 : Int) ≤ M 598 88 ∧ M 598 88 ≤ 16 := hI_M 598 88 (Nat.le_of_ble_eq_true rfl)
  have bM_100 : (0 : Int) ≤ M 598 100 ∧ M 598 100 ≤ 13 := hI_M 598 100 (Nat.le_of_ble_eq_true rfl)
  refine jc_of (m := xm_369) rfl (Nat.le_of_ble_eq_true rfl) rfl ?_
  refine jr.aload_n rfl rfl ?_
  obtain ⟨v1, e1⟩ : ∃ z, M 598 88 = z := ⟨_, rfl⟩
  have b1 : 0 ≤ v1 ∧ v1 ≤ 16 := by rw [← e1]; exact hI_M 598 88 (Nat.le_of_ble_eq_true rfl)
  refine jr.getf (i := 88) (x := v1) (v := .int (Int32.ofInt (v1))) rfl rfl (nlt rfl) rfl (nlt rfl) rfl rfl e1 rfl ?_
  refine jr.bipush rfl (jbp _ (nlt rfl)) ?_
  refine jr.icmp_ne rfl rfl (by first | (refine rgb (by assumption) ?_; exact rfl) | omega) (rgl rfl) (fun h6 => ?_) (fun h6 => ?_)
  · have sx6 : v1 ≤ (15 : Int) := by omega
    clear h6
    refine jr.aload_n rfl rfl ?_
    obtain ⟨v3, e3⟩ : ∃ z, M 598 73 = z := ⟨_, rfl⟩
    have b3 : 0 ≤ v3 ∧ v3 ≤ 1600 := by rw [← e3]; exact hI_M 598 73 (Nat.le_of_ble_eq_true rfl)
    obtain ⟨v4, e4⟩ : ∃ z, M 598 72 = z := ⟨_, rfl⟩
    have b4 : 0 ≤ v4 ∧ v4 ≤ 1600 := by rw [← e4]; exact hI_M 598 72 (Nat.le_of_ble_eq_true rfl)
    obtain ⟨v6, e6⟩ : ∃ z, M 598 74 = z := ⟨_, rfl⟩
    have b6 : 0 ≤ v6 ∧ v6 ≤ 4 := by rw [← e6]; exact hI_M 598 74 (Nat.le_of_ble_eq_true rfl)
    obtain ⟨v8, e8⟩ : ∃ z, M 598 89 = z := ⟨_, rfl⟩
    have b8 : 0 ≤ v8 ∧ v8 ≤ 301 := by rw [← e8]; exact hI_M 598 89 (Nat.le_of_ble_eq_true rfl)
    obtain ⟨v10, e10⟩ : ∃ z, M 598 100 = z := ⟨_, rfl⟩
    have b10 : 0 ≤ v10 ∧ v10 ≤ 13 := by rw [← e10]; exact hI_M 598 100 (Nat.le_of_ble_eq_true rfl)
    refine jr_v rfl rfl (Or.inl rfl) rfl rfl (nlt rfl) rfl ⟨rfl, Nat.le_of_ble_eq_true rfl, Nat.le_of_ble_eq_true rfl⟩ rfl (jc.deep (r_next hI_M hH_M hS_M   (by rw [e3, e4]; omega) (fun M2 hI_M2 hH_M2 hS_M2  w2_0 w2_1 w2_2 w2_3 w2_4 w2_5 w2_6 => ?_)) (Nat.le_of_ble_eq_true rfl))
    have x2_89 := w2_6 89 (zne rfl) (zne rfl) (zne rfl) (zne rfl) (zne rfl) (zne rfl) (zne rfl)
    have x2_100 := w2_6 100 (zne rfl) (zne rfl) (zne rfl) (zne rfl) (zne rfl) (zne rfl) (zne rfl)
    have hX := XS.fr2 hX w2_5 (w2_6 88 (zne rfl) (zne rfl) (zne rfl) (zne rfl) (zne rfl) (zne rfl) (zne rfl)) (w2_6 90 (zne rfl) (zne rfl) (zne rfl) (zne rfl) (zne rfl) (zne rfl) (zne rfl)) (w2_6 101 (zne rfl) (zne rfl) (zne rfl) (zne rfl) (zne rfl) (zne rfl) (zne rfl)) (w2_6 107 (zne rfl) (zne rfl) (zne rfl) (zne rfl) (zne rfl) (zne rfl) (zne rfl)) (k' := 0) (d' := dd) (z' := 0) (by omega) (by omega) (by omega) (by omega)
    have hA := AK.cp hA (CP.f (CP.rfl _) (fun i => w2_5 659 i (nne rfl)) (w2_6 90 (zne rfl) (zne rfl) (zne rfl) (zne rfl) (zne rfl) (zne rfl) (zne rfl))) (fun i => w2_5 663 i (nne rfl)) (w2_6 96 (zne rfl) (zne rfl) (zne rfl) (zne rfl) (zne rfl) (zne rfl) (zne rfl))
    have hB := LB.fr hB (fun i => w2_5 659 i (nne rfl)) (w2_6 90 (zne rfl) (zne rfl) (zne rfl) (zne rfl) (zne rfl) (zne rfl) (zne rfl))
    refine jr.aload_n rfl rfl ?_
    refine jr_v rfl rfl (Or.inl rfl) rfl rfl (nlt rfl) rfl ⟨rfl, Nat.le_of_ble_eq_true rfl, Nat.le_of_ble_eq_true rfl⟩ rfl (jc.deep (c_isName hI_M2  (fun t24_0 => ?_) (fun f24_0 => ?_)) (Nat.le_of_ble_eq_true rfl))
    · refine jr.if_ne rfl rfl (by first | exact rgl rfl | omega) (fun _ => ?_) (fun h => absurd (by decide) h)
      refine jr.iconst rfl ?_
      refine jr.istore_n (ls' := [_, _]) rfl (nlt rfl) rfl ?_
      obtain ⟨v12, e12⟩ : ∃ z, M 598 96 = z := ⟨_, rfl⟩
      have b12 : 0 ≤ v12 ∧ v12 ≤ 300 := by rw [← e12]; exact hI_M 598 96 (Nat.le_of_ble_eq_true rfl)
      have e13 : M2 598 96 = v12 := ((w2_6 96 (zne rfl) (zne rfl) (zne rfl) (zne rfl) (zne rfl) (zne rfl) (zne rfl)).trans e12)
      have e14 : M2 598 89 = v8 := ((w2_6 89 (zne rfl) (zne rfl) (zne rfl) (zne rfl) (zne rfl) (zne rfl) (zne rfl)).trans e8)
      obtain ⟨v15, e15⟩ : ∃ z, M2 598 73 = z := ⟨_, rfl⟩
      have b15 : 0 ≤ v15 ∧ v15 ≤ 1600 := by rw [← e15]; exact hI_M2 598 73 (Nat.le_of_ble_eq_true rfl)
      have e16 : M2 598 72 = v4 := ((w2_6 72 (zne rfl) (zne rfl) (zne rfl) (zne rfl) (zne rfl) (zne rfl) (zne rfl)).trans e4)
      obtain ⟨v17, e17⟩ : ∃ z, M 598 107 = z := ⟨_, rfl⟩
      have b17 : 0 ≤ v17 ∧ v17 ≤ 16 := by rw [← e17]; exact hI_M 598 107 (Nat.le_of_ble_eq_true rfl)
      have e18 : M2 598 107 = v17 := ((w2_6 107 (zne rfl) (zne rfl) (zne rfl) (zne rfl) (zne rfl) (zne rfl) (zne rfl)).trans e17)
      have e19 : M2 598 88 = v1 := ((w2_6 88 (zne rfl) (zne rfl) (zne rfl) (zne rfl) (zne rfl) (zne rfl) (zne rfl)).trans e1)
      obtain ⟨v20, e20⟩ : ∃ z, M2 598 74 = z := ⟨_, rfl⟩
      have b20 : 0 ≤ v20 ∧ v20 ≤ 4 := by rw [← e20]; exact hI_M2 598 74 (Nat.le_of_ble_eq_true rfl)
      obtain ⟨v21, e21⟩ : ∃ z, M2 598 79 = z := ⟨_, rfl⟩
      have b21 : 0 ≤ v21 ∧ v21 ≤ 255 := by rw [← e21]; exact hI_M2 598 79 (Nat.le_of_ble_eq_true rfl)
      refine jr.pick (ls := [_, _]) [0, 1] rfl rfl ?_
      exact r_chain_L37 q 16 M2 0 hI_M2 hH_M2 hS_M2  (fun a i f598 f659 f660 f661 f662 f663 f664 f665 f666 f667 f668 f669 f656 f657 f658 => ((w2_5 a i f598).trans rfl)) (fun i g73 g74 g75 g76 g77 g78 g79 g80 g81 g89 g90 g96 g100 g102 g107 g88 g101 => ((w2_6 i g73 g74 g75 g76 g77 g78 g79).trans rfl)) (by omega) hX hA hB (by rw [e13, e14] <;> omega) (by rw [e15, e16] <;> omega) (by rw [e18] <;> omega) (by rw [e19] <;> omega) (by rw [e20, e21] <;> omega) (by omega) (by rw [e20] <;> omega) (by omega)
    · refine jr.if_ne rfl rfl (by first | exact rgl rfl | omega) (fun h => absurd h (by decide)) (fun _ => ?_)
      refine jr.aload_n rfl rfl ?_
      refine jr_v rfl rfl (Or.inl rfl) rfl rfl (nlt rfl) rfl ⟨rfl, Nat.le_of_ble_eq_true rfl, Nat.le_of_ble_eq_true rfl⟩ rfl (jc.deep (r_wrongToken hI_M2 hH_M2 hS_M2    (fun M22 hI_M22 hH_M22 hS_M22  w22_0 w22_1 w22_2 => ?_)) (Nat.le_of_ble_eq_true rfl))
      have tk22 : TK M22 = TK M2 := TK.fr (w22_2 73 (zne rfl) (zne rfl)) (w22_2 74 (zne rfl) (zne rfl))
      have e23 : M2 598 72 = v4 := ((w2_6 72 (zne rfl) (zne rfl) (zne rfl) (zne rfl) (zne rfl) (zne rfl) (zne rfl)).trans e4)
      have e24 : M22 598 72 = v4 := ((w22_2 72 (zne rfl) (zne rfl)).trans e23)
      obtain ⟨v26, e26⟩ : ∃ z, M2 598 73 = z := ⟨_, rfl⟩
      have b26 : 0 ≤ v26 ∧ v26 ≤ 1600 := by rw [← e26]; exact hI_M2 598 73 (Nat.le_of_ble_eq_true rfl)
      have e27 : M22 598 73 = v26 := ((w22_2 73 (zne rfl) (zne rfl)).trans e26)
      obtain ⟨v29, e29⟩ : ∃ z, M22 598 80 = z := ⟨_, rfl⟩
      have b29 : 0 ≤ v29 ∧ v29 ≤ 7 := by rw [← e29]; exact hI_M22 598 80 (Nat.le_of_ble_eq_true rfl)
      obtain ⟨v31, e31⟩ : ∃ z, M 598 90 = z := ⟨_, rfl⟩
      have b31 : 0 ≤ v31 ∧ v31 ≤ 2200 := by rw [← e31]; exact hI_M 598 90 (Nat.le_of_ble_eq_true rfl)
      have e32 : M2 598 90 = v31 := ((w2_6 90 (zne rfl) (zne rfl) (zne rfl) (zne rfl) (zne rfl) (zne rfl) (zne rfl)).trans e31)
      have e33 : M22 598 90 = v31 := ((w22_2 90 (zne rfl) (zne rfl)).trans e32)
      exact jr.vreturn rfl rfl (q _ hI_M22 hH_M22 hS_M22  (Or.inl ⟨by omega, by omega⟩) (by omega) (by omega) (by omega) (fun a i f598 f659 f660 f661 f662 f663 f664 f665 f666 f667 f668 f669 f656 f657 f658 => ((w22_1 a i f598).trans ((w2_5 a i f598).trans rfl))) (fun i g73 g74 g75 g76 g77 g78 g79 g80 g81 g89 g90 g96 g100 g102 g107 g88 g101 => ((w22_2 i g80 g81).trans ((w2_6 i g73 g74 g75 g76 g77 g78 g79).trans rfl))))
  · refine jr.aload_n rfl rfl ?_
    refine jr.iconst rfl ?_
    refine jr.aload_n rfl rfl ?_
    obtain ⟨v35, e35⟩ : ∃ z, M 598 75 = z := ⟨_, rfl⟩
    have b35 : 0 ≤ v35 ∧ v35 ≤ 1600 := by rw [← e35]; exact hI_M 598 75 (Nat.le_of_ble_eq_true rfl)
    refine jr.getf (i := 75) (x := v35) (v := .int (Int32.ofInt (v35))) rfl rfl (nlt rfl) rfl (nlt rfl) rfl rfl e35 rfl ?_
    refine jr_v rfl rfl (Or.inl rfl) rfl rfl (nlt rfl) rfl ⟨rfl, Nat.le_of_ble_eq_true rfl, Nat.le_of_ble_eq_true rfl⟩ rfl (jc.deep (r_fails hI_M hH_M hS_M  (by omega) (by omega)  (fun M36 hI_M36 hH_M36 hS_M36  w36_0 w36_1 w36_2 => ?_)) (Nat.le_of_ble_eq_true rfl))
    have tk36 : TK M36 = TK M := TK.fr (w36_2 73 (zne rfl) (zne rfl)) (w36_2 74 (zne rfl) (zne rfl))
    obtain ⟨v37, e37⟩ : ∃ z, M 598 72 = z := ⟨_, rfl⟩
    have b37 : 0 ≤ v37 ∧ v37 ≤ 1600 := by rw [← e37]; exact hI_M 598 72 (Nat.le_of_ble_eq_true rfl)
    have e38 : M36 598 72 = v37 := ((w36_2 72 (zne rfl) (zne rfl)).trans e37)
    obtain ⟨v40, e40⟩ : ∃ z, M 598 73 = z := ⟨_, rfl⟩
    have b40 : 0 ≤ v40 ∧ v40 ≤ 1600 := by rw [← e40]; exact hI_M 598 73 (Nat.le_of_ble_eq_true rfl)
    have e41 : M36 598 73 = v40 := ((w36_2 73 (zne rfl) (zne rfl)).trans e40)
    obtain ⟨v43, e43⟩ : ∃ z, M36 598 80 = z := ⟨_, rfl⟩
    have b43 : 0 ≤ v43 ∧ v43 ≤ 7 := by rw [← e43]; exact hI_M36 598 80 (Nat.le_of_ble_eq_true rfl)
    obtain ⟨v45, e45⟩ : ∃ z, M 598 90 = z := ⟨_, rfl⟩
    have b45 : 0 ≤ v45 ∧ v45 ≤ 2200 := by rw [← e45]; exact hI_M 598 90 (Nat.le_of_ble_eq_true rfl)
    have e46 : M36 598 90 = v45 := ((w36_2 90 (zne rfl) (zne rfl)).trans e45)
    exact jr.vreturn rfl rfl (q _ hI_M36 hH_M36 hS_M36  (Or.inl ⟨by omega, by omega⟩) (by omega) (by omega) (by omega) (fun a i f598 f659 f660 f661 f662 f663 f664 f665 f666 f667 f668 f669 f656 f657 f658 => ((w36_1 a i f598).trans rfl)) (fun i g73 g74 g75 g76 g77 g78 g79 g80 g81 g89 g90 g96 g100 g102 g107 g88 g101 => ((w36_2 i g80 g81).trans rfl)))
end
section
/-! ===== the reference: contracts, 35.pg ===== -/
theorem XS.init {M : jm} (hf : FWq (M 650)) (h1 : M 598 88 = 0) (h2 : M 598 90 = 0) (h3 : M 598 107 = 0) (h4 : 0 ≤ M 598 89) (h5 : 0 ≤ M 598 73) : XS M 0 0 (M 598 100) 1 (-1) := by
  rw [XS.rows, h1, h2, h3]
  refine ⟨fun _ => 0, fun _ => 0, fun _ => 0, fun _ => 0, ⟨hf, rfl, rfl, rfl, by omega, by omega, by omega, by omega, by omega, by omega, by omega⟩, fun i i0 i1 => by omega, fun j j0 j1 => by omega, fun j j0 j1 => ⟨Int.le_refl _, by show (0 : Int) ≤ 0 + 2 * j; omega, Int.le_refl _, Int.le_refl _, Or.inl (by omega)⟩, fun j j0 j1 => by omega, fun c c0 c1 => by omega, by decide, by show M 598 100 = 0 + 0 + M 598 100; omega, ?_⟩
  have e : RVq 0 (M 598 101) = 0 := (RVq_1 (ib := M 598 101)).2.2
  rw [e]
  show 2 * (0 + 0) + 0 + 0 ≤ 6 * M 598 89 + 4 * 0 + M 598 73
  omega
theorem AK.zero {M : jm} (h : M 598 96 = 0) : AK M := fun k k0 k1 => by omega
/-- the machine's code -/
noncomputable def MC (M : jm) : Prop := M 598 82 = 0 ∨ ∃ (ht : Int → Int) (n : Int), 1 ≤ n ∧ n ≤ 2000 ∧ (∀ i : Int, 0 ≤ i → i < n → OPk (M 654) (M 655) (M 598 82) ht (n - 1) False i) ∧ (∀ c : Int, 0 ≤ c → c < M 598 82 → ENk (M 654) ht (n - 1) (M 652 c) ∧ (M 653 c = -1 ∨ ENk (M 654) ht (n - 1) (M 653 c))) ∧ M 654 (n - 1) = 3
theorem MC.fr {M M' : jm} (h : MC M) (e2 : ∀ i : Int, M' 652 i = M 652 i) (e3 : ∀ i : Int, M' 653 i = M 653 i) (e4 : ∀ i : Int, M' 654 i = M 654 i) (e5 : ∀ i : Int, M' 655 i = M 655 i) (g : M' 598 82 = M 598 82) : MC M' := by
  unfold MC at h ⊢
  rw [show M' 652 = M 652 from funext e2, show M' 653 = M 653 from funext e3, show M' 654 = M 654 from funext e4, show M' 655 = M 655 from funext e5, g]
  exact h
theorem MC.o {M : jm} (h : MC M) {a : Nat} {i v : Int} (h1 : a < 652 ∨ 655 < a) (h2 : a ≠ 598 ∨ i ≠ 82) : MC (ju M a i v) := by
  refine h.fr (fun j => ju_c M v (by omega)) (fun j => ju_c M v (by omega)) (fun j => ju_c M v (by omega)) (fun j => ju_c M v (by omega)) ?_
  rcases h2 with h2 | h2
  · exact ju_c M v (fun e => h2 e.symm)
  · exact ju_i M v (fun e => h2 e.symm)
/-- the parser's end: all that was laid -/
noncomputable def RD (M : jm) : Prop := XS M 0 0 0 1 (-1) ∧ M 598 107 = 0 ∧ 1 ≤ M 598 90 ∧ M 598 90 ≤ 2000 ∧ M 659 (M 598 90 - 1) = 3
theorem RD.o {M : jm} (h : RD M) {a : Nat} {i v : Int} (h1 : (652 ≤ a ∧ a ≤ 655) ∨ (a = 598 ∧ (i = 82 ∨ i = 83))) : RD (ju M a i v) := by
  obtain ⟨h0, h2, h3, h4, h5⟩ := h
  have r : ∀ c : Nat, c ≠ a → ju M a i v c = M c := fun c hc => jw_o hc
  have f : ∀ j : Int, j ≠ 82 → j ≠ 83 → ju M a i v 598 j = M 598 j := fun j j1 j2 => ju_ne M v (fun q => by omega)
  unfold RD
  rw [f 107 (by decide) (by decide), f 90 (by decide) (by decide), r 659 (by omega)]
  refine ⟨?_, h2, h3, h4, h5⟩
  rw [XS.rows] at h0 ⊢
  rw [r 650 (by omega), r 657 (by omega), r 658 (by omega), r 659 (by omega), r 660 (by omega), r 664 (by omega), r 665 (by omega), r 666 (by omega), r 667 (by omega), r 668 (by omega), r 669 (by omega), f 88 (by decide) (by decide), f 89 (by decide) (by decide), f 90 (by decide) (by decide), f 100 (by decide) (by decide), f 101 (by decide) (by decide), f 107 (by decide) (by decide), f 73 (by decide) (by decide)]
  exact h0
noncomputable def CQ (M : jm) (k : Int) : Prop := ∀ c : Int, 0 ≤ c → c < k → M 652 c = M 657 c ∧ M 653 c = M 658 c
theorem CQ.add {M : jm} {k v w : Int} (h : CQ M k) (e1 : M 657 k = v) (e2 : M 658 k = w) : CQ (ju (ju M 652 k v) 653 k w) (k + 1) := by
  intro c c0 c1
  rw [ju_c _ _ (by decide : (652 : Nat) ≠ 653), ju_c _ _ (by decide : (657 : Nat) ≠ 653), ju_c _ _ (by decide : (657 : Nat) ≠ 652), ju_c _ _ (by decide : (658 : Nat) ≠ 653), ju_c _ _ (by decide : (658 : Nat) ≠ 652)]
  by_cases q : c = k
  · subst q
    rw [ju_same, ju_same]
    exact ⟨e1.symm, e2.symm⟩
  · rw [ju_i _ _ q, ju_i _ _ q, ju_c _ _ (by decide : (653 : Nat) ≠ 652)]
    exact h c c0 (by omega)
noncomputable def CD (M : jm) (k : Int) : Prop := ∀ c : Int, 0 ≤ c → c < k → M 654 c = M 659 c ∧ M 655 c = M 660 c
theorem CD.add {M : jm} {k v w : Int} (h : CD M k) (e1 : M 659 k = v) (e2 : M 660 k = w) : CD (ju (ju M 654 k v) 655 k w) (k + 1) := by
  intro c c0 c1
  rw [ju_c _ _ (by decide : (654 : Nat) ≠ 655), ju_c _ _ (by decide : (659 : Nat) ≠ 655), ju_c _ _ (by decide : (659 : Nat) ≠ 654), ju_c _ _ (by decide : (660 : Nat) ≠ 655), ju_c _ _ (by decide : (660 : Nat) ≠ 654)]
  by_cases q : c = k
  · subst q
    rw [ju_same, ju_same]
    exact ⟨e1.symm, e2.symm⟩
  · rw [ju_i _ _ q, ju_i _ _ q, ju_c _ _ (by decide : (655 : Nat) ≠ 654)]
    exact h c c0 (by omega)
theorem CQ.o {M : jm} {k : Int} (h : CQ M k) {i v w : Int} : CQ (ju (ju M 654 i v) 655 i w) k := by
  intro c c0 c1
  rw [ju_c _ _ (by decide), ju_c _ _ (by decide), ju_c _ _ (by decide), ju_c _ _ (by decide), ju_c _ _ (by decide), ju_c _ _ (by decide), ju_c _ _ (by decide), ju_c _ _ (by decide)]
  exact h c c0 c1
theorem OPk.mono0 {co ar co' ar' ht : Int → Int} {nc nc' n cd i : Int} {pe pe' : Prop} (h : OPk co ar nc ht n pe i) (h0 : 0 ≤ i) (hi : i < cd) (hc : ∀ j, 0 ≤ j → j < cd → co' j = co j) (ha : ar' i = ar i) (hn : n ≤ cd) (hnc : nc ≤ nc') (hp : pe → pe') : OPk co' ar' nc' ht n pe' i := by
  obtain ⟨⟨a1, a2, a3, a4, a5, a6⟩, b, c, d⟩ := h
  unfold OPk
  rw [hc i h0 hi, ha]
  refine ⟨⟨a1, a2, a3, a4, a5, a6⟩, fun q => ?_, c, fun q => ?_⟩
  · rcases b q with w | ⟨w1, w2, w3, w4⟩
    · exact Or.inl (hp w)
    · refine Or.inr ⟨w1, w2, w3, ?_⟩
      rw [hc _ (by omega) (by omega)]
      exact w4
  · obtain ⟨w1, w2, w3, w4⟩ := d q
    refine ⟨w1, ?_, w3, by omega⟩
    rw [hc _ (by omega) (by omega)]
    exact w2
theorem ENk.mono0 {co co' ht : Int → Int} {n cd e : Int} (h : ENk co ht n e) (hc : ∀ j, 0 ≤ j → j < cd → co' j = co j) (hn : n ≤ cd) : ENk co' ht n e := by
  obtain ⟨a1, a2, a3, a4⟩ := h
  refine ⟨a1, a2, a3, ?_⟩
  rcases a4 with w | w
  · exact Or.inl w
  · by_cases z : e = 0
    · exact Or.inl z
    · refine Or.inr ?_
      rw [hc _ (by omega) (by omega)]
      exact w
theorem MC.make {M : jm} (h : RD M) (e : M 598 82 = M 598 88) (q : CQ M (M 598 82)) {k : Int} (c : CD M k) (hk : M 598 90 ≤ k) : MC M := by
  obtain ⟨h0, h2, h3, h4, h5⟩ := h
  rw [XS.rows] at h0
  obtain ⟨ht, P, D, E, g, i1, i2, i3, i4, i5, i6, i7, i8⟩ := h0
  have hc : ∀ j, 0 ≤ j → j < M 598 90 → M 654 j = M 659 j := fun j j0 j1 => (c j j0 (by omega)).1
  refine Or.inr ⟨ht, M 598 90, h3, h4, ?_, ?_, ?_⟩
  · intro i hi0 hi1
    refine (i1 i hi0 hi1).mono0 hi0 hi1 hc (c i hi0 (by omega)).2 (by omega) (by omega) (fun w => ?_)
    rcases w with w | w | w
    · obtain ⟨j, j0, j1, _⟩ := w
      omega
    · obtain ⟨j, j0, j1, _⟩ := w
      omega
    · omega
  · intro d d0 d1
    obtain ⟨u1, u2⟩ := q d d0 d1
    rw [u1, u2]
    obtain ⟨w1, w2⟩ := i5 d d0 (by omega)
    exact ⟨w1.mono0 hc (by omega), w2.imp (fun z => z) (fun z => z.mono0 hc (by omega))⟩
  · rw [hc _ (by omega) (by omega)]
    exact h5
theorem r_resolve_L21 {A : Nat → Option (Nat × (Nat → Int32))} {Q : Option Value → jm → Prop} {M0 : jm} (q : ∀ (M' : jm), RI M' → RH M' → RF M' → XS M' 0 0 0 1 (-1) → (∀ (a : Nat) (i : Int), a ≠ 598 → a ≠ 660 → M' a i = M0 a i) → (∀ (i : Int), i ≠ 80 → i ≠ 81 → M' 598 i = M0 598 i) → Q none M') (nO : Nat) (ko : ∀ (M : jm) (k : Int), RI M → RH M → RF M → (∀ (a : Nat) (i : Int), a ≠ 598 → a ≠ 660 → M a i = M0 a i) → (∀ (i : Int), i ≠ 80 → i ≠ 81 → M 598 i = M0 598 i) → 0 ≤ k ∧ k ≤ 300 → XS M 0 0 0 1 (-1) → AK M → 300 - k ≤ nO → jr A 1 xm_370 2 [(1, .int (Int32.ofInt (k))), (0, .ref (598))] [] M Q) : ∀ (nM : Nat) (M : jm) (i : Int) (c : Int) (k : Int), RI M → RH M → RF M → (∀ (a : Nat) (i : Int), a ≠ 598 → a ≠ 660 → M a i = M0 a i) → (∀ (i : Int), i ≠ 80 → i ≠ 81 → M 598 i = M0 598 i) → 0 ≤ i ∧ i ≤ 16 → (-1) ≤ c ∧ c ≤ 15 → 0 ≤ k ∧ k ≤ 299 → 300 - (k + 1) ≤ nO → XS M 0 0 0 1 (-1) → AK M → k < M 598 96 → c < M 598 88 ∨ c = -1 → 16 - i ≤ nM → jr A 1 xm_370 21 [(3, .int (Int32.ofInt (i))), (2, .int (Int32.ofInt (c))), (1, .int (Int32.ofInt (k))), (0, .ref (598))] [] M Q := by
  intro nM
  induction nM using Nat.strongRecOn with
  | ind nM ih =>
    intro M i c k hI_M hH_M hS_M hF_M hG_M h_i h_c h_k hy0 hy1 hy2 hy3 hy4 hm
    have hX := hy1
    have hA := hy2
    have ha := hA k (by omega) (by omega)
    have dpx := XS.dep hy1
    have b90 : (0 : Int) ≤ M 598 90 ∧ M 598 90 ≤ 2200 := hI_M 598 90 (Nat.le_of_ble_eq_true rfl)
    refine jr.iload_n rfl rfl ?_
    refine jr.aload_n rfl rfl ?_
    obtain ⟨v1, e1⟩ : ∃ z, M 598 88 = z := ⟨_, rfl⟩
    have b1 : 0 ≤ v1 ∧ v1 ≤ 16 := by rw [← e1]; exact hI_M 598 88 (Nat.le_of_ble_eq_true rfl)
    refine jr.getf (i := 88) (x := v1) (v := .int (Int32.ofInt (v1))) rfl rfl (nlt rfl) rfl (nlt rfl) rfl rfl e1 rfl ?_
    refine jr.icmp_ge rfl rfl (by first | (refine rgb (by assumption) ?_; exact rfl) | omega) (by first | (refine rgb (by assumption) ?_; exact rfl) | omega) (fun h26 => ?_) (fun h26 => ?_)
    · refine jr.iload_n rfl rfl ?_
      refine jr.iconst rfl ?_
      refine jr.icmp_ne rfl rfl (by first | (refine rgb (by assumption) ?_; exact rfl) | omega) (rgl rfl) (fun h59 => ?_) (fun h59 => ?_)
      · refine jr.aload_n rfl rfl ?_
        refine jr.getf (i := 95) (v := .ref 660) rfl rfl (nlt rfl) rfl (nlt rfl) rfl rfl rfl rfl ?_
        refine jr.aload_n rfl rfl ?_
        refine jr.getf (i := 99) (v := .ref 663) rfl rfl (nlt rfl) rfl (nlt rfl) rfl rfl rfl rfl ?_
        refine jr.iload_n rfl rfl ?_
        obtain ⟨v2, e2⟩ : ∃ z, M 663 k = z := ⟨_, rfl⟩
        have b2 : 0 ≤ v2 ∧ v2 ≤ 2200 := by rw [← e2]; exact (by have q := hI_M 663 k (Nat.le_of_ble_eq_true rfl); rw [xri_row rfl rfl] at q; exact q)
        refine jr.iald (i := k) (x := v2) rfl (nlt rfl) rfl (Nat.le_of_ble_eq_true rfl) (by omega) (by omega) e2 ?_
        refine jr.iload_n rfl rfl ?_
        refine jr.i2l rfl (by omega) ?_
        refine jr.last (i := v2) (x := c) rfl (nlt rfl) rfl (Nat.le_of_ble_eq_true rfl) (by omega) (by omega) ?_
        refine jr.iinc (ls' := [_, _, _, _]) rfl rfl (nlt rfl) rfl ?_
        refine jr.goto rfl rfl ?_
        refine jr.pick (ls := [_, _]) [0, 3] rfl rfl ?_
        exact ko (ju M 660 v2 c) (k + 1) (RI.u hI_M (a := 660) (i := v2) (by rw [xri_row rfl rfl]; show (-9223372036854775808 : Int) ≤ _ ∧ _ ≤ (9223372036854775807 : Int); omega)) (RH.o hH_M (by decide) (by decide) (by decide)) (RF.o hS_M (by decide) (by decide))  (fun a i f598 f660 => ((ju_c _ _ f660).trans (hF_M a i f598 f660))) (fun i g80 g81 => ((ju_c _ _ (by decide)).trans (hG_M i g80 g81))) (by omega) (XS.asks hX (by rw [← e2]; exact ha.2.2) (by omega)) (AK.cp (M' := (ju M 660 v2 c)) hA (CP.o (CP.rfl _) (by decide) (Or.inl (by decide))) (fun i => ju_c _ _ (by decide)) (ju_c _ _ (by decide))) (by omega)
      · refine jr.aload_n rfl rfl ?_
        refine jr.bipush rfl (jbp _ (nlt rfl)) ?_
        refine jr.aload_n rfl rfl ?_
        refine jr.getf (i := 98) (v := .ref 662) rfl rfl (nlt rfl) rfl (nlt rfl) rfl rfl rfl rfl ?_
        refine jr.iload_n rfl rfl ?_
        obtain ⟨v3, e3⟩ : ∃ z, M 662 k = z := ⟨_, rfl⟩
        have b3 : 0 ≤ v3 ∧ v3 ≤ 1600 := by rw [← e3]; exact (by have q := hI_M 662 k (Nat.le_of_ble_eq_true rfl); rw [xri_row rfl rfl] at q; exact q)
        refine jr.iald (i := k) (x := v3) rfl (nlt rfl) rfl (Nat.le_of_ble_eq_true rfl) (by omega) (by omega) e3 ?_
        obtain ⟨v5, e5⟩ : ∃ z, M 598 73 = z := ⟨_, rfl⟩
        have b5 : 0 ≤ v5 ∧ v5 ≤ 1600 := by rw [← e5]; exact hI_M 598 73 (Nat.le_of_ble_eq_true rfl)
        obtain ⟨v7, e7⟩ : ∃ z, M 598 74 = z := ⟨_, rfl⟩
        have b7 : 0 ≤ v7 ∧ v7 ≤ 4 := by rw [← e7]; exact hI_M 598 74 (Nat.le_of_ble_eq_true rfl)
        obtain ⟨v9, e9⟩ : ∃ z, M 598 89 = z := ⟨_, rfl⟩
        have b9 : 0 ≤ v9 ∧ v9 ≤ 301 := by rw [← e9]; exact hI_M 598 89 (Nat.le_of_ble_eq_true rfl)
        obtain ⟨v11, e11⟩ : ∃ z, M 598 100 = z := ⟨_, rfl⟩
        have b11 : 0 ≤ v11 ∧ v11 ≤ 13 := by rw [← e11]; exact hI_M 598 100 (Nat.le_of_ble_eq_true rfl)
        refine jr_v rfl rfl (Or.inl rfl) rfl rfl (nlt rfl) rfl ⟨rfl, Nat.le_of_ble_eq_true rfl, Nat.le_of_ble_eq_true rfl⟩ rfl (jc.deep (r_fails hI_M hH_M hS_M  (by omega) (by omega)  (fun M4 hI_M4 hH_M4 hS_M4  w4_0 w4_1 w4_2 => ?_)) (Nat.le_of_ble_eq_true rfl))
        have tk4 : TK M4 = TK M := TK.fr (w4_2 73 (zne rfl) (zne rfl)) (w4_2 74 (zne rfl) (zne rfl))
        have x4_73 := w4_2 73 (zne rfl) (zne rfl)
        have x4_74 := w4_2 74 (zne rfl) (zne rfl)
        have x4_89 := w4_2 89 (zne rfl) (zne rfl)
        have x4_100 := w4_2 100 (zne rfl) (zne rfl)
        have hX := XS.fr2 hX w4_1 (w4_2 88 (zne rfl) (zne rfl)) (w4_2 90 (zne rfl) (zne rfl)) (w4_2 101 (zne rfl) (zne rfl)) (w4_2 107 (zne rfl) (zne rfl)) (k' := 0) (d' := 0) (z' := 1) (by omega) (by omega) (by omega) (by omega)
        have hA := AK.cp hA (CP.f (CP.rfl _) (fun i => w4_1 659 i (nne rfl)) (w4_2 90 (zne rfl) (zne rfl))) (fun i => w4_1 663 i (nne rfl)) (w4_2 96 (zne rfl) (zne rfl))
        refine jr.goto rfl rfl ?_
        refine jr.iinc (ls' := [_, _, _, _]) rfl rfl (nlt rfl) rfl ?_
        refine jr.goto rfl rfl ?_
        refine jr.pick (ls := [_, _]) [0, 3] rfl rfl ?_
        exact ko M4 (k + 1) hI_M4 hH_M4 hS_M4  (fun a i f598 f660 => ((w4_1 a i f598).trans (hF_M a i f598 f660))) (fun i g80 g81 => ((w4_2 i g80 g81).trans (hG_M i g80 g81))) (by omega) hX hA (by omega)
    · refine jr.aload_n rfl rfl ?_
      refine jr.getf (i := 91) (v := .ref 656) rfl rfl (nlt rfl) rfl (nlt rfl) rfl rfl rfl rfl ?_
      refine jr.iload_n rfl rfl ?_
      obtain ⟨v13, e13⟩ : ∃ z, M 656 i = z := ⟨_, rfl⟩
      have b13 : (-9223372036854775808) ≤ v13 ∧ v13 ≤ 9223372036854775807 := by rw [← e13]; exact (by have q := hI_M 656 i (Nat.le_of_ble_eq_true rfl); rw [xri_row rfl rfl] at q; exact q)
      refine jr.lald (i := i) (x := v13) rfl (nlt rfl) rfl (Nat.le_of_ble_eq_true rfl) (by omega) (by omega) e13 ?_
      refine jr.aload_n rfl rfl ?_
      refine jr.getf (i := 97) (v := .ref 661) rfl rfl (nlt rfl) rfl (nlt rfl) rfl rfl rfl rfl ?_
      refine jr.iload_n rfl rfl ?_
      obtain ⟨v14, e14⟩ : ∃ z, M 661 k = z := ⟨_, rfl⟩
      have b14 : (-9223372036854775808) ≤ v14 ∧ v14 ≤ 9223372036854775807 := by rw [← e14]; exact (by have q := hI_M 661 k (Nat.le_of_ble_eq_true rfl); rw [xri_row rfl rfl] at q; exact q)
      refine jr.lald (i := k) (x := v14) rfl (nlt rfl) rfl (Nat.le_of_ble_eq_true rfl) (by omega) (by omega) e14 ?_
      refine jr.lcmp_ne rfl rfl rfl (by omega) (by omega) (fun h41 => ?_) (fun h41 => ?_)
      · refine jr.iload_n rfl rfl ?_
        refine jr.istore_n (ls' := [_, _, _, _]) rfl (nlt rfl) rfl ?_
        refine jr.iinc (ls' := [_, _, _, _]) rfl rfl (nlt rfl) rfl ?_
        refine jr.goto rfl rfl ?_
        obtain ⟨v15, e15⟩ : ∃ z, M 598 96 = z := ⟨_, rfl⟩
        have b15 : 0 ≤ v15 ∧ v15 ≤ 300 := by rw [← e15]; exact hI_M 598 96 (Nat.le_of_ble_eq_true rfl)
        refine jr.pick (ls := [_, _, _, _]) [0, 1, 2, 3] rfl rfl ?_
        exact ih (nM - 1) (by omega) M (i + 1) c k hI_M hH_M hS_M  (fun a i f598 f660 => (hF_M a i f598 f660)) (fun i g80 g81 => (hG_M i g80 g81)) (by omega) (by omega) (by omega) (by omega) hX hA (by rw [e15] <;> omega) (by rw [e1] <;> omega) (by omega)
      · refine jr.iload_n rfl rfl ?_
        refine jr.goto rfl rfl ?_
        refine jr.istore_n (ls' := [_, _, _, _]) rfl (nlt rfl) rfl ?_
        refine jr.iinc (ls' := [_, _, _, _]) rfl rfl (nlt rfl) rfl ?_
        refine jr.goto rfl rfl ?_
        obtain ⟨v16, e16⟩ : ∃ z, M 598 96 = z := ⟨_, rfl⟩
        have b16 : 0 ≤ v16 ∧ v16 ≤ 300 := by rw [← e16]; exact hI_M 598 96 (Nat.le_of_ble_eq_true rfl)
        refine jr.pick (ls := [_, _, _, _]) [0, 1, 2, 3] rfl rfl ?_
        exact ih (nM - 1) (by omega) M (i + 1) i k hI_M hH_M hS_M  (fun a i f598 f660 => (hF_M a i f598 f660)) (fun i g80 g81 => (hG_M i g80 g81)) (by omega) (by omega) (by omega) (by omega) hX hA (by rw [e16] <;> omega) (by rw [e1] <;> omega) (by omega)
theorem r_resolve_L2 {A : Nat → Option (Nat × (Nat → Int32))} {Q : Option Value → jm → Prop} {M0 : jm} (q : ∀ (M' : jm), RI M' → RH M' → RF M' → XS M' 0 0 0 1 (-1) → (∀ (a : Nat) (i : Int), a ≠ 598 → a ≠ 660 → M' a i = M0 a i) → (∀ (i : Int), i ≠ 80 → i ≠ 81 → M' 598 i = M0 598 i) → Q none M') : ∀ (nM : Nat) (M : jm) (k : Int), RI M → RH M → RF M → (∀ (a : Nat) (i : Int), a ≠ 598 → a ≠ 660 → M a i = M0 a i) → (∀ (i : Int), i ≠ 80 → i ≠ 81 → M 598 i = M0 598 i) → 0 ≤ k ∧ k ≤ 300 → XS M 0 0 0 1 (-1) → AK M → 300 - k ≤ nM → jr A 1 xm_370 2 [(1, .int (Int32.ofInt (k))), (0, .ref (598))] [] M Q := by
  intro nM
  induction nM using Nat.strongRecOn with
  | ind nM ih =>
    intro M k hI_M hH_M hS_M hF_M hG_M h_k hy0 hy1 hm
    have hX := hy0
    have hA := hy1
    have dpx := XS.dep hy0
    have b96 : (0 : Int) ≤ M 598 96 ∧ M 598 96 ≤ 300 := hI_M 598 96 (Nat.le_of_ble_eq_true rfl)
    refine jr.iload_n rfl rfl ?_
    refine jr.aload_n rfl rfl ?_
    obtain ⟨v1, e1⟩ : ∃ z, M 598 96 = z := ⟨_, rfl⟩
    have b1 : 0 ≤ v1 ∧ v1 ≤ 300 := by rw [← e1]; exact hI_M 598 96 (Nat.le_of_ble_eq_true rfl)
    refine jr.getf (i := 96) (x := v1) (v := .int (Int32.ofInt (v1))) rfl rfl (nlt rfl) rfl (nlt rfl) rfl rfl e1 rfl ?_
    refine jr.icmp_ge rfl rfl (by first | (refine rgb (by assumption) ?_; exact rfl) | omega) (by first | (refine rgb (by assumption) ?_; exact rfl) | omega) (fun h7 => ?_) (fun h7 => ?_)
    · exact jr.vreturn rfl rfl (q _ hI_M hH_M hS_M  hX (fun a i f598 f660 => (hF_M a i f598 f660)) (fun i g80 g81 => (hG_M i g80 g81)))
    · refine jr.aload_n rfl rfl ?_
      refine jr_v rfl rfl (Or.inl rfl) rfl rfl (nlt rfl) rfl ⟨rfl, Nat.le_of_ble_eq_true rfl, Nat.le_of_ble_eq_true rfl⟩ rfl (jc.deep (c_good hI_M  (fun t11_0 => ?_) (fun f11_0 => ?_)) (Nat.le_of_ble_eq_true rfl))
      · refine jr.if_eq rfl rfl (by first | exact rgl rfl | omega) (fun h => absurd h (by decide)) (fun _ => ?_)
        refine jr.iconst rfl ?_
        refine jr.istore_n (ls' := [_, _, _]) rfl (nlt rfl) rfl ?_
        refine jr.iconst rfl ?_
        refine jr.istore_n (ls' := [_, _, _, _]) rfl (nlt rfl) rfl ?_
        obtain ⟨v2, e2⟩ : ∃ z, M 598 88 = z := ⟨_, rfl⟩
        have b2 : 0 ≤ v2 ∧ v2 ≤ 16 := by rw [← e2]; exact hI_M 598 88 (Nat.le_of_ble_eq_true rfl)
        refine jr.pick (ls := [_, _, _, _]) [0, 1, 2, 3] rfl rfl ?_
        exact r_resolve_L21 q (nM - 1) (ih (nM - 1) (by omega)) 16 M 0 (-1) k hI_M hH_M hS_M  (fun a i f598 f660 => (hF_M a i f598 f660)) (fun i g80 g81 => (hG_M i g80 g81)) (by omega) (by omega) (by omega) (by omega) hX hA (by rw [e1] <;> omega) (by rw [e2] <;> omega) (by omega)
      · refine jr.if_eq rfl rfl (by first | exact rgl rfl | omega) (fun _ => ?_) (fun h => absurd (by decide) h)
        exact jr.vreturn rfl rfl (q _ hI_M hH_M hS_M  hX (fun a i f598 f660 => (hF_M a i f598 f660)) (fun i g80 g81 => (hG_M i g80 g81)))
theorem r_resolve {A : Nat → Option (Nat × (Nat → Int32))} {Q : Option Value → jm → Prop} {M : jm} (hI_M : RI M) (hH_M : RH M) (hS_M : RF M) (p0 : XS M 0 0 0 1 (-1)) (p1 : AK M) (q : ∀ (M' : jm), RI M' → RH M' → RF M' → XS M' 0 0 0 1 (-1) → (∀ (a : Nat) (i : Int), a ≠ 598 → a ≠ 660 → M' a i = M a i) → (∀ (i : Int), i ≠ 80 → i ≠ 81 → M' 598 i = M 598 i) → Q none M') : jc A 2 370 [.ref (598)] M Q := by
  have hX := p0
  have hA := p1
  have b96 : (0 : Int) ≤ M 598 96 ∧ M 598 96 ≤ 300 := hI_M 598 96 (Nat.le_of_ble_eq_true rfl)
  have dpx := XS.dep p0
  refine jc_of (m := xm_370) rfl (Nat.le_of_ble_eq_true rfl) rfl ?_
  refine jr.iconst rfl ?_
  refine jr.istore_n (ls' := [_, _]) rfl (nlt rfl) rfl ?_
  refine jr.pick (ls := [_, _]) [0, 1] rfl rfl ?_
  exact r_resolve_L2 q 300 M 0 hI_M hH_M hS_M  (fun a i f598 f660 => rfl) (fun i g80 g81 => rfl) (by omega) hX hA (by omega)
end
