section
theorem r_closeBlock {A : Nat → Option (Nat × (Nat → Int32))} {Q : Option Value → jm → Prop} {M : jm} (hI_M : RI M) (hH_M : RH M) (hS_M : RF M) (p0 : DS M 0) (p1 : 1 ≤ M 598 107) (p2 : 1 ≤ M 598 88) (p3 : M 598 74 = 3) (q : ∀ (M' : jm), RI M' → RH M' → RF M' → (BT M' ∨ (TK M' < TK M ∧ ((1 ≤ M' 598 107 ∧ DS M' 0) ∨ (M' 598 107 = 0 ∧ DS M' 1 ∧ 1 ≤ M' 598 90 ∧ M' 659 (M' 598 90 - 1) = 3)))) → TK M' ≤ TK M → M' 598 73 ≤ M' 598 72 → (M' 598 80 ≠ 0 ∨ TK M' < TK M) → (∀ (a : Nat) (i : Int), a ≠ 598 → a ≠ 658 → a ≠ 659 → a ≠ 660 → a ≠ 668 → a ≠ 669 → M' a i = M a i) → (∀ (i : Int), i ≠ 73 → i ≠ 74 → i ≠ 75 → i ≠ 76 → i ≠ 77 → i ≠ 78 → i ≠ 79 → i ≠ 80 → i ≠ 81 → i ≠ 90 → i ≠ 100 → i ≠ 101 → i ≠ 107 → M' 598 i = M 598 i) → Q none M') : jc A 6 368 [.ref (598)] M Q := by
  obtain ⟨ds1, ds2, ds3, ds4, ds5, ds6, ds7, ds8, ds9⟩ := id p0
  have dpx := XS.dep ds2
  have sl := XS.sgle ds2
  have b101 : (0 : Int) ≤ M 598 101 ∧ M 598 101 ≤ 1 := hI_M 598 101 (by decide)
  have bM_107 : (0 : Int) ≤ M 598 107 ∧ M 598 107 ≤ 16 := hI_M 598 107 (by decide)
  have bM_73 : (0 : Int) ≤ M 598 73 ∧ M 598 73 ≤ 1600 := hI_M 598 73 (by decide)
  have bM_88 : (0 : Int) ≤ M 598 88 ∧ M 598 88 ≤ 16 := hI_M 598 88 (by decide)
  have bM_100 : (0 : Int) ≤ M 598 100 ∧ M 598 100 ≤ 13 := hI_M 598 100 (by decide)
  refine jc_of (m := xm_368) rfl (Nat.le_of_ble_eq_true rfl) rfl ?_
  refine jr.aload_n rfl rfl ?_
  refine jr.dup rfl rfl ?_
  obtain ⟨v1, e1⟩ : ∃ z, M 598 107 = z := ⟨_, rfl⟩
  have b1 : 0 ≤ v1 ∧ v1 ≤ 16 := by rw [← e1]; exact hI_M 598 107 (by decide)
  refine jr.getf (i := 107) (x := v1) (v := .int (Int32.ofInt (v1))) rfl rfl (by decide) rfl (by decide) rfl rfl e1 rfl ?_
  refine jr.iconst rfl ?_
  refine jr.isub rfl ?_
  refine jr.putf (i := 107) (x := (v1 - 1)) rfl rfl (by decide) rfl (by decide) rfl rfl rfl rfl rfl ?_
  refine jr.aload_n rfl rfl ?_
  refine jr.dup rfl rfl ?_
  obtain ⟨v2, e2⟩ : ∃ z, M 598 100 = z := ⟨_, rfl⟩
  have b2 : 0 ≤ v2 ∧ v2 ≤ 13 := by rw [← e2]; exact hI_M 598 100 (by decide)
  refine jr.getf (i := 100) (x := v2) (v := .int (Int32.ofInt (v2))) rfl rfl (by decide) rfl (by decide) rfl rfl ((ju_i _ _ (by decide)).trans e2) rfl ?_
  refine jr.iconst rfl ?_
  refine jr.isub rfl ?_
  refine jr.putf (i := 100) (x := (v2 - 1)) rfl rfl (by decide) rfl (by decide) rfl rfl rfl rfl rfl ?_
  refine jr.aload_n rfl rfl ?_
  refine jr.getf (i := 108) (v := .ref 668) rfl rfl (by decide) rfl (by decide) rfl rfl rfl rfl ?_
  refine jr.aload_n rfl rfl ?_
  refine jr.getf (i := 107) (x := (v1 - 1)) (v := .int (Int32.ofInt (v1 - 1))) rfl rfl (by decide) rfl (by decide) rfl rfl ((ju_i _ _ (by decide)).trans (ju_same _ _ _ _)) rfl ?_
  obtain ⟨v3, e3⟩ : ∃ z, M 668 (v1 - 1) = z := ⟨_, rfl⟩
  have b3 : 0 ≤ v3 ∧ v3 ≤ 3 := by rw [← e3]; exact (by have q := hI_M 668 (v1 - 1) (by decide); rw [xri_row rfl rfl] at q; exact q)
  refine jr.iald (i := (v1 - 1)) (x := v3) rfl (by decide) rfl (by decide) (by omega) (by omega) ((ju_c _ _ (by decide)).trans ((ju_c _ _ (by decide)).trans e3)) ?_
  refine jr.istore_n (ls' := [_, _]) rfl (by decide) rfl ?_
  refine jr.aload_n rfl rfl ?_
  refine jr.getf (i := 109) (v := .ref 669) rfl rfl (by decide) rfl (by decide) rfl rfl rfl rfl ?_
  refine jr.aload_n rfl rfl ?_
  refine jr.getf (i := 107) (x := (v1 - 1)) (v := .int (Int32.ofInt (v1 - 1))) rfl rfl (by decide) rfl (by decide) rfl rfl ((ju_i _ _ (by decide)).trans (ju_same _ _ _ _)) rfl ?_
  obtain ⟨v4, e4⟩ : ∃ z, M 669 (v1 - 1) = z := ⟨_, rfl⟩
  have b4 : 0 ≤ v4 ∧ v4 ≤ 2200 := by rw [← e4]; exact (by have q := hI_M 669 (v1 - 1) (by decide); rw [xri_row rfl rfl] at q; exact q)
  refine jr.iald (i := (v1 - 1)) (x := v4) rfl (by decide) rfl (by decide) (by omega) (by omega) ((ju_c _ _ (by decide)).trans ((ju_c _ _ (by decide)).trans e4)) ?_
  refine jr.istore_n (ls' := [_, _, _]) rfl (by decide) rfl ?_
  refine jr.aload_n rfl rfl ?_
  obtain ⟨v6, e6⟩ : ∃ z, M 598 73 = z := ⟨_, rfl⟩
  have b6 : 0 ≤ v6 ∧ v6 ≤ 1600 := by rw [← e6]; exact hI_M 598 73 (by decide)
  obtain ⟨v7, e7⟩ : ∃ z, M 598 72 = z := ⟨_, rfl⟩
  have b7 : 0 ≤ v7 ∧ v7 ≤ 1600 := by rw [← e7]; exact hI_M 598 72 (by decide)
  obtain ⟨v9, e9⟩ : ∃ z, M 598 74 = z := ⟨_, rfl⟩
  have b9 : 0 ≤ v9 ∧ v9 ≤ 4 := by rw [← e9]; exact hI_M 598 74 (by decide)
  obtain ⟨v11, e11⟩ : ∃ z, M 598 89 = z := ⟨_, rfl⟩
  have b11 : 0 ≤ v11 ∧ v11 ≤ 301 := by rw [← e11]; exact hI_M 598 89 (by decide)
  refine jr_v rfl rfl (Or.inl rfl) rfl rfl (by decide) rfl ⟨rfl, Nat.le_of_ble_eq_true rfl, Nat.le_of_ble_eq_true rfl⟩ rfl (jc.deep (r_next (RI.u (RI.u hI_M (a := 598) (i := 107) (show (0 : Int) ≤ _ ∧ _ ≤ (16 : Int) from by omega)) (a := 598) (i := 100) (show (0 : Int) ≤ _ ∧ _ ≤ (13 : Int) from by omega)) (RH.o (RH.o hH_M (by decide) (by decide) (by decide)) (by decide) (by decide) (by decide)) (RF.o (RF.o hS_M (by decide) (by decide)) (by decide) (by decide))   (by rw [((ju_i _ _ (by decide)).trans ((ju_i _ _ (by decide)).trans e6)), ((ju_i _ _ (by decide)).trans ((ju_i _ _ (by decide)).trans e7))]; omega) (fun M5 hI_M5 hH_M5 hS_M5  w5_0 w5_1 w5_2 w5_3 w5_4 w5_5 w5_6 => ?_)) (by decide))
  have y14 : (ju (ju M 598 107 (v1 - 1)) 598 100 (v2 - 1)) 598 73 = v6 := ((ju_i _ _ (by decide)).trans ((ju_i _ _ (by decide)).trans e6))
  have y15 : (ju (ju M 598 107 (v1 - 1)) 598 100 (v2 - 1)) 598 74 = v9 := ((ju_i _ _ (by decide)).trans ((ju_i _ _ (by decide)).trans e9))
  have tb5 : TK (ju (ju M 598 107 (v1 - 1)) 598 100 (v2 - 1)) = TK M := ((TK.o (Or.inr ⟨by decide, by decide⟩)).trans ((TK.o (Or.inr ⟨by decide, by decide⟩)).trans rfl))
  have y8 : (ju (ju M 598 107 (v1 - 1)) 598 100 (v2 - 1)) 598 73 = v6 := ((ju_i _ _ (by decide)).trans ((ju_i _ _ (by decide)).trans e6))
  have y10 : (ju (ju M 598 107 (v1 - 1)) 598 100 (v2 - 1)) 598 74 = v9 := ((ju_i _ _ (by decide)).trans ((ju_i _ _ (by decide)).trans e9))
  have y12 : (ju (ju M 598 107 (v1 - 1)) 598 100 (v2 - 1)) 598 89 = v11 := ((ju_i _ _ (by decide)).trans ((ju_i _ _ (by decide)).trans e11))
  have y13 : (ju (ju M 598 107 (v1 - 1)) 598 100 (v2 - 1)) 598 100 = v2 - 1 := (ju_same _ _ _ _)
  have x5_89 := w5_6 89 (by decide) (by decide) (by decide) (by decide) (by decide) (by decide) (by decide)
  have x5_100 := w5_6 100 (by decide) (by decide) (by decide) (by decide) (by decide) (by decide) (by decide)
  have x5_88 := w5_6 88 (by decide) (by decide) (by decide) (by decide) (by decide) (by decide) (by decide)
  have x5_101 := w5_6 101 (by decide) (by decide) (by decide) (by decide) (by decide) (by decide) (by decide)
  have bq74 : (0 : Int) ≤ M5 598 74 ∧ M5 598 74 ≤ 4 := hI_M5 598 74 (by decide)
  have adv := TK.adv (w5_3 (by omega)) (by omega) (by omega)
  have hu : 2 ≤ v3 → _ := fun q => XS.unblk ds2 e1 e2 (by omega) (by rw [e3]; exact q) (by omega)
  rw [e3, e4] at hu
  have hv : v3 ≤ 1 → _ := fun q => XS.unblk0 ds2 e1 e2 (by omega) (by rw [e3]; exact q)
  rw [e3] at hv
  have hU := fun (q : 2 ≤ v3) => XS.fr2 (hu q).1 w5_5 (w5_6 88 (by decide) (by decide) (by decide) (by decide) (by decide) (by decide) (by decide)) (w5_6 90 (by decide) (by decide) (by decide) (by decide) (by decide) (by decide) (by decide)) (w5_6 101 (by decide) (by decide) (by decide) (by decide) (by decide) (by decide) (by decide)) (w5_6 107 (by decide) (by decide) (by decide) (by decide) (by decide) (by decide) (by decide)) (k' := 0 + 2 + min 1 (M5 598 74)) (d' := 0) (z' := 0) (by omega) (by omega) (by omega) (by omega)
  have rl := RVq_le (show (0 : Int) ≤ 1 by decide) (M 598 101)
  have hV := fun (q : v3 ≤ 1) => XS.fr2 (hv q).1 w5_5 (w5_6 88 (by decide) (by decide) (by decide) (by decide) (by decide) (by decide) (by decide)) (w5_6 90 (by decide) (by decide) (by decide) (by decide) (by decide) (by decide) (by decide)) (w5_6 101 (by decide) (by decide) (by decide) (by decide) (by decide) (by decide) (by decide)) (w5_6 107 (by decide) (by decide) (by decide) (by decide) (by decide) (by decide) (by decide)) (k' := 0 + RVq 1 (M 598 101)) (d' := 0) (z' := 0) (by omega) (by omega) (by omega) (by omega)
  have hu2 := HIX.i hu
  have hv2 := HIX.i hv
  have hU2 := HIX.i hU
  have hV2 := HIX.i hV
  clear hu hv hU hV
  have hA := AK.cp (AK.cp (M' := (ju (ju M 598 107 (v1 - 1)) 598 100 (v2 - 1))) ds8 (CP.o (CP.o (CP.rfl _) (by decide) (Or.inr (by decide))) (by decide) (Or.inr (by decide))) (fun i => by rw [ju_c _ _ (by decide), ju_c _ _ (by decide)]) (by rw [ju_i _ _ (by decide), ju_i _ _ (by decide)])) (CP.f (CP.rfl _) (fun i => w5_5 659 i (by decide)) (w5_6 90 (by decide) (by decide) (by decide) (by decide) (by decide) (by decide) (by decide))) (fun i => w5_5 663 i (by decide)) (w5_6 96 (by decide) (by decide) (by decide) (by decide) (by decide) (by decide) (by decide))
  have hB := LB.fr (LB.fr (M' := (ju (ju M 598 107 (v1 - 1)) 598 100 (v2 - 1))) ds7 (fun i => by rw [ju_c _ _ (by decide), ju_c _ _ (by decide)]) (by rw [ju_i _ _ (by decide), ju_i _ _ (by decide)])) (fun i => w5_5 659 i (by decide)) (w5_6 90 (by decide) (by decide) (by decide) (by decide) (by decide) (by decide) (by decide))
  refine jr.iload_n rfl rfl ?_
  refine jr.if_ne rfl rfl (by omega) (fun h45 => ?_) (fun h45 => ?_)
  · have sx45 : (1 : Int) ≤ v3 := by omega
    clear h45
    refine jr.iload_n rfl rfl ?_
    refine jr.iconst rfl ?_
    refine jr.icmp_ne rfl rfl (by omega) (by omega) (fun h97 => ?_) (fun h97 => ?_)
    · have sx97 : (2 : Int) ≤ v3 := by omega
      clear h97
      refine jr.iload_n rfl rfl ?_
      refine jr.iconst rfl ?_
      refine jr.icmp_ne rfl rfl (by omega) (by omega) (fun h111 => ?_) (fun h111 => ?_)
      · have sx111 : (3 : Int) ≤ v3 := by omega
        clear h111
        refine jr.aload_n rfl rfl ?_
        refine jr.getf (i := 95) (v := .ref 660) rfl rfl (by decide) rfl (by decide) rfl rfl rfl rfl ?_
        refine jr.iload_n rfl rfl ?_
        refine jr.aload_n rfl rfl ?_
        obtain ⟨v16, e16⟩ : ∃ z, M 598 90 = z := ⟨_, rfl⟩
        have b16 : 0 ≤ v16 ∧ v16 ≤ 2200 := by rw [← e16]; exact hI_M 598 90 (by decide)
        have e17 : M5 598 90 = v16 := ((w5_6 90 (by decide) (by decide) (by decide) (by decide) (by decide) (by decide) (by decide)).trans ((ju_i _ _ (by decide)).trans ((ju_i _ _ (by decide)).trans e16)))
        refine jr.getf (i := 90) (x := v16) (v := .int (Int32.ofInt (v16))) rfl rfl (by decide) rfl (by decide) rfl rfl e17 rfl ?_
        refine jr.i2l rfl (by omega) ?_
        obtain ⟨_, hz0, hz1, hz2, hz3, hz4⟩ := hu2.e (by omega)
        refine jr.last (i := v4) (x := v16) rfl (by decide) rfl (by decide) (by omega) (by omega) ?_
        have e18 : M5 598 72 = v7 := ((w5_6 72 (by decide) (by decide) (by decide) (by decide) (by decide) (by decide) (by decide)).trans ((ju_i _ _ (by decide)).trans ((ju_i _ _ (by decide)).trans e7)))
        have y19 : (ju M5 660 v4 v16) 598 72 = v7 := ((ju_c _ _ (by decide)).trans e18)
        obtain ⟨v20, e20⟩ : ∃ z, M5 598 73 = z := ⟨_, rfl⟩
        have b20 : 0 ≤ v20 ∧ v20 ≤ 1600 := by rw [← e20]; exact hI_M5 598 73 (by decide)
        have y21 : (ju M5 660 v4 v16) 598 73 = v20 := ((ju_c _ _ (by decide)).trans e20)
        obtain ⟨v22, e22⟩ : ∃ z, M5 598 74 = z := ⟨_, rfl⟩
        have b22 : 0 ≤ v22 ∧ v22 ≤ 4 := by rw [← e22]; exact hI_M5 598 74 (by decide)
        have y23 : (ju M5 660 v4 v16) 598 74 = v22 := ((ju_c _ _ (by decide)).trans e22)
        obtain ⟨v24, e24⟩ : ∃ z, M5 598 79 = z := ⟨_, rfl⟩
        have b24 : 0 ≤ v24 ∧ v24 ≤ 255 := by rw [← e24]; exact hI_M5 598 79 (by decide)
        have y25 : (ju M5 660 v4 v16) 598 79 = v24 := ((ju_c _ _ (by decide)).trans e24)
        obtain ⟨v26, e26⟩ : ∃ z, M 598 80 = z := ⟨_, rfl⟩
        have b26 : 0 ≤ v26 ∧ v26 ≤ 7 := by rw [← e26]; exact hI_M 598 80 (by decide)
        have e27 : M5 598 80 = v26 := ((w5_6 80 (by decide) (by decide) (by decide) (by decide) (by decide) (by decide) (by decide)).trans ((ju_i _ _ (by decide)).trans ((ju_i _ _ (by decide)).trans e26)))
        have y28 : (ju M5 660 v4 v16) 598 80 = v26 := ((ju_c _ _ (by decide)).trans e27)
        have e29 : M5 598 89 = v11 := ((w5_6 89 (by decide) (by decide) (by decide) (by decide) (by decide) (by decide) (by decide)).trans ((ju_i _ _ (by decide)).trans ((ju_i _ _ (by decide)).trans e11)))
        have y30 : (ju M5 660 v4 v16) 598 89 = v11 := ((ju_c _ _ (by decide)).trans e29)
        have y31 : (ju M5 660 v4 v16) 598 90 = v16 := ((ju_c _ _ (by decide)).trans e17)
        obtain ⟨v32, e32⟩ : ∃ z, M 598 96 = z := ⟨_, rfl⟩
        have b32 : 0 ≤ v32 ∧ v32 ≤ 300 := by rw [← e32]; exact hI_M 598 96 (by decide)
        have e33 : M5 598 96 = v32 := ((w5_6 96 (by decide) (by decide) (by decide) (by decide) (by decide) (by decide) (by decide)).trans ((ju_i _ _ (by decide)).trans ((ju_i _ _ (by decide)).trans e32)))
        have y34 : (ju M5 660 v4 v16) 598 96 = v32 := ((ju_c _ _ (by decide)).trans e33)
        have e35 : M5 598 100 = v2 - 1 := ((w5_6 100 (by decide) (by decide) (by decide) (by decide) (by decide) (by decide) (by decide)).trans (ju_same _ _ _ _))
        have y36 : (ju M5 660 v4 v16) 598 100 = v2 - 1 := ((ju_c _ _ (by decide)).trans e35)
        have e37 : M5 598 107 = v1 - 1 := ((w5_6 107 (by decide) (by decide) (by decide) (by decide) (by decide) (by decide) (by decide)).trans ((ju_i _ _ (by decide)).trans (ju_same _ _ _ _)))
        have y38 : (ju M5 660 v4 v16) 598 107 = v1 - 1 := ((ju_c _ _ (by decide)).trans e37)
        have y39 : TK (ju M5 660 v4 v16) = TK M5 := ((TK.o (Or.inl (by decide))).trans rfl)
        have y40 : M5 598 90 = v16 := e17
        obtain ⟨_, hp0, hp1, hp2, hp3, hp4⟩ := hu2.e (by omega)
        have x90_ := w5_6 90 (by decide) (by decide) (by decide) (by decide) (by decide) (by decide) (by decide)
        have hX := XS.patch (hU2.e (by omega)) e17 (by omega) (by omega) (by rw [w5_5 659 _ (by decide), ju_c _ _ (by decide), ju_c _ _ (by decide)]; omega) (by have z := hB; unfold LB at z; rw [e17] at z; exact z.resolve_left (by omega))
        have hA := AK.cp (M' := (ju M5 660 v4 v16)) hA (CP.o (CP.rfl _) (by decide) (Or.inl (by decide))) (fun i => ju_c _ _ (by decide)) (ju_c _ _ (by decide))
        have hB := LB.fr (M' := (ju M5 660 v4 v16)) hB (fun i => ju_c _ _ (by decide)) (ju_c _ _ (by decide))
        exact jr.vreturn rfl rfl (q _ (RI.u hI_M5 (a := 660) (i := v4) (by rw [xri_row rfl rfl]; show (-9223372036854775808 : Int) ≤ _ ∧ _ ≤ (9223372036854775807 : Int); omega)) (RH.o hH_M5 (by decide) (by decide) (by decide)) (RF.o hS_M5 (by decide) (by decide))  (Or.inr ⟨by omega, Or.inl ⟨by omega, ⟨by omega, XS.adj hX (k' := 0) (z' := 0) (by omega) (by omega) (by omega), by omega, by omega, by omega, by omega, hB, hA, by omega⟩⟩⟩) (by omega) (by omega) (by omega) (fun a i f598 f658 f659 f660 f668 f669 => ((ju_c _ _ f660).trans ((w5_5 a i f598).trans ((ju_c _ _ f598).trans ((ju_c _ _ f598).trans rfl))))) (fun i g73 g74 g75 g76 g77 g78 g79 g80 g81 g90 g100 g101 g107 => ((ju_c _ _ (by decide)).trans ((w5_6 i g73 g74 g75 g76 g77 g78 g79).trans ((ju_i _ _ g100).trans ((ju_i _ _ g107).trans rfl))))))
      · refine jr.aload_n rfl rfl ?_
        refine jr.iconst rfl ?_
        refine jr_v rfl rfl (Or.inl rfl) rfl rfl (by decide) rfl ⟨rfl, Nat.le_of_ble_eq_true rfl, Nat.le_of_ble_eq_true rfl⟩ rfl (jc.deep (c_isWord hI_M5 (by omega) (fun t116_0 t116_1 => ?_) (fun f116_0 => ?_)) (by decide))
        · refine jr.if_eq rfl rfl (by omega) (fun h => absurd h (by decide)) (fun _ => ?_)
          refine jr.aload_n rfl rfl ?_
          obtain ⟨v41, e41⟩ : ∃ z, M 598 90 = z := ⟨_, rfl⟩
          have b41 : 0 ≤ v41 ∧ v41 ≤ 2200 := by rw [← e41]; exact hI_M 598 90 (by decide)
          have e42 : M5 598 90 = v41 := ((w5_6 90 (by decide) (by decide) (by decide) (by decide) (by decide) (by decide) (by decide)).trans ((ju_i _ _ (by decide)).trans ((ju_i _ _ (by decide)).trans e41)))
          refine jr.getf (i := 90) (x := v41) (v := .int (Int32.ofInt (v41))) rfl rfl (by decide) rfl (by decide) rfl rfl e42 rfl ?_
          refine jr.istore_n (ls' := [_, _, _, _]) rfl (by decide) rfl ?_
          refine jr.aload_n rfl rfl ?_
          refine jr.iconst rfl ?_
          refine jr.lconst (x := 0) rfl (by decide) ?_
          refine jr_v rfl rfl (Or.inl rfl) rfl rfl (by decide) rfl ⟨rfl, Nat.le_of_ble_eq_true rfl, Nat.le_of_ble_eq_true rfl⟩ rfl (jc.deep (r_emit e42 (by omega) (by omega) (by omega) ?_) (by decide))
          refine jr.aload_n rfl rfl ?_
          refine jr.getf (i := 95) (v := .ref 660) rfl rfl (by decide) rfl (by decide) rfl rfl rfl rfl ?_
          refine jr.iload_n rfl rfl ?_
          refine jr.aload_n rfl rfl ?_
          refine jr.getf (i := 90) (x := (v41 + 1)) (v := .int (Int32.ofInt (v41 + 1))) rfl rfl (by decide) rfl (by decide) rfl rfl (ju_same _ _ _ _) rfl ?_
          refine jr.i2l rfl (by omega) ?_
          obtain ⟨_, hz0, hz1, hz2, hz3, hz4⟩ := hu2.e (by omega)
          refine jr.last (i := v4) (x := (v41 + 1)) rfl (by decide) rfl (by decide) (by omega) (by omega) ?_
          refine jr.aload_n rfl rfl ?_
          obtain ⟨v44, e44⟩ : ∃ z, M5 598 73 = z := ⟨_, rfl⟩
          have b44 : 0 ≤ v44 ∧ v44 ≤ 1600 := by rw [← e44]; exact hI_M5 598 73 (by decide)
          have e45 : M5 598 72 = v7 := ((w5_6 72 (by decide) (by decide) (by decide) (by decide) (by decide) (by decide) (by decide)).trans ((ju_i _ _ (by decide)).trans ((ju_i _ _ (by decide)).trans e7)))
          have e47 : M5 598 100 = v2 - 1 := ((w5_6 100 (by decide) (by decide) (by decide) (by decide) (by decide) (by decide) (by decide)).trans (ju_same _ _ _ _))
          have e49 : M5 598 107 = v1 - 1 := ((w5_6 107 (by decide) (by decide) (by decide) (by decide) (by decide) (by decide) (by decide)).trans ((ju_i _ _ (by decide)).trans (ju_same _ _ _ _)))
          obtain ⟨v52, e52⟩ : ∃ z, M5 598 74 = z := ⟨_, rfl⟩
          have b52 : 0 ≤ v52 ∧ v52 ≤ 4 := by rw [← e52]; exact hI_M5 598 74 (by decide)
          have e56 : M5 598 89 = v11 := ((w5_6 89 (by decide) (by decide) (by decide) (by decide) (by decide) (by decide) (by decide)).trans ((ju_i _ _ (by decide)).trans ((ju_i _ _ (by decide)).trans e11)))
          have e58 : M5 598 100 = v2 - 1 := ((w5_6 100 (by decide) (by decide) (by decide) (by decide) (by decide) (by decide) (by decide)).trans (ju_same _ _ _ _))
          refine jr_v rfl rfl (Or.inl rfl) rfl rfl (by decide) rfl ⟨rfl, Nat.le_of_ble_eq_true rfl, Nat.le_of_ble_eq_true rfl⟩ rfl (jc.deep (r_next (RI.u (RI.u (RI.u (RI.u hI_M5 (a := 659) (i := v41) (by rw [xri_row rfl rfl]; show (0 : Int) ≤ _ ∧ _ ≤ (1000 : Int); omega)) (a := 660) (i := v41) (by rw [xri_row rfl rfl]; show (-9223372036854775808 : Int) ≤ _ ∧ _ ≤ (9223372036854775807 : Int); omega)) (a := 598) (i := 90) (show (0 : Int) ≤ _ ∧ _ ≤ (2200 : Int) from by omega)) (a := 660) (i := v4) (by rw [xri_row rfl rfl]; show (-9223372036854775808 : Int) ≤ _ ∧ _ ≤ (9223372036854775807 : Int); omega)) (RH.o (RH.o (RH.o (RH.o hH_M5 (by decide) (by decide) (by decide)) (by decide) (by decide) (by decide)) (by decide) (by decide) (by decide)) (by decide) (by decide) (by decide)) (RF.o (RF.o (RF.o (RF.o hS_M5 (by decide) (by decide)) (by decide) (by decide)) (by decide) (by decide)) (by decide) (by decide))   (by rw [((ju_c _ _ (by decide)).trans ((ju_i _ _ (by decide)).trans ((ju_c _ _ (by decide)).trans ((ju_c _ _ (by decide)).trans e44)))), ((ju_c _ _ (by decide)).trans ((ju_i _ _ (by decide)).trans ((ju_c _ _ (by decide)).trans ((ju_c _ _ (by decide)).trans e45))))]; omega) (fun M43 hI_M43 hH_M43 hS_M43  w43_0 w43_1 w43_2 w43_3 w43_4 w43_5 w43_6 => ?_)) (by decide))
          have y60 : (ju (ju (ju (ju M5 659 v41 2) 660 v41 0) 598 90 (v41 + 1)) 660 v4 (v41 + 1)) 598 73 = v44 := ((ju_c _ _ (by decide)).trans ((ju_i _ _ (by decide)).trans ((ju_c _ _ (by decide)).trans ((ju_c _ _ (by decide)).trans e44))))
          have y61 : (ju (ju (ju (ju M5 659 v41 2) 660 v41 0) 598 90 (v41 + 1)) 660 v4 (v41 + 1)) 598 74 = v52 := ((ju_c _ _ (by decide)).trans ((ju_i _ _ (by decide)).trans ((ju_c _ _ (by decide)).trans ((ju_c _ _ (by decide)).trans e52))))
          have tb43 : TK (ju (ju (ju (ju M5 659 v41 2) 660 v41 0) 598 90 (v41 + 1)) 660 v4 (v41 + 1)) = TK M5 := ((TK.o (Or.inl (by decide))).trans ((TK.o (Or.inr ⟨by decide, by decide⟩)).trans ((TK.o (Or.inl (by decide))).trans ((TK.o (Or.inl (by decide))).trans rfl))))
          obtain ⟨_, hp0, hp1, hp2, hp3, hp4⟩ := hu2.e (by omega)
          have x90_ := w5_6 90 (by decide) (by decide) (by decide) (by decide) (by decide) (by decide) (by decide)
          have y46 : M5 598 90 = v41 := e42
          have y48 : M5 598 100 = v2 - 1 := e47
          have y50 : M5 598 107 = v1 - 1 := e49
          have hX := XS.els (hU2.e (by omega)) e42 (by omega) (by omega) (by rw [w5_5 659 _ (by decide), ju_c _ _ (by decide), ju_c _ _ (by decide)]; omega) (by have z := hB; unfold LB at z; rw [e42] at z; exact z.resolve_left (by omega)) 1 (by omega) (by omega) (by omega)
          have hA := AK.cp (M' := (ju (ju (ju (ju M5 659 v41 2) 660 v41 0) 598 90 (v41 + 1)) 660 v4 (v41 + 1))) (AK.emit (op := 2) (a := 0) hA e42) (CP.o (CP.rfl _) (by decide) (Or.inl (by decide))) (fun i => ju_c _ _ (by decide)) (ju_c _ _ (by decide))
          have hB : LB _ := LB.fr (M' := (ju (ju (ju (ju M5 659 v41 2) 660 v41 0) 598 90 (v41 + 1)) 660 v4 (v41 + 1))) (LB.emit (M := M5) (c := v41) (op := 2) (a := 0) (by decide)) (fun i => ju_c _ _ (by decide)) (ju_c _ _ (by decide))
          have bq74b : (0 : Int) ≤ M43 598 74 ∧ M43 598 74 ≤ 4 := hI_M43 598 74 (by decide)
          have y51 : (ju (ju (ju (ju M5 659 v41 2) 660 v41 0) 598 90 (v41 + 1)) 660 v4 (v41 + 1)) 598 73 = v44 := ((ju_c _ _ (by decide)).trans ((ju_i _ _ (by decide)).trans ((ju_c _ _ (by decide)).trans ((ju_c _ _ (by decide)).trans e44))))
          have y53 : (ju (ju (ju (ju M5 659 v41 2) 660 v41 0) 598 90 (v41 + 1)) 660 v4 (v41 + 1)) 598 74 = v52 := ((ju_c _ _ (by decide)).trans ((ju_i _ _ (by decide)).trans ((ju_c _ _ (by decide)).trans ((ju_c _ _ (by decide)).trans e52))))
          have adv2 := TK.adv (w43_3 (by omega)) (by omega) (by omega)
          have y54 : (ju (ju (ju (ju M5 659 v41 2) 660 v41 0) 598 90 (v41 + 1)) 660 v4 (v41 + 1)) 598 73 = v44 := ((ju_c _ _ (by decide)).trans ((ju_i _ _ (by decide)).trans ((ju_c _ _ (by decide)).trans ((ju_c _ _ (by decide)).trans e44))))
          have y55 : (ju (ju (ju (ju M5 659 v41 2) 660 v41 0) 598 90 (v41 + 1)) 660 v4 (v41 + 1)) 598 74 = v52 := ((ju_c _ _ (by decide)).trans ((ju_i _ _ (by decide)).trans ((ju_c _ _ (by decide)).trans ((ju_c _ _ (by decide)).trans e52))))
          have y57 : (ju (ju (ju (ju M5 659 v41 2) 660 v41 0) 598 90 (v41 + 1)) 660 v4 (v41 + 1)) 598 89 = v11 := ((ju_c _ _ (by decide)).trans ((ju_i _ _ (by decide)).trans ((ju_c _ _ (by decide)).trans ((ju_c _ _ (by decide)).trans e56))))
          have y59 : (ju (ju (ju (ju M5 659 v41 2) 660 v41 0) 598 90 (v41 + 1)) 660 v4 (v41 + 1)) 598 100 = v2 - 1 := ((ju_c _ _ (by decide)).trans ((ju_i _ _ (by decide)).trans ((ju_c _ _ (by decide)).trans ((ju_c _ _ (by decide)).trans e58))))
          have x43_89 := w43_6 89 (by decide) (by decide) (by decide) (by decide) (by decide) (by decide) (by decide)
          have x43_100 := w43_6 100 (by decide) (by decide) (by decide) (by decide) (by decide) (by decide) (by decide)
          have hX := XS.fr2 hX w43_5 (w43_6 88 (by decide) (by decide) (by decide) (by decide) (by decide) (by decide) (by decide)) (w43_6 90 (by decide) (by decide) (by decide) (by decide) (by decide) (by decide) (by decide)) (w43_6 101 (by decide) (by decide) (by decide) (by decide) (by decide) (by decide) (by decide)) (w43_6 107 (by decide) (by decide) (by decide) (by decide) (by decide) (by decide) (by decide)) (k' := 1 + min 1 (M43 598 74)) (d' := 0) (z' := 0) (by omega) (by omega) (by omega) (by omega)
          have hA := AK.cp hA (CP.f (CP.rfl _) (fun i => w43_5 659 i (by decide)) (w43_6 90 (by decide) (by decide) (by decide) (by decide) (by decide) (by decide) (by decide))) (fun i => w43_5 663 i (by decide)) (w43_6 96 (by decide) (by decide) (by decide) (by decide) (by decide) (by decide) (by decide))
          have hB := LB.fr hB (fun i => w43_5 659 i (by decide)) (w43_6 90 (by decide) (by decide) (by decide) (by decide) (by decide) (by decide) (by decide))
          refine jr.aload_n rfl rfl ?_
          refine jr.iconst rfl ?_
          refine jr.iload_n rfl rfl ?_
          obtain ⟨v63, e63⟩ : ∃ z, M43 598 73 = z := ⟨_, rfl⟩
          have b63 : 0 ≤ v63 ∧ v63 ≤ 1600 := by rw [← e63]; exact hI_M43 598 73 (by decide)
          have e64 : M43 598 72 = v7 := ((w43_6 72 (by decide) (by decide) (by decide) (by decide) (by decide) (by decide) (by decide)).trans ((ju_c _ _ (by decide)).trans ((ju_i _ _ (by decide)).trans ((ju_c _ _ (by decide)).trans ((ju_c _ _ (by decide)).trans e45)))))
          obtain ⟨v65, e65⟩ : ∃ z, M 598 80 = z := ⟨_, rfl⟩
          have b65 : 0 ≤ v65 ∧ v65 ≤ 7 := by rw [← e65]; exact hI_M 598 80 (by decide)
          have e66 : M5 598 80 = v65 := ((w5_6 80 (by decide) (by decide) (by decide) (by decide) (by decide) (by decide) (by decide)).trans ((ju_i _ _ (by decide)).trans ((ju_i _ _ (by decide)).trans e65)))
          have e67 : M43 598 80 = v65 := ((w43_6 80 (by decide) (by decide) (by decide) (by decide) (by decide) (by decide) (by decide)).trans ((ju_c _ _ (by decide)).trans ((ju_i _ _ (by decide)).trans ((ju_c _ _ (by decide)).trans ((ju_c _ _ (by decide)).trans e66)))))
          have e68 : M43 598 100 = v2 - 1 := ((w43_6 100 (by decide) (by decide) (by decide) (by decide) (by decide) (by decide) (by decide)).trans ((ju_c _ _ (by decide)).trans ((ju_i _ _ (by decide)).trans ((ju_c _ _ (by decide)).trans ((ju_c _ _ (by decide)).trans e58)))))
          have e69 : M5 598 107 = v1 - 1 := ((w5_6 107 (by decide) (by decide) (by decide) (by decide) (by decide) (by decide) (by decide)).trans ((ju_i _ _ (by decide)).trans (ju_same _ _ _ _)))
          have e70 : M43 598 107 = v1 - 1 := ((w43_6 107 (by decide) (by decide) (by decide) (by decide) (by decide) (by decide) (by decide)).trans ((ju_c _ _ (by decide)).trans ((ju_i _ _ (by decide)).trans ((ju_c _ _ (by decide)).trans ((ju_c _ _ (by decide)).trans e69)))))
          have e72 : M43 598 90 = v41 + 1 := ((w43_6 90 (by decide) (by decide) (by decide) (by decide) (by decide) (by decide) (by decide)).trans ((ju_c _ _ (by decide)).trans (ju_same _ _ _ _)))
          obtain ⟨v74, e74⟩ : ∃ z, M43 598 74 = z := ⟨_, rfl⟩
          have b74 : 0 ≤ v74 ∧ v74 ≤ 4 := by rw [← e74]; exact hI_M43 598 74 (by decide)
          refine jr_v rfl rfl (Or.inl rfl) rfl rfl (by decide) rfl ⟨rfl, Nat.le_of_ble_eq_true rfl, Nat.le_of_ble_eq_true rfl⟩ rfl (jc.deep (r_beginBlock hI_M43 hH_M43 hS_M43  (by omega) (by omega) (by rw [e63, e64]; omega) (by rw [e67, e68]; intro q; omega) (by rw [e70]; omega) (fun M62 hI_M62 hH_M62 hS_M62  w62_0 w62_1 w62_2 w62_3 w62_4 w62_5 w62_6 w62_7 w62_8 w62_9 w62_10 w62_11 => ?_)) (by decide))
          have y71 : M43 598 107 = v1 - 1 := e70
          have y73 : M43 598 90 = v41 + 1 := e72
          have y75 : M43 598 74 = v74 := e74
          refine jr.goto rfl rfl ?_
          have e76 : M62 598 72 = v7 := ((w62_11 72 (by decide) (by decide) (by decide) (by decide) (by decide) (by decide) (by decide) (by decide) (by decide) (by decide) (by decide)).trans e64)
          have y77 : M62 598 72 = v7 := e76
          obtain ⟨v78, e78⟩ : ∃ z, M62 598 73 = z := ⟨_, rfl⟩
          have b78 : 0 ≤ v78 ∧ v78 ≤ 1600 := by rw [← e78]; exact hI_M62 598 73 (by decide)
          have y79 : M62 598 73 = v78 := e78
          obtain ⟨v80, e80⟩ : ∃ z, M62 598 74 = z := ⟨_, rfl⟩
          have b80 : 0 ≤ v80 ∧ v80 ≤ 4 := by rw [← e80]; exact hI_M62 598 74 (by decide)
          have y81 : M62 598 74 = v80 := e80
          obtain ⟨v82, e82⟩ : ∃ z, M62 598 79 = z := ⟨_, rfl⟩
          have b82 : 0 ≤ v82 ∧ v82 ≤ 255 := by rw [← e82]; exact hI_M62 598 79 (by decide)
          have y83 : M62 598 79 = v82 := e82
          obtain ⟨v84, e84⟩ : ∃ z, M62 598 80 = z := ⟨_, rfl⟩
          have b84 : 0 ≤ v84 ∧ v84 ≤ 7 := by rw [← e84]; exact hI_M62 598 80 (by decide)
          have y85 : M62 598 80 = v84 := e84
          have e86 : M43 598 89 = v11 := ((w43_6 89 (by decide) (by decide) (by decide) (by decide) (by decide) (by decide) (by decide)).trans ((ju_c _ _ (by decide)).trans ((ju_i _ _ (by decide)).trans ((ju_c _ _ (by decide)).trans ((ju_c _ _ (by decide)).trans e56)))))
          have e87 : M62 598 89 = v11 := ((w62_11 89 (by decide) (by decide) (by decide) (by decide) (by decide) (by decide) (by decide) (by decide) (by decide) (by decide) (by decide)).trans e86)
          have y88 : M62 598 89 = v11 := e87
          have e89 : M62 598 90 = v41 + 1 := ((w62_11 90 (by decide) (by decide) (by decide) (by decide) (by decide) (by decide) (by decide) (by decide) (by decide) (by decide) (by decide)).trans e72)
          have y90 : M62 598 90 = v41 + 1 := e89
          obtain ⟨v91, e91⟩ : ∃ z, M 598 96 = z := ⟨_, rfl⟩
          have b91 : 0 ≤ v91 ∧ v91 ≤ 300 := by rw [← e91]; exact hI_M 598 96 (by decide)
          have e92 : M5 598 96 = v91 := ((w5_6 96 (by decide) (by decide) (by decide) (by decide) (by decide) (by decide) (by decide)).trans ((ju_i _ _ (by decide)).trans ((ju_i _ _ (by decide)).trans e91)))
          have e93 : M43 598 96 = v91 := ((w43_6 96 (by decide) (by decide) (by decide) (by decide) (by decide) (by decide) (by decide)).trans ((ju_c _ _ (by decide)).trans ((ju_i _ _ (by decide)).trans ((ju_c _ _ (by decide)).trans ((ju_c _ _ (by decide)).trans e92)))))
          have e94 : M62 598 96 = v91 := ((w62_11 96 (by decide) (by decide) (by decide) (by decide) (by decide) (by decide) (by decide) (by decide) (by decide) (by decide) (by decide)).trans e93)
          have y95 : M62 598 96 = v91 := e94
          obtain ⟨v96, e96⟩ : ∃ z, M62 598 100 = z := ⟨_, rfl⟩
          have b96 : 0 ≤ v96 ∧ v96 ≤ 13 := by rw [← e96]; exact hI_M62 598 100 (by decide)
          have y97 : M62 598 100 = v96 := e96
          obtain ⟨v98, e98⟩ : ∃ z, M62 598 107 = z := ⟨_, rfl⟩
          have b98 : 0 ≤ v98 ∧ v98 ≤ 16 := by rw [← e98]; exact hI_M62 598 107 (by decide)
          have y99 : M62 598 107 = v98 := e98
          have e100 : M43 659 v41 = 2 := ((w43_5 659 v41 (by decide)).trans ((ju_c _ _ (by decide)).trans ((ju_c _ _ (by decide)).trans ((ju_c _ _ (by decide)).trans (ju_same _ _ _ _)))))
          exact jr.vreturn rfl rfl (q _ hI_M62 hH_M62 hS_M62  (by by_cases hf : v84 = 0; (first | (have hX := w62_9 0 _ 0 0 _ hX (by omega) (fun q => by exfalso; omega) (fun _ => ⟨by omega, by omega, by omega, by omega, (e100).trans (by decide), rfl⟩) (by rw [RVq_s (by omega)]; omega) (by omega); have hB := LB.fr hB (fun i => w62_10 659 i (by decide) (by decide) (by decide)) (w62_11 90 (by decide) (by decide) (by decide) (by decide) (by decide) (by decide) (by decide) (by decide) (by decide) (by decide) (by decide)); have hA := AK.cp hA (CP.f (CP.rfl _) (fun i => w62_10 659 i (by decide) (by decide) (by decide)) (w62_11 90 (by decide) (by decide) (by decide) (by decide) (by decide) (by decide) (by decide) (by decide) (by decide) (by decide) (by decide))) (fun i => w62_10 663 i (by decide) (by decide) (by decide)) (w62_11 96 (by decide) (by decide) (by decide) (by decide) (by decide) (by decide) (by decide) (by decide) (by decide) (by decide) (by decide)); exact Or.inr ⟨by omega, Or.inl ⟨by omega, ⟨by omega, XS.adj hX (k' := 0) (z' := 0) (by omega) (by omega) (by omega), by omega, by omega, by omega, by omega, hB, hA, by omega⟩⟩⟩) | (exfalso; omega)); (exact Or.inl ⟨by omega, by omega⟩)) (by omega) (by omega) (by omega) (fun a i f598 f658 f659 f660 f668 f669 => ((w62_10 a i f598 f668 f669).trans ((w43_5 a i f598).trans ((ju_c _ _ f660).trans ((ju_c _ _ f598).trans ((ju_c _ _ f660).trans ((ju_c _ _ f659).trans ((w5_5 a i f598).trans ((ju_c _ _ f598).trans ((ju_c _ _ f598).trans rfl)))))))))) (fun i g73 g74 g75 g76 g77 g78 g79 g80 g81 g90 g100 g101 g107 => ((w62_11 i g73 g74 g75 g76 g77 g78 g79 g80 g81 g100 g107).trans ((w43_6 i g73 g74 g75 g76 g77 g78 g79).trans ((ju_c _ _ (by decide)).trans ((ju_i _ _ g90).trans ((ju_c _ _ (by decide)).trans ((ju_c _ _ (by decide)).trans ((w5_6 i g73 g74 g75 g76 g77 g78 g79).trans ((ju_i _ _ g100).trans ((ju_i _ _ g107).trans rfl)))))))))))
        · refine jr.if_eq rfl rfl (by omega) (fun _ => ?_) (fun h => absurd (by decide) h)
          refine jr.aload_n rfl rfl ?_
          refine jr.getf (i := 95) (v := .ref 660) rfl rfl (by decide) rfl (by decide) rfl rfl rfl rfl ?_
          refine jr.iload_n rfl rfl ?_
          refine jr.aload_n rfl rfl ?_
          obtain ⟨v101, e101⟩ : ∃ z, M 598 90 = z := ⟨_, rfl⟩
          have b101 : 0 ≤ v101 ∧ v101 ≤ 2200 := by rw [← e101]; exact hI_M 598 90 (by decide)
          have e102 : M5 598 90 = v101 := ((w5_6 90 (by decide) (by decide) (by decide) (by decide) (by decide) (by decide) (by decide)).trans ((ju_i _ _ (by decide)).trans ((ju_i _ _ (by decide)).trans e101)))
          refine jr.getf (i := 90) (x := v101) (v := .int (Int32.ofInt (v101))) rfl rfl (by decide) rfl (by decide) rfl rfl e102 rfl ?_
          refine jr.i2l rfl (by omega) ?_
          obtain ⟨_, hz0, hz1, hz2, hz3, hz4⟩ := hu2.e (by omega)
          refine jr.last (i := v4) (x := v101) rfl (by decide) rfl (by decide) (by omega) (by omega) ?_
          have e103 : M5 598 72 = v7 := ((w5_6 72 (by decide) (by decide) (by decide) (by decide) (by decide) (by decide) (by decide)).trans ((ju_i _ _ (by decide)).trans ((ju_i _ _ (by decide)).trans e7)))
          have y104 : (ju M5 660 v4 v101) 598 72 = v7 := ((ju_c _ _ (by decide)).trans e103)
          obtain ⟨v105, e105⟩ : ∃ z, M5 598 73 = z := ⟨_, rfl⟩
          have b105 : 0 ≤ v105 ∧ v105 ≤ 1600 := by rw [← e105]; exact hI_M5 598 73 (by decide)
          have y106 : (ju M5 660 v4 v101) 598 73 = v105 := ((ju_c _ _ (by decide)).trans e105)
          obtain ⟨v107, e107⟩ : ∃ z, M5 598 74 = z := ⟨_, rfl⟩
          have b107 : 0 ≤ v107 ∧ v107 ≤ 4 := by rw [← e107]; exact hI_M5 598 74 (by decide)
          have y108 : (ju M5 660 v4 v101) 598 74 = v107 := ((ju_c _ _ (by decide)).trans e107)
          obtain ⟨v109, e109⟩ : ∃ z, M5 598 79 = z := ⟨_, rfl⟩
          have b109 : 0 ≤ v109 ∧ v109 ≤ 255 := by rw [← e109]; exact hI_M5 598 79 (by decide)
          have y110 : (ju M5 660 v4 v101) 598 79 = v109 := ((ju_c _ _ (by decide)).trans e109)
          obtain ⟨v111, e111⟩ : ∃ z, M 598 80 = z := ⟨_, rfl⟩
          have b111 : 0 ≤ v111 ∧ v111 ≤ 7 := by rw [← e111]; exact hI_M 598 80 (by decide)
          have e112 : M5 598 80 = v111 := ((w5_6 80 (by decide) (by decide) (by decide) (by decide) (by decide) (by decide) (by decide)).trans ((ju_i _ _ (by decide)).trans ((ju_i _ _ (by decide)).trans e111)))
          have y113 : (ju M5 660 v4 v101) 598 80 = v111 := ((ju_c _ _ (by decide)).trans e112)
          have e114 : M5 598 89 = v11 := ((w5_6 89 (by decide) (by decide) (by decide) (by decide) (by decide) (by decide) (by decide)).trans ((ju_i _ _ (by decide)).trans ((ju_i _ _ (by decide)).trans e11)))
          have y115 : (ju M5 660 v4 v101) 598 89 = v11 := ((ju_c _ _ (by decide)).trans e114)
          have y116 : (ju M5 660 v4 v101) 598 90 = v101 := ((ju_c _ _ (by decide)).trans e102)
          obtain ⟨v117, e117⟩ : ∃ z, M 598 96 = z := ⟨_, rfl⟩
          have b117 : 0 ≤ v117 ∧ v117 ≤ 300 := by rw [← e117]; exact hI_M 598 96 (by decide)
          have e118 : M5 598 96 = v117 := ((w5_6 96 (by decide) (by decide) (by decide) (by decide) (by decide) (by decide) (by decide)).trans ((ju_i _ _ (by decide)).trans ((ju_i _ _ (by decide)).trans e117)))
          have y119 : (ju M5 660 v4 v101) 598 96 = v117 := ((ju_c _ _ (by decide)).trans e118)
          have e120 : M5 598 100 = v2 - 1 := ((w5_6 100 (by decide) (by decide) (by decide) (by decide) (by decide) (by decide) (by decide)).trans (ju_same _ _ _ _))
          have y121 : (ju M5 660 v4 v101) 598 100 = v2 - 1 := ((ju_c _ _ (by decide)).trans e120)
          have e122 : M5 598 107 = v1 - 1 := ((w5_6 107 (by decide) (by decide) (by decide) (by decide) (by decide) (by decide) (by decide)).trans ((ju_i _ _ (by decide)).trans (ju_same _ _ _ _)))
          have y123 : (ju M5 660 v4 v101) 598 107 = v1 - 1 := ((ju_c _ _ (by decide)).trans e122)
          have y124 : TK (ju M5 660 v4 v101) = TK M5 := ((TK.o (Or.inl (by decide))).trans rfl)
          have y125 : M5 598 90 = v101 := e102
          obtain ⟨_, hp0, hp1, hp2, hp3, hp4⟩ := hu2.e (by omega)
          have x90_ := w5_6 90 (by decide) (by decide) (by decide) (by decide) (by decide) (by decide) (by decide)
          have hX := XS.patch (hU2.e (by omega)) e102 (by omega) (by omega) (by rw [w5_5 659 _ (by decide), ju_c _ _ (by decide), ju_c _ _ (by decide)]; omega) (by have z := hB; unfold LB at z; rw [e102] at z; exact z.resolve_left (by omega))
          have hA := AK.cp (M' := (ju M5 660 v4 v101)) hA (CP.o (CP.rfl _) (by decide) (Or.inl (by decide))) (fun i => ju_c _ _ (by decide)) (ju_c _ _ (by decide))
          have hB := LB.fr (M' := (ju M5 660 v4 v101)) hB (fun i => ju_c _ _ (by decide)) (ju_c _ _ (by decide))
          exact jr.vreturn rfl rfl (q _ (RI.u hI_M5 (a := 660) (i := v4) (by rw [xri_row rfl rfl]; show (-9223372036854775808 : Int) ≤ _ ∧ _ ≤ (9223372036854775807 : Int); omega)) (RH.o hH_M5 (by decide) (by decide) (by decide)) (RF.o hS_M5 (by decide) (by decide))  (Or.inr ⟨by omega, Or.inl ⟨by omega, ⟨by omega, XS.adj hX (k' := 0) (z' := 0) (by omega) (by omega) (by omega), by omega, by omega, by omega, by omega, hB, hA, by omega⟩⟩⟩) (by omega) (by omega) (by omega) (fun a i f598 f658 f659 f660 f668 f669 => ((ju_c _ _ f660).trans ((w5_5 a i f598).trans ((ju_c _ _ f598).trans ((ju_c _ _ f598).trans rfl))))) (fun i g73 g74 g75 g76 g77 g78 g79 g80 g81 g90 g100 g101 g107 => ((ju_c _ _ (by decide)).trans ((w5_6 i g73 g74 g75 g76 g77 g78 g79).trans ((ju_i _ _ g100).trans ((ju_i _ _ g107).trans rfl))))))
    · refine jr.aload_n rfl rfl ?_
      refine jr.iconst rfl ?_
      refine jr.lconst (x := 0) rfl (by decide) ?_
      obtain ⟨v126, e126⟩ : ∃ z, M 598 90 = z := ⟨_, rfl⟩
      have b126 : 0 ≤ v126 ∧ v126 ≤ 2200 := by rw [← e126]; exact hI_M 598 90 (by decide)
      have e127 : M5 598 90 = v126 := ((w5_6 90 (by decide) (by decide) (by decide) (by decide) (by decide) (by decide) (by decide)).trans ((ju_i _ _ (by decide)).trans ((ju_i _ _ (by decide)).trans e126)))
      have e128 : M5 598 100 = v2 - 1 := ((w5_6 100 (by decide) (by decide) (by decide) (by decide) (by decide) (by decide) (by decide)).trans (ju_same _ _ _ _))
      have e130 : M5 598 107 = v1 - 1 := ((w5_6 107 (by decide) (by decide) (by decide) (by decide) (by decide) (by decide) (by decide)).trans ((ju_i _ _ (by decide)).trans (ju_same _ _ _ _)))
      refine jr_v rfl rfl (Or.inl rfl) rfl rfl (by decide) rfl ⟨rfl, Nat.le_of_ble_eq_true rfl, Nat.le_of_ble_eq_true rfl⟩ rfl (jc.deep (r_emit e127 (by omega) (by omega) (by omega) ?_) (by decide))
      have y129 : M5 598 100 = v2 - 1 := e128
      have y131 : M5 598 107 = v1 - 1 := e130
      obtain ⟨_, hn1, hib⟩ := hv2.e (by omega)
      have rv1 := RVq_1 (ib := M 598 101)
      have hX := XS.adj (hV2.e (by omega)) (k' := 0 + 2) (z' := 0) (by omega) (by omega) (by omega)
      have hX := XS.fin hX e127 (by omega) (by omega)
      have hA := AK.emit (op := 3) (a := 0) hA e127
      have hB : LB _ := LB.emit (M := M5) (c := v126) (op := 3) (a := 0) (by decide)
      refine jr.goto rfl rfl ?_
      have e132 : M5 598 72 = v7 := ((w5_6 72 (by decide) (by decide) (by decide) (by decide) (by decide) (by decide) (by decide)).trans ((ju_i _ _ (by decide)).trans ((ju_i _ _ (by decide)).trans e7)))
      have y133 : (ju (ju (ju M5 659 v126 3) 660 v126 0) 598 90 (v126 + 1)) 598 72 = v7 := ((ju_i _ _ (by decide)).trans ((ju_c _ _ (by decide)).trans ((ju_c _ _ (by decide)).trans e132)))
      obtain ⟨v134, e134⟩ : ∃ z, M5 598 73 = z := ⟨_, rfl⟩
      have b134 : 0 ≤ v134 ∧ v134 ≤ 1600 := by rw [← e134]; exact hI_M5 598 73 (by decide)
      have y135 : (ju (ju (ju M5 659 v126 3) 660 v126 0) 598 90 (v126 + 1)) 598 73 = v134 := ((ju_i _ _ (by decide)).trans ((ju_c _ _ (by decide)).trans ((ju_c _ _ (by decide)).trans e134)))
      obtain ⟨v136, e136⟩ : ∃ z, M5 598 74 = z := ⟨_, rfl⟩
      have b136 : 0 ≤ v136 ∧ v136 ≤ 4 := by rw [← e136]; exact hI_M5 598 74 (by decide)
      have y137 : (ju (ju (ju M5 659 v126 3) 660 v126 0) 598 90 (v126 + 1)) 598 74 = v136 := ((ju_i _ _ (by decide)).trans ((ju_c _ _ (by decide)).trans ((ju_c _ _ (by decide)).trans e136)))
      obtain ⟨v138, e138⟩ : ∃ z, M5 598 79 = z := ⟨_, rfl⟩
      have b138 : 0 ≤ v138 ∧ v138 ≤ 255 := by rw [← e138]; exact hI_M5 598 79 (by decide)
      have y139 : (ju (ju (ju M5 659 v126 3) 660 v126 0) 598 90 (v126 + 1)) 598 79 = v138 := ((ju_i _ _ (by decide)).trans ((ju_c _ _ (by decide)).trans ((ju_c _ _ (by decide)).trans e138)))
      obtain ⟨v140, e140⟩ : ∃ z, M 598 80 = z := ⟨_, rfl⟩
      have b140 : 0 ≤ v140 ∧ v140 ≤ 7 := by rw [← e140]; exact hI_M 598 80 (by decide)
      have e141 : M5 598 80 = v140 := ((w5_6 80 (by decide) (by decide) (by decide) (by decide) (by decide) (by decide) (by decide)).trans ((ju_i _ _ (by decide)).trans ((ju_i _ _ (by decide)).trans e140)))
      have y142 : (ju (ju (ju M5 659 v126 3) 660 v126 0) 598 90 (v126 + 1)) 598 80 = v140 := ((ju_i _ _ (by decide)).trans ((ju_c _ _ (by decide)).trans ((ju_c _ _ (by decide)).trans e141)))
      have e143 : M5 598 89 = v11 := ((w5_6 89 (by decide) (by decide) (by decide) (by decide) (by decide) (by decide) (by decide)).trans ((ju_i _ _ (by decide)).trans ((ju_i _ _ (by decide)).trans e11)))
      have y144 : (ju (ju (ju M5 659 v126 3) 660 v126 0) 598 90 (v126 + 1)) 598 89 = v11 := ((ju_i _ _ (by decide)).trans ((ju_c _ _ (by decide)).trans ((ju_c _ _ (by decide)).trans e143)))
      have y145 : (ju (ju (ju M5 659 v126 3) 660 v126 0) 598 90 (v126 + 1)) 598 90 = v126 + 1 := (ju_same _ _ _ _)
      obtain ⟨v146, e146⟩ : ∃ z, M 598 96 = z := ⟨_, rfl⟩
      have b146 : 0 ≤ v146 ∧ v146 ≤ 300 := by rw [← e146]; exact hI_M 598 96 (by decide)
      have e147 : M5 598 96 = v146 := ((w5_6 96 (by decide) (by decide) (by decide) (by decide) (by decide) (by decide) (by decide)).trans ((ju_i _ _ (by decide)).trans ((ju_i _ _ (by decide)).trans e146)))
      have y148 : (ju (ju (ju M5 659 v126 3) 660 v126 0) 598 90 (v126 + 1)) 598 96 = v146 := ((ju_i _ _ (by decide)).trans ((ju_c _ _ (by decide)).trans ((ju_c _ _ (by decide)).trans e147)))
      have y149 : (ju (ju (ju M5 659 v126 3) 660 v126 0) 598 90 (v126 + 1)) 598 100 = v2 - 1 := ((ju_i _ _ (by decide)).trans ((ju_c _ _ (by decide)).trans ((ju_c _ _ (by decide)).trans e128)))
      have y150 : (ju (ju (ju M5 659 v126 3) 660 v126 0) 598 90 (v126 + 1)) 598 107 = v1 - 1 := ((ju_i _ _ (by decide)).trans ((ju_c _ _ (by decide)).trans ((ju_c _ _ (by decide)).trans e130)))
      have y151 : TK (ju (ju (ju M5 659 v126 3) 660 v126 0) 598 90 (v126 + 1)) = TK M5 := ((TK.o (Or.inr ⟨by decide, by decide⟩)).trans ((TK.o (Or.inl (by decide))).trans ((TK.o (Or.inl (by decide))).trans rfl)))
      exact jr.vreturn rfl rfl (q _ (RI.u (RI.u (RI.u hI_M5 (a := 659) (i := v126) (by rw [xri_row rfl rfl]; show (0 : Int) ≤ _ ∧ _ ≤ (1000 : Int); omega)) (a := 660) (i := v126) (by rw [xri_row rfl rfl]; show (-9223372036854775808 : Int) ≤ _ ∧ _ ≤ (9223372036854775807 : Int); omega)) (a := 598) (i := 90) (show (0 : Int) ≤ _ ∧ _ ≤ (2200 : Int) from by omega)) (RH.o (RH.o (RH.o hH_M5 (by decide) (by decide) (by decide)) (by decide) (by decide) (by decide)) (by decide) (by decide) (by decide)) (RF.o (RF.o (RF.o hS_M5 (by decide) (by decide)) (by decide) (by decide)) (by decide) (by decide))  (Or.inr ⟨by omega, Or.inr ⟨by omega, ⟨by omega, XS.adj hX (k' := 0) (z' := 1) (by omega) (by omega) (by omega), by omega, by omega, by omega, by omega, hB, hA, by omega⟩, by omega, by rw [ju_same, show v126 + 1 - 1 = v126 by omega, ju_c _ _ (by decide), ju_c _ _ (by decide), ju_same]⟩⟩) (by omega) (by omega) (by omega) (fun a i f598 f658 f659 f660 f668 f669 => ((ju_c _ _ f598).trans ((ju_c _ _ f660).trans ((ju_c _ _ f659).trans ((w5_5 a i f598).trans ((ju_c _ _ f598).trans ((ju_c _ _ f598).trans rfl))))))) (fun i g73 g74 g75 g76 g77 g78 g79 g80 g81 g90 g100 g101 g107 => ((ju_i _ _ g90).trans ((ju_c _ _ (by decide)).trans ((ju_c _ _ (by decide)).trans ((w5_6 i g73 g74 g75 g76 g77 g78 g79).trans ((ju_i _ _ g100).trans ((ju_i _ _ g107).trans rfl))))))))
  · refine jr.aload_n rfl rfl ?_
    refine jr.iconst rfl ?_
    refine jr.lconst (x := 0) rfl (by decide) ?_
    obtain ⟨v152, e152⟩ : ∃ z, M 598 90 = z := ⟨_, rfl⟩
    have b152 : 0 ≤ v152 ∧ v152 ≤ 2200 := by rw [← e152]; exact hI_M 598 90 (by decide)
    have e153 : M5 598 90 = v152 := ((w5_6 90 (by decide) (by decide) (by decide) (by decide) (by decide) (by decide) (by decide)).trans ((ju_i _ _ (by decide)).trans ((ju_i _ _ (by decide)).trans e152)))
    have e154 : M5 598 100 = v2 - 1 := ((w5_6 100 (by decide) (by decide) (by decide) (by decide) (by decide) (by decide) (by decide)).trans (ju_same _ _ _ _))
    have e156 : M5 598 107 = v1 - 1 := ((w5_6 107 (by decide) (by decide) (by decide) (by decide) (by decide) (by decide) (by decide)).trans ((ju_i _ _ (by decide)).trans (ju_same _ _ _ _)))
    refine jr_v rfl rfl (Or.inl rfl) rfl rfl (by decide) rfl ⟨rfl, Nat.le_of_ble_eq_true rfl, Nat.le_of_ble_eq_true rfl⟩ rfl (jc.deep (r_emit e153 (by omega) (by omega) (by omega) ?_) (by decide))
    have y155 : M5 598 100 = v2 - 1 := e154
    have y157 : M5 598 107 = v1 - 1 := e156
    obtain ⟨_, hn1, hib⟩ := hv2.e (by omega)
    have rv1 := RVq_1 (ib := M 598 101)
    have hX := XS.adj (hV2.e (by omega)) (k' := 2 + 2) (z' := 0) (by omega) (by omega) (by omega)
    have hX := XS.fin hX e153 (by omega) (by omega)
    have hA := AK.emit (op := 3) (a := 0) hA e153
    have hB : LB _ := LB.emit (M := M5) (c := v152) (op := 3) (a := 0) (by decide)
    refine jr.aload_n rfl rfl ?_
    refine jr.iconst rfl ?_
    refine jr_v rfl rfl (Or.inl rfl) rfl rfl (by decide) rfl ⟨rfl, Nat.le_of_ble_eq_true rfl, Nat.le_of_ble_eq_true rfl⟩ rfl (jc.deep (c_isWord (RI.u (RI.u (RI.u hI_M5 (a := 659) (i := v152) (by rw [xri_row rfl rfl]; show (0 : Int) ≤ _ ∧ _ ≤ (1000 : Int); omega)) (a := 660) (i := v152) (by rw [xri_row rfl rfl]; show (-9223372036854775808 : Int) ≤ _ ∧ _ ≤ (9223372036854775807 : Int); omega)) (a := 598) (i := 90) (show (0 : Int) ≤ _ ∧ _ ≤ (2200 : Int) from by omega)) (by omega) (fun t56_0 t56_1 => ?_) (fun f56_0 => ?_)) (by decide))
    · refine jr.if_eq rfl rfl (by omega) (fun h => absurd h (by decide)) (fun _ => ?_)
      refine jr.aload_n rfl rfl ?_
      obtain ⟨v159, e159⟩ : ∃ z, M5 598 73 = z := ⟨_, rfl⟩
      have b159 : 0 ≤ v159 ∧ v159 ≤ 1600 := by rw [← e159]; exact hI_M5 598 73 (by decide)
      have e160 : M5 598 72 = v7 := ((w5_6 72 (by decide) (by decide) (by decide) (by decide) (by decide) (by decide) (by decide)).trans ((ju_i _ _ (by decide)).trans ((ju_i _ _ (by decide)).trans e7)))
      obtain ⟨v162, e162⟩ : ∃ z, M5 598 74 = z := ⟨_, rfl⟩
      have b162 : 0 ≤ v162 ∧ v162 ≤ 4 := by rw [← e162]; exact hI_M5 598 74 (by decide)
      have e164 : M5 598 89 = v11 := ((w5_6 89 (by decide) (by decide) (by decide) (by decide) (by decide) (by decide) (by decide)).trans ((ju_i _ _ (by decide)).trans ((ju_i _ _ (by decide)).trans e11)))
      refine jr_v rfl rfl (Or.inl rfl) rfl rfl (by decide) rfl ⟨rfl, Nat.le_of_ble_eq_true rfl, Nat.le_of_ble_eq_true rfl⟩ rfl (jc.deep (r_next (RI.u (RI.u (RI.u hI_M5 (a := 659) (i := v152) (by rw [xri_row rfl rfl]; show (0 : Int) ≤ _ ∧ _ ≤ (1000 : Int); omega)) (a := 660) (i := v152) (by rw [xri_row rfl rfl]; show (-9223372036854775808 : Int) ≤ _ ∧ _ ≤ (9223372036854775807 : Int); omega)) (a := 598) (i := 90) (show (0 : Int) ≤ _ ∧ _ ≤ (2200 : Int) from by omega)) (RH.o (RH.o (RH.o hH_M5 (by decide) (by decide) (by decide)) (by decide) (by decide) (by decide)) (by decide) (by decide) (by decide)) (RF.o (RF.o (RF.o hS_M5 (by decide) (by decide)) (by decide) (by decide)) (by decide) (by decide))   (by rw [((ju_i _ _ (by decide)).trans ((ju_c _ _ (by decide)).trans ((ju_c _ _ (by decide)).trans e159))), ((ju_i _ _ (by decide)).trans ((ju_c _ _ (by decide)).trans ((ju_c _ _ (by decide)).trans e160)))]; omega) (fun M158 hI_M158 hH_M158 hS_M158  w158_0 w158_1 w158_2 w158_3 w158_4 w158_5 w158_6 => ?_)) (by decide))
      have y167 : (ju (ju (ju M5 659 v152 3) 660 v152 0) 598 90 (v152 + 1)) 598 73 = v159 := ((ju_i _ _ (by decide)).trans ((ju_c _ _ (by decide)).trans ((ju_c _ _ (by decide)).trans e159)))
      have y168 : (ju (ju (ju M5 659 v152 3) 660 v152 0) 598 90 (v152 + 1)) 598 74 = v162 := ((ju_i _ _ (by decide)).trans ((ju_c _ _ (by decide)).trans ((ju_c _ _ (by decide)).trans e162)))
      have tb158 : TK (ju (ju (ju M5 659 v152 3) 660 v152 0) 598 90 (v152 + 1)) = TK M5 := ((TK.o (Or.inr ⟨by decide, by decide⟩)).trans ((TK.o (Or.inl (by decide))).trans ((TK.o (Or.inl (by decide))).trans rfl)))
      have y161 : (ju (ju (ju M5 659 v152 3) 660 v152 0) 598 90 (v152 + 1)) 598 73 = v159 := ((ju_i _ _ (by decide)).trans ((ju_c _ _ (by decide)).trans ((ju_c _ _ (by decide)).trans e159)))
      have y163 : (ju (ju (ju M5 659 v152 3) 660 v152 0) 598 90 (v152 + 1)) 598 74 = v162 := ((ju_i _ _ (by decide)).trans ((ju_c _ _ (by decide)).trans ((ju_c _ _ (by decide)).trans e162)))
      have y165 : (ju (ju (ju M5 659 v152 3) 660 v152 0) 598 90 (v152 + 1)) 598 89 = v11 := ((ju_i _ _ (by decide)).trans ((ju_c _ _ (by decide)).trans ((ju_c _ _ (by decide)).trans e164)))
      have y166 : (ju (ju (ju M5 659 v152 3) 660 v152 0) 598 90 (v152 + 1)) 598 100 = v2 - 1 := ((ju_i _ _ (by decide)).trans ((ju_c _ _ (by decide)).trans ((ju_c _ _ (by decide)).trans e154)))
      have x158_89 := w158_6 89 (by decide) (by decide) (by decide) (by decide) (by decide) (by decide) (by decide)
      have x158_100 := w158_6 100 (by decide) (by decide) (by decide) (by decide) (by decide) (by decide) (by decide)
      have hX := XS.fr2 hX w158_5 (w158_6 88 (by decide) (by decide) (by decide) (by decide) (by decide) (by decide) (by decide)) (w158_6 90 (by decide) (by decide) (by decide) (by decide) (by decide) (by decide) (by decide)) (w158_6 101 (by decide) (by decide) (by decide) (by decide) (by decide) (by decide) (by decide)) (w158_6 107 (by decide) (by decide) (by decide) (by decide) (by decide) (by decide) (by decide)) (k' := 2) (d' := 0) (z' := 0) (by omega) (by omega) (by omega) (by omega)
      have hA := AK.cp hA (CP.f (CP.rfl _) (fun i => w158_5 659 i (by decide)) (w158_6 90 (by decide) (by decide) (by decide) (by decide) (by decide) (by decide) (by decide))) (fun i => w158_5 663 i (by decide)) (w158_6 96 (by decide) (by decide) (by decide) (by decide) (by decide) (by decide) (by decide))
      have hB := LB.fr hB (fun i => w158_5 659 i (by decide)) (w158_6 90 (by decide) (by decide) (by decide) (by decide) (by decide) (by decide) (by decide))
      refine jr.aload_n rfl rfl ?_
      refine jr.iconst rfl ?_
      refine jr.putf (i := 101) (x := 1) rfl rfl (by decide) rfl (by decide) rfl rfl rfl rfl rfl ?_
      refine jr.aload_n rfl rfl ?_
      refine jr.getf (i := 93) (v := .ref 658) rfl rfl (by decide) rfl (by decide) rfl rfl rfl rfl ?_
      refine jr.aload_n rfl rfl ?_
      obtain ⟨v169, e169⟩ : ∃ z, M 598 88 = z := ⟨_, rfl⟩
      have b169 : 0 ≤ v169 ∧ v169 ≤ 16 := by rw [← e169]; exact hI_M 598 88 (by decide)
      have e170 : M5 598 88 = v169 := ((w5_6 88 (by decide) (by decide) (by decide) (by decide) (by decide) (by decide) (by decide)).trans ((ju_i _ _ (by decide)).trans ((ju_i _ _ (by decide)).trans e169)))
      have e171 : M158 598 88 = v169 := ((w158_6 88 (by decide) (by decide) (by decide) (by decide) (by decide) (by decide) (by decide)).trans ((ju_i _ _ (by decide)).trans ((ju_c _ _ (by decide)).trans ((ju_c _ _ (by decide)).trans e170))))
      refine jr.getf (i := 88) (x := v169) (v := .int (Int32.ofInt (v169))) rfl rfl (by decide) rfl (by decide) rfl rfl ((ju_i _ _ (by decide)).trans e171) rfl ?_
      refine jr.iconst rfl ?_
      refine jr.isub rfl ?_
      refine jr.aload_n rfl rfl ?_
      have e172 : M158 598 90 = v152 + 1 := ((w158_6 90 (by decide) (by decide) (by decide) (by decide) (by decide) (by decide) (by decide)).trans (ju_same _ _ _ _))
      refine jr.getf (i := 90) (x := (v152 + 1)) (v := .int (Int32.ofInt (v152 + 1))) rfl rfl (by decide) rfl (by decide) rfl rfl ((ju_i _ _ (by decide)).trans e172) rfl ?_
      refine jr.iast (i := (v169 - 1)) (x := (v152 + 1)) rfl (by decide) rfl (by decide) (by omega) (by omega) ?_
      refine jr.aload_n rfl rfl ?_
      refine jr.iconst rfl ?_
      refine jr.iconst rfl ?_
      obtain ⟨v174, e174⟩ : ∃ z, M158 598 73 = z := ⟨_, rfl⟩
      have b174 : 0 ≤ v174 ∧ v174 ≤ 1600 := by rw [← e174]; exact hI_M158 598 73 (by decide)
      have e175 : M158 598 72 = v7 := ((w158_6 72 (by decide) (by decide) (by decide) (by decide) (by decide) (by decide) (by decide)).trans ((ju_i _ _ (by decide)).trans ((ju_c _ _ (by decide)).trans ((ju_c _ _ (by decide)).trans e160))))
      obtain ⟨v176, e176⟩ : ∃ z, M 598 80 = z := ⟨_, rfl⟩
      have b176 : 0 ≤ v176 ∧ v176 ≤ 7 := by rw [← e176]; exact hI_M 598 80 (by decide)
      have e177 : M5 598 80 = v176 := ((w5_6 80 (by decide) (by decide) (by decide) (by decide) (by decide) (by decide) (by decide)).trans ((ju_i _ _ (by decide)).trans ((ju_i _ _ (by decide)).trans e176)))
      have e178 : M158 598 80 = v176 := ((w158_6 80 (by decide) (by decide) (by decide) (by decide) (by decide) (by decide) (by decide)).trans ((ju_i _ _ (by decide)).trans ((ju_c _ _ (by decide)).trans ((ju_c _ _ (by decide)).trans e177))))
      have e179 : M158 598 100 = v2 - 1 := ((w158_6 100 (by decide) (by decide) (by decide) (by decide) (by decide) (by decide) (by decide)).trans ((ju_i _ _ (by decide)).trans ((ju_c _ _ (by decide)).trans ((ju_c _ _ (by decide)).trans e154))))
      have e180 : M158 598 107 = v1 - 1 := ((w158_6 107 (by decide) (by decide) (by decide) (by decide) (by decide) (by decide) (by decide)).trans ((ju_i _ _ (by decide)).trans ((ju_c _ _ (by decide)).trans ((ju_c _ _ (by decide)).trans e156))))
      obtain ⟨v184, e184⟩ : ∃ z, M158 598 74 = z := ⟨_, rfl⟩
      have b184 : 0 ≤ v184 ∧ v184 ≤ 4 := by rw [← e184]; exact hI_M158 598 74 (by decide)
      obtain ⟨v188, e188⟩ : ∃ z, M158 598 79 = z := ⟨_, rfl⟩
      have b188 : 0 ≤ v188 ∧ v188 ≤ 255 := by rw [← e188]; exact hI_M158 598 79 (by decide)
      refine jr_v rfl rfl (Or.inl rfl) rfl rfl (by decide) rfl ⟨rfl, Nat.le_of_ble_eq_true rfl, Nat.le_of_ble_eq_true rfl⟩ rfl (jc.deep (r_beginBlock (RI.u (RI.u hI_M158 (a := 598) (i := 101) (show (0 : Int) ≤ _ ∧ _ ≤ (1 : Int) from by omega)) (a := 658) (i := (v169 - 1)) (by rw [xri_row rfl rfl]; show (-1 : Int) ≤ _ ∧ _ ≤ (2200 : Int); omega)) (RH.o (RH.o hH_M158 (by decide) (by decide) (by decide)) (by decide) (by decide) (by decide)) (RF.o (RF.o hS_M158 (by decide) (by decide)) (by decide) (by decide))  (by omega) (by omega) (by rw [((ju_c _ _ (by decide)).trans ((ju_i _ _ (by decide)).trans e174)), ((ju_c _ _ (by decide)).trans ((ju_i _ _ (by decide)).trans e175))]; omega) (by rw [((ju_c _ _ (by decide)).trans ((ju_i _ _ (by decide)).trans e178)), ((ju_c _ _ (by decide)).trans ((ju_i _ _ (by decide)).trans e179))]; intro q; omega) (by rw [((ju_c _ _ (by decide)).trans ((ju_i _ _ (by decide)).trans e180))]; omega) (fun M173 hI_M173 hH_M173 hS_M173  w173_0 w173_1 w173_2 w173_3 w173_4 w173_5 w173_6 w173_7 w173_8 w173_9 w173_10 w173_11 => ?_)) (by decide))
      have y186 : (ju (ju M158 598 101 1) 658 (v169 - 1) (v152 + 1)) 598 73 = v174 := ((ju_c _ _ (by decide)).trans ((ju_i _ _ (by decide)).trans e174))
      have y187 : (ju (ju M158 598 101 1) 658 (v169 - 1) (v152 + 1)) 598 74 = v184 := ((ju_c _ _ (by decide)).trans ((ju_i _ _ (by decide)).trans e184))
      have y189 : (ju (ju M158 598 101 1) 658 (v169 - 1) (v152 + 1)) 598 79 = v188 := ((ju_c _ _ (by decide)).trans ((ju_i _ _ (by decide)).trans e188))
      have y190 : (ju (ju M158 598 101 1) 658 (v169 - 1) (v152 + 1)) 598 80 = v176 := ((ju_c _ _ (by decide)).trans ((ju_i _ _ (by decide)).trans e178))
      have y191 : (ju (ju M158 598 101 1) 658 (v169 - 1) (v152 + 1)) 598 90 = v152 + 1 := ((ju_c _ _ (by decide)).trans ((ju_i _ _ (by decide)).trans e172))
      have y192 : (ju (ju M158 598 101 1) 658 (v169 - 1) (v152 + 1)) 598 101 = 1 := ((ju_c _ _ (by decide)).trans (ju_same _ _ _ _))
      have y193 : (ju (ju M158 598 101 1) 658 (v169 - 1) (v152 + 1)) 598 107 = v1 - 1 := ((ju_c _ _ (by decide)).trans ((ju_i _ _ (by decide)).trans e180))
      have tb173 : TK (ju (ju M158 598 101 1) 658 (v169 - 1) (v152 + 1)) = TK M158 := ((TK.o (Or.inl (by decide))).trans ((TK.o (Or.inr ⟨by decide, by decide⟩)).trans rfl))
      have hX := XS.bhd (XS.ib hX (by rw [e180]; omega) 1) ((ju_i _ _ (by decide)).trans e172) (v169 - 1) (by have z := hB; unfold LB at z; rw [e172] at z; rw [ju_c _ _ (by decide)]; exact z)
      have hA := AK.cp (M' := (ju (ju M158 598 101 1) 658 (v169 - 1) (v152 + 1))) hA (CP.o (CP.o (CP.rfl _) (by decide) (Or.inr (by decide))) (by decide) (Or.inl (by decide))) (fun i => by rw [ju_c _ _ (by decide), ju_c _ _ (by decide)]) (by rw [ju_c _ _ (by decide), ju_i _ _ (by decide)])
      have hB := LB.fr (M' := (ju (ju M158 598 101 1) 658 (v169 - 1) (v152 + 1))) hB (fun i => by rw [ju_c _ _ (by decide), ju_c _ _ (by decide)]) (by rw [ju_c _ _ (by decide), ju_i _ _ (by decide)])
      have y181 : (ju (ju M158 598 101 1) 658 (v169 - 1) (v152 + 1)) 598 101 = 1 := ((ju_c _ _ (by decide)).trans (ju_same _ _ _ _))
      have y182 : (ju (ju M158 598 101 1) 658 (v169 - 1) (v152 + 1)) 598 107 = v1 - 1 := ((ju_c _ _ (by decide)).trans ((ju_i _ _ (by decide)).trans e180))
      have y183 : (ju (ju M158 598 101 1) 658 (v169 - 1) (v152 + 1)) 598 90 = v152 + 1 := ((ju_c _ _ (by decide)).trans ((ju_i _ _ (by decide)).trans e172))
      have y185 : (ju (ju M158 598 101 1) 658 (v169 - 1) (v152 + 1)) 598 74 = v184 := ((ju_c _ _ (by decide)).trans ((ju_i _ _ (by decide)).trans e184))
      refine jr.goto rfl rfl ?_
      have e194 : M173 598 72 = v7 := ((w173_11 72 (by decide) (by decide) (by decide) (by decide) (by decide) (by decide) (by decide) (by decide) (by decide) (by decide) (by decide)).trans ((ju_c _ _ (by decide)).trans ((ju_i _ _ (by decide)).trans e175)))
      have y195 : M173 598 72 = v7 := e194
      obtain ⟨v196, e196⟩ : ∃ z, M173 598 73 = z := ⟨_, rfl⟩
      have b196 : 0 ≤ v196 ∧ v196 ≤ 1600 := by rw [← e196]; exact hI_M173 598 73 (by decide)
      have y197 : M173 598 73 = v196 := e196
      obtain ⟨v198, e198⟩ : ∃ z, M173 598 74 = z := ⟨_, rfl⟩
      have b198 : 0 ≤ v198 ∧ v198 ≤ 4 := by rw [← e198]; exact hI_M173 598 74 (by decide)
      have y199 : M173 598 74 = v198 := e198
      obtain ⟨v200, e200⟩ : ∃ z, M173 598 79 = z := ⟨_, rfl⟩
      have b200 : 0 ≤ v200 ∧ v200 ≤ 255 := by rw [← e200]; exact hI_M173 598 79 (by decide)
      have y201 : M173 598 79 = v200 := e200
      obtain ⟨v202, e202⟩ : ∃ z, M173 598 80 = z := ⟨_, rfl⟩
      have b202 : 0 ≤ v202 ∧ v202 ≤ 7 := by rw [← e202]; exact hI_M173 598 80 (by decide)
      have y203 : M173 598 80 = v202 := e202
      have e204 : M158 598 89 = v11 := ((w158_6 89 (by decide) (by decide) (by decide) (by decide) (by decide) (by decide) (by decide)).trans ((ju_i _ _ (by decide)).trans ((ju_c _ _ (by decide)).trans ((ju_c _ _ (by decide)).trans e164))))
      have e205 : M173 598 89 = v11 := ((w173_11 89 (by decide) (by decide) (by decide) (by decide) (by decide) (by decide) (by decide) (by decide) (by decide) (by decide) (by decide)).trans ((ju_c _ _ (by decide)).trans ((ju_i _ _ (by decide)).trans e204)))
      have y206 : M173 598 89 = v11 := e205
      have e207 : M173 598 90 = v152 + 1 := ((w173_11 90 (by decide) (by decide) (by decide) (by decide) (by decide) (by decide) (by decide) (by decide) (by decide) (by decide) (by decide)).trans ((ju_c _ _ (by decide)).trans ((ju_i _ _ (by decide)).trans e172)))
      have y208 : M173 598 90 = v152 + 1 := e207
      obtain ⟨v209, e209⟩ : ∃ z, M 598 96 = z := ⟨_, rfl⟩
      have b209 : 0 ≤ v209 ∧ v209 ≤ 300 := by rw [← e209]; exact hI_M 598 96 (by decide)
      have e210 : M5 598 96 = v209 := ((w5_6 96 (by decide) (by decide) (by decide) (by decide) (by decide) (by decide) (by decide)).trans ((ju_i _ _ (by decide)).trans ((ju_i _ _ (by decide)).trans e209)))
      have e211 : M158 598 96 = v209 := ((w158_6 96 (by decide) (by decide) (by decide) (by decide) (by decide) (by decide) (by decide)).trans ((ju_i _ _ (by decide)).trans ((ju_c _ _ (by decide)).trans ((ju_c _ _ (by decide)).trans e210))))
      have e212 : M173 598 96 = v209 := ((w173_11 96 (by decide) (by decide) (by decide) (by decide) (by decide) (by decide) (by decide) (by decide) (by decide) (by decide) (by decide)).trans ((ju_c _ _ (by decide)).trans ((ju_i _ _ (by decide)).trans e211)))
      have y213 : M173 598 96 = v209 := e212
      obtain ⟨v214, e214⟩ : ∃ z, M173 598 100 = z := ⟨_, rfl⟩
      have b214 : 0 ≤ v214 ∧ v214 ≤ 13 := by rw [← e214]; exact hI_M173 598 100 (by decide)
      have y215 : M173 598 100 = v214 := e214
      obtain ⟨v216, e216⟩ : ∃ z, M173 598 107 = z := ⟨_, rfl⟩
      have b216 : 0 ≤ v216 ∧ v216 ≤ 16 := by rw [← e216]; exact hI_M173 598 107 (by decide)
      have y217 : M173 598 107 = v216 := e216
      exact jr.vreturn rfl rfl (q _ hI_M173 hH_M173 hS_M173  (by by_cases hf : v202 = 0; (first | (have e0 : (ju (ju M158 598 101 1) 658 (v169 - 1) (v152 + 1)) 598 107 = 0 := (by omega); have e1 : (ju (ju M158 598 101 1) 658 (v169 - 1) (v152 + 1)) 598 101 = 1 := (by omega); have hX := w173_9 0 2 0 0 _ hX (by omega) (fun _ => ⟨by omega, by omega, by omega, rfl⟩) (fun q => by exfalso; omega) (by rw [e0, e1]; decide) (by omega); have hB := LB.fr hB (fun i => w173_10 659 i (by decide) (by decide) (by decide)) (w173_11 90 (by decide) (by decide) (by decide) (by decide) (by decide) (by decide) (by decide) (by decide) (by decide) (by decide) (by decide)); have hA := AK.cp hA (CP.f (CP.rfl _) (fun i => w173_10 659 i (by decide) (by decide) (by decide)) (w173_11 90 (by decide) (by decide) (by decide) (by decide) (by decide) (by decide) (by decide) (by decide) (by decide) (by decide) (by decide))) (fun i => w173_10 663 i (by decide) (by decide) (by decide)) (w173_11 96 (by decide) (by decide) (by decide) (by decide) (by decide) (by decide) (by decide) (by decide) (by decide) (by decide) (by decide)); exact Or.inr ⟨by omega, Or.inl ⟨by omega, ⟨by omega, XS.adj hX (k' := 0) (z' := 0) (by omega) (by omega) (by omega), by omega, by omega, by omega, by omega, hB, hA, by omega⟩⟩⟩) | (exfalso; omega)); (exact Or.inl ⟨by omega, by omega⟩)) (by omega) (by omega) (by omega) (fun a i f598 f658 f659 f660 f668 f669 => ((w173_10 a i f598 f668 f669).trans ((ju_c _ _ f658).trans ((ju_c _ _ f598).trans ((w158_5 a i f598).trans ((ju_c _ _ f598).trans ((ju_c _ _ f660).trans ((ju_c _ _ f659).trans ((w5_5 a i f598).trans ((ju_c _ _ f598).trans ((ju_c _ _ f598).trans rfl))))))))))) (fun i g73 g74 g75 g76 g77 g78 g79 g80 g81 g90 g100 g101 g107 => ((w173_11 i g73 g74 g75 g76 g77 g78 g79 g80 g81 g100 g107).trans ((ju_c _ _ (by decide)).trans ((ju_i _ _ g101).trans ((w158_6 i g73 g74 g75 g76 g77 g78 g79).trans ((ju_i _ _ g90).trans ((ju_c _ _ (by decide)).trans ((ju_c _ _ (by decide)).trans ((w5_6 i g73 g74 g75 g76 g77 g78 g79).trans ((ju_i _ _ g100).trans ((ju_i _ _ g107).trans rfl))))))))))))
    · refine jr.if_eq rfl rfl (by omega) (fun _ => ?_) (fun h => absurd (by decide) h)
      have e218 : M5 598 72 = v7 := ((w5_6 72 (by decide) (by decide) (by decide) (by decide) (by decide) (by decide) (by decide)).trans ((ju_i _ _ (by decide)).trans ((ju_i _ _ (by decide)).trans e7)))
      have y219 : (ju (ju (ju M5 659 v152 3) 660 v152 0) 598 90 (v152 + 1)) 598 72 = v7 := ((ju_i _ _ (by decide)).trans ((ju_c _ _ (by decide)).trans ((ju_c _ _ (by decide)).trans e218)))
      obtain ⟨v220, e220⟩ : ∃ z, M5 598 73 = z := ⟨_, rfl⟩
      have b220 : 0 ≤ v220 ∧ v220 ≤ 1600 := by rw [← e220]; exact hI_M5 598 73 (by decide)
      have y221 : (ju (ju (ju M5 659 v152 3) 660 v152 0) 598 90 (v152 + 1)) 598 73 = v220 := ((ju_i _ _ (by decide)).trans ((ju_c _ _ (by decide)).trans ((ju_c _ _ (by decide)).trans e220)))
      obtain ⟨v222, e222⟩ : ∃ z, M5 598 74 = z := ⟨_, rfl⟩
      have b222 : 0 ≤ v222 ∧ v222 ≤ 4 := by rw [← e222]; exact hI_M5 598 74 (by decide)
      have y223 : (ju (ju (ju M5 659 v152 3) 660 v152 0) 598 90 (v152 + 1)) 598 74 = v222 := ((ju_i _ _ (by decide)).trans ((ju_c _ _ (by decide)).trans ((ju_c _ _ (by decide)).trans e222)))
      obtain ⟨v224, e224⟩ : ∃ z, M5 598 79 = z := ⟨_, rfl⟩
      have b224 : 0 ≤ v224 ∧ v224 ≤ 255 := by rw [← e224]; exact hI_M5 598 79 (by decide)
      have y225 : (ju (ju (ju M5 659 v152 3) 660 v152 0) 598 90 (v152 + 1)) 598 79 = v224 := ((ju_i _ _ (by decide)).trans ((ju_c _ _ (by decide)).trans ((ju_c _ _ (by decide)).trans e224)))
      obtain ⟨v226, e226⟩ : ∃ z, M 598 80 = z := ⟨_, rfl⟩
      have b226 : 0 ≤ v226 ∧ v226 ≤ 7 := by rw [← e226]; exact hI_M 598 80 (by decide)
      have e227 : M5 598 80 = v226 := ((w5_6 80 (by decide) (by decide) (by decide) (by decide) (by decide) (by decide) (by decide)).trans ((ju_i _ _ (by decide)).trans ((ju_i _ _ (by decide)).trans e226)))
      have y228 : (ju (ju (ju M5 659 v152 3) 660 v152 0) 598 90 (v152 + 1)) 598 80 = v226 := ((ju_i _ _ (by decide)).trans ((ju_c _ _ (by decide)).trans ((ju_c _ _ (by decide)).trans e227)))
      have e229 : M5 598 89 = v11 := ((w5_6 89 (by decide) (by decide) (by decide) (by decide) (by decide) (by decide) (by decide)).trans ((ju_i _ _ (by decide)).trans ((ju_i _ _ (by decide)).trans e11)))
      have y230 : (ju (ju (ju M5 659 v152 3) 660 v152 0) 598 90 (v152 + 1)) 598 89 = v11 := ((ju_i _ _ (by decide)).trans ((ju_c _ _ (by decide)).trans ((ju_c _ _ (by decide)).trans e229)))
      have y231 : (ju (ju (ju M5 659 v152 3) 660 v152 0) 598 90 (v152 + 1)) 598 90 = v152 + 1 := (ju_same _ _ _ _)
      obtain ⟨v232, e232⟩ : ∃ z, M 598 96 = z := ⟨_, rfl⟩
      have b232 : 0 ≤ v232 ∧ v232 ≤ 300 := by rw [← e232]; exact hI_M 598 96 (by decide)
      have e233 : M5 598 96 = v232 := ((w5_6 96 (by decide) (by decide) (by decide) (by decide) (by decide) (by decide) (by decide)).trans ((ju_i _ _ (by decide)).trans ((ju_i _ _ (by decide)).trans e232)))
      have y234 : (ju (ju (ju M5 659 v152 3) 660 v152 0) 598 90 (v152 + 1)) 598 96 = v232 := ((ju_i _ _ (by decide)).trans ((ju_c _ _ (by decide)).trans ((ju_c _ _ (by decide)).trans e233)))
      have y235 : (ju (ju (ju M5 659 v152 3) 660 v152 0) 598 90 (v152 + 1)) 598 100 = v2 - 1 := ((ju_i _ _ (by decide)).trans ((ju_c _ _ (by decide)).trans ((ju_c _ _ (by decide)).trans e154)))
      have y236 : (ju (ju (ju M5 659 v152 3) 660 v152 0) 598 90 (v152 + 1)) 598 107 = v1 - 1 := ((ju_i _ _ (by decide)).trans ((ju_c _ _ (by decide)).trans ((ju_c _ _ (by decide)).trans e156)))
      have y237 : TK (ju (ju (ju M5 659 v152 3) 660 v152 0) 598 90 (v152 + 1)) = TK M5 := ((TK.o (Or.inr ⟨by decide, by decide⟩)).trans ((TK.o (Or.inl (by decide))).trans ((TK.o (Or.inl (by decide))).trans rfl)))
      exact jr.vreturn rfl rfl (q _ (RI.u (RI.u (RI.u hI_M5 (a := 659) (i := v152) (by rw [xri_row rfl rfl]; show (0 : Int) ≤ _ ∧ _ ≤ (1000 : Int); omega)) (a := 660) (i := v152) (by rw [xri_row rfl rfl]; show (-9223372036854775808 : Int) ≤ _ ∧ _ ≤ (9223372036854775807 : Int); omega)) (a := 598) (i := 90) (show (0 : Int) ≤ _ ∧ _ ≤ (2200 : Int) from by omega)) (RH.o (RH.o (RH.o hH_M5 (by decide) (by decide) (by decide)) (by decide) (by decide) (by decide)) (by decide) (by decide) (by decide)) (RF.o (RF.o (RF.o hS_M5 (by decide) (by decide)) (by decide) (by decide)) (by decide) (by decide))  (Or.inr ⟨by omega, Or.inr ⟨by omega, ⟨by omega, XS.adj hX (k' := 0) (z' := 1) (by omega) (by omega) (by omega), by omega, by omega, by omega, by omega, hB, hA, by omega⟩, by omega, by rw [ju_same, show v152 + 1 - 1 = v152 by omega, ju_c _ _ (by decide), ju_c _ _ (by decide), ju_same]⟩⟩) (by omega) (by omega) (by omega) (fun a i f598 f658 f659 f660 f668 f669 => ((ju_c _ _ f598).trans ((ju_c _ _ f660).trans ((ju_c _ _ f659).trans ((w5_5 a i f598).trans ((ju_c _ _ f598).trans ((ju_c _ _ f598).trans rfl))))))) (fun i g73 g74 g75 g76 g77 g78 g79 g80 g81 g90 g100 g101 g107 => ((ju_i _ _ g90).trans ((ju_c _ _ (by decide)).trans ((ju_c _ _ (by decide)).trans ((w5_6 i g73 g74 g75 g76 g77 g78 g79).trans ((ju_i _ _ g100).trans ((ju_i _ _ g107).trans rfl))))))))
end
section
end
