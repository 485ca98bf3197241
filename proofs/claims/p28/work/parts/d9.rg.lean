/-- behind the end of a block; behind a chain -/
noncomputable def ZBP (f : Int → Int) (N : Int) (xs : ZS) (M : jm) (nm ak : List Int) : Prop := ∃ t : Int, TKr f N t M ∧ ((1 ≤ M 598 107 ∧ zr f N xs (1, t, M 598 89, M 598 100, 0, M 598 101, blr M, nm, ak)) ∨ (M 598 107 = 0 ∧ zr f N xs (0, t, M 598 89, M 598 100, 0, M 598 101, [], nm, ak)))
noncomputable def ZBPQ (f : Int → Int) (N : Int) (xs : ZS) (M : jm) (nm ak : List Int) : Prop := M 598 80 = 0 → ZBP f N xs M nm ak
noncomputable def ZCP (f : Int → Int) (N : Int) (xs : ZS) (M : jm) : Prop := ∃ (t zd zb : Int) (zs : List (Int × Int × Int × Int)) (nm ak : List Int), TKr f N t M ∧ NMr f N M nm ∧ AKr f N M ak ∧ nm ≠ [] ∧ zr f N xs (0, t, M 598 89, zd, 0, zb, zs, nm, ak)
noncomputable def ZCPQ (f : Int → Int) (N : Int) (xs : ZS) (M : jm) : Prop := M 598 80 = 0 → ZCP f N xs M
noncomputable def EXJ (M : jm) (k : Int) : Prop := ∃ j : Int, 0 ≤ j ∧ j < k ∧ M 656 j = M 598 77
set_option maxHeartbeats 8000000 in
theorem r_closeBlock_z {A : Nat → Option (Nat × (Nat → Int32))} {Q : Option Value → jm → Prop} {f : Int → Int} {N : Int} {xs : ZS} {t : Int} {nm ak : List Int} {M : jm} (hI_M : RI M) (hH_M : RH M) (hS_M : RF M) (p0 : DS M 0) (p1 : 1 ≤ M 598 107) (p2 : 1 ≤ M 598 88) (p3 : (M 598 74 = 3 ∧ M 598 79 = 125)) (p4 : TKr f N t M) (p5 : zr f N xs (1, t, M 598 89, M 598 100, 0, M 598 101, blr M, nm, ak)) (q : ∀ (M' : jm), RI M' → RH M' → RF M' → (BT M' ∨ (TK M' < TK M ∧ ((1 ≤ M' 598 107 ∧ DS M' 0) ∨ (M' 598 107 = 0 ∧ DS M' 1 ∧ 1 ≤ M' 598 90 ∧ M' 659 (M' 598 90 - 1) = 3)))) → TK M' ≤ TK M → M' 598 73 ≤ M' 598 72 → (M' 598 80 ≠ 0 ∨ TK M' < TK M) → TXr f N M' → ZFQ f N xs M' → ZBPQ f N xs M' nm ak → K8Q M M' → (∀ (a : Nat) (i : Int), a ≠ 598 → a ≠ 658 → a ≠ 659 → a ≠ 660 → a ≠ 668 → a ≠ 669 → M' a i = M a i) → (∀ (i : Int), i ≠ 73 → i ≠ 74 → i ≠ 75 → i ≠ 76 → i ≠ 77 → i ≠ 78 → i ≠ 79 → i ≠ 80 → i ≠ 81 → i ≠ 90 → i ≠ 100 → i ≠ 101 → i ≠ 107 → M' 598 i = M 598 i) → Q none M') : jc A 6 368 [.ref (598)] M Q := by
  obtain ⟨ds1, ds2, ds3, ds4, ds5, ds6, ds7, ds8, ds9⟩ := id p0
  have dpx := XS.dep ds2
  have sl := XS.sgle ds2
  have b101 : (0 : Int) ≤ M 598 101 ∧ M 598 101 ≤ 1 := hI_M 598 101 (by decide)
  have bM_107 : (0 : Int) ≤ M 598 107 ∧ M 598 107 ≤ 16 := hI_M 598 107 (by decide)
  have bM_73 : (0 : Int) ≤ M 598 73 ∧ M 598 73 ≤ 1600 := hI_M 598 73 (by decide)
  have bM_88 : (0 : Int) ≤ M 598 88 ∧ M 598 88 ≤ 16 := hI_M 598 88 (by decide)
  have bM_100 : (0 : Int) ≤ M 598 100 ∧ M 598 100 ≤ 13 := hI_M 598 100 (by decide)
  have hK := p4
  have kk0 := hK.kz
  have hT := hK.1
  have hz := p5
  have g125 := hK.sy p3.1 p3.2
  refine jc_of (m := xm_368) rfl (Nat.le_of_ble_eq_true rfl) rfl ?_
  refine jr.aload_n rfl rfl ?_
  refine jr.dup rfl rfl ?_
  obtain ⟨v1, e1⟩ : ∃ z, M 598 107 = z := ⟨_, rfl⟩
  have b1 : 0 ≤ v1 ∧ v1 ≤ 16 := by rw [← e1]; exact hI_M 598 107 (by decide)
  refine jr.getf (i := 107) (x := v1) (v := .int (Int32.ofInt (v1))) rfl rfl (by decide) rfl (by decide) rfl rfl e1 rfl ?_
  refine jr.iconst rfl ?_
  refine jr.isub rfl ?_
  refine jr.putf (i := 107) (x := (v1 - 1)) rfl rfl (by decide) rfl (by decide) rfl rfl rfl rfl rfl ?_
  refine jr.aload_n rfl rfl ?_
  refine jr.dup rfl rfl ?_
  obtain ⟨v2, e2⟩ : ∃ z, M 598 100 = z := ⟨_, rfl⟩
  have b2 : 0 ≤ v2 ∧ v2 ≤ 13 := by rw [← e2]; exact hI_M 598 100 (by decide)
  refine jr.getf (i := 100) (x := v2) (v := .int (Int32.ofInt (v2))) rfl rfl (by decide) rfl (by decide) rfl rfl ((ju_i _ _ (by decide)).trans e2) rfl ?_
  refine jr.iconst rfl ?_
  refine jr.isub rfl ?_
  refine jr.putf (i := 100) (x := (v2 - 1)) rfl rfl (by decide) rfl (by decide) rfl rfl rfl rfl rfl ?_
  refine jr.aload_n rfl rfl ?_
  refine jr.getf (i := 108) (v := .ref 668) rfl rfl (by decide) rfl (by decide) rfl rfl rfl rfl ?_
  refine jr.aload_n rfl rfl ?_
  refine jr.getf (i := 107) (x := (v1 - 1)) (v := .int (Int32.ofInt (v1 - 1))) rfl rfl (by decide) rfl (by decide) rfl rfl ((ju_i _ _ (by decide)).trans (ju_same _ _ _ _)) rfl ?_
  obtain ⟨v3, e3⟩ : ∃ z, M 668 (v1 - 1) = z := ⟨_, rfl⟩
  have b3 : 0 ≤ v3 ∧ v3 ≤ 3 := by rw [← e3]; exact (by have q := hI_M 668 (v1 - 1) (by decide); rw [xri_row rfl rfl] at q; exact q)
  refine jr.iald (i := (v1 - 1)) (x := v3) rfl (by decide) rfl (by decide) (by omega) (by omega) ((ju_c _ _ (by decide)).trans ((ju_c _ _ (by decide)).trans e3)) ?_
  refine jr.istore_n rfl (by decide) rfl ?_
  refine jr.aload_n rfl rfl ?_
  refine jr.getf (i := 109) (v := .ref 669) rfl rfl (by decide) rfl (by decide) rfl rfl rfl rfl ?_
  refine jr.aload_n rfl rfl ?_
  refine jr.getf (i := 107) (x := (v1 - 1)) (v := .int (Int32.ofInt (v1 - 1))) rfl rfl (by decide) rfl (by decide) rfl rfl ((ju_i _ _ (by decide)).trans (ju_same _ _ _ _)) rfl ?_
  obtain ⟨v4, e4⟩ : ∃ z, M 669 (v1 - 1) = z := ⟨_, rfl⟩
  have b4 : 0 ≤ v4 ∧ v4 ≤ 2200 := by rw [← e4]; exact (by have q := hI_M 669 (v1 - 1) (by decide); rw [xri_row rfl rfl] at q; exact q)
  refine jr.iald (i := (v1 - 1)) (x := v4) rfl (by decide) rfl (by decide) (by omega) (by omega) ((ju_c _ _ (by decide)).trans ((ju_c _ _ (by decide)).trans e4)) ?_
  refine jr.istore_n rfl (by decide) rfl ?_
  refine jr.aload_n rfl rfl ?_
  obtain ⟨v5, e5⟩ : ∃ z, M 598 73 = z := ⟨_, rfl⟩
  have b5 : 0 ≤ v5 ∧ v5 ≤ 1600 := by rw [← e5]; exact hI_M 598 73 (by decide)
  obtain ⟨v6, e6⟩ : ∃ z, M 598 72 = z := ⟨_, rfl⟩
  have b6 : 0 ≤ v6 ∧ v6 ≤ 1600 := by rw [← e6]; exact hI_M 598 72 (by decide)
  obtain ⟨v7, e7⟩ : ∃ z, M 598 80 = z := ⟨_, rfl⟩
  have b7 : 0 ≤ v7 ∧ v7 ≤ 7 := by rw [← e7]; exact hI_M 598 80 (by decide)
  obtain ⟨v8, e8⟩ : ∃ z, M 598 74 = z := ⟨_, rfl⟩
  have b8 : 0 ≤ v8 ∧ v8 ≤ 4 := by rw [← e8]; exact hI_M 598 74 (by decide)
  obtain ⟨v11, e11⟩ : ∃ z, M 598 75 = z := ⟨_, rfl⟩
  have b11 : 0 ≤ v11 ∧ v11 ≤ 1600 := by rw [← e11]; exact hI_M 598 75 (by decide)
  obtain ⟨v13, e13⟩ : ∃ z, M 598 79 = z := ⟨_, rfl⟩
  have b13 : 0 ≤ v13 ∧ v13 ≤ 255 := by rw [← e13]; exact hI_M 598 79 (by decide)
  obtain ⟨v16, e16⟩ : ∃ z, M 598 81 = z := ⟨_, rfl⟩
  have b16 : (-1) ≤ v16 ∧ v16 ≤ 1600 := by rw [← e16]; exact hI_M 598 81 (by decide)
  obtain ⟨v18, e18⟩ : ∃ z, M 598 89 = z := ⟨_, rfl⟩
  have b18 : 0 ≤ v18 ∧ v18 ≤ 301 := by rw [← e18]; exact hI_M 598 89 (by decide)
  refine jr_v rfl rfl (Or.inl rfl) rfl rfl (by decide) rfl ⟨rfl, Nat.le_of_ble_eq_true rfl, Nat.le_of_ble_eq_true rfl⟩ rfl (jc.deep (c_next_z (f := f) (N := N) (RI.u (RI.u hI_M (a := 598) (i := 107) (show (0 : Int) ≤ _ ∧ _ ≤ (16 : Int) from by omega)) (a := 598) (i := 100) (show (0 : Int) ≤ _ ∧ _ ≤ (13 : Int) from by omega)) (RH.o (RH.o hH_M (by decide) (by decide) (by decide)) (by decide) (by decide) (by decide)) (RF.o (RF.o hS_M (by decide) (by decide)) (by decide) (by decide)) (by rw [((ju_i _ _ (by decide)).trans ((ju_i _ _ (by decide)).trans e5)), ((ju_i _ _ (by decide)).trans ((ju_i _ _ (by decide)).trans e6))]; omega) (TKr.oo (TKr.oo hK (by decide)) (by decide)) (by rw [((ju_i _ _ (by decide)).trans ((ju_i _ _ (by decide)).trans e7))]; omega) (by rw [((ju_i _ _ (by decide)).trans ((ju_i _ _ (by decide)).trans e8))]; omega) (fun M21 hI_M21 hH_M21 hS_M21 qa21 qb21 qt21 sn21 hK21 w21_50 w21_51 => ?_)) (by decide))
  have y9 : (ju (ju M 598 107 (v1 - 1)) 598 100 (v2 - 1)) 598 73 = v5 := ((ju_i _ _ (by decide)).trans ((ju_i _ _ (by decide)).trans e5))
  have y10 : (ju (ju M 598 107 (v1 - 1)) 598 100 (v2 - 1)) 598 74 = v8 := ((ju_i _ _ (by decide)).trans ((ju_i _ _ (by decide)).trans e8))
  have y12 : (ju (ju M 598 107 (v1 - 1)) 598 100 (v2 - 1)) 598 75 = v11 := ((ju_i _ _ (by decide)).trans ((ju_i _ _ (by decide)).trans e11))
  have y14 : (ju (ju M 598 107 (v1 - 1)) 598 100 (v2 - 1)) 598 79 = v13 := ((ju_i _ _ (by decide)).trans ((ju_i _ _ (by decide)).trans e13))
  have y15 : (ju (ju M 598 107 (v1 - 1)) 598 100 (v2 - 1)) 598 80 = v7 := ((ju_i _ _ (by decide)).trans ((ju_i _ _ (by decide)).trans e7))
  have y17 : (ju (ju M 598 107 (v1 - 1)) 598 100 (v2 - 1)) 598 81 = v16 := ((ju_i _ _ (by decide)).trans ((ju_i _ _ (by decide)).trans e16))
  have y19 : (ju (ju M 598 107 (v1 - 1)) 598 100 (v2 - 1)) 598 89 = v18 := ((ju_i _ _ (by decide)).trans ((ju_i _ _ (by decide)).trans e18))
  have y20 : (ju (ju M 598 107 (v1 - 1)) 598 100 (v2 - 1)) 598 100 = v2 - 1 := (ju_same _ _ _ _)
  have tb21 : TK (ju (ju M 598 107 (v1 - 1)) 598 100 (v2 - 1)) = TK M := ((TK.o (Or.inr ⟨by decide, by decide⟩)).trans ((TK.o (Or.inr ⟨by decide, by decide⟩)).trans rfl))
  have x21_72 := w21_51 72 (by decide) (by decide) (by decide) (by decide) (by decide) (by decide) (by decide)
  have x21_80 := w21_51 80 (by decide) (by decide) (by decide) (by decide) (by decide) (by decide) (by decide)
  have x21_81 := w21_51 81 (by decide) (by decide) (by decide) (by decide) (by decide) (by decide) (by decide)
  have x21_89 := w21_51 89 (by decide) (by decide) (by decide) (by decide) (by decide) (by decide) (by decide)
  have x21_100 := w21_51 100 (by decide) (by decide) (by decide) (by decide) (by decide) (by decide) (by decide)
  have hT21 := hK21.1
  have kk21 := hK21.kz
  have y22 : (ju (ju M 598 107 (v1 - 1)) 598 100 (v2 - 1)) 598 73 = v5 := ((ju_i _ _ (by decide)).trans ((ju_i _ _ (by decide)).trans e5))
  have y23 : (ju (ju M 598 107 (v1 - 1)) 598 100 (v2 - 1)) 598 74 = v8 := ((ju_i _ _ (by decide)).trans ((ju_i _ _ (by decide)).trans e8))
  have y24 : (ju (ju M 598 107 (v1 - 1)) 598 100 (v2 - 1)) 598 89 = v18 := ((ju_i _ _ (by decide)).trans ((ju_i _ _ (by decide)).trans e18))
  have y25 : (ju (ju M 598 107 (v1 - 1)) 598 100 (v2 - 1)) 598 100 = v2 - 1 := (ju_same _ _ _ _)
  have x21_89 := w21_51 89 (by decide) (by decide) (by decide) (by decide) (by decide) (by decide) (by decide)
  have x21_100 := w21_51 100 (by decide) (by decide) (by decide) (by decide) (by decide) (by decide) (by decide)
  have x21_88 := w21_51 88 (by decide) (by decide) (by decide) (by decide) (by decide) (by decide) (by decide)
  have x21_101 := w21_51 101 (by decide) (by decide) (by decide) (by decide) (by decide) (by decide) (by decide)
  have bq74 : (0 : Int) ≤ M21 598 74 ∧ M21 598 74 ≤ 4 := hI_M21 598 74 (by decide)
  have adv := TK.adv qt21 (by omega) (by omega)
  have hu : 2 ≤ v3 → _ := fun q => XS.unblk ds2 e1 e2 (by omega) (by rw [e3]; exact q) (by omega)
  rw [e3, e4] at hu
  have hv : v3 ≤ 1 → _ := fun q => XS.unblk0 ds2 e1 e2 (by omega) (by rw [e3]; exact q)
  rw [e3] at hv
  have hU := fun (q : 2 ≤ v3) => XS.fr2 (hu q).1 w21_50 (w21_51 88 (by decide) (by decide) (by decide) (by decide) (by decide) (by decide) (by decide)) (w21_51 90 (by decide) (by decide) (by decide) (by decide) (by decide) (by decide) (by decide)) (w21_51 101 (by decide) (by decide) (by decide) (by decide) (by decide) (by decide) (by decide)) (w21_51 107 (by decide) (by decide) (by decide) (by decide) (by decide) (by decide) (by decide)) (k' := 0 + 2 + min 1 (M21 598 74)) (d' := 0) (z' := 0) (by omega) (by omega) (by omega) (by omega)
  have rl := RVq_le (show (0 : Int) ≤ 1 by decide) (M 598 101)
  have hV := fun (q : v3 ≤ 1) => XS.fr2 (hv q).1 w21_50 (w21_51 88 (by decide) (by decide) (by decide) (by decide) (by decide) (by decide) (by decide)) (w21_51 90 (by decide) (by decide) (by decide) (by decide) (by decide) (by decide) (by decide)) (w21_51 101 (by decide) (by decide) (by decide) (by decide) (by decide) (by decide) (by decide)) (w21_51 107 (by decide) (by decide) (by decide) (by decide) (by decide) (by decide) (by decide)) (k' := 0 + RVq 1 (M 598 101)) (d' := 0) (z' := 0) (by omega) (by omega) (by omega) (by omega)
  have hA := AK.cp (AK.cp (M' := (ju (ju M 598 107 (v1 - 1)) 598 100 (v2 - 1))) ds8 (CP.o (CP.o (CP.rfl _) (by decide) (Or.inr (by decide))) (by decide) (Or.inr (by decide))) (fun i => by rw [ju_c _ _ (by decide), ju_c _ _ (by decide)]) (by rw [ju_i _ _ (by decide), ju_i _ _ (by decide)])) (CP.f (CP.rfl _) (fun i => w21_50 659 i (by decide)) (w21_51 90 (by decide) (by decide) (by decide) (by decide) (by decide) (by decide) (by decide))) (fun i => w21_50 663 i (by decide)) (w21_51 96 (by decide) (by decide) (by decide) (by decide) (by decide) (by decide) (by decide))
  have hB := LB.fr (LB.fr (M' := (ju (ju M 598 107 (v1 - 1)) 598 100 (v2 - 1))) ds7 (fun i => by rw [ju_c _ _ (by decide), ju_c _ _ (by decide)]) (by rw [ju_i _ _ (by decide), ju_i _ _ (by decide)])) (fun i => w21_50 659 i (by decide)) (w21_51 90 (by decide) (by decide) (by decide) (by decide) (by decide) (by decide) (by decide))
  have x21_101 := w21_51 101 (by decide) (by decide) (by decide) (by decide) (by decide) (by decide) (by decide)
  have x21_107 := w21_51 107 (by decide) (by decide) (by decide) (by decide) (by decide) (by decide) (by decide)
  have x21_88 := w21_51 88 (by decide) (by decide) (by decide) (by decide) (by decide) (by decide) (by decide)
  have x21_96 := w21_51 96 (by decide) (by decide) (by decide) (by decide) (by decide) (by decide) (by decide)
  have hbp := blr_pop e1 (by omega)
  rw [e3] at hbp
  rw [hbp] at hz
  have hb1 : blr M21 = blr (ju M 598 107 (v1 - 1)) := (blr_fr (fun i => w21_50 668 i (by decide)) (w21_51 107 (by decide) (by decide) (by decide) (by decide) (by decide) (by decide) (by decide))).trans (blr_fr (fun i => ju_c _ _ (by decide)) (ju_i _ _ (by decide)))
  refine jr.iload_n rfl rfl ?_
  refine jr.if_ne rfl rfl (by omega) (fun h45 => ?_) (fun h45 => ?_)
  · refine jr.iload_n rfl rfl ?_
    refine jr.iconst rfl ?_
    refine jr.icmp_ne rfl rfl (by omega) (by omega) (fun h97 => ?_) (fun h97 => ?_)
    · refine jr.iload_n rfl rfl ?_
      refine jr.iconst rfl ?_
      refine jr.icmp_ne rfl rfl (by omega) (by omega) (fun h111 => ?_) (fun h111 => ?_)
      · refine jr.aload_n rfl rfl ?_
        refine jr.getf (i := 95) (v := .ref 660) rfl rfl (by decide) rfl (by decide) rfl rfl rfl rfl ?_
        refine jr.iload_n rfl rfl ?_
        refine jr.aload_n rfl rfl ?_
        obtain ⟨v26, e26⟩ : ∃ z, M 598 90 = z := ⟨_, rfl⟩
        have b26 : 0 ≤ v26 ∧ v26 ≤ 2200 := by rw [← e26]; exact hI_M 598 90 (by decide)
        have e27 : M21 598 90 = v26 := ((w21_51 90 (by decide) (by decide) (by decide) (by decide) (by decide) (by decide) (by decide)).trans ((ju_i _ _ (by decide)).trans ((ju_i _ _ (by decide)).trans e26)))
        refine jr.getf (i := 90) (x := v26) (v := .int (Int32.ofInt (v26))) rfl rfl (by decide) rfl (by decide) rfl rfl e27 rfl ?_
        refine jr.i2l rfl (by omega) ?_
        refine jr.last (i := v4) (x := v26) rfl (by decide) rfl (by decide) (by omega) (by omega) ?_
        have e28 : M21 598 72 = v6 := ((w21_51 72 (by decide) (by decide) (by decide) (by decide) (by decide) (by decide) (by decide)).trans ((ju_i _ _ (by decide)).trans ((ju_i _ _ (by decide)).trans e6)))
        have y29 : (ju M21 660 v4 v26) 598 72 = v6 := ((ju_c _ _ (by decide)).trans e28)
        obtain ⟨v30, e30⟩ : ∃ z, M21 598 73 = z := ⟨_, rfl⟩
        have b30 : 0 ≤ v30 ∧ v30 ≤ 1600 := by rw [← e30]; exact hI_M21 598 73 (by decide)
        have y31 : (ju M21 660 v4 v26) 598 73 = v30 := ((ju_c _ _ (by decide)).trans e30)
        obtain ⟨v32, e32⟩ : ∃ z, M21 598 74 = z := ⟨_, rfl⟩
        have b32 : 0 ≤ v32 ∧ v32 ≤ 4 := by rw [← e32]; exact hI_M21 598 74 (by decide)
        have y33 : (ju M21 660 v4 v26) 598 74 = v32 := ((ju_c _ _ (by decide)).trans e32)
        obtain ⟨v34, e34⟩ : ∃ z, M21 598 79 = z := ⟨_, rfl⟩
        have b34 : 0 ≤ v34 ∧ v34 ≤ 255 := by rw [← e34]; exact hI_M21 598 79 (by decide)
        have y35 : (ju M21 660 v4 v26) 598 79 = v34 := ((ju_c _ _ (by decide)).trans e34)
        have e36 : M21 598 80 = v7 := ((w21_51 80 (by decide) (by decide) (by decide) (by decide) (by decide) (by decide) (by decide)).trans ((ju_i _ _ (by decide)).trans ((ju_i _ _ (by decide)).trans e7)))
        have y37 : (ju M21 660 v4 v26) 598 80 = v7 := ((ju_c _ _ (by decide)).trans e36)
        have e38 : M21 598 89 = v18 := ((w21_51 89 (by decide) (by decide) (by decide) (by decide) (by decide) (by decide) (by decide)).trans ((ju_i _ _ (by decide)).trans ((ju_i _ _ (by decide)).trans e18)))
        have y39 : (ju M21 660 v4 v26) 598 89 = v18 := ((ju_c _ _ (by decide)).trans e38)
        have y40 : (ju M21 660 v4 v26) 598 90 = v26 := ((ju_c _ _ (by decide)).trans e27)
        obtain ⟨v41, e41⟩ : ∃ z, M 598 96 = z := ⟨_, rfl⟩
        have b41 : 0 ≤ v41 ∧ v41 ≤ 300 := by rw [← e41]; exact hI_M 598 96 (by decide)
        have e42 : M21 598 96 = v41 := ((w21_51 96 (by decide) (by decide) (by decide) (by decide) (by decide) (by decide) (by decide)).trans ((ju_i _ _ (by decide)).trans ((ju_i _ _ (by decide)).trans e41)))
        have y43 : (ju M21 660 v4 v26) 598 96 = v41 := ((ju_c _ _ (by decide)).trans e42)
        have e44 : M21 598 100 = v2 - 1 := ((w21_51 100 (by decide) (by decide) (by decide) (by decide) (by decide) (by decide) (by decide)).trans (ju_same _ _ _ _))
        have y45 : (ju M21 660 v4 v26) 598 100 = v2 - 1 := ((ju_c _ _ (by decide)).trans e44)
        have e46 : M21 598 107 = v1 - 1 := ((w21_51 107 (by decide) (by decide) (by decide) (by decide) (by decide) (by decide) (by decide)).trans ((ju_i _ _ (by decide)).trans (ju_same _ _ _ _)))
        have y47 : (ju M21 660 v4 v26) 598 107 = v1 - 1 := ((ju_c _ _ (by decide)).trans e46)
        have y48 : TK (ju M21 660 v4 v26) = TK M21 := ((TK.o (Or.inl (by decide))).trans rfl)
        have y49 : M21 598 90 = v26 := e27
        obtain ⟨_, hp0, hp1, hp2, hp3, hp4⟩ := hu (by omega)
        have x90_ := w21_51 90 (by decide) (by decide) (by decide) (by decide) (by decide) (by decide) (by decide)
        have hX := XS.patch (hU (by omega)) e27 (by omega) (by omega) (by rw [w21_50 659 _ (by decide), ju_c _ _ (by decide), ju_c _ _ (by decide)]; omega) (by have z := hB; unfold LB at z; rw [e27] at z; exact z.resolve_left (by omega))
        have hA := AK.cp (M' := (ju M21 660 v4 v26)) hA (CP.o (CP.rfl _) (by decide) (Or.inl (by decide))) (fun i => ju_c _ _ (by decide)) (ju_c _ _ (by decide))
        have hB := LB.fr (M' := (ju M21 660 v4 v26)) hB (fun i => ju_c _ _ (by decide)) (ju_c _ _ (by decide))
        obtain ⟨v50, e50⟩ : ∃ z, M21 598 75 = z := ⟨_, rfl⟩
        have b50 : 0 ≤ v50 ∧ v50 ≤ 1600 := by rw [← e50]; exact hI_M21 598 75 (by decide)
        have y51 : (ju M21 660 v4 v26) 598 75 = v50 := ((ju_c _ _ (by decide)).trans e50)
        have y52 : (ju M21 660 v4 v26) 598 80 = v7 := ((ju_c _ _ (by decide)).trans e36)
        have e53 : M21 598 81 = v16 := ((w21_51 81 (by decide) (by decide) (by decide) (by decide) (by decide) (by decide) (by decide)).trans ((ju_i _ _ (by decide)).trans ((ju_i _ _ (by decide)).trans e16)))
        have y54 : (ju M21 660 v4 v26) 598 81 = v16 := ((ju_c _ _ (by decide)).trans e53)
        have y55 : (ju M21 660 v4 v26) 598 89 = v18 := ((ju_c _ _ (by decide)).trans e38)
        have y56 : (ju M21 660 v4 v26) 598 100 = v2 - 1 := ((ju_c _ _ (by decide)).trans e44)
        obtain ⟨v57, e57⟩ : ∃ z, M 598 101 = z := ⟨_, rfl⟩
        have b57 : 0 ≤ v57 ∧ v57 ≤ 1 := by rw [← e57]; exact hI_M 598 101 (by decide)
        have e58 : M21 598 101 = v57 := ((w21_51 101 (by decide) (by decide) (by decide) (by decide) (by decide) (by decide) (by decide)).trans ((ju_i _ _ (by decide)).trans ((ju_i _ _ (by decide)).trans e57)))
        have y59 : (ju M21 660 v4 v26) 598 101 = v57 := ((ju_c _ _ (by decide)).trans e58)
        have y60 : (ju M21 660 v4 v26) 598 107 = v1 - 1 := ((ju_c _ _ (by decide)).trans e46)
        exact jr.vreturn rfl rfl (q _ (RI.u hI_M21 (a := 660) (i := v4) (by rw [xri_row rfl rfl]; show (-9223372036854775808 : Int) ≤ _ ∧ _ ≤ (9223372036854775807 : Int); omega)) (RH.o hH_M21 (by decide) (by decide) (by decide)) (RF.o hS_M21 (by decide) (by decide))  (Or.inr ⟨by omega, Or.inl ⟨by omega, ⟨by omega, XS.adj hX (k' := 0) (z' := 0) (by omega) (by omega) (by omega), by omega, by omega, by omega, by omega, hB, hA, by omega⟩⟩⟩) (by omega) (by omega) (by omega) (TXr.k hT21 (by decide) (by decide) (by decide) (by decide)) (fun q => by exfalso; omega) (fun _ => ⟨_, (TKr.cc hK21 (by decide) (by decide) (by decide) (by decide)), Or.inl ⟨by omega, (by first | (have hz := hz; rw [show v3 = 3 by omega] at hz; exact (zr.eqx (zr.bl3 hz g125) rfl rfl (by omega) (by omega) (by omega) (by rw [(((blr_fr (fun i => ju_c _ _ (by decide)) (ju_c _ _ (by decide))).trans rfl)).trans hb1]))) | (have hz := hz; rw [show v3 = 2 by omega] at hz; exact (zr.eqx (zr.bl2 hz g125 (fun z => by have q := hK21.wz (by omega); omega)) rfl rfl (by omega) (by omega) (by omega) (by rw [(((blr_fr (fun i => ju_c _ _ (by decide)) (ju_c _ _ (by decide))).trans rfl)).trans hb1]))))⟩⟩) (fun q => by omega) (fun a i f598 f658 f659 f660 f668 f669 => ((ju_c _ _ f660).trans ((w21_50 a i f598).trans ((ju_c _ _ f598).trans ((ju_c _ _ f598).trans rfl))))) (fun i g73 g74 g75 g76 g77 g78 g79 g80 g81 g90 g100 g101 g107 => ((ju_c _ _ (by decide)).trans ((w21_51 i g73 g74 g75 g76 g77 g78 g79).trans ((ju_i _ _ g100).trans ((ju_i _ _ g107).trans rfl))))))
      · refine jr.aload_n rfl rfl ?_
        refine jr.iconst rfl ?_
        refine jr_v rfl rfl (Or.inl rfl) rfl rfl (by decide) rfl ⟨rfl, Nat.le_of_ble_eq_true rfl, Nat.le_of_ble_eq_true rfl⟩ rfl (jc.deep (c_isWord hI_M21 (by omega) (fun t116_0 t116_1 => ?_) (fun f116_0 => ?_)) (by decide))
        · refine jr.if_eq rfl rfl (by omega) (fun h => absurd h (by decide)) (fun _ => ?_)
          refine jr.aload_n rfl rfl ?_
          obtain ⟨v61, e61⟩ : ∃ z, M 598 90 = z := ⟨_, rfl⟩
          have b61 : 0 ≤ v61 ∧ v61 ≤ 2200 := by rw [← e61]; exact hI_M 598 90 (by decide)
          have e62 : M21 598 90 = v61 := ((w21_51 90 (by decide) (by decide) (by decide) (by decide) (by decide) (by decide) (by decide)).trans ((ju_i _ _ (by decide)).trans ((ju_i _ _ (by decide)).trans e61)))
          refine jr.getf (i := 90) (x := v61) (v := .int (Int32.ofInt (v61))) rfl rfl (by decide) rfl (by decide) rfl rfl e62 rfl ?_
          refine jr.istore_n rfl (by decide) rfl ?_
          refine jr.aload_n rfl rfl ?_
          refine jr.iconst rfl ?_
          refine jr.lconst (x := 0) rfl (by decide) ?_
          refine jr_v rfl rfl (Or.inl rfl) rfl rfl (by decide) rfl ⟨rfl, Nat.le_of_ble_eq_true rfl, Nat.le_of_ble_eq_true rfl⟩ rfl (jc.deep (r_emit e62 (by omega) (by omega) (by omega) ?_) (by decide))
          refine jr.aload_n rfl rfl ?_
          refine jr.getf (i := 95) (v := .ref 660) rfl rfl (by decide) rfl (by decide) rfl rfl rfl rfl ?_
          refine jr.iload_n rfl rfl ?_
          refine jr.aload_n rfl rfl ?_
          refine jr.getf (i := 90) (x := (v61 + 1)) (v := .int (Int32.ofInt (v61 + 1))) rfl rfl (by decide) rfl (by decide) rfl rfl (ju_same _ _ _ _) rfl ?_
          refine jr.i2l rfl (by omega) ?_
          refine jr.last (i := v4) (x := (v61 + 1)) rfl (by decide) rfl (by decide) (by omega) (by omega) ?_
          refine jr.aload_n rfl rfl ?_
          obtain ⟨v63, e63⟩ : ∃ z, M21 598 73 = z := ⟨_, rfl⟩
          have b63 : 0 ≤ v63 ∧ v63 ≤ 1600 := by rw [← e63]; exact hI_M21 598 73 (by decide)
          have e64 : M21 598 72 = v6 := ((w21_51 72 (by decide) (by decide) (by decide) (by decide) (by decide) (by decide) (by decide)).trans ((ju_i _ _ (by decide)).trans ((ju_i _ _ (by decide)).trans e6)))
          have e65 : M21 598 80 = v7 := ((w21_51 80 (by decide) (by decide) (by decide) (by decide) (by decide) (by decide) (by decide)).trans ((ju_i _ _ (by decide)).trans ((ju_i _ _ (by decide)).trans e7)))
          obtain ⟨v66, e66⟩ : ∃ z, M21 598 74 = z := ⟨_, rfl⟩
          have b66 : 0 ≤ v66 ∧ v66 ≤ 4 := by rw [← e66]; exact hI_M21 598 74 (by decide)
          obtain ⟨v69, e69⟩ : ∃ z, M21 598 75 = z := ⟨_, rfl⟩
          have b69 : 0 ≤ v69 ∧ v69 ≤ 1600 := by rw [← e69]; exact hI_M21 598 75 (by decide)
          obtain ⟨v71, e71⟩ : ∃ z, M21 598 79 = z := ⟨_, rfl⟩
          have b71 : 0 ≤ v71 ∧ v71 ≤ 255 := by rw [← e71]; exact hI_M21 598 79 (by decide)
          have e74 : M21 598 81 = v16 := ((w21_51 81 (by decide) (by decide) (by decide) (by decide) (by decide) (by decide) (by decide)).trans ((ju_i _ _ (by decide)).trans ((ju_i _ _ (by decide)).trans e16)))
          have e76 : M21 598 89 = v18 := ((w21_51 89 (by decide) (by decide) (by decide) (by decide) (by decide) (by decide) (by decide)).trans ((ju_i _ _ (by decide)).trans ((ju_i _ _ (by decide)).trans e18)))
          have e78 : M21 598 100 = v2 - 1 := ((w21_51 100 (by decide) (by decide) (by decide) (by decide) (by decide) (by decide) (by decide)).trans (ju_same _ _ _ _))
          have e83 : M21 598 107 = v1 - 1 := ((w21_51 107 (by decide) (by decide) (by decide) (by decide) (by decide) (by decide) (by decide)).trans ((ju_i _ _ (by decide)).trans (ju_same _ _ _ _)))
          refine jr_v rfl rfl (Or.inl rfl) rfl rfl (by decide) rfl ⟨rfl, Nat.le_of_ble_eq_true rfl, Nat.le_of_ble_eq_true rfl⟩ rfl (jc.deep (c_next_z (f := f) (N := N) (RI.u (RI.u (RI.u (RI.u hI_M21 (a := 659) (i := v61) (by rw [xri_row rfl rfl]; show (0 : Int) ≤ _ ∧ _ ≤ (1000 : Int); omega)) (a := 660) (i := v61) (by rw [xri_row rfl rfl]; show (-9223372036854775808 : Int) ≤ _ ∧ _ ≤ (9223372036854775807 : Int); omega)) (a := 598) (i := 90) (show (0 : Int) ≤ _ ∧ _ ≤ (2200 : Int) from by omega)) (a := 660) (i := v4) (by rw [xri_row rfl rfl]; show (-9223372036854775808 : Int) ≤ _ ∧ _ ≤ (9223372036854775807 : Int); omega)) (RH.o (RH.o (RH.o (RH.o hH_M21 (by decide) (by decide) (by decide)) (by decide) (by decide) (by decide)) (by decide) (by decide) (by decide)) (by decide) (by decide) (by decide)) (RF.o (RF.o (RF.o (RF.o hS_M21 (by decide) (by decide)) (by decide) (by decide)) (by decide) (by decide)) (by decide) (by decide)) (by rw [((ju_c _ _ (by decide)).trans ((ju_i _ _ (by decide)).trans ((ju_c _ _ (by decide)).trans ((ju_c _ _ (by decide)).trans e63)))), ((ju_c _ _ (by decide)).trans ((ju_i _ _ (by decide)).trans ((ju_c _ _ (by decide)).trans ((ju_c _ _ (by decide)).trans e64))))]; omega) (TKr.cc (TKr.oo (TKr.cc (TKr.cc hK21 (by decide) (by decide) (by decide) (by decide)) (by decide) (by decide) (by decide) (by decide)) (by decide)) (by decide) (by decide) (by decide) (by decide)) (by rw [((ju_c _ _ (by decide)).trans ((ju_i _ _ (by decide)).trans ((ju_c _ _ (by decide)).trans ((ju_c _ _ (by decide)).trans e65))))]; omega) (by rw [((ju_c _ _ (by decide)).trans ((ju_i _ _ (by decide)).trans ((ju_c _ _ (by decide)).trans ((ju_c _ _ (by decide)).trans e66))))]; omega) (fun M80 hI_M80 hH_M80 hS_M80 qa80 qb80 qt80 sn80 hK80 w80_50 w80_51 => ?_)) (by decide))
          have y67 : (ju (ju (ju (ju M21 659 v61 2) 660 v61 0) 598 90 (v61 + 1)) 660 v4 (v61 + 1)) 598 73 = v63 := ((ju_c _ _ (by decide)).trans ((ju_i _ _ (by decide)).trans ((ju_c _ _ (by decide)).trans ((ju_c _ _ (by decide)).trans e63))))
          have y68 : (ju (ju (ju (ju M21 659 v61 2) 660 v61 0) 598 90 (v61 + 1)) 660 v4 (v61 + 1)) 598 74 = v66 := ((ju_c _ _ (by decide)).trans ((ju_i _ _ (by decide)).trans ((ju_c _ _ (by decide)).trans ((ju_c _ _ (by decide)).trans e66))))
          have y70 : (ju (ju (ju (ju M21 659 v61 2) 660 v61 0) 598 90 (v61 + 1)) 660 v4 (v61 + 1)) 598 75 = v69 := ((ju_c _ _ (by decide)).trans ((ju_i _ _ (by decide)).trans ((ju_c _ _ (by decide)).trans ((ju_c _ _ (by decide)).trans e69))))
          have y72 : (ju (ju (ju (ju M21 659 v61 2) 660 v61 0) 598 90 (v61 + 1)) 660 v4 (v61 + 1)) 598 79 = v71 := ((ju_c _ _ (by decide)).trans ((ju_i _ _ (by decide)).trans ((ju_c _ _ (by decide)).trans ((ju_c _ _ (by decide)).trans e71))))
          have y73 : (ju (ju (ju (ju M21 659 v61 2) 660 v61 0) 598 90 (v61 + 1)) 660 v4 (v61 + 1)) 598 80 = v7 := ((ju_c _ _ (by decide)).trans ((ju_i _ _ (by decide)).trans ((ju_c _ _ (by decide)).trans ((ju_c _ _ (by decide)).trans e65))))
          have y75 : (ju (ju (ju (ju M21 659 v61 2) 660 v61 0) 598 90 (v61 + 1)) 660 v4 (v61 + 1)) 598 81 = v16 := ((ju_c _ _ (by decide)).trans ((ju_i _ _ (by decide)).trans ((ju_c _ _ (by decide)).trans ((ju_c _ _ (by decide)).trans e74))))
          have y77 : (ju (ju (ju (ju M21 659 v61 2) 660 v61 0) 598 90 (v61 + 1)) 660 v4 (v61 + 1)) 598 89 = v18 := ((ju_c _ _ (by decide)).trans ((ju_i _ _ (by decide)).trans ((ju_c _ _ (by decide)).trans ((ju_c _ _ (by decide)).trans e76))))
          have y79 : (ju (ju (ju (ju M21 659 v61 2) 660 v61 0) 598 90 (v61 + 1)) 660 v4 (v61 + 1)) 598 100 = v2 - 1 := ((ju_c _ _ (by decide)).trans ((ju_i _ _ (by decide)).trans ((ju_c _ _ (by decide)).trans ((ju_c _ _ (by decide)).trans e78))))
          have tb80 : TK (ju (ju (ju (ju M21 659 v61 2) 660 v61 0) 598 90 (v61 + 1)) 660 v4 (v61 + 1)) = TK M21 := ((TK.o (Or.inl (by decide))).trans ((TK.o (Or.inr ⟨by decide, by decide⟩)).trans ((TK.o (Or.inl (by decide))).trans ((TK.o (Or.inl (by decide))).trans rfl))))
          have x80_72 := w80_51 72 (by decide) (by decide) (by decide) (by decide) (by decide) (by decide) (by decide)
          have x80_80 := w80_51 80 (by decide) (by decide) (by decide) (by decide) (by decide) (by decide) (by decide)
          have x80_81 := w80_51 81 (by decide) (by decide) (by decide) (by decide) (by decide) (by decide) (by decide)
          have x80_89 := w80_51 89 (by decide) (by decide) (by decide) (by decide) (by decide) (by decide) (by decide)
          have x80_100 := w80_51 100 (by decide) (by decide) (by decide) (by decide) (by decide) (by decide) (by decide)
          have hT80 := hK80.1
          have kk80 := hK80.kz
          obtain ⟨_, hp0, hp1, hp2, hp3, hp4⟩ := hu (by omega)
          have x90_ := w21_51 90 (by decide) (by decide) (by decide) (by decide) (by decide) (by decide) (by decide)
          have y81 : M21 598 90 = v61 := e62
          have y82 : M21 598 100 = v2 - 1 := e78
          have y84 : M21 598 107 = v1 - 1 := e83
          have hX := XS.els (hU (by omega)) e62 (by omega) (by omega) (by rw [w21_50 659 _ (by decide), ju_c _ _ (by decide), ju_c _ _ (by decide)]; omega) (by have z := hB; unfold LB at z; rw [e62] at z; exact z.resolve_left (by omega)) 1 (by omega) (by omega) (by omega)
          have hA := AK.cp (M' := (ju (ju (ju (ju M21 659 v61 2) 660 v61 0) 598 90 (v61 + 1)) 660 v4 (v61 + 1))) (AK.emit (op := 2) (a := 0) hA e62) (CP.o (CP.rfl _) (by decide) (Or.inl (by decide))) (fun i => ju_c _ _ (by decide)) (ju_c _ _ (by decide))
          have hB : LB _ := LB.fr (M' := (ju (ju (ju (ju M21 659 v61 2) 660 v61 0) 598 90 (v61 + 1)) 660 v4 (v61 + 1))) (LB.emit (M := M21) (c := v61) (op := 2) (a := 0) (by decide)) (fun i => ju_c _ _ (by decide)) (ju_c _ _ (by decide))
          have bq74b : (0 : Int) ≤ M80 598 74 ∧ M80 598 74 ≤ 4 := hI_M80 598 74 (by decide)
          have y85 : (ju (ju (ju (ju M21 659 v61 2) 660 v61 0) 598 90 (v61 + 1)) 660 v4 (v61 + 1)) 598 73 = v63 := ((ju_c _ _ (by decide)).trans ((ju_i _ _ (by decide)).trans ((ju_c _ _ (by decide)).trans ((ju_c _ _ (by decide)).trans e63))))
          have y86 : (ju (ju (ju (ju M21 659 v61 2) 660 v61 0) 598 90 (v61 + 1)) 660 v4 (v61 + 1)) 598 74 = v66 := ((ju_c _ _ (by decide)).trans ((ju_i _ _ (by decide)).trans ((ju_c _ _ (by decide)).trans ((ju_c _ _ (by decide)).trans e66))))
          have adv2 := TK.adv qt80 (by omega) (by omega)
          have y87 : (ju (ju (ju (ju M21 659 v61 2) 660 v61 0) 598 90 (v61 + 1)) 660 v4 (v61 + 1)) 598 73 = v63 := ((ju_c _ _ (by decide)).trans ((ju_i _ _ (by decide)).trans ((ju_c _ _ (by decide)).trans ((ju_c _ _ (by decide)).trans e63))))
          have y88 : (ju (ju (ju (ju M21 659 v61 2) 660 v61 0) 598 90 (v61 + 1)) 660 v4 (v61 + 1)) 598 74 = v66 := ((ju_c _ _ (by decide)).trans ((ju_i _ _ (by decide)).trans ((ju_c _ _ (by decide)).trans ((ju_c _ _ (by decide)).trans e66))))
          have y89 : (ju (ju (ju (ju M21 659 v61 2) 660 v61 0) 598 90 (v61 + 1)) 660 v4 (v61 + 1)) 598 89 = v18 := ((ju_c _ _ (by decide)).trans ((ju_i _ _ (by decide)).trans ((ju_c _ _ (by decide)).trans ((ju_c _ _ (by decide)).trans e76))))
          have y90 : (ju (ju (ju (ju M21 659 v61 2) 660 v61 0) 598 90 (v61 + 1)) 660 v4 (v61 + 1)) 598 100 = v2 - 1 := ((ju_c _ _ (by decide)).trans ((ju_i _ _ (by decide)).trans ((ju_c _ _ (by decide)).trans ((ju_c _ _ (by decide)).trans e78))))
          have x80_89 := w80_51 89 (by decide) (by decide) (by decide) (by decide) (by decide) (by decide) (by decide)
          have x80_100 := w80_51 100 (by decide) (by decide) (by decide) (by decide) (by decide) (by decide) (by decide)
          have hX := XS.fr2 hX w80_50 (w80_51 88 (by decide) (by decide) (by decide) (by decide) (by decide) (by decide) (by decide)) (w80_51 90 (by decide) (by decide) (by decide) (by decide) (by decide) (by decide) (by decide)) (w80_51 101 (by decide) (by decide) (by decide) (by decide) (by decide) (by decide) (by decide)) (w80_51 107 (by decide) (by decide) (by decide) (by decide) (by decide) (by decide) (by decide)) (k' := 1 + min 1 (M80 598 74)) (d' := 0) (z' := 0) (by omega) (by omega) (by omega) (by omega)
          have hA := AK.cp hA (CP.f (CP.rfl _) (fun i => w80_50 659 i (by decide)) (w80_51 90 (by decide) (by decide) (by decide) (by decide) (by decide) (by decide) (by decide))) (fun i => w80_50 663 i (by decide)) (w80_51 96 (by decide) (by decide) (by decide) (by decide) (by decide) (by decide) (by decide))
          have hB := LB.fr hB (fun i => w80_50 659 i (by decide)) (w80_51 90 (by decide) (by decide) (by decide) (by decide) (by decide) (by decide) (by decide))
          have x80_101 := w80_51 101 (by decide) (by decide) (by decide) (by decide) (by decide) (by decide) (by decide)
          have x80_107 := w80_51 107 (by decide) (by decide) (by decide) (by decide) (by decide) (by decide) (by decide)
          have x80_88 := w80_51 88 (by decide) (by decide) (by decide) (by decide) (by decide) (by decide) (by decide)
          have x80_96 := w80_51 96 (by decide) (by decide) (by decide) (by decide) (by decide) (by decide) (by decide)
          refine jr.aload_n rfl rfl ?_
          refine jr.iconst rfl ?_
          refine jr.iload_n rfl rfl ?_
          obtain ⟨v91, e91⟩ : ∃ z, M80 598 73 = z := ⟨_, rfl⟩
          have b91 : 0 ≤ v91 ∧ v91 ≤ 1600 := by rw [← e91]; exact hI_M80 598 73 (by decide)
          have e92 : M80 598 72 = v6 := ((w80_51 72 (by decide) (by decide) (by decide) (by decide) (by decide) (by decide) (by decide)).trans ((ju_c _ _ (by decide)).trans ((ju_i _ _ (by decide)).trans ((ju_c _ _ (by decide)).trans ((ju_c _ _ (by decide)).trans e64)))))
          have e93 : M80 598 80 = v7 := ((w80_51 80 (by decide) (by decide) (by decide) (by decide) (by decide) (by decide) (by decide)).trans ((ju_c _ _ (by decide)).trans ((ju_i _ _ (by decide)).trans ((ju_c _ _ (by decide)).trans ((ju_c _ _ (by decide)).trans e65)))))
          have e94 : M80 598 100 = v2 - 1 := ((w80_51 100 (by decide) (by decide) (by decide) (by decide) (by decide) (by decide) (by decide)).trans ((ju_c _ _ (by decide)).trans ((ju_i _ _ (by decide)).trans ((ju_c _ _ (by decide)).trans ((ju_c _ _ (by decide)).trans e78)))))
          have e95 : M21 598 107 = v1 - 1 := ((w21_51 107 (by decide) (by decide) (by decide) (by decide) (by decide) (by decide) (by decide)).trans ((ju_i _ _ (by decide)).trans (ju_same _ _ _ _)))
          have e96 : M80 598 107 = v1 - 1 := ((w80_51 107 (by decide) (by decide) (by decide) (by decide) (by decide) (by decide) (by decide)).trans ((ju_c _ _ (by decide)).trans ((ju_i _ _ (by decide)).trans ((ju_c _ _ (by decide)).trans ((ju_c _ _ (by decide)).trans e95)))))
          obtain ⟨v97, e97⟩ : ∃ z, M80 598 74 = z := ⟨_, rfl⟩
          have b97 : 0 ≤ v97 ∧ v97 ≤ 4 := by rw [← e97]; exact hI_M80 598 74 (by decide)
          obtain ⟨v98, e98⟩ : ∃ z, M80 598 79 = z := ⟨_, rfl⟩
          have b98 : 0 ≤ v98 ∧ v98 ≤ 255 := by rw [← e98]; exact hI_M80 598 79 (by decide)
          obtain ⟨v99, e99⟩ : ∃ z, M80 598 75 = z := ⟨_, rfl⟩
          have b99 : 0 ≤ v99 ∧ v99 ≤ 1600 := by rw [← e99]; exact hI_M80 598 75 (by decide)
          have e100 : M80 598 81 = v16 := ((w80_51 81 (by decide) (by decide) (by decide) (by decide) (by decide) (by decide) (by decide)).trans ((ju_c _ _ (by decide)).trans ((ju_i _ _ (by decide)).trans ((ju_c _ _ (by decide)).trans ((ju_c _ _ (by decide)).trans e74)))))
          have e101 : M80 598 89 = v18 := ((w80_51 89 (by decide) (by decide) (by decide) (by decide) (by decide) (by decide) (by decide)).trans ((ju_c _ _ (by decide)).trans ((ju_i _ _ (by decide)).trans ((ju_c _ _ (by decide)).trans ((ju_c _ _ (by decide)).trans e76)))))
          have e102 : M80 598 90 = v61 + 1 := ((w80_51 90 (by decide) (by decide) (by decide) (by decide) (by decide) (by decide) (by decide)).trans ((ju_c _ _ (by decide)).trans (ju_same _ _ _ _)))
          obtain ⟨v103, e103⟩ : ∃ z, M 598 101 = z := ⟨_, rfl⟩
          have b103 : 0 ≤ v103 ∧ v103 ≤ 1 := by rw [← e103]; exact hI_M 598 101 (by decide)
          have e104 : M21 598 101 = v103 := ((w21_51 101 (by decide) (by decide) (by decide) (by decide) (by decide) (by decide) (by decide)).trans ((ju_i _ _ (by decide)).trans ((ju_i _ _ (by decide)).trans e103)))
          have e105 : M80 598 101 = v103 := ((w80_51 101 (by decide) (by decide) (by decide) (by decide) (by decide) (by decide) (by decide)).trans ((ju_c _ _ (by decide)).trans ((ju_i _ _ (by decide)).trans ((ju_c _ _ (by decide)).trans ((ju_c _ _ (by decide)).trans e104)))))
          have e110 : M80 659 v61 = 2 := ((w80_50 659 v61 (by decide)).trans ((ju_c _ _ (by decide)).trans ((ju_c _ _ (by decide)).trans ((ju_c _ _ (by decide)).trans (ju_same _ _ _ _)))))
          refine jr_v rfl rfl (Or.inl rfl) rfl rfl (by decide) rfl ⟨rfl, Nat.le_of_ble_eq_true rfl, Nat.le_of_ble_eq_true rfl⟩ rfl (jc.deep (c_beginBlock_z (f := f) (N := N) hI_M80 hH_M80 hS_M80 (by omega) (by omega) (by rw [e91, e92]; omega) hK80 (by rw [e93]; omega) (by rw [e94]; omega) (by rw [e96]; omega) (by rw [e97, e98]; intro q; omega) (fun M106 hI_M106 hH_M106 hS_M106 qa106 qb106 qt106 qd106 ql106 sn106 q0106 q1106 qs106 hK106 q7106 bx106 bl106 w106_50 w106_51 => ?_) (fun M106 hI_M106 hH_M106 hS_M106 qa106 qb106 qt106 ql106 q0106 q1106 qs106 hT106 q7106 w106_50 w106_51 => ?_) (fun M106 hI_M106 hH_M106 hS_M106 qa106 qb106 qt106 qn106 q0106 q1106 qs106 hT106 q7106 w106_50 w106_51 => ?_)) (by decide))
          · have x106_72 := w106_51 72 (by decide) (by decide) (by decide) (by decide) (by decide) (by decide) (by decide) (by decide) (by decide) (by decide) (by decide)
            have x106_89 := w106_51 89 (by decide) (by decide) (by decide) (by decide) (by decide) (by decide) (by decide) (by decide) (by decide) (by decide) (by decide)
            have x106_101 := w106_51 101 (by decide) (by decide) (by decide) (by decide) (by decide) (by decide) (by decide) (by decide) (by decide) (by decide) (by decide)
            have x106_88 := w106_51 88 (by decide) (by decide) (by decide) (by decide) (by decide) (by decide) (by decide) (by decide) (by decide) (by decide) (by decide)
            have x106_96 := w106_51 96 (by decide) (by decide) (by decide) (by decide) (by decide) (by decide) (by decide) (by decide) (by decide) (by decide) (by decide)
            have x106_90 := w106_51 90 (by decide) (by decide) (by decide) (by decide) (by decide) (by decide) (by decide) (by decide) (by decide) (by decide) (by decide)
            have hT106 := hK106.1
            have kk106 := hK106.kz
            have y107 : M80 598 107 = v1 - 1 := e96
            have y108 : M80 598 90 = v61 + 1 := e102
            have y109 : M80 598 74 = v97 := e97
            have hX := bx106 0 _ 0 0 _ hX (by omega) (fun q => by exfalso; omega) (fun _ => ⟨by omega, by omega, by omega, by omega, (e110).trans (by decide), rfl⟩) (by rw [RVq_s (by omega)]; omega) (by omega)
            have hB := LB.fr hB (fun i => w106_50 659 i (by decide) (by decide) (by decide)) (w106_51 90 (by decide) (by decide) (by decide) (by decide) (by decide) (by decide) (by decide) (by decide) (by decide) (by decide) (by decide))
            have hA := AK.cp hA (CP.f (CP.rfl _) (fun i => w106_50 659 i (by decide) (by decide) (by decide)) (w106_51 90 (by decide) (by decide) (by decide) (by decide) (by decide) (by decide) (by decide) (by decide) (by decide) (by decide) (by decide))) (fun i => w106_50 663 i (by decide) (by decide) (by decide)) (w106_51 96 (by decide) (by decide) (by decide) (by decide) (by decide) (by decide) (by decide) (by decide) (by decide) (by decide) (by decide))
            refine jr.goto rfl rfl ?_
            have e111 : M106 598 72 = v6 := ((w106_51 72 (by decide) (by decide) (by decide) (by decide) (by decide) (by decide) (by decide) (by decide) (by decide) (by decide) (by decide)).trans e92)
            have y112 : M106 598 72 = v6 := e111
            obtain ⟨v113, e113⟩ : ∃ z, M106 598 73 = z := ⟨_, rfl⟩
            have b113 : 0 ≤ v113 ∧ v113 ≤ 1600 := by rw [← e113]; exact hI_M106 598 73 (by decide)
            have y114 : M106 598 73 = v113 := e113
            obtain ⟨v115, e115⟩ : ∃ z, M106 598 74 = z := ⟨_, rfl⟩
            have b115 : 0 ≤ v115 ∧ v115 ≤ 4 := by rw [← e115]; exact hI_M106 598 74 (by decide)
            have y116 : M106 598 74 = v115 := e115
            obtain ⟨v117, e117⟩ : ∃ z, M106 598 79 = z := ⟨_, rfl⟩
            have b117 : 0 ≤ v117 ∧ v117 ≤ 255 := by rw [← e117]; exact hI_M106 598 79 (by decide)
            have y118 : M106 598 79 = v117 := e117
            obtain ⟨v119, e119⟩ : ∃ z, M106 598 80 = z := ⟨_, rfl⟩
            have b119 : 0 ≤ v119 ∧ v119 ≤ 7 := by rw [← e119]; exact hI_M106 598 80 (by decide)
            have y120 : M106 598 80 = v119 := e119
            have e121 : M106 598 89 = v18 := ((w106_51 89 (by decide) (by decide) (by decide) (by decide) (by decide) (by decide) (by decide) (by decide) (by decide) (by decide) (by decide)).trans e101)
            have y122 : M106 598 89 = v18 := e121
            have e123 : M106 598 90 = v61 + 1 := ((w106_51 90 (by decide) (by decide) (by decide) (by decide) (by decide) (by decide) (by decide) (by decide) (by decide) (by decide) (by decide)).trans e102)
            have y124 : M106 598 90 = v61 + 1 := e123
            obtain ⟨v125, e125⟩ : ∃ z, M 598 96 = z := ⟨_, rfl⟩
            have b125 : 0 ≤ v125 ∧ v125 ≤ 300 := by rw [← e125]; exact hI_M 598 96 (by decide)
            have e126 : M21 598 96 = v125 := ((w21_51 96 (by decide) (by decide) (by decide) (by decide) (by decide) (by decide) (by decide)).trans ((ju_i _ _ (by decide)).trans ((ju_i _ _ (by decide)).trans e125)))
            have e127 : M80 598 96 = v125 := ((w80_51 96 (by decide) (by decide) (by decide) (by decide) (by decide) (by decide) (by decide)).trans ((ju_c _ _ (by decide)).trans ((ju_i _ _ (by decide)).trans ((ju_c _ _ (by decide)).trans ((ju_c _ _ (by decide)).trans e126)))))
            have e128 : M106 598 96 = v125 := ((w106_51 96 (by decide) (by decide) (by decide) (by decide) (by decide) (by decide) (by decide) (by decide) (by decide) (by decide) (by decide)).trans e127)
            have y129 : M106 598 96 = v125 := e128
            obtain ⟨v130, e130⟩ : ∃ z, M106 598 100 = z := ⟨_, rfl⟩
            have b130 : 0 ≤ v130 ∧ v130 ≤ 13 := by rw [← e130]; exact hI_M106 598 100 (by decide)
            have y131 : M106 598 100 = v130 := e130
            obtain ⟨v132, e132⟩ : ∃ z, M106 598 107 = z := ⟨_, rfl⟩
            have b132 : 0 ≤ v132 ∧ v132 ≤ 16 := by rw [← e132]; exact hI_M106 598 107 (by decide)
            have y133 : M106 598 107 = v132 := e132
            obtain ⟨v134, e134⟩ : ∃ z, M106 598 75 = z := ⟨_, rfl⟩
            have b134 : 0 ≤ v134 ∧ v134 ≤ 1600 := by rw [← e134]; exact hI_M106 598 75 (by decide)
            have y135 : M106 598 75 = v134 := e134
            have y136 : M106 598 80 = v119 := e119
            obtain ⟨v137, e137⟩ : ∃ z, M106 598 81 = z := ⟨_, rfl⟩
            have b137 : (-1) ≤ v137 ∧ v137 ≤ 1600 := by rw [← e137]; exact hI_M106 598 81 (by decide)
            have y138 : M106 598 81 = v137 := e137
            have y139 : M106 598 89 = v18 := e121
            have y140 : M106 598 100 = v130 := e130
            have e141 : M106 598 101 = v103 := ((w106_51 101 (by decide) (by decide) (by decide) (by decide) (by decide) (by decide) (by decide) (by decide) (by decide) (by decide) (by decide)).trans e105)
            have y142 : M106 598 101 = v103 := e141
            have y143 : M106 598 107 = v132 := e132
            exact jr.vreturn rfl rfl (q _ hI_M106 hH_M106 hS_M106  (Or.inr ⟨by omega, Or.inl ⟨by omega, ⟨by omega, XS.adj hX (k' := 0) (z' := 0) (by omega) (by omega) (by omega), by omega, by omega, by omega, by omega, hB, hA, by omega⟩⟩⟩) (by omega) (by omega) (by omega) hT106 (fun q => by exfalso; omega) (fun _ => ⟨_, hK106, Or.inl ⟨by omega, by have hz := hz; rw [show v3 = 2 by omega] at hz; exact (zr.eqx (zr.bel hz g125 (by have q := hK21.wz (by omega); omega) qs106 (by omega)) rfl rfl (by omega) (by omega) (by omega) (by rw [(bl106.trans (by rw [(((blr_fr (fun i => w80_50 668 i (by decide)) (w80_51 107 (by decide) (by decide) (by decide) (by decide) (by decide) (by decide) (by decide))).trans ((blr_fr (fun i => ju_c _ _ (by decide)) (ju_c _ _ (by decide))).trans ((blr_fr (fun i => ju_c _ _ (by decide)) (ju_i _ _ (by decide))).trans ((blr_fr (fun i => ju_c _ _ (by decide)) (ju_c _ _ (by decide))).trans ((blr_fr (fun i => ju_c _ _ (by decide)) (ju_c _ _ (by decide))).trans rfl)))))).trans hb1]))]))⟩⟩) (fun q => by omega) (fun a i f598 f658 f659 f660 f668 f669 => ((w106_50 a i f598 f668 f669).trans ((w80_50 a i f598).trans ((ju_c _ _ f660).trans ((ju_c _ _ f598).trans ((ju_c _ _ f660).trans ((ju_c _ _ f659).trans ((w21_50 a i f598).trans ((ju_c _ _ f598).trans ((ju_c _ _ f598).trans rfl)))))))))) (fun i g73 g74 g75 g76 g77 g78 g79 g80 g81 g90 g100 g101 g107 => ((w106_51 i g73 g74 g75 g76 g77 g78 g79 g80 g81 g100 g107).trans ((w80_51 i g73 g74 g75 g76 g77 g78 g79).trans ((ju_c _ _ (by decide)).trans ((ju_i _ _ g90).trans ((ju_c _ _ (by decide)).trans ((ju_c _ _ (by decide)).trans ((w21_51 i g73 g74 g75 g76 g77 g78 g79).trans ((ju_i _ _ g100).trans ((ju_i _ _ g107).trans rfl)))))))))))
          · have x106_72 := w106_51 72 (by decide) (by decide) (by decide) (by decide) (by decide) (by decide) (by decide) (by decide) (by decide) (by decide) (by decide)
            have x106_89 := w106_51 89 (by decide) (by decide) (by decide) (by decide) (by decide) (by decide) (by decide) (by decide) (by decide) (by decide) (by decide)
            have x106_101 := w106_51 101 (by decide) (by decide) (by decide) (by decide) (by decide) (by decide) (by decide) (by decide) (by decide) (by decide) (by decide)
            have x106_88 := w106_51 88 (by decide) (by decide) (by decide) (by decide) (by decide) (by decide) (by decide) (by decide) (by decide) (by decide) (by decide)
            have x106_96 := w106_51 96 (by decide) (by decide) (by decide) (by decide) (by decide) (by decide) (by decide) (by decide) (by decide) (by decide) (by decide)
            have x106_90 := w106_51 90 (by decide) (by decide) (by decide) (by decide) (by decide) (by decide) (by decide) (by decide) (by decide) (by decide) (by decide)
            have zfz : zr f N xs (zft (M106 598 80) (M106 598 81)) := by have hz := hz; rw [show v3 = 2 by omega] at hz; exact (zr.fe (zr.beld hz g125 (by have q := hK21.wz (by omega); omega) qs106 (by omega)) (by omega) (by omega))
            refine jr.goto rfl rfl ?_
            have e144 : M106 598 72 = v6 := ((w106_51 72 (by decide) (by decide) (by decide) (by decide) (by decide) (by decide) (by decide) (by decide) (by decide) (by decide) (by decide)).trans e92)
            have y145 : M106 598 72 = v6 := e144
            obtain ⟨v146, e146⟩ : ∃ z, M106 598 73 = z := ⟨_, rfl⟩
            have b146 : 0 ≤ v146 ∧ v146 ≤ 1600 := by rw [← e146]; exact hI_M106 598 73 (by decide)
            have y147 : M106 598 73 = v146 := e146
            obtain ⟨v148, e148⟩ : ∃ z, M106 598 74 = z := ⟨_, rfl⟩
            have b148 : 0 ≤ v148 ∧ v148 ≤ 4 := by rw [← e148]; exact hI_M106 598 74 (by decide)
            have y149 : M106 598 74 = v148 := e148
            obtain ⟨v150, e150⟩ : ∃ z, M106 598 79 = z := ⟨_, rfl⟩
            have b150 : 0 ≤ v150 ∧ v150 ≤ 255 := by rw [← e150]; exact hI_M106 598 79 (by decide)
            have y151 : M106 598 79 = v150 := e150
            obtain ⟨v152, e152⟩ : ∃ z, M106 598 80 = z := ⟨_, rfl⟩
            have b152 : 0 ≤ v152 ∧ v152 ≤ 7 := by rw [← e152]; exact hI_M106 598 80 (by decide)
            have y153 : M106 598 80 = v152 := e152
            have e154 : M106 598 89 = v18 := ((w106_51 89 (by decide) (by decide) (by decide) (by decide) (by decide) (by decide) (by decide) (by decide) (by decide) (by decide) (by decide)).trans e101)
            have y155 : M106 598 89 = v18 := e154
            have e156 : M106 598 90 = v61 + 1 := ((w106_51 90 (by decide) (by decide) (by decide) (by decide) (by decide) (by decide) (by decide) (by decide) (by decide) (by decide) (by decide)).trans e102)
            have y157 : M106 598 90 = v61 + 1 := e156
            obtain ⟨v158, e158⟩ : ∃ z, M 598 96 = z := ⟨_, rfl⟩
            have b158 : 0 ≤ v158 ∧ v158 ≤ 300 := by rw [← e158]; exact hI_M 598 96 (by decide)
            have e159 : M21 598 96 = v158 := ((w21_51 96 (by decide) (by decide) (by decide) (by decide) (by decide) (by decide) (by decide)).trans ((ju_i _ _ (by decide)).trans ((ju_i _ _ (by decide)).trans e158)))
            have e160 : M80 598 96 = v158 := ((w80_51 96 (by decide) (by decide) (by decide) (by decide) (by decide) (by decide) (by decide)).trans ((ju_c _ _ (by decide)).trans ((ju_i _ _ (by decide)).trans ((ju_c _ _ (by decide)).trans ((ju_c _ _ (by decide)).trans e159)))))
            have e161 : M106 598 96 = v158 := ((w106_51 96 (by decide) (by decide) (by decide) (by decide) (by decide) (by decide) (by decide) (by decide) (by decide) (by decide) (by decide)).trans e160)
            have y162 : M106 598 96 = v158 := e161
            obtain ⟨v163, e163⟩ : ∃ z, M106 598 100 = z := ⟨_, rfl⟩
            have b163 : 0 ≤ v163 ∧ v163 ≤ 13 := by rw [← e163]; exact hI_M106 598 100 (by decide)
            have y164 : M106 598 100 = v163 := e163
            obtain ⟨v165, e165⟩ : ∃ z, M106 598 107 = z := ⟨_, rfl⟩
            have b165 : 0 ≤ v165 ∧ v165 ≤ 16 := by rw [← e165]; exact hI_M106 598 107 (by decide)
            have y166 : M106 598 107 = v165 := e165
            obtain ⟨v167, e167⟩ : ∃ z, M106 598 75 = z := ⟨_, rfl⟩
            have b167 : 0 ≤ v167 ∧ v167 ≤ 1600 := by rw [← e167]; exact hI_M106 598 75 (by decide)
            have y168 : M106 598 75 = v167 := e167
            obtain ⟨v169, e169⟩ : ∃ z, M106 598 81 = z := ⟨_, rfl⟩
            have b169 : (-1) ≤ v169 ∧ v169 ≤ 1600 := by rw [← e169]; exact hI_M106 598 81 (by decide)
            have y170 : M106 598 81 = v169 := e169
            exact jr.vreturn rfl rfl (q _ hI_M106 hH_M106 hS_M106  (Or.inl ⟨by omega, by omega⟩) (by omega) (by omega) (by omega) hT106 (fun _ => zr.fe zfz (by omega) (by omega)) (fun q => by exfalso; omega) (fun q => by omega) (fun a i f598 f658 f659 f660 f668 f669 => ((w106_50 a i f598 f668 f669).trans ((w80_50 a i f598).trans ((ju_c _ _ f660).trans ((ju_c _ _ f598).trans ((ju_c _ _ f660).trans ((ju_c _ _ f659).trans ((w21_50 a i f598).trans ((ju_c _ _ f598).trans ((ju_c _ _ f598).trans rfl)))))))))) (fun i g73 g74 g75 g76 g77 g78 g79 g80 g81 g90 g100 g101 g107 => ((w106_51 i g73 g74 g75 g76 g77 g78 g79 g80 g81 g100 g107).trans ((w80_51 i g73 g74 g75 g76 g77 g78 g79).trans ((ju_c _ _ (by decide)).trans ((ju_i _ _ g90).trans ((ju_c _ _ (by decide)).trans ((ju_c _ _ (by decide)).trans ((w21_51 i g73 g74 g75 g76 g77 g78 g79).trans ((ju_i _ _ g100).trans ((ju_i _ _ g107).trans rfl)))))))))))
          · have x106_72 := w106_51 72 (by decide) (by decide) (by decide) (by decide) (by decide) (by decide) (by decide) (by decide) (by decide) (by decide) (by decide)
            have x106_89 := w106_51 89 (by decide) (by decide) (by decide) (by decide) (by decide) (by decide) (by decide) (by decide) (by decide) (by decide) (by decide)
            have x106_101 := w106_51 101 (by decide) (by decide) (by decide) (by decide) (by decide) (by decide) (by decide) (by decide) (by decide) (by decide) (by decide)
            have x106_88 := w106_51 88 (by decide) (by decide) (by decide) (by decide) (by decide) (by decide) (by decide) (by decide) (by decide) (by decide) (by decide)
            have x106_96 := w106_51 96 (by decide) (by decide) (by decide) (by decide) (by decide) (by decide) (by decide) (by decide) (by decide) (by decide) (by decide)
            have x106_90 := w106_51 90 (by decide) (by decide) (by decide) (by decide) (by decide) (by decide) (by decide) (by decide) (by decide) (by decide) (by decide)
            have zfz : zr f N xs (zft (M106 598 80) (M106 598 81)) := by have hz := hz; rw [show v3 = 2 by omega] at hz; exact zr.rfz (zr.belf hz g125 (by have q := hK21.wz (by omega); omega) qs106) q0106 q1106
            refine jr.goto rfl rfl ?_
            have e171 : M106 598 72 = v6 := ((w106_51 72 (by decide) (by decide) (by decide) (by decide) (by decide) (by decide) (by decide) (by decide) (by decide) (by decide) (by decide)).trans e92)
            have y172 : M106 598 72 = v6 := e171
            obtain ⟨v173, e173⟩ : ∃ z, M106 598 73 = z := ⟨_, rfl⟩
            have b173 : 0 ≤ v173 ∧ v173 ≤ 1600 := by rw [← e173]; exact hI_M106 598 73 (by decide)
            have y174 : M106 598 73 = v173 := e173
            obtain ⟨v175, e175⟩ : ∃ z, M106 598 74 = z := ⟨_, rfl⟩
            have b175 : 0 ≤ v175 ∧ v175 ≤ 4 := by rw [← e175]; exact hI_M106 598 74 (by decide)
            have y176 : M106 598 74 = v175 := e175
            obtain ⟨v177, e177⟩ : ∃ z, M106 598 79 = z := ⟨_, rfl⟩
            have b177 : 0 ≤ v177 ∧ v177 ≤ 255 := by rw [← e177]; exact hI_M106 598 79 (by decide)
            have y178 : M106 598 79 = v177 := e177
            obtain ⟨v179, e179⟩ : ∃ z, M106 598 80 = z := ⟨_, rfl⟩
            have b179 : 0 ≤ v179 ∧ v179 ≤ 7 := by rw [← e179]; exact hI_M106 598 80 (by decide)
            have y180 : M106 598 80 = v179 := e179
            have e181 : M106 598 89 = v18 := ((w106_51 89 (by decide) (by decide) (by decide) (by decide) (by decide) (by decide) (by decide) (by decide) (by decide) (by decide) (by decide)).trans e101)
            have y182 : M106 598 89 = v18 := e181
            have e183 : M106 598 90 = v61 + 1 := ((w106_51 90 (by decide) (by decide) (by decide) (by decide) (by decide) (by decide) (by decide) (by decide) (by decide) (by decide) (by decide)).trans e102)
            have y184 : M106 598 90 = v61 + 1 := e183
            obtain ⟨v185, e185⟩ : ∃ z, M 598 96 = z := ⟨_, rfl⟩
            have b185 : 0 ≤ v185 ∧ v185 ≤ 300 := by rw [← e185]; exact hI_M 598 96 (by decide)
            have e186 : M21 598 96 = v185 := ((w21_51 96 (by decide) (by decide) (by decide) (by decide) (by decide) (by decide) (by decide)).trans ((ju_i _ _ (by decide)).trans ((ju_i _ _ (by decide)).trans e185)))
            have e187 : M80 598 96 = v185 := ((w80_51 96 (by decide) (by decide) (by decide) (by decide) (by decide) (by decide) (by decide)).trans ((ju_c _ _ (by decide)).trans ((ju_i _ _ (by decide)).trans ((ju_c _ _ (by decide)).trans ((ju_c _ _ (by decide)).trans e186)))))
            have e188 : M106 598 96 = v185 := ((w106_51 96 (by decide) (by decide) (by decide) (by decide) (by decide) (by decide) (by decide) (by decide) (by decide) (by decide) (by decide)).trans e187)
            have y189 : M106 598 96 = v185 := e188
            obtain ⟨v190, e190⟩ : ∃ z, M106 598 100 = z := ⟨_, rfl⟩
            have b190 : 0 ≤ v190 ∧ v190 ≤ 13 := by rw [← e190]; exact hI_M106 598 100 (by decide)
            have y191 : M106 598 100 = v190 := e190
            obtain ⟨v192, e192⟩ : ∃ z, M106 598 107 = z := ⟨_, rfl⟩
            have b192 : 0 ≤ v192 ∧ v192 ≤ 16 := by rw [← e192]; exact hI_M106 598 107 (by decide)
            have y193 : M106 598 107 = v192 := e192
            obtain ⟨v194, e194⟩ : ∃ z, M106 598 75 = z := ⟨_, rfl⟩
            have b194 : 0 ≤ v194 ∧ v194 ≤ 1600 := by rw [← e194]; exact hI_M106 598 75 (by decide)
            have y195 : M106 598 75 = v194 := e194
            obtain ⟨v196, e196⟩ : ∃ z, M106 598 81 = z := ⟨_, rfl⟩
            have b196 : (-1) ≤ v196 ∧ v196 ≤ 1600 := by rw [← e196]; exact hI_M106 598 81 (by decide)
            have y197 : M106 598 81 = v196 := e196
            exact jr.vreturn rfl rfl (q _ hI_M106 hH_M106 hS_M106  (Or.inl ⟨by omega, by omega⟩) (by omega) (by omega) (by omega) hT106 (fun _ => zr.fe zfz (by omega) (by omega)) (fun q => by exfalso; omega) (fun q => by omega) (fun a i f598 f658 f659 f660 f668 f669 => ((w106_50 a i f598 f668 f669).trans ((w80_50 a i f598).trans ((ju_c _ _ f660).trans ((ju_c _ _ f598).trans ((ju_c _ _ f660).trans ((ju_c _ _ f659).trans ((w21_50 a i f598).trans ((ju_c _ _ f598).trans ((ju_c _ _ f598).trans rfl)))))))))) (fun i g73 g74 g75 g76 g77 g78 g79 g80 g81 g90 g100 g101 g107 => ((w106_51 i g73 g74 g75 g76 g77 g78 g79 g80 g81 g100 g107).trans ((w80_51 i g73 g74 g75 g76 g77 g78 g79).trans ((ju_c _ _ (by decide)).trans ((ju_i _ _ g90).trans ((ju_c _ _ (by decide)).trans ((ju_c _ _ (by decide)).trans ((w21_51 i g73 g74 g75 g76 g77 g78 g79).trans ((ju_i _ _ g100).trans ((ju_i _ _ g107).trans rfl)))))))))))
        · refine jr.if_eq rfl rfl (by omega) (fun _ => ?_) (fun h => absurd (by decide) h)
          refine jr.aload_n rfl rfl ?_
          refine jr.getf (i := 95) (v := .ref 660) rfl rfl (by decide) rfl (by decide) rfl rfl rfl rfl ?_
          refine jr.iload_n rfl rfl ?_
          refine jr.aload_n rfl rfl ?_
          obtain ⟨v198, e198⟩ : ∃ z, M 598 90 = z := ⟨_, rfl⟩
          have b198 : 0 ≤ v198 ∧ v198 ≤ 2200 := by rw [← e198]; exact hI_M 598 90 (by decide)
          have e199 : M21 598 90 = v198 := ((w21_51 90 (by decide) (by decide) (by decide) (by decide) (by decide) (by decide) (by decide)).trans ((ju_i _ _ (by decide)).trans ((ju_i _ _ (by decide)).trans e198)))
          refine jr.getf (i := 90) (x := v198) (v := .int (Int32.ofInt (v198))) rfl rfl (by decide) rfl (by decide) rfl rfl e199 rfl ?_
          refine jr.i2l rfl (by omega) ?_
          refine jr.last (i := v4) (x := v198) rfl (by decide) rfl (by decide) (by omega) (by omega) ?_
          have e200 : M21 598 72 = v6 := ((w21_51 72 (by decide) (by decide) (by decide) (by decide) (by decide) (by decide) (by decide)).trans ((ju_i _ _ (by decide)).trans ((ju_i _ _ (by decide)).trans e6)))
          have y201 : (ju M21 660 v4 v198) 598 72 = v6 := ((ju_c _ _ (by decide)).trans e200)
          obtain ⟨v202, e202⟩ : ∃ z, M21 598 73 = z := ⟨_, rfl⟩
          have b202 : 0 ≤ v202 ∧ v202 ≤ 1600 := by rw [← e202]; exact hI_M21 598 73 (by decide)
          have y203 : (ju M21 660 v4 v198) 598 73 = v202 := ((ju_c _ _ (by decide)).trans e202)
          obtain ⟨v204, e204⟩ : ∃ z, M21 598 74 = z := ⟨_, rfl⟩
          have b204 : 0 ≤ v204 ∧ v204 ≤ 4 := by rw [← e204]; exact hI_M21 598 74 (by decide)
          have y205 : (ju M21 660 v4 v198) 598 74 = v204 := ((ju_c _ _ (by decide)).trans e204)
          obtain ⟨v206, e206⟩ : ∃ z, M21 598 79 = z := ⟨_, rfl⟩
          have b206 : 0 ≤ v206 ∧ v206 ≤ 255 := by rw [← e206]; exact hI_M21 598 79 (by decide)
          have y207 : (ju M21 660 v4 v198) 598 79 = v206 := ((ju_c _ _ (by decide)).trans e206)
          have e208 : M21 598 80 = v7 := ((w21_51 80 (by decide) (by decide) (by decide) (by decide) (by decide) (by decide) (by decide)).trans ((ju_i _ _ (by decide)).trans ((ju_i _ _ (by decide)).trans e7)))
          have y209 : (ju M21 660 v4 v198) 598 80 = v7 := ((ju_c _ _ (by decide)).trans e208)
          have e210 : M21 598 89 = v18 := ((w21_51 89 (by decide) (by decide) (by decide) (by decide) (by decide) (by decide) (by decide)).trans ((ju_i _ _ (by decide)).trans ((ju_i _ _ (by decide)).trans e18)))
          have y211 : (ju M21 660 v4 v198) 598 89 = v18 := ((ju_c _ _ (by decide)).trans e210)
          have y212 : (ju M21 660 v4 v198) 598 90 = v198 := ((ju_c _ _ (by decide)).trans e199)
          obtain ⟨v213, e213⟩ : ∃ z, M 598 96 = z := ⟨_, rfl⟩
          have b213 : 0 ≤ v213 ∧ v213 ≤ 300 := by rw [← e213]; exact hI_M 598 96 (by decide)
          have e214 : M21 598 96 = v213 := ((w21_51 96 (by decide) (by decide) (by decide) (by decide) (by decide) (by decide) (by decide)).trans ((ju_i _ _ (by decide)).trans ((ju_i _ _ (by decide)).trans e213)))
          have y215 : (ju M21 660 v4 v198) 598 96 = v213 := ((ju_c _ _ (by decide)).trans e214)
          have e216 : M21 598 100 = v2 - 1 := ((w21_51 100 (by decide) (by decide) (by decide) (by decide) (by decide) (by decide) (by decide)).trans (ju_same _ _ _ _))
          have y217 : (ju M21 660 v4 v198) 598 100 = v2 - 1 := ((ju_c _ _ (by decide)).trans e216)
          have e218 : M21 598 107 = v1 - 1 := ((w21_51 107 (by decide) (by decide) (by decide) (by decide) (by decide) (by decide) (by decide)).trans ((ju_i _ _ (by decide)).trans (ju_same _ _ _ _)))
          have y219 : (ju M21 660 v4 v198) 598 107 = v1 - 1 := ((ju_c _ _ (by decide)).trans e218)
          have y220 : TK (ju M21 660 v4 v198) = TK M21 := ((TK.o (Or.inl (by decide))).trans rfl)
          have y221 : M21 598 90 = v198 := e199
          obtain ⟨_, hp0, hp1, hp2, hp3, hp4⟩ := hu (by omega)
          have x90_ := w21_51 90 (by decide) (by decide) (by decide) (by decide) (by decide) (by decide) (by decide)
          have hX := XS.patch (hU (by omega)) e199 (by omega) (by omega) (by rw [w21_50 659 _ (by decide), ju_c _ _ (by decide), ju_c _ _ (by decide)]; omega) (by have z := hB; unfold LB at z; rw [e199] at z; exact z.resolve_left (by omega))
          have hA := AK.cp (M' := (ju M21 660 v4 v198)) hA (CP.o (CP.rfl _) (by decide) (Or.inl (by decide))) (fun i => ju_c _ _ (by decide)) (ju_c _ _ (by decide))
          have hB := LB.fr (M' := (ju M21 660 v4 v198)) hB (fun i => ju_c _ _ (by decide)) (ju_c _ _ (by decide))
          obtain ⟨v222, e222⟩ : ∃ z, M21 598 75 = z := ⟨_, rfl⟩
          have b222 : 0 ≤ v222 ∧ v222 ≤ 1600 := by rw [← e222]; exact hI_M21 598 75 (by decide)
          have y223 : (ju M21 660 v4 v198) 598 75 = v222 := ((ju_c _ _ (by decide)).trans e222)
          have y224 : (ju M21 660 v4 v198) 598 80 = v7 := ((ju_c _ _ (by decide)).trans e208)
          have e225 : M21 598 81 = v16 := ((w21_51 81 (by decide) (by decide) (by decide) (by decide) (by decide) (by decide) (by decide)).trans ((ju_i _ _ (by decide)).trans ((ju_i _ _ (by decide)).trans e16)))
          have y226 : (ju M21 660 v4 v198) 598 81 = v16 := ((ju_c _ _ (by decide)).trans e225)
          have y227 : (ju M21 660 v4 v198) 598 89 = v18 := ((ju_c _ _ (by decide)).trans e210)
          have y228 : (ju M21 660 v4 v198) 598 100 = v2 - 1 := ((ju_c _ _ (by decide)).trans e216)
          obtain ⟨v229, e229⟩ : ∃ z, M 598 101 = z := ⟨_, rfl⟩
          have b229 : 0 ≤ v229 ∧ v229 ≤ 1 := by rw [← e229]; exact hI_M 598 101 (by decide)
          have e230 : M21 598 101 = v229 := ((w21_51 101 (by decide) (by decide) (by decide) (by decide) (by decide) (by decide) (by decide)).trans ((ju_i _ _ (by decide)).trans ((ju_i _ _ (by decide)).trans e229)))
          have y231 : (ju M21 660 v4 v198) 598 101 = v229 := ((ju_c _ _ (by decide)).trans e230)
          have y232 : (ju M21 660 v4 v198) 598 107 = v1 - 1 := ((ju_c _ _ (by decide)).trans e218)
          exact jr.vreturn rfl rfl (q _ (RI.u hI_M21 (a := 660) (i := v4) (by rw [xri_row rfl rfl]; show (-9223372036854775808 : Int) ≤ _ ∧ _ ≤ (9223372036854775807 : Int); omega)) (RH.o hH_M21 (by decide) (by decide) (by decide)) (RF.o hS_M21 (by decide) (by decide))  (Or.inr ⟨by omega, Or.inl ⟨by omega, ⟨by omega, XS.adj hX (k' := 0) (z' := 0) (by omega) (by omega) (by omega), by omega, by omega, by omega, by omega, hB, hA, by omega⟩⟩⟩) (by omega) (by omega) (by omega) (TXr.k hT21 (by decide) (by decide) (by decide) (by decide)) (fun q => by exfalso; omega) (fun _ => ⟨_, (TKr.cc hK21 (by decide) (by decide) (by decide) (by decide)), Or.inl ⟨by omega, (by first | (have hz := hz; rw [show v3 = 3 by omega] at hz; exact (zr.eqx (zr.bl3 hz g125) rfl rfl (by omega) (by omega) (by omega) (by rw [(((blr_fr (fun i => ju_c _ _ (by decide)) (ju_c _ _ (by decide))).trans rfl)).trans hb1]))) | (have hz := hz; rw [show v3 = 2 by omega] at hz; exact (zr.eqx (zr.bl2 hz g125 (fun z => by have q := hK21.wz (by omega); omega)) rfl rfl (by omega) (by omega) (by omega) (by rw [(((blr_fr (fun i => ju_c _ _ (by decide)) (ju_c _ _ (by decide))).trans rfl)).trans hb1]))))⟩⟩) (fun q => by omega) (fun a i f598 f658 f659 f660 f668 f669 => ((ju_c _ _ f660).trans ((w21_50 a i f598).trans ((ju_c _ _ f598).trans ((ju_c _ _ f598).trans rfl))))) (fun i g73 g74 g75 g76 g77 g78 g79 g80 g81 g90 g100 g101 g107 => ((ju_c _ _ (by decide)).trans ((w21_51 i g73 g74 g75 g76 g77 g78 g79).trans ((ju_i _ _ g100).trans ((ju_i _ _ g107).trans rfl))))))
    · refine jr.aload_n rfl rfl ?_
      refine jr.iconst rfl ?_
      refine jr.lconst (x := 0) rfl (by decide) ?_
      obtain ⟨v233, e233⟩ : ∃ z, M 598 90 = z := ⟨_, rfl⟩
      have b233 : 0 ≤ v233 ∧ v233 ≤ 2200 := by rw [← e233]; exact hI_M 598 90 (by decide)
      have e234 : M21 598 90 = v233 := ((w21_51 90 (by decide) (by decide) (by decide) (by decide) (by decide) (by decide) (by decide)).trans ((ju_i _ _ (by decide)).trans ((ju_i _ _ (by decide)).trans e233)))
      have e235 : M21 598 100 = v2 - 1 := ((w21_51 100 (by decide) (by decide) (by decide) (by decide) (by decide) (by decide) (by decide)).trans (ju_same _ _ _ _))
      have e237 : M21 598 107 = v1 - 1 := ((w21_51 107 (by decide) (by decide) (by decide) (by decide) (by decide) (by decide) (by decide)).trans ((ju_i _ _ (by decide)).trans (ju_same _ _ _ _)))
      refine jr_v rfl rfl (Or.inl rfl) rfl rfl (by decide) rfl ⟨rfl, Nat.le_of_ble_eq_true rfl, Nat.le_of_ble_eq_true rfl⟩ rfl (jc.deep (r_emit e234 (by omega) (by omega) (by omega) ?_) (by decide))
      have y236 : M21 598 100 = v2 - 1 := e235
      have y238 : M21 598 107 = v1 - 1 := e237
      obtain ⟨_, hn1, hib⟩ := hv (by omega)
      have rv1 := RVq_1 (ib := M 598 101)
      have hX := XS.adj (hV (by omega)) (k' := 0 + 2) (z' := 0) (by omega) (by omega) (by omega)
      have hX := XS.fin hX e234 (by omega) (by omega)
      have hA := AK.emit (op := 3) (a := 0) hA e234
      have hB : LB _ := LB.emit (M := M21) (c := v233) (op := 3) (a := 0) (by decide)
      refine jr.goto rfl rfl ?_
      have e239 : M21 598 72 = v6 := ((w21_51 72 (by decide) (by decide) (by decide) (by decide) (by decide) (by decide) (by decide)).trans ((ju_i _ _ (by decide)).trans ((ju_i _ _ (by decide)).trans e6)))
      have y240 : (ju (ju (ju M21 659 v233 3) 660 v233 0) 598 90 (v233 + 1)) 598 72 = v6 := ((ju_i _ _ (by decide)).trans ((ju_c _ _ (by decide)).trans ((ju_c _ _ (by decide)).trans e239)))
      obtain ⟨v241, e241⟩ : ∃ z, M21 598 73 = z := ⟨_, rfl⟩
      have b241 : 0 ≤ v241 ∧ v241 ≤ 1600 := by rw [← e241]; exact hI_M21 598 73 (by decide)
      have y242 : (ju (ju (ju M21 659 v233 3) 660 v233 0) 598 90 (v233 + 1)) 598 73 = v241 := ((ju_i _ _ (by decide)).trans ((ju_c _ _ (by decide)).trans ((ju_c _ _ (by decide)).trans e241)))
      obtain ⟨v243, e243⟩ : ∃ z, M21 598 74 = z := ⟨_, rfl⟩
      have b243 : 0 ≤ v243 ∧ v243 ≤ 4 := by rw [← e243]; exact hI_M21 598 74 (by decide)
      have y244 : (ju (ju (ju M21 659 v233 3) 660 v233 0) 598 90 (v233 + 1)) 598 74 = v243 := ((ju_i _ _ (by decide)).trans ((ju_c _ _ (by decide)).trans ((ju_c _ _ (by decide)).trans e243)))
      obtain ⟨v245, e245⟩ : ∃ z, M21 598 79 = z := ⟨_, rfl⟩
      have b245 : 0 ≤ v245 ∧ v245 ≤ 255 := by rw [← e245]; exact hI_M21 598 79 (by decide)
      have y246 : (ju (ju (ju M21 659 v233 3) 660 v233 0) 598 90 (v233 + 1)) 598 79 = v245 := ((ju_i _ _ (by decide)).trans ((ju_c _ _ (by decide)).trans ((ju_c _ _ (by decide)).trans e245)))
      have e247 : M21 598 80 = v7 := ((w21_51 80 (by decide) (by decide) (by decide) (by decide) (by decide) (by decide) (by decide)).trans ((ju_i _ _ (by decide)).trans ((ju_i _ _ (by decide)).trans e7)))
      have y248 : (ju (ju (ju M21 659 v233 3) 660 v233 0) 598 90 (v233 + 1)) 598 80 = v7 := ((ju_i _ _ (by decide)).trans ((ju_c _ _ (by decide)).trans ((ju_c _ _ (by decide)).trans e247)))
      have e249 : M21 598 89 = v18 := ((w21_51 89 (by decide) (by decide) (by decide) (by decide) (by decide) (by decide) (by decide)).trans ((ju_i _ _ (by decide)).trans ((ju_i _ _ (by decide)).trans e18)))
      have y250 : (ju (ju (ju M21 659 v233 3) 660 v233 0) 598 90 (v233 + 1)) 598 89 = v18 := ((ju_i _ _ (by decide)).trans ((ju_c _ _ (by decide)).trans ((ju_c _ _ (by decide)).trans e249)))
      have y251 : (ju (ju (ju M21 659 v233 3) 660 v233 0) 598 90 (v233 + 1)) 598 90 = v233 + 1 := (ju_same _ _ _ _)
      obtain ⟨v252, e252⟩ : ∃ z, M 598 96 = z := ⟨_, rfl⟩
      have b252 : 0 ≤ v252 ∧ v252 ≤ 300 := by rw [← e252]; exact hI_M 598 96 (by decide)
      have e253 : M21 598 96 = v252 := ((w21_51 96 (by decide) (by decide) (by decide) (by decide) (by decide) (by decide) (by decide)).trans ((ju_i _ _ (by decide)).trans ((ju_i _ _ (by decide)).trans e252)))
      have y254 : (ju (ju (ju M21 659 v233 3) 660 v233 0) 598 90 (v233 + 1)) 598 96 = v252 := ((ju_i _ _ (by decide)).trans ((ju_c _ _ (by decide)).trans ((ju_c _ _ (by decide)).trans e253)))
      have y255 : (ju (ju (ju M21 659 v233 3) 660 v233 0) 598 90 (v233 + 1)) 598 100 = v2 - 1 := ((ju_i _ _ (by decide)).trans ((ju_c _ _ (by decide)).trans ((ju_c _ _ (by decide)).trans e235)))
      have y256 : (ju (ju (ju M21 659 v233 3) 660 v233 0) 598 90 (v233 + 1)) 598 107 = v1 - 1 := ((ju_i _ _ (by decide)).trans ((ju_c _ _ (by decide)).trans ((ju_c _ _ (by decide)).trans e237)))
      have y257 : TK (ju (ju (ju M21 659 v233 3) 660 v233 0) 598 90 (v233 + 1)) = TK M21 := ((TK.o (Or.inr ⟨by decide, by decide⟩)).trans ((TK.o (Or.inl (by decide))).trans ((TK.o (Or.inl (by decide))).trans rfl)))
      obtain ⟨v258, e258⟩ : ∃ z, M21 598 75 = z := ⟨_, rfl⟩
      have b258 : 0 ≤ v258 ∧ v258 ≤ 1600 := by rw [← e258]; exact hI_M21 598 75 (by decide)
      have y259 : (ju (ju (ju M21 659 v233 3) 660 v233 0) 598 90 (v233 + 1)) 598 75 = v258 := ((ju_i _ _ (by decide)).trans ((ju_c _ _ (by decide)).trans ((ju_c _ _ (by decide)).trans e258)))
      have y260 : (ju (ju (ju M21 659 v233 3) 660 v233 0) 598 90 (v233 + 1)) 598 80 = v7 := ((ju_i _ _ (by decide)).trans ((ju_c _ _ (by decide)).trans ((ju_c _ _ (by decide)).trans e247)))
      have e261 : M21 598 81 = v16 := ((w21_51 81 (by decide) (by decide) (by decide) (by decide) (by decide) (by decide) (by decide)).trans ((ju_i _ _ (by decide)).trans ((ju_i _ _ (by decide)).trans e16)))
      have y262 : (ju (ju (ju M21 659 v233 3) 660 v233 0) 598 90 (v233 + 1)) 598 81 = v16 := ((ju_i _ _ (by decide)).trans ((ju_c _ _ (by decide)).trans ((ju_c _ _ (by decide)).trans e261)))
      have y263 : (ju (ju (ju M21 659 v233 3) 660 v233 0) 598 90 (v233 + 1)) 598 89 = v18 := ((ju_i _ _ (by decide)).trans ((ju_c _ _ (by decide)).trans ((ju_c _ _ (by decide)).trans e249)))
      have y264 : (ju (ju (ju M21 659 v233 3) 660 v233 0) 598 90 (v233 + 1)) 598 100 = v2 - 1 := ((ju_i _ _ (by decide)).trans ((ju_c _ _ (by decide)).trans ((ju_c _ _ (by decide)).trans e235)))
      obtain ⟨v265, e265⟩ : ∃ z, M 598 101 = z := ⟨_, rfl⟩
      have b265 : 0 ≤ v265 ∧ v265 ≤ 1 := by rw [← e265]; exact hI_M 598 101 (by decide)
      have e266 : M21 598 101 = v265 := ((w21_51 101 (by decide) (by decide) (by decide) (by decide) (by decide) (by decide) (by decide)).trans ((ju_i _ _ (by decide)).trans ((ju_i _ _ (by decide)).trans e265)))
      have y267 : (ju (ju (ju M21 659 v233 3) 660 v233 0) 598 90 (v233 + 1)) 598 101 = v265 := ((ju_i _ _ (by decide)).trans ((ju_c _ _ (by decide)).trans ((ju_c _ _ (by decide)).trans e266)))
      have y268 : (ju (ju (ju M21 659 v233 3) 660 v233 0) 598 90 (v233 + 1)) 598 107 = v1 - 1 := ((ju_i _ _ (by decide)).trans ((ju_c _ _ (by decide)).trans ((ju_c _ _ (by decide)).trans e237)))
      exact jr.vreturn rfl rfl (q _ (RI.u (RI.u (RI.u hI_M21 (a := 659) (i := v233) (by rw [xri_row rfl rfl]; show (0 : Int) ≤ _ ∧ _ ≤ (1000 : Int); omega)) (a := 660) (i := v233) (by rw [xri_row rfl rfl]; show (-9223372036854775808 : Int) ≤ _ ∧ _ ≤ (9223372036854775807 : Int); omega)) (a := 598) (i := 90) (show (0 : Int) ≤ _ ∧ _ ≤ (2200 : Int) from by omega)) (RH.o (RH.o (RH.o hH_M21 (by decide) (by decide) (by decide)) (by decide) (by decide) (by decide)) (by decide) (by decide) (by decide)) (RF.o (RF.o (RF.o hS_M21 (by decide) (by decide)) (by decide) (by decide)) (by decide) (by decide))  (Or.inr ⟨by omega, Or.inr ⟨by omega, ⟨by omega, XS.adj hX (k' := 0) (z' := 1) (by omega) (by omega) (by omega), by omega, by omega, by omega, by omega, hB, hA, by omega⟩, by omega, by rw [ju_same, show v233 + 1 - 1 = v233 by omega, ju_c _ _ (by decide), ju_c _ _ (by decide), ju_same]⟩⟩) (by omega) (by omega) (by omega) (TXr.o (TXr.k (TXr.k hT21 (by decide) (by decide) (by decide) (by decide)) (by decide) (by decide) (by decide) (by decide)) (by decide)) (fun q => by exfalso; omega) (fun _ => ⟨_, (TKr.oo (TKr.cc (TKr.cc hK21 (by decide) (by decide) (by decide) (by decide)) (by decide) (by decide) (by decide) (by decide)) (by decide)), Or.inr ⟨by omega, (by have hb0 : blr (ju M 598 107 (v1 - 1)) = [] := blr_z ((ju_same _ _ _ _).trans (by omega)); first | (have hz := hz; rw [show v3 = 0 by omega] at hz; exact (zr.eqx (zr.bl0 hz g125 (fun z => by have q := hK21.wz (by omega); omega)) rfl rfl (by omega) (by omega) (by omega) (by rw [hb0]))) | (have hz := hz; rw [show v3 = 1 by omega] at hz; exact (zr.eqx (zr.bl1 hz g125) rfl rfl (by omega) (by omega) (by omega) (by rw [hb0]))))⟩⟩) (fun q => by omega) (fun a i f598 f658 f659 f660 f668 f669 => ((ju_c _ _ f598).trans ((ju_c _ _ f660).trans ((ju_c _ _ f659).trans ((w21_50 a i f598).trans ((ju_c _ _ f598).trans ((ju_c _ _ f598).trans rfl))))))) (fun i g73 g74 g75 g76 g77 g78 g79 g80 g81 g90 g100 g101 g107 => ((ju_i _ _ g90).trans ((ju_c _ _ (by decide)).trans ((ju_c _ _ (by decide)).trans ((w21_51 i g73 g74 g75 g76 g77 g78 g79).trans ((ju_i _ _ g100).trans ((ju_i _ _ g107).trans rfl))))))))
  · refine jr.aload_n rfl rfl ?_
    refine jr.iconst rfl ?_
    refine jr.lconst (x := 0) rfl (by decide) ?_
    obtain ⟨v269, e269⟩ : ∃ z, M 598 90 = z := ⟨_, rfl⟩
    have b269 : 0 ≤ v269 ∧ v269 ≤ 2200 := by rw [← e269]; exact hI_M 598 90 (by decide)
    have e270 : M21 598 90 = v269 := ((w21_51 90 (by decide) (by decide) (by decide) (by decide) (by decide) (by decide) (by decide)).trans ((ju_i _ _ (by decide)).trans ((ju_i _ _ (by decide)).trans e269)))
    have e271 : M21 598 100 = v2 - 1 := ((w21_51 100 (by decide) (by decide) (by decide) (by decide) (by decide) (by decide) (by decide)).trans (ju_same _ _ _ _))
    have e273 : M21 598 107 = v1 - 1 := ((w21_51 107 (by decide) (by decide) (by decide) (by decide) (by decide) (by decide) (by decide)).trans ((ju_i _ _ (by decide)).trans (ju_same _ _ _ _)))
    refine jr_v rfl rfl (Or.inl rfl) rfl rfl (by decide) rfl ⟨rfl, Nat.le_of_ble_eq_true rfl, Nat.le_of_ble_eq_true rfl⟩ rfl (jc.deep (r_emit e270 (by omega) (by omega) (by omega) ?_) (by decide))
    have y272 : M21 598 100 = v2 - 1 := e271
    have y274 : M21 598 107 = v1 - 1 := e273
    obtain ⟨_, hn1, hib⟩ := hv (by omega)
    have rv1 := RVq_1 (ib := M 598 101)
    have hX := XS.adj (hV (by omega)) (k' := 2 + 2) (z' := 0) (by omega) (by omega) (by omega)
    have hX := XS.fin hX e270 (by omega) (by omega)
    have hA := AK.emit (op := 3) (a := 0) hA e270
    have hB : LB _ := LB.emit (M := M21) (c := v269) (op := 3) (a := 0) (by decide)
    refine jr.aload_n rfl rfl ?_
    refine jr.iconst rfl ?_
    obtain ⟨v275, e275⟩ : ∃ z, M21 598 74 = z := ⟨_, rfl⟩
    have b275 : 0 ≤ v275 ∧ v275 ≤ 4 := by rw [← e275]; exact hI_M21 598 74 (by decide)
    obtain ⟨v277, e277⟩ : ∃ z, M21 598 76 = z := ⟨_, rfl⟩
    have b277 : (-1) ≤ v277 ∧ v277 ≤ 68 := by rw [← e277]; exact hI_M21 598 76 (by decide)
    refine jr_v rfl rfl (Or.inl rfl) rfl rfl (by decide) rfl ⟨rfl, Nat.le_of_ble_eq_true rfl, Nat.le_of_ble_eq_true rfl⟩ rfl (jc.deep (c_isWord (RI.u (RI.u (RI.u hI_M21 (a := 659) (i := v269) (by rw [xri_row rfl rfl]; show (0 : Int) ≤ _ ∧ _ ≤ (1000 : Int); omega)) (a := 660) (i := v269) (by rw [xri_row rfl rfl]; show (-9223372036854775808 : Int) ≤ _ ∧ _ ≤ (9223372036854775807 : Int); omega)) (a := 598) (i := 90) (show (0 : Int) ≤ _ ∧ _ ≤ (2200 : Int) from by omega)) (by omega) (fun t56_0 t56_1 => ?_) (fun f56_0 => ?_)) (by decide))
    · have y276 : (ju (ju (ju M21 659 v269 3) 660 v269 0) 598 90 (v269 + 1)) 598 74 = v275 := ((ju_i _ _ (by decide)).trans ((ju_c _ _ (by decide)).trans ((ju_c _ _ (by decide)).trans e275)))
      have y278 : (ju (ju (ju M21 659 v269 3) 660 v269 0) 598 90 (v269 + 1)) 598 76 = v277 := ((ju_i _ _ (by decide)).trans ((ju_c _ _ (by decide)).trans ((ju_c _ _ (by decide)).trans e277)))
      refine jr.if_eq rfl rfl (by omega) (fun h => absurd h (by decide)) (fun _ => ?_)
      refine jr.aload_n rfl rfl ?_
      obtain ⟨v281, e281⟩ : ∃ z, M21 598 73 = z := ⟨_, rfl⟩
      have b281 : 0 ≤ v281 ∧ v281 ≤ 1600 := by rw [← e281]; exact hI_M21 598 73 (by decide)
      have e282 : M21 598 72 = v6 := ((w21_51 72 (by decide) (by decide) (by decide) (by decide) (by decide) (by decide) (by decide)).trans ((ju_i _ _ (by decide)).trans ((ju_i _ _ (by decide)).trans e6)))
      have e283 : M21 598 80 = v7 := ((w21_51 80 (by decide) (by decide) (by decide) (by decide) (by decide) (by decide) (by decide)).trans ((ju_i _ _ (by decide)).trans ((ju_i _ _ (by decide)).trans e7)))
      obtain ⟨v286, e286⟩ : ∃ z, M21 598 75 = z := ⟨_, rfl⟩
      have b286 : 0 ≤ v286 ∧ v286 ≤ 1600 := by rw [← e286]; exact hI_M21 598 75 (by decide)
      obtain ⟨v288, e288⟩ : ∃ z, M21 598 79 = z := ⟨_, rfl⟩
      have b288 : 0 ≤ v288 ∧ v288 ≤ 255 := by rw [← e288]; exact hI_M21 598 79 (by decide)
      have e291 : M21 598 81 = v16 := ((w21_51 81 (by decide) (by decide) (by decide) (by decide) (by decide) (by decide) (by decide)).trans ((ju_i _ _ (by decide)).trans ((ju_i _ _ (by decide)).trans e16)))
      have e293 : M21 598 89 = v18 := ((w21_51 89 (by decide) (by decide) (by decide) (by decide) (by decide) (by decide) (by decide)).trans ((ju_i _ _ (by decide)).trans ((ju_i _ _ (by decide)).trans e18)))
      refine jr_v rfl rfl (Or.inl rfl) rfl rfl (by decide) rfl ⟨rfl, Nat.le_of_ble_eq_true rfl, Nat.le_of_ble_eq_true rfl⟩ rfl (jc.deep (c_next_z (f := f) (N := N) (RI.u (RI.u (RI.u hI_M21 (a := 659) (i := v269) (by rw [xri_row rfl rfl]; show (0 : Int) ≤ _ ∧ _ ≤ (1000 : Int); omega)) (a := 660) (i := v269) (by rw [xri_row rfl rfl]; show (-9223372036854775808 : Int) ≤ _ ∧ _ ≤ (9223372036854775807 : Int); omega)) (a := 598) (i := 90) (show (0 : Int) ≤ _ ∧ _ ≤ (2200 : Int) from by omega)) (RH.o (RH.o (RH.o hH_M21 (by decide) (by decide) (by decide)) (by decide) (by decide) (by decide)) (by decide) (by decide) (by decide)) (RF.o (RF.o (RF.o hS_M21 (by decide) (by decide)) (by decide) (by decide)) (by decide) (by decide)) (by rw [((ju_i _ _ (by decide)).trans ((ju_c _ _ (by decide)).trans ((ju_c _ _ (by decide)).trans e281))), ((ju_i _ _ (by decide)).trans ((ju_c _ _ (by decide)).trans ((ju_c _ _ (by decide)).trans e282)))]; omega) (TKr.oo (TKr.cc (TKr.cc hK21 (by decide) (by decide) (by decide) (by decide)) (by decide) (by decide) (by decide) (by decide)) (by decide)) (by rw [((ju_i _ _ (by decide)).trans ((ju_c _ _ (by decide)).trans ((ju_c _ _ (by decide)).trans e283)))]; omega) (by rw [((ju_i _ _ (by decide)).trans ((ju_c _ _ (by decide)).trans ((ju_c _ _ (by decide)).trans e275)))]; omega) (fun M296 hI_M296 hH_M296 hS_M296 qa296 qb296 qt296 sn296 hK296 w296_50 w296_51 => ?_)) (by decide))
      have y284 : (ju (ju (ju M21 659 v269 3) 660 v269 0) 598 90 (v269 + 1)) 598 73 = v281 := ((ju_i _ _ (by decide)).trans ((ju_c _ _ (by decide)).trans ((ju_c _ _ (by decide)).trans e281)))
      have y285 : (ju (ju (ju M21 659 v269 3) 660 v269 0) 598 90 (v269 + 1)) 598 74 = v275 := ((ju_i _ _ (by decide)).trans ((ju_c _ _ (by decide)).trans ((ju_c _ _ (by decide)).trans e275)))
      have y287 : (ju (ju (ju M21 659 v269 3) 660 v269 0) 598 90 (v269 + 1)) 598 75 = v286 := ((ju_i _ _ (by decide)).trans ((ju_c _ _ (by decide)).trans ((ju_c _ _ (by decide)).trans e286)))
      have y289 : (ju (ju (ju M21 659 v269 3) 660 v269 0) 598 90 (v269 + 1)) 598 79 = v288 := ((ju_i _ _ (by decide)).trans ((ju_c _ _ (by decide)).trans ((ju_c _ _ (by decide)).trans e288)))
      have y290 : (ju (ju (ju M21 659 v269 3) 660 v269 0) 598 90 (v269 + 1)) 598 80 = v7 := ((ju_i _ _ (by decide)).trans ((ju_c _ _ (by decide)).trans ((ju_c _ _ (by decide)).trans e283)))
      have y292 : (ju (ju (ju M21 659 v269 3) 660 v269 0) 598 90 (v269 + 1)) 598 81 = v16 := ((ju_i _ _ (by decide)).trans ((ju_c _ _ (by decide)).trans ((ju_c _ _ (by decide)).trans e291)))
      have y294 : (ju (ju (ju M21 659 v269 3) 660 v269 0) 598 90 (v269 + 1)) 598 89 = v18 := ((ju_i _ _ (by decide)).trans ((ju_c _ _ (by decide)).trans ((ju_c _ _ (by decide)).trans e293)))
      have y295 : (ju (ju (ju M21 659 v269 3) 660 v269 0) 598 90 (v269 + 1)) 598 100 = v2 - 1 := ((ju_i _ _ (by decide)).trans ((ju_c _ _ (by decide)).trans ((ju_c _ _ (by decide)).trans e271)))
      have tb296 : TK (ju (ju (ju M21 659 v269 3) 660 v269 0) 598 90 (v269 + 1)) = TK M21 := ((TK.o (Or.inr ⟨by decide, by decide⟩)).trans ((TK.o (Or.inl (by decide))).trans ((TK.o (Or.inl (by decide))).trans rfl)))
      have x296_72 := w296_51 72 (by decide) (by decide) (by decide) (by decide) (by decide) (by decide) (by decide)
      have x296_80 := w296_51 80 (by decide) (by decide) (by decide) (by decide) (by decide) (by decide) (by decide)
      have x296_81 := w296_51 81 (by decide) (by decide) (by decide) (by decide) (by decide) (by decide) (by decide)
      have x296_89 := w296_51 89 (by decide) (by decide) (by decide) (by decide) (by decide) (by decide) (by decide)
      have x296_100 := w296_51 100 (by decide) (by decide) (by decide) (by decide) (by decide) (by decide) (by decide)
      have hT296 := hK296.1
      have kk296 := hK296.kz
      have y297 : (ju (ju (ju M21 659 v269 3) 660 v269 0) 598 90 (v269 + 1)) 598 73 = v281 := ((ju_i _ _ (by decide)).trans ((ju_c _ _ (by decide)).trans ((ju_c _ _ (by decide)).trans e281)))
      have y298 : (ju (ju (ju M21 659 v269 3) 660 v269 0) 598 90 (v269 + 1)) 598 74 = v275 := ((ju_i _ _ (by decide)).trans ((ju_c _ _ (by decide)).trans ((ju_c _ _ (by decide)).trans e275)))
      have y299 : (ju (ju (ju M21 659 v269 3) 660 v269 0) 598 90 (v269 + 1)) 598 89 = v18 := ((ju_i _ _ (by decide)).trans ((ju_c _ _ (by decide)).trans ((ju_c _ _ (by decide)).trans e293)))
      have y300 : (ju (ju (ju M21 659 v269 3) 660 v269 0) 598 90 (v269 + 1)) 598 100 = v2 - 1 := ((ju_i _ _ (by decide)).trans ((ju_c _ _ (by decide)).trans ((ju_c _ _ (by decide)).trans e271)))
      have x296_89 := w296_51 89 (by decide) (by decide) (by decide) (by decide) (by decide) (by decide) (by decide)
      have x296_100 := w296_51 100 (by decide) (by decide) (by decide) (by decide) (by decide) (by decide) (by decide)
      have hX := XS.fr2 hX w296_50 (w296_51 88 (by decide) (by decide) (by decide) (by decide) (by decide) (by decide) (by decide)) (w296_51 90 (by decide) (by decide) (by decide) (by decide) (by decide) (by decide) (by decide)) (w296_51 101 (by decide) (by decide) (by decide) (by decide) (by decide) (by decide) (by decide)) (w296_51 107 (by decide) (by decide) (by decide) (by decide) (by decide) (by decide) (by decide)) (k' := 2) (d' := 0) (z' := 0) (by omega) (by omega) (by omega) (by omega)
      have hA := AK.cp hA (CP.f (CP.rfl _) (fun i => w296_50 659 i (by decide)) (w296_51 90 (by decide) (by decide) (by decide) (by decide) (by decide) (by decide) (by decide))) (fun i => w296_50 663 i (by decide)) (w296_51 96 (by decide) (by decide) (by decide) (by decide) (by decide) (by decide) (by decide))
      have hB := LB.fr hB (fun i => w296_50 659 i (by decide)) (w296_51 90 (by decide) (by decide) (by decide) (by decide) (by decide) (by decide) (by decide))
      have x296_101 := w296_51 101 (by decide) (by decide) (by decide) (by decide) (by decide) (by decide) (by decide)
      have x296_107 := w296_51 107 (by decide) (by decide) (by decide) (by decide) (by decide) (by decide) (by decide)
      have x296_88 := w296_51 88 (by decide) (by decide) (by decide) (by decide) (by decide) (by decide) (by decide)
      have x296_96 := w296_51 96 (by decide) (by decide) (by decide) (by decide) (by decide) (by decide) (by decide)
      refine jr.aload_n rfl rfl ?_
      refine jr.iconst rfl ?_
      refine jr.putf (i := 101) (x := 1) rfl rfl (by decide) rfl (by decide) rfl rfl rfl rfl rfl ?_
      refine jr.aload_n rfl rfl ?_
      refine jr.getf (i := 93) (v := .ref 658) rfl rfl (by decide) rfl (by decide) rfl rfl rfl rfl ?_
      refine jr.aload_n rfl rfl ?_
      obtain ⟨v301, e301⟩ : ∃ z, M 598 88 = z := ⟨_, rfl⟩
      have b301 : 0 ≤ v301 ∧ v301 ≤ 16 := by rw [← e301]; exact hI_M 598 88 (by decide)
      have e302 : M21 598 88 = v301 := ((w21_51 88 (by decide) (by decide) (by decide) (by decide) (by decide) (by decide) (by decide)).trans ((ju_i _ _ (by decide)).trans ((ju_i _ _ (by decide)).trans e301)))
      have e303 : M296 598 88 = v301 := ((w296_51 88 (by decide) (by decide) (by decide) (by decide) (by decide) (by decide) (by decide)).trans ((ju_i _ _ (by decide)).trans ((ju_c _ _ (by decide)).trans ((ju_c _ _ (by decide)).trans e302))))
      refine jr.getf (i := 88) (x := v301) (v := .int (Int32.ofInt (v301))) rfl rfl (by decide) rfl (by decide) rfl rfl ((ju_i _ _ (by decide)).trans e303) rfl ?_
      refine jr.iconst rfl ?_
      refine jr.isub rfl ?_
      refine jr.aload_n rfl rfl ?_
      have e304 : M296 598 90 = v269 + 1 := ((w296_51 90 (by decide) (by decide) (by decide) (by decide) (by decide) (by decide) (by decide)).trans (ju_same _ _ _ _))
      refine jr.getf (i := 90) (x := (v269 + 1)) (v := .int (Int32.ofInt (v269 + 1))) rfl rfl (by decide) rfl (by decide) rfl rfl ((ju_i _ _ (by decide)).trans e304) rfl ?_
      refine jr.iast (i := (v301 - 1)) (x := (v269 + 1)) rfl (by decide) rfl (by decide) (by omega) (by omega) ?_
      refine jr.aload_n rfl rfl ?_
      refine jr.iconst rfl ?_
      refine jr.iconst rfl ?_
      obtain ⟨v305, e305⟩ : ∃ z, M296 598 73 = z := ⟨_, rfl⟩
      have b305 : 0 ≤ v305 ∧ v305 ≤ 1600 := by rw [← e305]; exact hI_M296 598 73 (by decide)
      have e306 : M296 598 72 = v6 := ((w296_51 72 (by decide) (by decide) (by decide) (by decide) (by decide) (by decide) (by decide)).trans ((ju_i _ _ (by decide)).trans ((ju_c _ _ (by decide)).trans ((ju_c _ _ (by decide)).trans e282))))
      have e307 : M296 598 80 = v7 := ((w296_51 80 (by decide) (by decide) (by decide) (by decide) (by decide) (by decide) (by decide)).trans ((ju_i _ _ (by decide)).trans ((ju_c _ _ (by decide)).trans ((ju_c _ _ (by decide)).trans e283))))
      have e308 : M296 598 100 = v2 - 1 := ((w296_51 100 (by decide) (by decide) (by decide) (by decide) (by decide) (by decide) (by decide)).trans ((ju_i _ _ (by decide)).trans ((ju_c _ _ (by decide)).trans ((ju_c _ _ (by decide)).trans e271))))
      have e309 : M296 598 107 = v1 - 1 := ((w296_51 107 (by decide) (by decide) (by decide) (by decide) (by decide) (by decide) (by decide)).trans ((ju_i _ _ (by decide)).trans ((ju_c _ _ (by decide)).trans ((ju_c _ _ (by decide)).trans e273))))
      obtain ⟨v310, e310⟩ : ∃ z, M296 598 74 = z := ⟨_, rfl⟩
      have b310 : 0 ≤ v310 ∧ v310 ≤ 4 := by rw [← e310]; exact hI_M296 598 74 (by decide)
      obtain ⟨v311, e311⟩ : ∃ z, M296 598 79 = z := ⟨_, rfl⟩
      have b311 : 0 ≤ v311 ∧ v311 ≤ 255 := by rw [← e311]; exact hI_M296 598 79 (by decide)
      obtain ⟨v314, e314⟩ : ∃ z, M296 598 75 = z := ⟨_, rfl⟩
      have b314 : 0 ≤ v314 ∧ v314 ≤ 1600 := by rw [← e314]; exact hI_M296 598 75 (by decide)
      have e318 : M296 598 81 = v16 := ((w296_51 81 (by decide) (by decide) (by decide) (by decide) (by decide) (by decide) (by decide)).trans ((ju_i _ _ (by decide)).trans ((ju_c _ _ (by decide)).trans ((ju_c _ _ (by decide)).trans e291))))
      have e320 : M296 598 89 = v18 := ((w296_51 89 (by decide) (by decide) (by decide) (by decide) (by decide) (by decide) (by decide)).trans ((ju_i _ _ (by decide)).trans ((ju_c _ _ (by decide)).trans ((ju_c _ _ (by decide)).trans e293))))
      refine jr_v rfl rfl (Or.inl rfl) rfl rfl (by decide) rfl ⟨rfl, Nat.le_of_ble_eq_true rfl, Nat.le_of_ble_eq_true rfl⟩ rfl (jc.deep (c_beginBlock_z (f := f) (N := N) (RI.u (RI.u hI_M296 (a := 598) (i := 101) (show (0 : Int) ≤ _ ∧ _ ≤ (1 : Int) from by omega)) (a := 658) (i := (v301 - 1)) (by rw [xri_row rfl rfl]; show (-1 : Int) ≤ _ ∧ _ ≤ (2200 : Int); omega)) (RH.o (RH.o hH_M296 (by decide) (by decide) (by decide)) (by decide) (by decide) (by decide)) (RF.o (RF.o hS_M296 (by decide) (by decide)) (by decide) (by decide)) (by omega) (by omega) (by rw [((ju_c _ _ (by decide)).trans ((ju_i _ _ (by decide)).trans e305)), ((ju_c _ _ (by decide)).trans ((ju_i _ _ (by decide)).trans e306))]; omega) (TKr.cc (TKr.oo hK296 (by decide)) (by decide) (by decide) (by decide) (by decide)) (by rw [((ju_c _ _ (by decide)).trans ((ju_i _ _ (by decide)).trans e307))]; omega) (by rw [((ju_c _ _ (by decide)).trans ((ju_i _ _ (by decide)).trans e308))]; omega) (by rw [((ju_c _ _ (by decide)).trans ((ju_i _ _ (by decide)).trans e309))]; omega) (by rw [((ju_c _ _ (by decide)).trans ((ju_i _ _ (by decide)).trans e310)), ((ju_c _ _ (by decide)).trans ((ju_i _ _ (by decide)).trans e311))]; intro q; omega) (fun M326 hI_M326 hH_M326 hS_M326 qa326 qb326 qt326 qd326 ql326 sn326 q0326 q1326 qs326 hK326 q7326 bx326 bl326 w326_50 w326_51 => ?_) (fun M326 hI_M326 hH_M326 hS_M326 qa326 qb326 qt326 ql326 q0326 q1326 qs326 hT326 q7326 w326_50 w326_51 => ?_) (fun M326 hI_M326 hH_M326 hS_M326 qa326 qb326 qt326 qn326 q0326 q1326 qs326 hT326 q7326 w326_50 w326_51 => ?_)) (by decide))
      · have y312 : (ju (ju M296 598 101 1) 658 (v301 - 1) (v269 + 1)) 598 73 = v305 := ((ju_c _ _ (by decide)).trans ((ju_i _ _ (by decide)).trans e305))
        have y313 : (ju (ju M296 598 101 1) 658 (v301 - 1) (v269 + 1)) 598 74 = v310 := ((ju_c _ _ (by decide)).trans ((ju_i _ _ (by decide)).trans e310))
        have y315 : (ju (ju M296 598 101 1) 658 (v301 - 1) (v269 + 1)) 598 75 = v314 := ((ju_c _ _ (by decide)).trans ((ju_i _ _ (by decide)).trans e314))
        have y316 : (ju (ju M296 598 101 1) 658 (v301 - 1) (v269 + 1)) 598 79 = v311 := ((ju_c _ _ (by decide)).trans ((ju_i _ _ (by decide)).trans e311))
        have y317 : (ju (ju M296 598 101 1) 658 (v301 - 1) (v269 + 1)) 598 80 = v7 := ((ju_c _ _ (by decide)).trans ((ju_i _ _ (by decide)).trans e307))
        have y319 : (ju (ju M296 598 101 1) 658 (v301 - 1) (v269 + 1)) 598 81 = v16 := ((ju_c _ _ (by decide)).trans ((ju_i _ _ (by decide)).trans e318))
        have y321 : (ju (ju M296 598 101 1) 658 (v301 - 1) (v269 + 1)) 598 89 = v18 := ((ju_c _ _ (by decide)).trans ((ju_i _ _ (by decide)).trans e320))
        have y322 : (ju (ju M296 598 101 1) 658 (v301 - 1) (v269 + 1)) 598 90 = v269 + 1 := ((ju_c _ _ (by decide)).trans ((ju_i _ _ (by decide)).trans e304))
        have y323 : (ju (ju M296 598 101 1) 658 (v301 - 1) (v269 + 1)) 598 100 = v2 - 1 := ((ju_c _ _ (by decide)).trans ((ju_i _ _ (by decide)).trans e308))
        have y324 : (ju (ju M296 598 101 1) 658 (v301 - 1) (v269 + 1)) 598 101 = 1 := ((ju_c _ _ (by decide)).trans (ju_same _ _ _ _))
        have y325 : (ju (ju M296 598 101 1) 658 (v301 - 1) (v269 + 1)) 598 107 = v1 - 1 := ((ju_c _ _ (by decide)).trans ((ju_i _ _ (by decide)).trans e309))
        have tb326 : TK (ju (ju M296 598 101 1) 658 (v301 - 1) (v269 + 1)) = TK M296 := ((TK.o (Or.inl (by decide))).trans ((TK.o (Or.inr ⟨by decide, by decide⟩)).trans rfl))
        have x326_72 := w326_51 72 (by decide) (by decide) (by decide) (by decide) (by decide) (by decide) (by decide) (by decide) (by decide) (by decide) (by decide)
        have x326_89 := w326_51 89 (by decide) (by decide) (by decide) (by decide) (by decide) (by decide) (by decide) (by decide) (by decide) (by decide) (by decide)
        have x326_101 := w326_51 101 (by decide) (by decide) (by decide) (by decide) (by decide) (by decide) (by decide) (by decide) (by decide) (by decide) (by decide)
        have x326_88 := w326_51 88 (by decide) (by decide) (by decide) (by decide) (by decide) (by decide) (by decide) (by decide) (by decide) (by decide) (by decide)
        have x326_96 := w326_51 96 (by decide) (by decide) (by decide) (by decide) (by decide) (by decide) (by decide) (by decide) (by decide) (by decide) (by decide)
        have x326_90 := w326_51 90 (by decide) (by decide) (by decide) (by decide) (by decide) (by decide) (by decide) (by decide) (by decide) (by decide) (by decide)
        have hT326 := hK326.1
        have kk326 := hK326.kz
        have hX := XS.bhd (XS.ib hX (by rw [e309]; omega) 1) ((ju_i _ _ (by decide)).trans e304) (v301 - 1) (by have z := hB; unfold LB at z; rw [e304] at z; rw [ju_c _ _ (by decide)]; exact z)
        have hA := AK.cp (M' := (ju (ju M296 598 101 1) 658 (v301 - 1) (v269 + 1))) hA (CP.o (CP.o (CP.rfl _) (by decide) (Or.inr (by decide))) (by decide) (Or.inl (by decide))) (fun i => by rw [ju_c _ _ (by decide), ju_c _ _ (by decide)]) (by rw [ju_c _ _ (by decide), ju_i _ _ (by decide)])
        have hB := LB.fr (M' := (ju (ju M296 598 101 1) 658 (v301 - 1) (v269 + 1))) hB (fun i => by rw [ju_c _ _ (by decide), ju_c _ _ (by decide)]) (by rw [ju_c _ _ (by decide), ju_i _ _ (by decide)])
        have y327 : (ju (ju M296 598 101 1) 658 (v301 - 1) (v269 + 1)) 598 101 = 1 := ((ju_c _ _ (by decide)).trans (ju_same _ _ _ _))
        have y328 : (ju (ju M296 598 101 1) 658 (v301 - 1) (v269 + 1)) 598 107 = v1 - 1 := ((ju_c _ _ (by decide)).trans ((ju_i _ _ (by decide)).trans e309))
        have y329 : (ju (ju M296 598 101 1) 658 (v301 - 1) (v269 + 1)) 598 90 = v269 + 1 := ((ju_c _ _ (by decide)).trans ((ju_i _ _ (by decide)).trans e304))
        have y330 : (ju (ju M296 598 101 1) 658 (v301 - 1) (v269 + 1)) 598 74 = v310 := ((ju_c _ _ (by decide)).trans ((ju_i _ _ (by decide)).trans e310))
        have e0 : (ju (ju M296 598 101 1) 658 (v301 - 1) (v269 + 1)) 598 107 = 0 := (by omega)
        have e1 : (ju (ju M296 598 101 1) 658 (v301 - 1) (v269 + 1)) 598 101 = 1 := (by omega)
        have hX := bx326 0 2 0 0 _ hX (by omega) (fun _ => ⟨by omega, by omega, by omega, rfl⟩) (fun q => by exfalso; omega) (by rw [e0, e1]; decide) (by omega)
        have hB := LB.fr hB (fun i => w326_50 659 i (by decide) (by decide) (by decide)) (w326_51 90 (by decide) (by decide) (by decide) (by decide) (by decide) (by decide) (by decide) (by decide) (by decide) (by decide) (by decide))
        have hA := AK.cp hA (CP.f (CP.rfl _) (fun i => w326_50 659 i (by decide) (by decide) (by decide)) (w326_51 90 (by decide) (by decide) (by decide) (by decide) (by decide) (by decide) (by decide) (by decide) (by decide) (by decide) (by decide))) (fun i => w326_50 663 i (by decide) (by decide) (by decide)) (w326_51 96 (by decide) (by decide) (by decide) (by decide) (by decide) (by decide) (by decide) (by decide) (by decide) (by decide) (by decide))
        refine jr.goto rfl rfl ?_
        have e331 : M326 598 72 = v6 := ((w326_51 72 (by decide) (by decide) (by decide) (by decide) (by decide) (by decide) (by decide) (by decide) (by decide) (by decide) (by decide)).trans ((ju_c _ _ (by decide)).trans ((ju_i _ _ (by decide)).trans e306)))
        have y332 : M326 598 72 = v6 := e331
        obtain ⟨v333, e333⟩ : ∃ z, M326 598 73 = z := ⟨_, rfl⟩
        have b333 : 0 ≤ v333 ∧ v333 ≤ 1600 := by rw [← e333]; exact hI_M326 598 73 (by decide)
        have y334 : M326 598 73 = v333 := e333
        obtain ⟨v335, e335⟩ : ∃ z, M326 598 74 = z := ⟨_, rfl⟩
        have b335 : 0 ≤ v335 ∧ v335 ≤ 4 := by rw [← e335]; exact hI_M326 598 74 (by decide)
        have y336 : M326 598 74 = v335 := e335
        obtain ⟨v337, e337⟩ : ∃ z, M326 598 79 = z := ⟨_, rfl⟩
        have b337 : 0 ≤ v337 ∧ v337 ≤ 255 := by rw [← e337]; exact hI_M326 598 79 (by decide)
        have y338 : M326 598 79 = v337 := e337
        obtain ⟨v339, e339⟩ : ∃ z, M326 598 80 = z := ⟨_, rfl⟩
        have b339 : 0 ≤ v339 ∧ v339 ≤ 7 := by rw [← e339]; exact hI_M326 598 80 (by decide)
        have y340 : M326 598 80 = v339 := e339
        have e341 : M326 598 89 = v18 := ((w326_51 89 (by decide) (by decide) (by decide) (by decide) (by decide) (by decide) (by decide) (by decide) (by decide) (by decide) (by decide)).trans ((ju_c _ _ (by decide)).trans ((ju_i _ _ (by decide)).trans e320)))
        have y342 : M326 598 89 = v18 := e341
        have e343 : M326 598 90 = v269 + 1 := ((w326_51 90 (by decide) (by decide) (by decide) (by decide) (by decide) (by decide) (by decide) (by decide) (by decide) (by decide) (by decide)).trans ((ju_c _ _ (by decide)).trans ((ju_i _ _ (by decide)).trans e304)))
        have y344 : M326 598 90 = v269 + 1 := e343
        obtain ⟨v345, e345⟩ : ∃ z, M 598 96 = z := ⟨_, rfl⟩
        have b345 : 0 ≤ v345 ∧ v345 ≤ 300 := by rw [← e345]; exact hI_M 598 96 (by decide)
        have e346 : M21 598 96 = v345 := ((w21_51 96 (by decide) (by decide) (by decide) (by decide) (by decide) (by decide) (by decide)).trans ((ju_i _ _ (by decide)).trans ((ju_i _ _ (by decide)).trans e345)))
        have e347 : M296 598 96 = v345 := ((w296_51 96 (by decide) (by decide) (by decide) (by decide) (by decide) (by decide) (by decide)).trans ((ju_i _ _ (by decide)).trans ((ju_c _ _ (by decide)).trans ((ju_c _ _ (by decide)).trans e346))))
        have e348 : M326 598 96 = v345 := ((w326_51 96 (by decide) (by decide) (by decide) (by decide) (by decide) (by decide) (by decide) (by decide) (by decide) (by decide) (by decide)).trans ((ju_c _ _ (by decide)).trans ((ju_i _ _ (by decide)).trans e347)))
        have y349 : M326 598 96 = v345 := e348
        obtain ⟨v350, e350⟩ : ∃ z, M326 598 100 = z := ⟨_, rfl⟩
        have b350 : 0 ≤ v350 ∧ v350 ≤ 13 := by rw [← e350]; exact hI_M326 598 100 (by decide)
        have y351 : M326 598 100 = v350 := e350
        obtain ⟨v352, e352⟩ : ∃ z, M326 598 107 = z := ⟨_, rfl⟩
        have b352 : 0 ≤ v352 ∧ v352 ≤ 16 := by rw [← e352]; exact hI_M326 598 107 (by decide)
        have y353 : M326 598 107 = v352 := e352
        obtain ⟨v354, e354⟩ : ∃ z, M326 598 75 = z := ⟨_, rfl⟩
        have b354 : 0 ≤ v354 ∧ v354 ≤ 1600 := by rw [← e354]; exact hI_M326 598 75 (by decide)
        have y355 : M326 598 75 = v354 := e354
        have y356 : M326 598 80 = v339 := e339
        obtain ⟨v357, e357⟩ : ∃ z, M326 598 81 = z := ⟨_, rfl⟩
        have b357 : (-1) ≤ v357 ∧ v357 ≤ 1600 := by rw [← e357]; exact hI_M326 598 81 (by decide)
        have y358 : M326 598 81 = v357 := e357
        have y359 : M326 598 89 = v18 := e341
        have y360 : M326 598 100 = v350 := e350
        have e361 : M326 598 101 = 1 := ((w326_51 101 (by decide) (by decide) (by decide) (by decide) (by decide) (by decide) (by decide) (by decide) (by decide) (by decide) (by decide)).trans ((ju_c _ _ (by decide)).trans (ju_same _ _ _ _)))
        have y362 : M326 598 101 = 1 := e361
        have y363 : M326 598 107 = v352 := e352
        exact jr.vreturn rfl rfl (q _ hI_M326 hH_M326 hS_M326  (Or.inr ⟨by omega, Or.inl ⟨by omega, ⟨by omega, XS.adj hX (k' := 0) (z' := 0) (by omega) (by omega) (by omega), by omega, by omega, by omega, by omega, hB, hA, by omega⟩⟩⟩) (by omega) (by omega) (by omega) hT326 (fun q => by exfalso; omega) (fun _ => ⟨_, hK326, Or.inl ⟨by omega, by have hz := hz; rw [show v3 = 0 by omega] at hz; exact (zr.eqx (zr.bh hz g125 (by have q := hK21.wz (by omega); omega) qs326 (by omega)) rfl rfl (by omega) (by omega) (by omega) (by rw [(bl326.trans (by rw [(((blr_fr (fun i => ju_c _ _ (by decide)) (ju_c _ _ (by decide))).trans ((blr_fr (fun i => ju_c _ _ (by decide)) (ju_i _ _ (by decide))).trans ((blr_fr (fun i => w296_50 668 i (by decide)) (w296_51 107 (by decide) (by decide) (by decide) (by decide) (by decide) (by decide) (by decide))).trans ((blr_fr (fun i => ju_c _ _ (by decide)) (ju_i _ _ (by decide))).trans ((blr_fr (fun i => ju_c _ _ (by decide)) (ju_c _ _ (by decide))).trans ((blr_fr (fun i => ju_c _ _ (by decide)) (ju_c _ _ (by decide))).trans rfl))))))).trans hb1]))]))⟩⟩) (fun q => by omega) (fun a i f598 f658 f659 f660 f668 f669 => ((w326_50 a i f598 f668 f669).trans ((ju_c _ _ f658).trans ((ju_c _ _ f598).trans ((w296_50 a i f598).trans ((ju_c _ _ f598).trans ((ju_c _ _ f660).trans ((ju_c _ _ f659).trans ((w21_50 a i f598).trans ((ju_c _ _ f598).trans ((ju_c _ _ f598).trans rfl))))))))))) (fun i g73 g74 g75 g76 g77 g78 g79 g80 g81 g90 g100 g101 g107 => ((w326_51 i g73 g74 g75 g76 g77 g78 g79 g80 g81 g100 g107).trans ((ju_c _ _ (by decide)).trans ((ju_i _ _ g101).trans ((w296_51 i g73 g74 g75 g76 g77 g78 g79).trans ((ju_i _ _ g90).trans ((ju_c _ _ (by decide)).trans ((ju_c _ _ (by decide)).trans ((w21_51 i g73 g74 g75 g76 g77 g78 g79).trans ((ju_i _ _ g100).trans ((ju_i _ _ g107).trans rfl))))))))))))
      · have y312 : (ju (ju M296 598 101 1) 658 (v301 - 1) (v269 + 1)) 598 73 = v305 := ((ju_c _ _ (by decide)).trans ((ju_i _ _ (by decide)).trans e305))
        have y313 : (ju (ju M296 598 101 1) 658 (v301 - 1) (v269 + 1)) 598 74 = v310 := ((ju_c _ _ (by decide)).trans ((ju_i _ _ (by decide)).trans e310))
        have y315 : (ju (ju M296 598 101 1) 658 (v301 - 1) (v269 + 1)) 598 75 = v314 := ((ju_c _ _ (by decide)).trans ((ju_i _ _ (by decide)).trans e314))
        have y316 : (ju (ju M296 598 101 1) 658 (v301 - 1) (v269 + 1)) 598 79 = v311 := ((ju_c _ _ (by decide)).trans ((ju_i _ _ (by decide)).trans e311))
        have y317 : (ju (ju M296 598 101 1) 658 (v301 - 1) (v269 + 1)) 598 80 = v7 := ((ju_c _ _ (by decide)).trans ((ju_i _ _ (by decide)).trans e307))
        have y319 : (ju (ju M296 598 101 1) 658 (v301 - 1) (v269 + 1)) 598 81 = v16 := ((ju_c _ _ (by decide)).trans ((ju_i _ _ (by decide)).trans e318))
        have y321 : (ju (ju M296 598 101 1) 658 (v301 - 1) (v269 + 1)) 598 89 = v18 := ((ju_c _ _ (by decide)).trans ((ju_i _ _ (by decide)).trans e320))
        have y322 : (ju (ju M296 598 101 1) 658 (v301 - 1) (v269 + 1)) 598 90 = v269 + 1 := ((ju_c _ _ (by decide)).trans ((ju_i _ _ (by decide)).trans e304))
        have y323 : (ju (ju M296 598 101 1) 658 (v301 - 1) (v269 + 1)) 598 100 = v2 - 1 := ((ju_c _ _ (by decide)).trans ((ju_i _ _ (by decide)).trans e308))
        have y324 : (ju (ju M296 598 101 1) 658 (v301 - 1) (v269 + 1)) 598 101 = 1 := ((ju_c _ _ (by decide)).trans (ju_same _ _ _ _))
        have y325 : (ju (ju M296 598 101 1) 658 (v301 - 1) (v269 + 1)) 598 107 = v1 - 1 := ((ju_c _ _ (by decide)).trans ((ju_i _ _ (by decide)).trans e309))
        have tb326 : TK (ju (ju M296 598 101 1) 658 (v301 - 1) (v269 + 1)) = TK M296 := ((TK.o (Or.inl (by decide))).trans ((TK.o (Or.inr ⟨by decide, by decide⟩)).trans rfl))
        have x326_72 := w326_51 72 (by decide) (by decide) (by decide) (by decide) (by decide) (by decide) (by decide) (by decide) (by decide) (by decide) (by decide)
        have x326_89 := w326_51 89 (by decide) (by decide) (by decide) (by decide) (by decide) (by decide) (by decide) (by decide) (by decide) (by decide) (by decide)
        have x326_101 := w326_51 101 (by decide) (by decide) (by decide) (by decide) (by decide) (by decide) (by decide) (by decide) (by decide) (by decide) (by decide)
        have x326_88 := w326_51 88 (by decide) (by decide) (by decide) (by decide) (by decide) (by decide) (by decide) (by decide) (by decide) (by decide) (by decide)
        have x326_96 := w326_51 96 (by decide) (by decide) (by decide) (by decide) (by decide) (by decide) (by decide) (by decide) (by decide) (by decide) (by decide)
        have x326_90 := w326_51 90 (by decide) (by decide) (by decide) (by decide) (by decide) (by decide) (by decide) (by decide) (by decide) (by decide) (by decide)
        have zfz : zr f N xs (zft (M326 598 80) (M326 598 81)) := by have hz := hz; rw [show v3 = 0 by omega] at hz; exact (zr.fe (zr.bhd hz g125 (by have q := hK21.wz (by omega); omega) qs326 (by omega)) (by omega) (by omega))
        refine jr.goto rfl rfl ?_
        have e364 : M326 598 72 = v6 := ((w326_51 72 (by decide) (by decide) (by decide) (by decide) (by decide) (by decide) (by decide) (by decide) (by decide) (by decide) (by decide)).trans ((ju_c _ _ (by decide)).trans ((ju_i _ _ (by decide)).trans e306)))
        have y365 : M326 598 72 = v6 := e364
        obtain ⟨v366, e366⟩ : ∃ z, M326 598 73 = z := ⟨_, rfl⟩
        have b366 : 0 ≤ v366 ∧ v366 ≤ 1600 := by rw [← e366]; exact hI_M326 598 73 (by decide)
        have y367 : M326 598 73 = v366 := e366
        obtain ⟨v368, e368⟩ : ∃ z, M326 598 74 = z := ⟨_, rfl⟩
        have b368 : 0 ≤ v368 ∧ v368 ≤ 4 := by rw [← e368]; exact hI_M326 598 74 (by decide)
        have y369 : M326 598 74 = v368 := e368
        obtain ⟨v370, e370⟩ : ∃ z, M326 598 79 = z := ⟨_, rfl⟩
        have b370 : 0 ≤ v370 ∧ v370 ≤ 255 := by rw [← e370]; exact hI_M326 598 79 (by decide)
        have y371 : M326 598 79 = v370 := e370
        obtain ⟨v372, e372⟩ : ∃ z, M326 598 80 = z := ⟨_, rfl⟩
        have b372 : 0 ≤ v372 ∧ v372 ≤ 7 := by rw [← e372]; exact hI_M326 598 80 (by decide)
        have y373 : M326 598 80 = v372 := e372
        have e374 : M326 598 89 = v18 := ((w326_51 89 (by decide) (by decide) (by decide) (by decide) (by decide) (by decide) (by decide) (by decide) (by decide) (by decide) (by decide)).trans ((ju_c _ _ (by decide)).trans ((ju_i _ _ (by decide)).trans e320)))
        have y375 : M326 598 89 = v18 := e374
        have e376 : M326 598 90 = v269 + 1 := ((w326_51 90 (by decide) (by decide) (by decide) (by decide) (by decide) (by decide) (by decide) (by decide) (by decide) (by decide) (by decide)).trans ((ju_c _ _ (by decide)).trans ((ju_i _ _ (by decide)).trans e304)))
        have y377 : M326 598 90 = v269 + 1 := e376
        obtain ⟨v378, e378⟩ : ∃ z, M 598 96 = z := ⟨_, rfl⟩
        have b378 : 0 ≤ v378 ∧ v378 ≤ 300 := by rw [← e378]; exact hI_M 598 96 (by decide)
        have e379 : M21 598 96 = v378 := ((w21_51 96 (by decide) (by decide) (by decide) (by decide) (by decide) (by decide) (by decide)).trans ((ju_i _ _ (by decide)).trans ((ju_i _ _ (by decide)).trans e378)))
        have e380 : M296 598 96 = v378 := ((w296_51 96 (by decide) (by decide) (by decide) (by decide) (by decide) (by decide) (by decide)).trans ((ju_i _ _ (by decide)).trans ((ju_c _ _ (by decide)).trans ((ju_c _ _ (by decide)).trans e379))))
        have e381 : M326 598 96 = v378 := ((w326_51 96 (by decide) (by decide) (by decide) (by decide) (by decide) (by decide) (by decide) (by decide) (by decide) (by decide) (by decide)).trans ((ju_c _ _ (by decide)).trans ((ju_i _ _ (by decide)).trans e380)))
        have y382 : M326 598 96 = v378 := e381
        obtain ⟨v383, e383⟩ : ∃ z, M326 598 100 = z := ⟨_, rfl⟩
        have b383 : 0 ≤ v383 ∧ v383 ≤ 13 := by rw [← e383]; exact hI_M326 598 100 (by decide)
        have y384 : M326 598 100 = v383 := e383
        obtain ⟨v385, e385⟩ : ∃ z, M326 598 107 = z := ⟨_, rfl⟩
        have b385 : 0 ≤ v385 ∧ v385 ≤ 16 := by rw [← e385]; exact hI_M326 598 107 (by decide)
        have y386 : M326 598 107 = v385 := e385
        obtain ⟨v387, e387⟩ : ∃ z, M326 598 75 = z := ⟨_, rfl⟩
        have b387 : 0 ≤ v387 ∧ v387 ≤ 1600 := by rw [← e387]; exact hI_M326 598 75 (by decide)
        have y388 : M326 598 75 = v387 := e387
        obtain ⟨v389, e389⟩ : ∃ z, M326 598 81 = z := ⟨_, rfl⟩
        have b389 : (-1) ≤ v389 ∧ v389 ≤ 1600 := by rw [← e389]; exact hI_M326 598 81 (by decide)
        have y390 : M326 598 81 = v389 := e389
        exact jr.vreturn rfl rfl (q _ hI_M326 hH_M326 hS_M326  (Or.inl ⟨by omega, by omega⟩) (by omega) (by omega) (by omega) hT326 (fun _ => zr.fe zfz (by omega) (by omega)) (fun q => by exfalso; omega) (fun q => by omega) (fun a i f598 f658 f659 f660 f668 f669 => ((w326_50 a i f598 f668 f669).trans ((ju_c _ _ f658).trans ((ju_c _ _ f598).trans ((w296_50 a i f598).trans ((ju_c _ _ f598).trans ((ju_c _ _ f660).trans ((ju_c _ _ f659).trans ((w21_50 a i f598).trans ((ju_c _ _ f598).trans ((ju_c _ _ f598).trans rfl))))))))))) (fun i g73 g74 g75 g76 g77 g78 g79 g80 g81 g90 g100 g101 g107 => ((w326_51 i g73 g74 g75 g76 g77 g78 g79 g80 g81 g100 g107).trans ((ju_c _ _ (by decide)).trans ((ju_i _ _ g101).trans ((w296_51 i g73 g74 g75 g76 g77 g78 g79).trans ((ju_i _ _ g90).trans ((ju_c _ _ (by decide)).trans ((ju_c _ _ (by decide)).trans ((w21_51 i g73 g74 g75 g76 g77 g78 g79).trans ((ju_i _ _ g100).trans ((ju_i _ _ g107).trans rfl))))))))))))
      · have y312 : (ju (ju M296 598 101 1) 658 (v301 - 1) (v269 + 1)) 598 73 = v305 := ((ju_c _ _ (by decide)).trans ((ju_i _ _ (by decide)).trans e305))
        have y313 : (ju (ju M296 598 101 1) 658 (v301 - 1) (v269 + 1)) 598 74 = v310 := ((ju_c _ _ (by decide)).trans ((ju_i _ _ (by decide)).trans e310))
        have y315 : (ju (ju M296 598 101 1) 658 (v301 - 1) (v269 + 1)) 598 75 = v314 := ((ju_c _ _ (by decide)).trans ((ju_i _ _ (by decide)).trans e314))
        have y316 : (ju (ju M296 598 101 1) 658 (v301 - 1) (v269 + 1)) 598 79 = v311 := ((ju_c _ _ (by decide)).trans ((ju_i _ _ (by decide)).trans e311))
        have y317 : (ju (ju M296 598 101 1) 658 (v301 - 1) (v269 + 1)) 598 80 = v7 := ((ju_c _ _ (by decide)).trans ((ju_i _ _ (by decide)).trans e307))
        have y319 : (ju (ju M296 598 101 1) 658 (v301 - 1) (v269 + 1)) 598 81 = v16 := ((ju_c _ _ (by decide)).trans ((ju_i _ _ (by decide)).trans e318))
        have y321 : (ju (ju M296 598 101 1) 658 (v301 - 1) (v269 + 1)) 598 89 = v18 := ((ju_c _ _ (by decide)).trans ((ju_i _ _ (by decide)).trans e320))
        have y322 : (ju (ju M296 598 101 1) 658 (v301 - 1) (v269 + 1)) 598 90 = v269 + 1 := ((ju_c _ _ (by decide)).trans ((ju_i _ _ (by decide)).trans e304))
        have y323 : (ju (ju M296 598 101 1) 658 (v301 - 1) (v269 + 1)) 598 100 = v2 - 1 := ((ju_c _ _ (by decide)).trans ((ju_i _ _ (by decide)).trans e308))
        have y324 : (ju (ju M296 598 101 1) 658 (v301 - 1) (v269 + 1)) 598 101 = 1 := ((ju_c _ _ (by decide)).trans (ju_same _ _ _ _))
        have y325 : (ju (ju M296 598 101 1) 658 (v301 - 1) (v269 + 1)) 598 107 = v1 - 1 := ((ju_c _ _ (by decide)).trans ((ju_i _ _ (by decide)).trans e309))
        have tb326 : TK (ju (ju M296 598 101 1) 658 (v301 - 1) (v269 + 1)) = TK M296 := ((TK.o (Or.inl (by decide))).trans ((TK.o (Or.inr ⟨by decide, by decide⟩)).trans rfl))
        have x326_72 := w326_51 72 (by decide) (by decide) (by decide) (by decide) (by decide) (by decide) (by decide) (by decide) (by decide) (by decide) (by decide)
        have x326_89 := w326_51 89 (by decide) (by decide) (by decide) (by decide) (by decide) (by decide) (by decide) (by decide) (by decide) (by decide) (by decide)
        have x326_101 := w326_51 101 (by decide) (by decide) (by decide) (by decide) (by decide) (by decide) (by decide) (by decide) (by decide) (by decide) (by decide)
        have x326_88 := w326_51 88 (by decide) (by decide) (by decide) (by decide) (by decide) (by decide) (by decide) (by decide) (by decide) (by decide) (by decide)
        have x326_96 := w326_51 96 (by decide) (by decide) (by decide) (by decide) (by decide) (by decide) (by decide) (by decide) (by decide) (by decide) (by decide)
        have x326_90 := w326_51 90 (by decide) (by decide) (by decide) (by decide) (by decide) (by decide) (by decide) (by decide) (by decide) (by decide) (by decide)
        have zfz : zr f N xs (zft (M326 598 80) (M326 598 81)) := by have hz := hz; rw [show v3 = 0 by omega] at hz; exact zr.rfz (zr.bhf hz g125 (by have q := hK21.wz (by omega); omega) qs326) q0326 q1326
        refine jr.goto rfl rfl ?_
        have e391 : M326 598 72 = v6 := ((w326_51 72 (by decide) (by decide) (by decide) (by decide) (by decide) (by decide) (by decide) (by decide) (by decide) (by decide) (by decide)).trans ((ju_c _ _ (by decide)).trans ((ju_i _ _ (by decide)).trans e306)))
        have y392 : M326 598 72 = v6 := e391
        obtain ⟨v393, e393⟩ : ∃ z, M326 598 73 = z := ⟨_, rfl⟩
        have b393 : 0 ≤ v393 ∧ v393 ≤ 1600 := by rw [← e393]; exact hI_M326 598 73 (by decide)
        have y394 : M326 598 73 = v393 := e393
        obtain ⟨v395, e395⟩ : ∃ z, M326 598 74 = z := ⟨_, rfl⟩
        have b395 : 0 ≤ v395 ∧ v395 ≤ 4 := by rw [← e395]; exact hI_M326 598 74 (by decide)
        have y396 : M326 598 74 = v395 := e395
        obtain ⟨v397, e397⟩ : ∃ z, M326 598 79 = z := ⟨_, rfl⟩
        have b397 : 0 ≤ v397 ∧ v397 ≤ 255 := by rw [← e397]; exact hI_M326 598 79 (by decide)
        have y398 : M326 598 79 = v397 := e397
        obtain ⟨v399, e399⟩ : ∃ z, M326 598 80 = z := ⟨_, rfl⟩
        have b399 : 0 ≤ v399 ∧ v399 ≤ 7 := by rw [← e399]; exact hI_M326 598 80 (by decide)
        have y400 : M326 598 80 = v399 := e399
        have e401 : M326 598 89 = v18 := ((w326_51 89 (by decide) (by decide) (by decide) (by decide) (by decide) (by decide) (by decide) (by decide) (by decide) (by decide) (by decide)).trans ((ju_c _ _ (by decide)).trans ((ju_i _ _ (by decide)).trans e320)))
        have y402 : M326 598 89 = v18 := e401
        have e403 : M326 598 90 = v269 + 1 := ((w326_51 90 (by decide) (by decide) (by decide) (by decide) (by decide) (by decide) (by decide) (by decide) (by decide) (by decide) (by decide)).trans ((ju_c _ _ (by decide)).trans ((ju_i _ _ (by decide)).trans e304)))
        have y404 : M326 598 90 = v269 + 1 := e403
        obtain ⟨v405, e405⟩ : ∃ z, M 598 96 = z := ⟨_, rfl⟩
        have b405 : 0 ≤ v405 ∧ v405 ≤ 300 := by rw [← e405]; exact hI_M 598 96 (by decide)
        have e406 : M21 598 96 = v405 := ((w21_51 96 (by decide) (by decide) (by decide) (by decide) (by decide) (by decide) (by decide)).trans ((ju_i _ _ (by decide)).trans ((ju_i _ _ (by decide)).trans e405)))
        have e407 : M296 598 96 = v405 := ((w296_51 96 (by decide) (by decide) (by decide) (by decide) (by decide) (by decide) (by decide)).trans ((ju_i _ _ (by decide)).trans ((ju_c _ _ (by decide)).trans ((ju_c _ _ (by decide)).trans e406))))
        have e408 : M326 598 96 = v405 := ((w326_51 96 (by decide) (by decide) (by decide) (by decide) (by decide) (by decide) (by decide) (by decide) (by decide) (by decide) (by decide)).trans ((ju_c _ _ (by decide)).trans ((ju_i _ _ (by decide)).trans e407)))
        have y409 : M326 598 96 = v405 := e408
        obtain ⟨v410, e410⟩ : ∃ z, M326 598 100 = z := ⟨_, rfl⟩
        have b410 : 0 ≤ v410 ∧ v410 ≤ 13 := by rw [← e410]; exact hI_M326 598 100 (by decide)
        have y411 : M326 598 100 = v410 := e410
        obtain ⟨v412, e412⟩ : ∃ z, M326 598 107 = z := ⟨_, rfl⟩
        have b412 : 0 ≤ v412 ∧ v412 ≤ 16 := by rw [← e412]; exact hI_M326 598 107 (by decide)
        have y413 : M326 598 107 = v412 := e412
        obtain ⟨v414, e414⟩ : ∃ z, M326 598 75 = z := ⟨_, rfl⟩
        have b414 : 0 ≤ v414 ∧ v414 ≤ 1600 := by rw [← e414]; exact hI_M326 598 75 (by decide)
        have y415 : M326 598 75 = v414 := e414
        obtain ⟨v416, e416⟩ : ∃ z, M326 598 81 = z := ⟨_, rfl⟩
        have b416 : (-1) ≤ v416 ∧ v416 ≤ 1600 := by rw [← e416]; exact hI_M326 598 81 (by decide)
        have y417 : M326 598 81 = v416 := e416
        exact jr.vreturn rfl rfl (q _ hI_M326 hH_M326 hS_M326  (Or.inl ⟨by omega, by omega⟩) (by omega) (by omega) (by omega) hT326 (fun _ => zr.fe zfz (by omega) (by omega)) (fun q => by exfalso; omega) (fun q => by omega) (fun a i f598 f658 f659 f660 f668 f669 => ((w326_50 a i f598 f668 f669).trans ((ju_c _ _ f658).trans ((ju_c _ _ f598).trans ((w296_50 a i f598).trans ((ju_c _ _ f598).trans ((ju_c _ _ f660).trans ((ju_c _ _ f659).trans ((w21_50 a i f598).trans ((ju_c _ _ f598).trans ((ju_c _ _ f598).trans rfl))))))))))) (fun i g73 g74 g75 g76 g77 g78 g79 g80 g81 g90 g100 g101 g107 => ((w326_51 i g73 g74 g75 g76 g77 g78 g79 g80 g81 g100 g107).trans ((ju_c _ _ (by decide)).trans ((ju_i _ _ g101).trans ((w296_51 i g73 g74 g75 g76 g77 g78 g79).trans ((ju_i _ _ g90).trans ((ju_c _ _ (by decide)).trans ((ju_c _ _ (by decide)).trans ((w21_51 i g73 g74 g75 g76 g77 g78 g79).trans ((ju_i _ _ g100).trans ((ju_i _ _ g107).trans rfl))))))))))))
    · have y279 : (ju (ju (ju M21 659 v269 3) 660 v269 0) 598 90 (v269 + 1)) 598 74 = v275 := ((ju_i _ _ (by decide)).trans ((ju_c _ _ (by decide)).trans ((ju_c _ _ (by decide)).trans e275)))
      have y280 : (ju (ju (ju M21 659 v269 3) 660 v269 0) 598 90 (v269 + 1)) 598 76 = v277 := ((ju_i _ _ (by decide)).trans ((ju_c _ _ (by decide)).trans ((ju_c _ _ (by decide)).trans e277)))
      refine jr.if_eq rfl rfl (by omega) (fun _ => ?_) (fun h => absurd (by decide) h)
      have e418 : M21 598 72 = v6 := ((w21_51 72 (by decide) (by decide) (by decide) (by decide) (by decide) (by decide) (by decide)).trans ((ju_i _ _ (by decide)).trans ((ju_i _ _ (by decide)).trans e6)))
      have y419 : (ju (ju (ju M21 659 v269 3) 660 v269 0) 598 90 (v269 + 1)) 598 72 = v6 := ((ju_i _ _ (by decide)).trans ((ju_c _ _ (by decide)).trans ((ju_c _ _ (by decide)).trans e418)))
      obtain ⟨v420, e420⟩ : ∃ z, M21 598 73 = z := ⟨_, rfl⟩
      have b420 : 0 ≤ v420 ∧ v420 ≤ 1600 := by rw [← e420]; exact hI_M21 598 73 (by decide)
      have y421 : (ju (ju (ju M21 659 v269 3) 660 v269 0) 598 90 (v269 + 1)) 598 73 = v420 := ((ju_i _ _ (by decide)).trans ((ju_c _ _ (by decide)).trans ((ju_c _ _ (by decide)).trans e420)))
      have y422 : (ju (ju (ju M21 659 v269 3) 660 v269 0) 598 90 (v269 + 1)) 598 74 = v275 := ((ju_i _ _ (by decide)).trans ((ju_c _ _ (by decide)).trans ((ju_c _ _ (by decide)).trans e275)))
      obtain ⟨v423, e423⟩ : ∃ z, M21 598 79 = z := ⟨_, rfl⟩
      have b423 : 0 ≤ v423 ∧ v423 ≤ 255 := by rw [← e423]; exact hI_M21 598 79 (by decide)
      have y424 : (ju (ju (ju M21 659 v269 3) 660 v269 0) 598 90 (v269 + 1)) 598 79 = v423 := ((ju_i _ _ (by decide)).trans ((ju_c _ _ (by decide)).trans ((ju_c _ _ (by decide)).trans e423)))
      have e425 : M21 598 80 = v7 := ((w21_51 80 (by decide) (by decide) (by decide) (by decide) (by decide) (by decide) (by decide)).trans ((ju_i _ _ (by decide)).trans ((ju_i _ _ (by decide)).trans e7)))
      have y426 : (ju (ju (ju M21 659 v269 3) 660 v269 0) 598 90 (v269 + 1)) 598 80 = v7 := ((ju_i _ _ (by decide)).trans ((ju_c _ _ (by decide)).trans ((ju_c _ _ (by decide)).trans e425)))
      have e427 : M21 598 89 = v18 := ((w21_51 89 (by decide) (by decide) (by decide) (by decide) (by decide) (by decide) (by decide)).trans ((ju_i _ _ (by decide)).trans ((ju_i _ _ (by decide)).trans e18)))
      have y428 : (ju (ju (ju M21 659 v269 3) 660 v269 0) 598 90 (v269 + 1)) 598 89 = v18 := ((ju_i _ _ (by decide)).trans ((ju_c _ _ (by decide)).trans ((ju_c _ _ (by decide)).trans e427)))
      have y429 : (ju (ju (ju M21 659 v269 3) 660 v269 0) 598 90 (v269 + 1)) 598 90 = v269 + 1 := (ju_same _ _ _ _)
      obtain ⟨v430, e430⟩ : ∃ z, M 598 96 = z := ⟨_, rfl⟩
      have b430 : 0 ≤ v430 ∧ v430 ≤ 300 := by rw [← e430]; exact hI_M 598 96 (by decide)
      have e431 : M21 598 96 = v430 := ((w21_51 96 (by decide) (by decide) (by decide) (by decide) (by decide) (by decide) (by decide)).trans ((ju_i _ _ (by decide)).trans ((ju_i _ _ (by decide)).trans e430)))
      have y432 : (ju (ju (ju M21 659 v269 3) 660 v269 0) 598 90 (v269 + 1)) 598 96 = v430 := ((ju_i _ _ (by decide)).trans ((ju_c _ _ (by decide)).trans ((ju_c _ _ (by decide)).trans e431)))
      have y433 : (ju (ju (ju M21 659 v269 3) 660 v269 0) 598 90 (v269 + 1)) 598 100 = v2 - 1 := ((ju_i _ _ (by decide)).trans ((ju_c _ _ (by decide)).trans ((ju_c _ _ (by decide)).trans e271)))
      have y434 : (ju (ju (ju M21 659 v269 3) 660 v269 0) 598 90 (v269 + 1)) 598 107 = v1 - 1 := ((ju_i _ _ (by decide)).trans ((ju_c _ _ (by decide)).trans ((ju_c _ _ (by decide)).trans e273)))
      have y435 : TK (ju (ju (ju M21 659 v269 3) 660 v269 0) 598 90 (v269 + 1)) = TK M21 := ((TK.o (Or.inr ⟨by decide, by decide⟩)).trans ((TK.o (Or.inl (by decide))).trans ((TK.o (Or.inl (by decide))).trans rfl)))
      obtain ⟨v436, e436⟩ : ∃ z, M21 598 75 = z := ⟨_, rfl⟩
      have b436 : 0 ≤ v436 ∧ v436 ≤ 1600 := by rw [← e436]; exact hI_M21 598 75 (by decide)
      have y437 : (ju (ju (ju M21 659 v269 3) 660 v269 0) 598 90 (v269 + 1)) 598 75 = v436 := ((ju_i _ _ (by decide)).trans ((ju_c _ _ (by decide)).trans ((ju_c _ _ (by decide)).trans e436)))
      have y438 : (ju (ju (ju M21 659 v269 3) 660 v269 0) 598 90 (v269 + 1)) 598 80 = v7 := ((ju_i _ _ (by decide)).trans ((ju_c _ _ (by decide)).trans ((ju_c _ _ (by decide)).trans e425)))
      have e439 : M21 598 81 = v16 := ((w21_51 81 (by decide) (by decide) (by decide) (by decide) (by decide) (by decide) (by decide)).trans ((ju_i _ _ (by decide)).trans ((ju_i _ _ (by decide)).trans e16)))
      have y440 : (ju (ju (ju M21 659 v269 3) 660 v269 0) 598 90 (v269 + 1)) 598 81 = v16 := ((ju_i _ _ (by decide)).trans ((ju_c _ _ (by decide)).trans ((ju_c _ _ (by decide)).trans e439)))
      have y441 : (ju (ju (ju M21 659 v269 3) 660 v269 0) 598 90 (v269 + 1)) 598 89 = v18 := ((ju_i _ _ (by decide)).trans ((ju_c _ _ (by decide)).trans ((ju_c _ _ (by decide)).trans e427)))
      have y442 : (ju (ju (ju M21 659 v269 3) 660 v269 0) 598 90 (v269 + 1)) 598 100 = v2 - 1 := ((ju_i _ _ (by decide)).trans ((ju_c _ _ (by decide)).trans ((ju_c _ _ (by decide)).trans e271)))
      obtain ⟨v443, e443⟩ : ∃ z, M 598 101 = z := ⟨_, rfl⟩
      have b443 : 0 ≤ v443 ∧ v443 ≤ 1 := by rw [← e443]; exact hI_M 598 101 (by decide)
      have e444 : M21 598 101 = v443 := ((w21_51 101 (by decide) (by decide) (by decide) (by decide) (by decide) (by decide) (by decide)).trans ((ju_i _ _ (by decide)).trans ((ju_i _ _ (by decide)).trans e443)))
      have y445 : (ju (ju (ju M21 659 v269 3) 660 v269 0) 598 90 (v269 + 1)) 598 101 = v443 := ((ju_i _ _ (by decide)).trans ((ju_c _ _ (by decide)).trans ((ju_c _ _ (by decide)).trans e444)))
      have y446 : (ju (ju (ju M21 659 v269 3) 660 v269 0) 598 90 (v269 + 1)) 598 107 = v1 - 1 := ((ju_i _ _ (by decide)).trans ((ju_c _ _ (by decide)).trans ((ju_c _ _ (by decide)).trans e273)))
      exact jr.vreturn rfl rfl (q _ (RI.u (RI.u (RI.u hI_M21 (a := 659) (i := v269) (by rw [xri_row rfl rfl]; show (0 : Int) ≤ _ ∧ _ ≤ (1000 : Int); omega)) (a := 660) (i := v269) (by rw [xri_row rfl rfl]; show (-9223372036854775808 : Int) ≤ _ ∧ _ ≤ (9223372036854775807 : Int); omega)) (a := 598) (i := 90) (show (0 : Int) ≤ _ ∧ _ ≤ (2200 : Int) from by omega)) (RH.o (RH.o (RH.o hH_M21 (by decide) (by decide) (by decide)) (by decide) (by decide) (by decide)) (by decide) (by decide) (by decide)) (RF.o (RF.o (RF.o hS_M21 (by decide) (by decide)) (by decide) (by decide)) (by decide) (by decide))  (Or.inr ⟨by omega, Or.inr ⟨by omega, ⟨by omega, XS.adj hX (k' := 0) (z' := 1) (by omega) (by omega) (by omega), by omega, by omega, by omega, by omega, hB, hA, by omega⟩, by omega, by rw [ju_same, show v269 + 1 - 1 = v269 by omega, ju_c _ _ (by decide), ju_c _ _ (by decide), ju_same]⟩⟩) (by omega) (by omega) (by omega) (TXr.o (TXr.k (TXr.k hT21 (by decide) (by decide) (by decide) (by decide)) (by decide) (by decide) (by decide) (by decide)) (by decide)) (fun q => by exfalso; omega) (fun _ => ⟨_, (TKr.oo (TKr.cc (TKr.cc hK21 (by decide) (by decide) (by decide) (by decide)) (by decide) (by decide) (by decide) (by decide)) (by decide)), Or.inr ⟨by omega, (by have hb0 : blr (ju M 598 107 (v1 - 1)) = [] := blr_z ((ju_same _ _ _ _).trans (by omega)); first | (have hz := hz; rw [show v3 = 0 by omega] at hz; exact (zr.eqx (zr.bl0 hz g125 (fun z => by have q := hK21.wz (by omega); omega)) rfl rfl (by omega) (by omega) (by omega) (by rw [hb0]))) | (have hz := hz; rw [show v3 = 1 by omega] at hz; exact (zr.eqx (zr.bl1 hz g125) rfl rfl (by omega) (by omega) (by omega) (by rw [hb0]))))⟩⟩) (fun q => by omega) (fun a i f598 f658 f659 f660 f668 f669 => ((ju_c _ _ f598).trans ((ju_c _ _ f660).trans ((ju_c _ _ f659).trans ((w21_50 a i f598).trans ((ju_c _ _ f598).trans ((ju_c _ _ f598).trans rfl))))))) (fun i g73 g74 g75 g76 g77 g78 g79 g80 g81 g90 g100 g101 g107 => ((ju_i _ _ g90).trans ((ju_c _ _ (by decide)).trans ((ju_c _ _ (by decide)).trans ((w21_51 i g73 g74 g75 g76 g77 g78 g79).trans ((ju_i _ _ g100).trans ((ju_i _ _ g107).trans rfl))))))))
theorem zhn_t {f : Int → Int} {N t : Int} {nm : List Int} {j : Nat} (h : j < nm.length) (e : znm f N (nm.getD j 0) = znm f N t) : zhn f N nm t = true := by
  unfold zhn
  rw [List.any_eq_true]
  refine ⟨nm.getD j 0, ?_, decide_eq_true e⟩
  rw [List.getD_eq_getElem?_getD, List.getElem?_eq_getElem h]
  exact List.getElem_mem h
theorem zhn_f {f : Int → Int} {N t : Int} {nm : List Int} (h : ∀ j : Nat, j < nm.length → znm f N (nm.getD j 0) ≠ znm f N t) : zhn f N nm t = false := by
  unfold zhn
  rw [List.any_eq_false]
  intro x hx
  obtain ⟨j, hj, e⟩ := List.getElem_of_mem hx
  have q := h j hj
  rw [List.getD_eq_getElem?_getD, List.getElem?_eq_getElem hj] at q
  rw [decide_eq_true_iff]
  rw [← e]
  exact q
theorem NMr.nf {f : Int → Int} {N t v : Int} {M : jm} {nm : List Int} (h : NMr f N M nm) (hv : v = znm f N t) (hn : ∀ j : Int, 0 ≤ j → j < M 598 88 → M 656 j ≠ v) : zhn f N nm t = false := zhn_f (fun j hj q => by
  have h1 := h.1
  have h2 := h.2 (j : Int) (by omega) (by omega)
  exact hn (j : Int) (by omega) (by omega) (by rw [h2, hv]; exact q))
theorem NMr.nt {f : Int → Int} {N t v : Int} {M : jm} {nm : List Int} (h : NMr f N M nm) (hv : v = znm f N t) (hn : ∃ j : Int, 0 ≤ j ∧ j < M 598 88 ∧ M 656 j = v) : zhn f N nm t = true := by
  obtain ⟨j, j0, j1, j2⟩ := hn
  have h1 := h.1
  have h2 := h.2 j j0 (by omega)
  exact zhn_t (j := j.toNat) (by omega) (by rw [← h2, j2, hv])
theorem NMr.add {f : Int → Int} {N t : Int} {M : jm} {nm : List Int} {c p q r : Int} (h : NMr f N M nm) (e : M 598 88 = c) (hp : p = znm f N t) : NMr f N (ju (ju (ju (ju M 656 c p) 657 c q) 658 c r) 598 88 (c + 1)) (nm ++ [t]) := by
  have hl := h.1
  refine ⟨?_, fun k h0 h1 => ?_⟩
  · rw [ju_same, List.length_append]
    show (((nm.length + 1 : Nat)) : Int) = c + 1
    omega
  · rw [List.length_append] at h1
    have h2 : k < (nm.length : Int) + 1 := h1
    rw [getD_app]
    by_cases q1 : k = c
    · rw [if_neg (by omega), if_pos (by omega), q1, ju_c _ _ (by decide), ju_c _ _ (by decide), ju_c _ _ (by decide), ju_same, hp]
    · rw [if_pos (by omega), ju_c _ _ (by decide), ju_c _ _ (by decide), ju_c _ _ (by decide), ju_i _ _ q1]
      exact h.2 k h0 (by omega)
/-- what stands between the deeds of a chain -/
noncomputable def ZCH (f : Int → Int) (N : Int) (xs : ZS) (M : jm) (nm : List Int) : Prop := ∃ (t : Int) (ak : List Int), TKr f N t M ∧ AKr f N M ak ∧ ((1 ≤ M 598 107 ∧ zr f N xs (1, t, M 598 89, M 598 100, 0, M 598 101, blr M, nm, ak)) ∨ (M 598 107 = 0 ∧ zr f N xs (0, t, M 598 89, M 598 100, 0, M 598 101, [], nm, ak)))
noncomputable def ZCHQ (f : Int → Int) (N : Int) (xs : ZS) (M : jm) (nm : List Int) : Prop := M 598 80 = 0 → ZCH f N xs M nm
/-- whether the name stood before -/
noncomputable def CHQ (M0 M : jm) (t k : Int) : Prop := (M 598 80 = 0 ∧ M 598 81 = M0 598 81 ∧ ∀ j : Int, 0 ≤ j → j < k → M 656 j ≠ M 598 77) ∨ (M 598 80 = 4 ∧ M 598 81 = t ∧ EXJ M k)
set_option maxHeartbeats 8000000 in
theorem r_chain_L148_z {A : Nat → Option (Nat × (Nat → Int32))} {Q : Option Value → jm → Prop} {f : Int → Int} {N : Int} {xs : ZS} {t zd zb : Int} {zs : List (Int × Int × Int × Int)} {nm ak : List Int} {dd : Int} {M0 : jm} (q : ∀ (M' : jm), RI M' → RH M' → RF M' → (BT M' ∨ (DS M' 1 ∧ M' 598 107 = 0 ∧ TK M' < TK M0 ∧ 1 ≤ M' 598 88 ∧ 1 ≤ M' 598 90 ∧ M' 659 (M' 598 90 - 1) = 3)) → TK M' ≤ TK M0 → M' 598 73 ≤ M' 598 72 → (M' 598 80 ≠ 0 ∨ TK M' < TK M0) → TXr f N M' → ZFQ f N xs M' → ZCPQ f N xs M' → K8Q M0 M' → (∀ (a : Nat) (i : Int), a ≠ 598 → a ≠ 659 → a ≠ 660 → a ≠ 661 → a ≠ 662 → a ≠ 663 → a ≠ 664 → a ≠ 665 → a ≠ 666 → a ≠ 667 → a ≠ 668 → a ≠ 669 → a ≠ 656 → a ≠ 657 → a ≠ 658 → M' a i = M0 a i) → (∀ (i : Int), i ≠ 73 → i ≠ 74 → i ≠ 75 → i ≠ 76 → i ≠ 77 → i ≠ 78 → i ≠ 79 → i ≠ 80 → i ≠ 81 → i ≠ 89 → i ≠ 90 → i ≠ 96 → i ≠ 100 → i ≠ 102 → i ≠ 107 → i ≠ 88 → i ≠ 101 → M' 598 i = M0 598 i) → Q none M') : ∀ (nM : Nat) (M : jm) , RI M → RH M → RF M → (∀ (a : Nat) (i : Int), a ≠ 598 → a ≠ 659 → a ≠ 660 → a ≠ 661 → a ≠ 662 → a ≠ 663 → a ≠ 664 → a ≠ 665 → a ≠ 666 → a ≠ 667 → a ≠ 668 → a ≠ 669 → a ≠ 656 → a ≠ 657 → a ≠ 658 → M a i = M0 a i) → (∀ (i : Int), i ≠ 73 → i ≠ 74 → i ≠ 75 → i ≠ 76 → i ≠ 77 → i ≠ 78 → i ≠ 79 → i ≠ 80 → i ≠ 81 → i ≠ 89 → i ≠ 90 → i ≠ 96 → i ≠ 100 → i ≠ 102 → i ≠ 107 → i ≠ 88 → i ≠ 101 → M 598 i = M0 598 i) → (BT M ∨ (1 ≤ M 598 107 ∧ DS M 0) ∨ (M 598 107 = 0 ∧ DS M 1 ∧ 1 ≤ M 598 90 ∧ M 659 (M 598 90 - 1) = 3)) → M 598 73 ≤ M 598 72 → TK M ≤ TK M0 → (M 598 80 ≠ 0 ∨ TK M < TK M0) → 1 ≤ M 598 88 → TXr f N M → ZFQ f N xs M → NMr f N M (nm ++ [znx f N t]) → ZCHQ f N xs M (nm ++ [znx f N t]) → K8Q M0 M → TK M + 1 - min 1 (M 598 80) ≤ nM → jr A 8 xm_369 148 [(0, .ref (598))] [] M Q := by
  intro nM
  induction nM using Nat.strongRecOn with
  | ind nM ih =>
    intro M  hI_M hH_M hS_M hF_M hG_M  hy0 hy1 hy2 hy3 hy4 hy5 hy6 hy7 hy8 hy9 hm
    have hT := hy5
    have hNM := hy7
    rcases hy0 with hz | hz | hz
    · obtain ⟨za, zc⟩ := id hz
      refine jr.aload_n rfl rfl ?_
      obtain ⟨v1, e1⟩ : ∃ z, M 598 80 = z := ⟨_, rfl⟩
      have b1 : 0 ≤ v1 ∧ v1 ≤ 7 := by rw [← e1]; exact hI_M 598 80 (by decide)
      refine jr_v rfl rfl (Or.inl rfl) rfl rfl (by decide) rfl ⟨rfl, Nat.le_of_ble_eq_true rfl, Nat.le_of_ble_eq_true rfl⟩ rfl (jc.deep (c_good hI_M  (fun t149_0 => ?_) (fun f149_0 => ?_)) (by decide))
      · exfalso
        omega
      · refine jr.if_eq rfl rfl (by omega) (fun _ => ?_) (fun h => absurd (by decide) h)
        obtain ⟨v2, e2⟩ : ∃ z, M 598 75 = z := ⟨_, rfl⟩
        have b2 : 0 ≤ v2 ∧ v2 ≤ 1600 := by rw [← e2]; exact hI_M 598 75 (by decide)
        have y3 : M 598 75 = v2 := e2
        have y4 : M 598 80 = v1 := e1
        obtain ⟨v5, e5⟩ : ∃ z, M 598 81 = z := ⟨_, rfl⟩
        have b5 : (-1) ≤ v5 ∧ v5 ≤ 1600 := by rw [← e5]; exact hI_M 598 81 (by decide)
        have y6 : M 598 81 = v5 := e5
        obtain ⟨v7, e7⟩ : ∃ z, M 598 88 = z := ⟨_, rfl⟩
        have b7 : 0 ≤ v7 ∧ v7 ≤ 16 := by rw [← e7]; exact hI_M 598 88 (by decide)
        have y8 : M 598 88 = v7 := e7
        obtain ⟨v9, e9⟩ : ∃ z, M 598 89 = z := ⟨_, rfl⟩
        have b9 : 0 ≤ v9 ∧ v9 ≤ 301 := by rw [← e9]; exact hI_M 598 89 (by decide)
        have y10 : M 598 89 = v9 := e9
        obtain ⟨v11, e11⟩ : ∃ z, M 598 100 = z := ⟨_, rfl⟩
        have b11 : 0 ≤ v11 ∧ v11 ≤ 13 := by rw [← e11]; exact hI_M 598 100 (by decide)
        have y12 : M 598 100 = v11 := e11
        obtain ⟨v13, e13⟩ : ∃ z, M 598 101 = z := ⟨_, rfl⟩
        have b13 : 0 ≤ v13 ∧ v13 ≤ 1 := by rw [← e13]; exact hI_M 598 101 (by decide)
        have y14 : M 598 101 = v13 := e13
        obtain ⟨v15, e15⟩ : ∃ z, M 598 107 = z := ⟨_, rfl⟩
        have b15 : 0 ≤ v15 ∧ v15 ≤ 16 := by rw [← e15]; exact hI_M 598 107 (by decide)
        have y16 : M 598 107 = v15 := e15
        exact jr.vreturn rfl rfl (q _ hI_M hH_M hS_M  (Or.inl hz) (by omega) (by omega) (by omega) hy5 hy6 (fun q => by exfalso; omega) hy9 (fun a i f598 f659 f660 f661 f662 f663 f664 f665 f666 f667 f668 f669 f656 f657 f658 => (hF_M a i f598 f659 f660 f661 f662 f663 f664 f665 f666 f667 f668 f669 f656 f657 f658)) (fun i g73 g74 g75 g76 g77 g78 g79 g80 g81 g89 g90 g96 g100 g102 g107 g88 g101 => (hG_M i g73 g74 g75 g76 g77 g78 g79 g80 g81 g89 g90 g96 g100 g102 g107 g88 g101)))
    · obtain ⟨zb1, ⟨ds1, ds2, ds3, ds4, ds5, ds6, ds7, ds8, ds9⟩⟩ := id hz
      have b74 : (0 : Int) ≤ M 598 74 ∧ M 598 74 ≤ 4 := hI_M 598 74 (by decide)
      have b73 : (0 : Int) ≤ M 598 73 ∧ M 598 73 ≤ 1600 := hI_M 598 73 (by decide)
      have tg := TK.ge (M := M) (by omega) (by omega)
      obtain ⟨vb, hvb⟩ : ∃ z, M 598 107 = z := ⟨_, rfl⟩
      have bvb : (0 : Int) ≤ vb ∧ vb ≤ 16 := by rw [← hvb]; exact hI_M 598 107 (by decide)
      obtain ⟨tc, akc, hKc, hAKc, hzc⟩ := hy8 ds1
      have kkc := hKc.kz
      have h81 := hy9 ds1
      have hzc2 := (hzc.resolve_right (fun u => by omega)).2
      clear hzc
      refine jr.aload_n rfl rfl ?_
      obtain ⟨v17, e17⟩ : ∃ z, M 598 80 = z := ⟨_, rfl⟩
      have b17 : 0 ≤ v17 ∧ v17 ≤ 7 := by rw [← e17]; exact hI_M 598 80 (by decide)
      refine jr_v rfl rfl (Or.inl rfl) rfl rfl (by decide) rfl ⟨rfl, Nat.le_of_ble_eq_true rfl, Nat.le_of_ble_eq_true rfl⟩ rfl (jc.deep (c_good hI_M  (fun t149_0 => ?_) (fun f149_0 => ?_)) (by decide))
      · refine jr.if_eq rfl rfl (by omega) (fun h => absurd h (by decide)) (fun _ => ?_)
        refine jr.aload_n rfl rfl ?_
        refine jr.getf (i := 107) (x := vb) (v := .int (Int32.ofInt (vb))) rfl rfl (by decide) rfl (by decide) rfl rfl hvb rfl ?_
        refine jr.if_le rfl rfl (by omega) (fun h159 => ?_) (fun h159 => ?_)
        · exact absurd h159 (by omega)
        · refine jr.aload_n rfl rfl ?_
          refine jr.bipush rfl (by decide) ?_
          refine jr_v rfl rfl (Or.inl rfl) rfl rfl (by decide) rfl ⟨rfl, Nat.le_of_ble_eq_true rfl, Nat.le_of_ble_eq_true rfl⟩ rfl (jc.deep (c_isSign hI_M (by omega) (fun t165_0 t165_1 => ?_) (fun f165_0 => ?_)) (by decide))
          · refine jr.if_eq rfl rfl (by omega) (fun h => absurd h (by decide)) (fun _ => ?_)
            refine jr.aload_n rfl rfl ?_
            obtain ⟨v19, e19⟩ : ∃ z, M 598 88 = z := ⟨_, rfl⟩
            have b19 : 0 ≤ v19 ∧ v19 ≤ 16 := by rw [← e19]; exact hI_M 598 88 (by decide)
            obtain ⟨v20, e20⟩ : ∃ z, M 598 74 = z := ⟨_, rfl⟩
            have b20 : 0 ≤ v20 ∧ v20 ≤ 4 := by rw [← e20]; exact hI_M 598 74 (by decide)
            obtain ⟨v21, e21⟩ : ∃ z, M 598 79 = z := ⟨_, rfl⟩
            have b21 : 0 ≤ v21 ∧ v21 ≤ 255 := by rw [← e21]; exact hI_M 598 79 (by decide)
            refine jr_v rfl rfl (Or.inl rfl) rfl rfl (by decide) rfl ⟨rfl, Nat.le_of_ble_eq_true rfl, Nat.le_of_ble_eq_true rfl⟩ rfl (jc.deep (r_closeBlock_z hI_M hH_M hS_M   hz.2 (by rw [hvb]; omega) (by rw [e19]; omega) (by rw [e20, e21]; omega) hKc hzc2 (fun M18 hI_M18 hH_M18 hS_M18  w18_0 w18_1 w18_2 w18_3 w18_4 w18_5 w18_6 w18_7 w18_8 w18_9 => ?_)) (by decide))
            refine jr.goto rfl rfl ?_
            obtain ⟨v22, e22⟩ : ∃ z, M18 598 73 = z := ⟨_, rfl⟩
            have b22 : 0 ≤ v22 ∧ v22 ≤ 1600 := by rw [← e22]; exact hI_M18 598 73 (by decide)
            obtain ⟨v23, e23⟩ : ∃ z, M 598 72 = z := ⟨_, rfl⟩
            have b23 : 0 ≤ v23 ∧ v23 ≤ 1600 := by rw [← e23]; exact hI_M 598 72 (by decide)
            have e24 : M18 598 72 = v23 := ((w18_9 72 (by decide) (by decide) (by decide) (by decide) (by decide) (by decide) (by decide) (by decide) (by decide) (by decide) (by decide) (by decide) (by decide)).trans e23)
            obtain ⟨v25, e25⟩ : ∃ z, M18 598 80 = z := ⟨_, rfl⟩
            have b25 : 0 ≤ v25 ∧ v25 ≤ 7 := by rw [← e25]; exact hI_M18 598 80 (by decide)
            have y26 : M18 598 80 = v25 := e25
            have e27 : M18 598 88 = v19 := ((w18_9 88 (by decide) (by decide) (by decide) (by decide) (by decide) (by decide) (by decide) (by decide) (by decide) (by decide) (by decide) (by decide) (by decide)).trans e19)
            obtain ⟨v28, e28⟩ : ∃ z, M18 598 75 = z := ⟨_, rfl⟩
            have b28 : 0 ≤ v28 ∧ v28 ≤ 1600 := by rw [← e28]; exact hI_M18 598 75 (by decide)
            have y29 : M18 598 75 = v28 := e28
            have y30 : M18 598 80 = v25 := e25
            obtain ⟨v31, e31⟩ : ∃ z, M18 598 81 = z := ⟨_, rfl⟩
            have b31 : (-1) ≤ v31 ∧ v31 ≤ 1600 := by rw [← e31]; exact hI_M18 598 81 (by decide)
            have y32 : M18 598 81 = v31 := e31
            obtain ⟨v33, e33⟩ : ∃ z, M 598 89 = z := ⟨_, rfl⟩
            have b33 : 0 ≤ v33 ∧ v33 ≤ 301 := by rw [← e33]; exact hI_M 598 89 (by decide)
            have e34 : M18 598 89 = v33 := ((w18_9 89 (by decide) (by decide) (by decide) (by decide) (by decide) (by decide) (by decide) (by decide) (by decide) (by decide) (by decide) (by decide) (by decide)).trans e33)
            have y35 : M18 598 89 = v33 := e34
            obtain ⟨v36, e36⟩ : ∃ z, M 598 96 = z := ⟨_, rfl⟩
            have b36 : 0 ≤ v36 ∧ v36 ≤ 300 := by rw [← e36]; exact hI_M 598 96 (by decide)
            have e37 : M18 598 96 = v36 := ((w18_9 96 (by decide) (by decide) (by decide) (by decide) (by decide) (by decide) (by decide) (by decide) (by decide) (by decide) (by decide) (by decide) (by decide)).trans e36)
            have y38 : M18 598 96 = v36 := e37
            obtain ⟨v39, e39⟩ : ∃ z, M18 598 100 = z := ⟨_, rfl⟩
            have b39 : 0 ≤ v39 ∧ v39 ≤ 13 := by rw [← e39]; exact hI_M18 598 100 (by decide)
            have y40 : M18 598 100 = v39 := e39
            obtain ⟨v41, e41⟩ : ∃ z, M18 598 101 = z := ⟨_, rfl⟩
            have b41 : 0 ≤ v41 ∧ v41 ≤ 1 := by rw [← e41]; exact hI_M18 598 101 (by decide)
            have y42 : M18 598 101 = v41 := e41
            obtain ⟨v43, e43⟩ : ∃ z, M18 598 107 = z := ⟨_, rfl⟩
            have b43 : 0 ≤ v43 ∧ v43 ≤ 16 := by rw [← e43]; exact hI_M18 598 107 (by decide)
            have y44 : M18 598 107 = v43 := e43
            have y45 : M18 598 75 = v28 := e28
            have y46 : M18 598 80 = v25 := e25
            have y47 : M18 598 81 = v31 := e31
            have y48 : M18 598 89 = v33 := e34
            have y49 : M18 598 96 = v36 := e37
            have y50 : M18 598 100 = v39 := e39
            have y51 : M18 598 101 = v41 := e41
            have y52 : M18 598 107 = v43 := e43
            have y53 : M18 598 75 = v28 := e28
            have y54 : M18 598 80 = v25 := e25
            have y55 : M18 598 81 = v31 := e31
            have y56 : M18 598 89 = v33 := e34
            have y57 : M18 598 96 = v36 := e37
            have y58 : M18 598 100 = v39 := e39
            have y59 : M18 598 101 = v41 := e41
            have y60 : M18 598 107 = v43 := e43
            have y61 : M18 598 75 = v28 := e28
            have y62 : M18 598 80 = v25 := e25
            have y63 : M18 598 81 = v31 := e31
            have y64 : M18 598 89 = v33 := e34
            have y65 : M18 598 96 = v36 := e37
            have y66 : M18 598 100 = v39 := e39
            have y67 : M18 598 101 = v41 := e41
            have y68 : M18 598 107 = v43 := e43
            have y69 : M18 598 75 = v28 := e28
            have y70 : M18 598 80 = v25 := e25
            have y71 : M18 598 81 = v31 := e31
            have y72 : M18 598 89 = v33 := e34
            have y73 : M18 598 96 = v36 := e37
            have y74 : M18 598 100 = v39 := e39
            have y75 : M18 598 101 = v41 := e41
            have y76 : M18 598 107 = v43 := e43
            refine jr.pick [0] rfl rfl ?_
            have y77 : M18 598 80 = v25 := e25
            exact ih (nM - 1) (by omega) M18  hI_M18 hH_M18 hS_M18  (fun a i f598 f659 f660 f661 f662 f663 f664 f665 f666 f667 f668 f669 f656 f657 f658 => ((w18_8 a i f598 f658 f659 f660 f668 f669).trans (hF_M a i f598 f659 f660 f661 f662 f663 f664 f665 f666 f667 f668 f669 f656 f657 f658))) (fun i g73 g74 g75 g76 g77 g78 g79 g80 g81 g89 g90 g96 g100 g102 g107 g88 g101 => ((w18_9 i g73 g74 g75 g76 g77 g78 g79 g80 g81 g90 g100 g101 g107).trans (hG_M i g73 g74 g75 g76 g77 g78 g79 g80 g81 g89 g90 g96 g100 g102 g107 g88 g101)))  (by rcases w18_0 with z | ⟨z, z1 | z1⟩; (exact Or.inl z); (exact Or.inr (Or.inl z1)); (exact Or.inr (Or.inr z1))) (by rw [e22, e24] <;> omega) (by omega) (by omega) (by rw [e27] <;> omega) w18_4 w18_5 (NMr.fr hNM (fun i => w18_8 656 i (by decide) (by decide) (by decide) (by decide) (by decide) (by decide)) (w18_9 88 (by decide) (by decide) (by decide) (by decide) (by decide) (by decide) (by decide) (by decide) (by decide) (by decide) (by decide) (by decide) (by decide))) (fun q => by obtain ⟨t2, a1, a2⟩ := w18_6 q; exact ⟨t2, akc, a1, (AKr.fr hAKc (fun i => w18_8 661 i (by decide) (by decide) (by decide) (by decide) (by decide) (by decide)) (fun i => w18_8 662 i (by decide) (by decide) (by decide) (by decide) (by decide) (by decide)) (w18_9 96 (by decide) (by decide) (by decide) (by decide) (by decide) (by decide) (by decide) (by decide) (by decide) (by decide) (by decide) (by decide) (by decide))), a2⟩) (fun q => (w18_7 q).trans h81) (by omega)
          · refine jr.if_eq rfl rfl (by omega) (fun _ => ?_) (fun h => absurd (by decide) h)
            refine jr.aload_n rfl rfl ?_
            obtain ⟨v79, e79⟩ : ∃ z, M 598 88 = z := ⟨_, rfl⟩
            have b79 : 0 ≤ v79 ∧ v79 ≤ 16 := by rw [← e79]; exact hI_M 598 88 (by decide)
            obtain ⟨v80, e80⟩ : ∃ z, M 598 74 = z := ⟨_, rfl⟩
            have b80 : 0 ≤ v80 ∧ v80 ≤ 4 := by rw [← e80]; exact hI_M 598 74 (by decide)
            obtain ⟨v81, e81⟩ : ∃ z, M 598 79 = z := ⟨_, rfl⟩
            have b81 : 0 ≤ v81 ∧ v81 ≤ 255 := by rw [← e81]; exact hI_M 598 79 (by decide)
            refine jr_v rfl rfl (Or.inl rfl) rfl rfl (by decide) rfl ⟨rfl, Nat.le_of_ble_eq_true rfl, Nat.le_of_ble_eq_true rfl⟩ rfl (jc.deep (r_deed_z hI_M hH_M hS_M   hz.2 (by rw [hvb]; omega) (by rw [e79]; omega) hKc hzc2 hAKc (by rw [e80, e81]; omega) (fun M78 hI_M78 hH_M78 hS_M78  w78_0 w78_1 w78_2 w78_3 w78_4 w78_5 w78_6 w78_7 w78_8 w78_9 w78_10 => ?_)) (by decide))
            refine jr.goto rfl rfl ?_
            obtain ⟨v82, e82⟩ : ∃ z, M78 598 73 = z := ⟨_, rfl⟩
            have b82 : 0 ≤ v82 ∧ v82 ≤ 1600 := by rw [← e82]; exact hI_M78 598 73 (by decide)
            obtain ⟨v83, e83⟩ : ∃ z, M 598 72 = z := ⟨_, rfl⟩
            have b83 : 0 ≤ v83 ∧ v83 ≤ 1600 := by rw [← e83]; exact hI_M 598 72 (by decide)
            have e84 : M78 598 72 = v83 := ((w78_10 72 (by decide) (by decide) (by decide) (by decide) (by decide) (by decide) (by decide) (by decide) (by decide) (by decide) (by decide) (by decide) (by decide) (by decide) (by decide)).trans e83)
            obtain ⟨v85, e85⟩ : ∃ z, M78 598 80 = z := ⟨_, rfl⟩
            have b85 : 0 ≤ v85 ∧ v85 ≤ 7 := by rw [← e85]; exact hI_M78 598 80 (by decide)
            have y86 : M78 598 80 = v85 := e85
            have e87 : M78 598 88 = v79 := ((w78_10 88 (by decide) (by decide) (by decide) (by decide) (by decide) (by decide) (by decide) (by decide) (by decide) (by decide) (by decide) (by decide) (by decide) (by decide) (by decide)).trans e79)
            obtain ⟨v88, e88⟩ : ∃ z, M78 598 75 = z := ⟨_, rfl⟩
            have b88 : 0 ≤ v88 ∧ v88 ≤ 1600 := by rw [← e88]; exact hI_M78 598 75 (by decide)
            have y89 : M78 598 75 = v88 := e88
            have y90 : M78 598 80 = v85 := e85
            obtain ⟨v91, e91⟩ : ∃ z, M78 598 81 = z := ⟨_, rfl⟩
            have b91 : (-1) ≤ v91 ∧ v91 ≤ 1600 := by rw [← e91]; exact hI_M78 598 81 (by decide)
            have y92 : M78 598 81 = v91 := e91
            obtain ⟨v93, e93⟩ : ∃ z, M78 598 89 = z := ⟨_, rfl⟩
            have b93 : 0 ≤ v93 ∧ v93 ≤ 301 := by rw [← e93]; exact hI_M78 598 89 (by decide)
            have y94 : M78 598 89 = v93 := e93
            obtain ⟨v95, e95⟩ : ∃ z, M78 598 96 = z := ⟨_, rfl⟩
            have b95 : 0 ≤ v95 ∧ v95 ≤ 300 := by rw [← e95]; exact hI_M78 598 96 (by decide)
            have y96 : M78 598 96 = v95 := e95
            obtain ⟨v97, e97⟩ : ∃ z, M78 598 100 = z := ⟨_, rfl⟩
            have b97 : 0 ≤ v97 ∧ v97 ≤ 13 := by rw [← e97]; exact hI_M78 598 100 (by decide)
            have y98 : M78 598 100 = v97 := e97
            obtain ⟨v99, e99⟩ : ∃ z, M 598 101 = z := ⟨_, rfl⟩
            have b99 : 0 ≤ v99 ∧ v99 ≤ 1 := by rw [← e99]; exact hI_M 598 101 (by decide)
            have e100 : M78 598 101 = v99 := ((w78_10 101 (by decide) (by decide) (by decide) (by decide) (by decide) (by decide) (by decide) (by decide) (by decide) (by decide) (by decide) (by decide) (by decide) (by decide) (by decide)).trans e99)
            have y101 : M78 598 101 = v99 := e100
            obtain ⟨v102, e102⟩ : ∃ z, M78 598 107 = z := ⟨_, rfl⟩
            have b102 : 0 ≤ v102 ∧ v102 ≤ 16 := by rw [← e102]; exact hI_M78 598 107 (by decide)
            have y103 : M78 598 107 = v102 := e102
            have y104 : M78 598 75 = v88 := e88
            have y105 : M78 598 80 = v85 := e85
            have y106 : M78 598 81 = v91 := e91
            have y107 : M78 598 89 = v93 := e93
            have y108 : M78 598 96 = v95 := e95
            have y109 : M78 598 100 = v97 := e97
            have y110 : M78 598 101 = v99 := e100
            have y111 : M78 598 107 = v102 := e102
            have y112 : M78 598 75 = v88 := e88
            have y113 : M78 598 80 = v85 := e85
            have y114 : M78 598 81 = v91 := e91
            have y115 : M78 598 89 = v93 := e93
            have y116 : M78 598 96 = v95 := e95
            have y117 : M78 598 100 = v97 := e97
            have y118 : M78 598 101 = v99 := e100
            have y119 : M78 598 107 = v102 := e102
            have y120 : M78 598 75 = v88 := e88
            have y121 : M78 598 80 = v85 := e85
            have y122 : M78 598 81 = v91 := e91
            have y123 : M78 598 89 = v93 := e93
            have y124 : M78 598 96 = v95 := e95
            have y125 : M78 598 100 = v97 := e97
            have y126 : M78 598 101 = v99 := e100
            have y127 : M78 598 107 = v102 := e102
            have y128 : M78 598 75 = v88 := e88
            have y129 : M78 598 80 = v85 := e85
            have y130 : M78 598 81 = v91 := e91
            have y131 : M78 598 89 = v93 := e93
            have y132 : M78 598 96 = v95 := e95
            have y133 : M78 598 100 = v97 := e97
            have y134 : M78 598 101 = v99 := e100
            have y135 : M78 598 107 = v102 := e102
            refine jr.pick [0] rfl rfl ?_
            have y136 : M78 598 80 = v85 := e85
            exact ih (nM - 1) (by omega) M78  hI_M78 hH_M78 hS_M78  (fun a i f598 f659 f660 f661 f662 f663 f664 f665 f666 f667 f668 f669 f656 f657 f658 => ((w78_9 a i f598 f659 f660 f661 f662 f663 f664 f665 f666 f667 f668 f669).trans (hF_M a i f598 f659 f660 f661 f662 f663 f664 f665 f666 f667 f668 f669 f656 f657 f658))) (fun i g73 g74 g75 g76 g77 g78 g79 g80 g81 g89 g90 g96 g100 g102 g107 g88 g101 => ((w78_10 i g73 g74 g75 g76 g77 g78 g79 g80 g81 g89 g90 g96 g100 g102 g107).trans (hG_M i g73 g74 g75 g76 g77 g78 g79 g80 g81 g89 g90 g96 g100 g102 g107 g88 g101)))  (by rcases w78_0 with z | ⟨z, z1⟩; (exact Or.inl z); (exact Or.inr (Or.inl ⟨by omega, z⟩))) (by rw [e82, e84] <;> omega) (by omega) (by omega) (by rw [e87] <;> omega) w78_5 w78_6 (NMr.fr hNM (fun i => w78_9 656 i (by decide) (by decide) (by decide) (by decide) (by decide) (by decide) (by decide) (by decide) (by decide) (by decide) (by decide) (by decide)) (w78_10 88 (by decide) (by decide) (by decide) (by decide) (by decide) (by decide) (by decide) (by decide) (by decide) (by decide) (by decide) (by decide) (by decide) (by decide) (by decide))) (fun q => by obtain ⟨t2, ak2, a1, a2, a3⟩ := w78_7 q; exact ⟨t2, ak2, a1, a2, Or.inl ⟨by omega, a3⟩⟩) (fun q => (w78_8 q).trans h81) (by omega)
      · exfalso
        omega
    · obtain ⟨zb1, ⟨ds1, ds2, ds3, ds4, ds5, ds6, ds7, ds8, ds9⟩, zb2, zb3⟩ := id hz
      refine jr.aload_n rfl rfl ?_
      obtain ⟨v137, e137⟩ : ∃ z, M 598 80 = z := ⟨_, rfl⟩
      have b137 : 0 ≤ v137 ∧ v137 ≤ 7 := by rw [← e137]; exact hI_M 598 80 (by decide)
      refine jr_v rfl rfl (Or.inl rfl) rfl rfl (by decide) rfl ⟨rfl, Nat.le_of_ble_eq_true rfl, Nat.le_of_ble_eq_true rfl⟩ rfl (jc.deep (c_good hI_M  (fun t149_0 => ?_) (fun f149_0 => ?_)) (by decide))
      · refine jr.if_eq rfl rfl (by omega) (fun h => absurd h (by decide)) (fun _ => ?_)
        refine jr.aload_n rfl rfl ?_
        refine jr.getf (i := 107) (x := 0) (v := .int (Int32.ofInt (0))) rfl rfl (by decide) rfl (by decide) rfl rfl zb1 rfl ?_
        refine jr.if_le rfl rfl (by omega) (fun h159 => ?_) (fun h159 => ?_)
        · obtain ⟨v138, e138⟩ : ∃ z, M 598 75 = z := ⟨_, rfl⟩
          have b138 : 0 ≤ v138 ∧ v138 ≤ 1600 := by rw [← e138]; exact hI_M 598 75 (by decide)
          have y139 : M 598 75 = v138 := e138
          have y140 : M 598 80 = v137 := e137
          obtain ⟨v141, e141⟩ : ∃ z, M 598 81 = z := ⟨_, rfl⟩
          have b141 : (-1) ≤ v141 ∧ v141 ≤ 1600 := by rw [← e141]; exact hI_M 598 81 (by decide)
          have y142 : M 598 81 = v141 := e141
          obtain ⟨v143, e143⟩ : ∃ z, M 598 88 = z := ⟨_, rfl⟩
          have b143 : 0 ≤ v143 ∧ v143 ≤ 16 := by rw [← e143]; exact hI_M 598 88 (by decide)
          have y144 : M 598 88 = v143 := e143
          obtain ⟨v145, e145⟩ : ∃ z, M 598 89 = z := ⟨_, rfl⟩
          have b145 : 0 ≤ v145 ∧ v145 ≤ 301 := by rw [← e145]; exact hI_M 598 89 (by decide)
          have y146 : M 598 89 = v145 := e145
          obtain ⟨v147, e147⟩ : ∃ z, M 598 100 = z := ⟨_, rfl⟩
          have b147 : 0 ≤ v147 ∧ v147 ≤ 13 := by rw [← e147]; exact hI_M 598 100 (by decide)
          have y148 : M 598 100 = v147 := e147
          obtain ⟨v149, e149⟩ : ∃ z, M 598 101 = z := ⟨_, rfl⟩
          have b149 : 0 ≤ v149 ∧ v149 ≤ 1 := by rw [← e149]; exact hI_M 598 101 (by decide)
          have y150 : M 598 101 = v149 := e149
          have y151 : M 598 107 = 0 := zb1
          exact jr.vreturn rfl rfl (q _ hI_M hH_M hS_M  (Or.inr ⟨hz.2.1, hz.1, by omega, by omega, hz.2.2.1, hz.2.2.2⟩) (by omega) (by omega) (by omega) hy5 (fun q => by exfalso; omega) (fun q => by obtain ⟨t2, ak2, a1, a2, a3⟩ := hy8 q; rcases a3 with ⟨u, _⟩ | ⟨_, u⟩; (exfalso; omega); exact ⟨t2, _, _, _, _, ak2, a1, hy7, a2, by simp, u⟩) hy9 (fun a i f598 f659 f660 f661 f662 f663 f664 f665 f666 f667 f668 f669 f656 f657 f658 => (hF_M a i f598 f659 f660 f661 f662 f663 f664 f665 f666 f667 f668 f669 f656 f657 f658)) (fun i g73 g74 g75 g76 g77 g78 g79 g80 g81 g89 g90 g96 g100 g102 g107 g88 g101 => (hG_M i g73 g74 g75 g76 g77 g78 g79 g80 g81 g89 g90 g96 g100 g102 g107 g88 g101)))
        · exact absurd (by omega) h159
      · exfalso
        omega
set_option maxHeartbeats 8000000 in
theorem r_chain_L82_z {A : Nat → Option (Nat × (Nat → Int32))} {Q : Option Value → jm → Prop} {f : Int → Int} {N : Int} {xs : ZS} {t zd zb : Int} {zs : List (Int × Int × Int × Int)} {nm ak : List Int} {dd : Int} {M0 : jm} (q : ∀ (M' : jm), RI M' → RH M' → RF M' → (BT M' ∨ (DS M' 1 ∧ M' 598 107 = 0 ∧ TK M' < TK M0 ∧ 1 ≤ M' 598 88 ∧ 1 ≤ M' 598 90 ∧ M' 659 (M' 598 90 - 1) = 3)) → TK M' ≤ TK M0 → M' 598 73 ≤ M' 598 72 → (M' 598 80 ≠ 0 ∨ TK M' < TK M0) → TXr f N M' → ZFQ f N xs M' → ZCPQ f N xs M' → K8Q M0 M' → (∀ (a : Nat) (i : Int), a ≠ 598 → a ≠ 659 → a ≠ 660 → a ≠ 661 → a ≠ 662 → a ≠ 663 → a ≠ 664 → a ≠ 665 → a ≠ 666 → a ≠ 667 → a ≠ 668 → a ≠ 669 → a ≠ 656 → a ≠ 657 → a ≠ 658 → M' a i = M0 a i) → (∀ (i : Int), i ≠ 73 → i ≠ 74 → i ≠ 75 → i ≠ 76 → i ≠ 77 → i ≠ 78 → i ≠ 79 → i ≠ 80 → i ≠ 81 → i ≠ 89 → i ≠ 90 → i ≠ 96 → i ≠ 100 → i ≠ 102 → i ≠ 107 → i ≠ 88 → i ≠ 101 → M' 598 i = M0 598 i) → Q none M') : ∀ (M : jm) , RI M → RH M → RF M → (∀ (a : Nat) (i : Int), a ≠ 598 → a ≠ 659 → a ≠ 660 → a ≠ 661 → a ≠ 662 → a ≠ 663 → a ≠ 664 → a ≠ 665 → a ≠ 666 → a ≠ 667 → a ≠ 668 → a ≠ 669 → a ≠ 656 → a ≠ 657 → a ≠ 658 → M a i = M0 a i) → (∀ (i : Int), i ≠ 73 → i ≠ 74 → i ≠ 75 → i ≠ 76 → i ≠ 77 → i ≠ 78 → i ≠ 79 → i ≠ 80 → i ≠ 81 → i ≠ 89 → i ≠ 90 → i ≠ 96 → i ≠ 100 → i ≠ 102 → i ≠ 107 → i ≠ 88 → i ≠ 101 → M 598 i = M0 598 i) → XS M 0 0 dd 0 (-1) → AK M → LB M → M 598 96 ≤ M 598 89 ∧ M 598 89 ≤ 300 → M 598 73 ≤ M 598 72 → M 598 107 = 0 → 0 ≤ M 598 88 ∧ M 598 88 ≤ 15 → (M 598 74 = 3 → M 598 79 ≠ 10 ∧ M 598 79 ≠ 11) → TK M < TK M0 → M 598 74 = 1 → M 598 80 = 0 → TKr f N (znx f N t) M → zr f N xs (0, t, M 598 89, zd, 0, zb, zs, nm, ak) → NMr f N M nm → AKr f N M ak → (zso f N (znx f N t) = 1 ∧ (zwd f N (znx f N t) = -1 ∨ 45 ≤ zwd f N (znx f N t))) ∧ zso f N t = 1 ∧ zwd f N t = 0 → zhn f N nm (znx f N t) = false → M 598 81 = M0 598 81 → jr A 8 xm_369 82 [(0, .ref (598))] [] M Q := by
    intro M  hI_M hH_M hS_M hF_M hG_M  hy0 hy1 hy2 hy3 hy4 hy5 hy6 hy7 hy8 hy9 hy10 hy11 hy12 hy13 hy14 hy15 hy16 hy17
    have hX := hy0
    have hA := hy1
    have hB := hy2
    have dpx := XS.dep hy0
    have sl := XS.sgle hy0
    have kb := XS.kz hy0
    have bM_107 : (0 : Int) ≤ M 598 107 ∧ M 598 107 ≤ 16 := hI_M 598 107 (by decide)
    have bM_73 : (0 : Int) ≤ M 598 73 ∧ M 598 73 ≤ 1600 := hI_M 598 73 (by decide)
    have bM_88 : (0 : Int) ≤ M 598 88 ∧ M 598 88 ≤ 16 := hI_M 598 88 (by decide)
    have bM_100 : (0 : Int) ≤ M 598 100 ∧ M 598 100 ≤ 13 := hI_M 598 100 (by decide)
    have hK := hy11
    have kk0 := hK.kz
    have hT := hK.1
    have hz := hy12
    have hNM := hy13
    have hAK := hy14
    have hnm := hy15
    have hnl := hNM.1
    have hzh := hy16
    refine jr.aload_n rfl rfl ?_
    refine jr.getf (i := 91) (v := .ref 656) rfl rfl (by decide) rfl (by decide) rfl rfl rfl rfl ?_
    refine jr.aload_n rfl rfl ?_
    obtain ⟨v1, e1⟩ : ∃ z, M 598 88 = z := ⟨_, rfl⟩
    have b1 : 0 ≤ v1 ∧ v1 ≤ 16 := by rw [← e1]; exact hI_M 598 88 (by decide)
    refine jr.getf (i := 88) (x := v1) (v := .int (Int32.ofInt (v1))) rfl rfl (by decide) rfl (by decide) rfl rfl e1 rfl ?_
    refine jr.aload_n rfl rfl ?_
    obtain ⟨v2, e2⟩ : ∃ z, M 598 77 = z := ⟨_, rfl⟩
    have b2 : (-9223372036854775808) ≤ v2 ∧ v2 ≤ 9223372036854775807 := by rw [← e2]; exact hI_M 598 77 (by decide)
    refine jr.getf (i := 77) (x := v2) (v := .long (Int64.ofInt (v2))) rfl rfl (by decide) rfl (by decide) rfl rfl e2 rfl ?_
    refine jr.last (i := v1) (x := v2) rfl (by decide) rfl (by decide) (by omega) (by omega) ?_
    refine jr.aload_n rfl rfl ?_
    refine jr.getf (i := 92) (v := .ref 657) rfl rfl (by decide) rfl (by decide) rfl rfl rfl rfl ?_
    refine jr.aload_n rfl rfl ?_
    refine jr.getf (i := 88) (x := v1) (v := .int (Int32.ofInt (v1))) rfl rfl (by decide) rfl (by decide) rfl rfl ((ju_c _ _ (by decide)).trans e1) rfl ?_
    refine jr.aload_n rfl rfl ?_
    obtain ⟨v3, e3⟩ : ∃ z, M 598 90 = z := ⟨_, rfl⟩
    have b3 : 0 ≤ v3 ∧ v3 ≤ 2200 := by rw [← e3]; exact hI_M 598 90 (by decide)
    refine jr.getf (i := 90) (x := v3) (v := .int (Int32.ofInt (v3))) rfl rfl (by decide) rfl (by decide) rfl rfl ((ju_c _ _ (by decide)).trans e3) rfl ?_
    refine jr.iast (i := v1) (x := v3) rfl (by decide) rfl (by decide) (by omega) (by omega) ?_
    refine jr.aload_n rfl rfl ?_
    refine jr.getf (i := 93) (v := .ref 658) rfl rfl (by decide) rfl (by decide) rfl rfl rfl rfl ?_
    refine jr.aload_n rfl rfl ?_
    refine jr.getf (i := 88) (x := v1) (v := .int (Int32.ofInt (v1))) rfl rfl (by decide) rfl (by decide) rfl rfl ((ju_c _ _ (by decide)).trans ((ju_c _ _ (by decide)).trans e1)) rfl ?_
    refine jr.iconst rfl ?_
    refine jr.iast (i := v1) (x := (-1)) rfl (by decide) rfl (by decide) (by omega) (by omega) ?_
    refine jr.aload_n rfl rfl ?_
    refine jr.dup rfl rfl ?_
    refine jr.getf (i := 88) (x := v1) (v := .int (Int32.ofInt (v1))) rfl rfl (by decide) rfl (by decide) rfl rfl ((ju_c _ _ (by decide)).trans ((ju_c _ _ (by decide)).trans ((ju_c _ _ (by decide)).trans e1))) rfl ?_
    refine jr.iconst rfl ?_
    refine jr.iadd rfl ?_
    refine jr.putf (i := 88) (x := (v1 + 1)) rfl rfl (by decide) rfl (by decide) rfl rfl rfl rfl rfl ?_
    refine jr.aload_n rfl rfl ?_
    obtain ⟨v4, e4⟩ : ∃ z, M 598 73 = z := ⟨_, rfl⟩
    have b4 : 0 ≤ v4 ∧ v4 ≤ 1600 := by rw [← e4]; exact hI_M 598 73 (by decide)
    obtain ⟨v5, e5⟩ : ∃ z, M 598 72 = z := ⟨_, rfl⟩
    have b5 : 0 ≤ v5 ∧ v5 ≤ 1600 := by rw [← e5]; exact hI_M 598 72 (by decide)
    obtain ⟨v6, e6⟩ : ∃ z, M 598 80 = z := ⟨_, rfl⟩
    have b6 : 0 ≤ v6 ∧ v6 ≤ 7 := by rw [← e6]; exact hI_M 598 80 (by decide)
    obtain ⟨v7, e7⟩ : ∃ z, M 598 74 = z := ⟨_, rfl⟩
    have b7 : 0 ≤ v7 ∧ v7 ≤ 4 := by rw [← e7]; exact hI_M 598 74 (by decide)
    obtain ⟨v10, e10⟩ : ∃ z, M 598 75 = z := ⟨_, rfl⟩
    have b10 : 0 ≤ v10 ∧ v10 ≤ 1600 := by rw [← e10]; exact hI_M 598 75 (by decide)
    obtain ⟨v12, e12⟩ : ∃ z, M 598 79 = z := ⟨_, rfl⟩
    have b12 : 0 ≤ v12 ∧ v12 ≤ 255 := by rw [← e12]; exact hI_M 598 79 (by decide)
    obtain ⟨v15, e15⟩ : ∃ z, M 598 81 = z := ⟨_, rfl⟩
    have b15 : (-1) ≤ v15 ∧ v15 ≤ 1600 := by rw [← e15]; exact hI_M 598 81 (by decide)
    obtain ⟨v17, e17⟩ : ∃ z, M 598 89 = z := ⟨_, rfl⟩
    have b17 : 0 ≤ v17 ∧ v17 ≤ 301 := by rw [← e17]; exact hI_M 598 89 (by decide)
    obtain ⟨v19, e19⟩ : ∃ z, M 598 100 = z := ⟨_, rfl⟩
    have b19 : 0 ≤ v19 ∧ v19 ≤ 13 := by rw [← e19]; exact hI_M 598 100 (by decide)
    obtain ⟨v28, e28⟩ : ∃ z, M 598 107 = z := ⟨_, rfl⟩
    have b28 : 0 ≤ v28 ∧ v28 ≤ 16 := by rw [← e28]; exact hI_M 598 107 (by decide)
    refine jr_v rfl rfl (Or.inl rfl) rfl rfl (by decide) rfl ⟨rfl, Nat.le_of_ble_eq_true rfl, Nat.le_of_ble_eq_true rfl⟩ rfl (jc.deep (c_next_z (f := f) (N := N) (RI.u (RI.u (RI.u (RI.u hI_M (a := 656) (i := v1) (by rw [xri_row rfl rfl]; show (-9223372036854775808 : Int) ≤ _ ∧ _ ≤ (9223372036854775807 : Int); omega)) (a := 657) (i := v1) (by rw [xri_row rfl rfl]; show (0 : Int) ≤ _ ∧ _ ≤ (2200 : Int); omega)) (a := 658) (i := v1) (by rw [xri_row rfl rfl]; show (-1 : Int) ≤ _ ∧ _ ≤ (2200 : Int); omega)) (a := 598) (i := 88) (show (0 : Int) ≤ _ ∧ _ ≤ (16 : Int) from by omega)) (RH.o (RH.o (RH.o (RH.o hH_M (by decide) (by decide) (by decide)) (by decide) (by decide) (by decide)) (by decide) (by decide) (by decide)) (by decide) (by decide) (by decide)) (RF.o (RF.o (RF.o (RF.o hS_M (by decide) (by decide)) (by decide) (by decide)) (by decide) (by decide)) (by decide) (by decide)) (by rw [((ju_i _ _ (by decide)).trans ((ju_c _ _ (by decide)).trans ((ju_c _ _ (by decide)).trans ((ju_c _ _ (by decide)).trans e4)))), ((ju_i _ _ (by decide)).trans ((ju_c _ _ (by decide)).trans ((ju_c _ _ (by decide)).trans ((ju_c _ _ (by decide)).trans e5))))]; omega) (TKr.oo (TKr.cc (TKr.cc (TKr.cc hK (by decide) (by decide) (by decide) (by decide)) (by decide) (by decide) (by decide) (by decide)) (by decide) (by decide) (by decide) (by decide)) (by decide)) (by rw [((ju_i _ _ (by decide)).trans ((ju_c _ _ (by decide)).trans ((ju_c _ _ (by decide)).trans ((ju_c _ _ (by decide)).trans e6))))]; omega) (by rw [((ju_i _ _ (by decide)).trans ((ju_c _ _ (by decide)).trans ((ju_c _ _ (by decide)).trans ((ju_c _ _ (by decide)).trans e7))))]; omega) (fun M21 hI_M21 hH_M21 hS_M21 qa21 qb21 qt21 sn21 hK21 w21_50 w21_51 => ?_)) (by decide))
    have y8 : (ju (ju (ju (ju M 656 v1 v2) 657 v1 v3) 658 v1 (-1)) 598 88 (v1 + 1)) 598 73 = v4 := ((ju_i _ _ (by decide)).trans ((ju_c _ _ (by decide)).trans ((ju_c _ _ (by decide)).trans ((ju_c _ _ (by decide)).trans e4))))
    have y9 : (ju (ju (ju (ju M 656 v1 v2) 657 v1 v3) 658 v1 (-1)) 598 88 (v1 + 1)) 598 74 = v7 := ((ju_i _ _ (by decide)).trans ((ju_c _ _ (by decide)).trans ((ju_c _ _ (by decide)).trans ((ju_c _ _ (by decide)).trans e7))))
    have y11 : (ju (ju (ju (ju M 656 v1 v2) 657 v1 v3) 658 v1 (-1)) 598 88 (v1 + 1)) 598 75 = v10 := ((ju_i _ _ (by decide)).trans ((ju_c _ _ (by decide)).trans ((ju_c _ _ (by decide)).trans ((ju_c _ _ (by decide)).trans e10))))
    have y13 : (ju (ju (ju (ju M 656 v1 v2) 657 v1 v3) 658 v1 (-1)) 598 88 (v1 + 1)) 598 79 = v12 := ((ju_i _ _ (by decide)).trans ((ju_c _ _ (by decide)).trans ((ju_c _ _ (by decide)).trans ((ju_c _ _ (by decide)).trans e12))))
    have y14 : (ju (ju (ju (ju M 656 v1 v2) 657 v1 v3) 658 v1 (-1)) 598 88 (v1 + 1)) 598 80 = v6 := ((ju_i _ _ (by decide)).trans ((ju_c _ _ (by decide)).trans ((ju_c _ _ (by decide)).trans ((ju_c _ _ (by decide)).trans e6))))
    have y16 : (ju (ju (ju (ju M 656 v1 v2) 657 v1 v3) 658 v1 (-1)) 598 88 (v1 + 1)) 598 81 = v15 := ((ju_i _ _ (by decide)).trans ((ju_c _ _ (by decide)).trans ((ju_c _ _ (by decide)).trans ((ju_c _ _ (by decide)).trans e15))))
    have y18 : (ju (ju (ju (ju M 656 v1 v2) 657 v1 v3) 658 v1 (-1)) 598 88 (v1 + 1)) 598 89 = v17 := ((ju_i _ _ (by decide)).trans ((ju_c _ _ (by decide)).trans ((ju_c _ _ (by decide)).trans ((ju_c _ _ (by decide)).trans e17))))
    have y20 : (ju (ju (ju (ju M 656 v1 v2) 657 v1 v3) 658 v1 (-1)) 598 88 (v1 + 1)) 598 100 = v19 := ((ju_i _ _ (by decide)).trans ((ju_c _ _ (by decide)).trans ((ju_c _ _ (by decide)).trans ((ju_c _ _ (by decide)).trans e19))))
    have tb21 : TK (ju (ju (ju (ju M 656 v1 v2) 657 v1 v3) 658 v1 (-1)) 598 88 (v1 + 1)) = TK M := ((TK.o (Or.inr ⟨by decide, by decide⟩)).trans ((TK.o (Or.inl (by decide))).trans ((TK.o (Or.inl (by decide))).trans ((TK.o (Or.inl (by decide))).trans rfl))))
    have x21_72 := w21_51 72 (by decide) (by decide) (by decide) (by decide) (by decide) (by decide) (by decide)
    have x21_80 := w21_51 80 (by decide) (by decide) (by decide) (by decide) (by decide) (by decide) (by decide)
    have x21_81 := w21_51 81 (by decide) (by decide) (by decide) (by decide) (by decide) (by decide) (by decide)
    have x21_89 := w21_51 89 (by decide) (by decide) (by decide) (by decide) (by decide) (by decide) (by decide)
    have x21_100 := w21_51 100 (by decide) (by decide) (by decide) (by decide) (by decide) (by decide) (by decide)
    have hT21 := hK21.1
    have kk21 := hK21.kz
    have y22 : M 598 88 = v1 := e1
    have y23 : M 598 90 = v3 := e3
    have hX := XS.chn (nm := v2) hX e1 e3 (by omega) (by have z := hB; unfold LB at z; rw [e3] at z; exact z)
    have hA := AK.cp (M' := (ju (ju (ju (ju M 656 v1 v2) 657 v1 v3) 658 v1 (-1)) 598 88 (v1 + 1))) hA (CP.o (CP.o (CP.o (CP.o (CP.rfl _) (by decide) (Or.inl (by decide))) (by decide) (Or.inl (by decide))) (by decide) (Or.inl (by decide))) (by decide) (Or.inr (by decide))) (fun i => by rw [ju_c _ _ (by decide), ju_c _ _ (by decide), ju_c _ _ (by decide), ju_c _ _ (by decide)]) (by rw [ju_i _ _ (by decide), ju_c _ _ (by decide), ju_c _ _ (by decide), ju_c _ _ (by decide)])
    have hB := LB.fr (M' := (ju (ju (ju (ju M 656 v1 v2) 657 v1 v3) 658 v1 (-1)) 598 88 (v1 + 1))) hB (fun i => by rw [ju_c _ _ (by decide), ju_c _ _ (by decide), ju_c _ _ (by decide), ju_c _ _ (by decide)]) (by rw [ju_i _ _ (by decide), ju_c _ _ (by decide), ju_c _ _ (by decide), ju_c _ _ (by decide)])
    have y24 : (ju (ju (ju (ju M 656 v1 v2) 657 v1 v3) 658 v1 (-1)) 598 88 (v1 + 1)) 598 73 = v4 := ((ju_i _ _ (by decide)).trans ((ju_c _ _ (by decide)).trans ((ju_c _ _ (by decide)).trans ((ju_c _ _ (by decide)).trans e4))))
    have y25 : (ju (ju (ju (ju M 656 v1 v2) 657 v1 v3) 658 v1 (-1)) 598 88 (v1 + 1)) 598 74 = v7 := ((ju_i _ _ (by decide)).trans ((ju_c _ _ (by decide)).trans ((ju_c _ _ (by decide)).trans ((ju_c _ _ (by decide)).trans e7))))
    have y26 : (ju (ju (ju (ju M 656 v1 v2) 657 v1 v3) 658 v1 (-1)) 598 88 (v1 + 1)) 598 89 = v17 := ((ju_i _ _ (by decide)).trans ((ju_c _ _ (by decide)).trans ((ju_c _ _ (by decide)).trans ((ju_c _ _ (by decide)).trans e17))))
    have y27 : (ju (ju (ju (ju M 656 v1 v2) 657 v1 v3) 658 v1 (-1)) 598 88 (v1 + 1)) 598 100 = v19 := ((ju_i _ _ (by decide)).trans ((ju_c _ _ (by decide)).trans ((ju_c _ _ (by decide)).trans ((ju_c _ _ (by decide)).trans e19))))
    have y29 : (ju (ju (ju (ju M 656 v1 v2) 657 v1 v3) 658 v1 (-1)) 598 88 (v1 + 1)) 598 107 = v28 := ((ju_i _ _ (by decide)).trans ((ju_c _ _ (by decide)).trans ((ju_c _ _ (by decide)).trans ((ju_c _ _ (by decide)).trans e28))))
    have x21_89 := w21_51 89 (by decide) (by decide) (by decide) (by decide) (by decide) (by decide) (by decide)
    have x21_100 := w21_51 100 (by decide) (by decide) (by decide) (by decide) (by decide) (by decide) (by decide)
    have x21_107 := w21_51 107 (by decide) (by decide) (by decide) (by decide) (by decide) (by decide) (by decide)
    have hX := XS.fr2 hX w21_50 (w21_51 88 (by decide) (by decide) (by decide) (by decide) (by decide) (by decide) (by decide)) (w21_51 90 (by decide) (by decide) (by decide) (by decide) (by decide) (by decide) (by decide)) (w21_51 101 (by decide) (by decide) (by decide) (by decide) (by decide) (by decide) (by decide)) (w21_51 107 (by decide) (by decide) (by decide) (by decide) (by decide) (by decide) (by decide)) (k' := 0 + 4) (d' := dd) (z' := 0) (by omega) (by omega) (by omega) (by omega)
    have hA := AK.cp hA (CP.f (CP.rfl _) (fun i => w21_50 659 i (by decide)) (w21_51 90 (by decide) (by decide) (by decide) (by decide) (by decide) (by decide) (by decide))) (fun i => w21_50 663 i (by decide)) (w21_51 96 (by decide) (by decide) (by decide) (by decide) (by decide) (by decide) (by decide))
    have hB := LB.fr hB (fun i => w21_50 659 i (by decide)) (w21_51 90 (by decide) (by decide) (by decide) (by decide) (by decide) (by decide) (by decide))
    have x21_101 := w21_51 101 (by decide) (by decide) (by decide) (by decide) (by decide) (by decide) (by decide)
    have x21_107 := w21_51 107 (by decide) (by decide) (by decide) (by decide) (by decide) (by decide) (by decide)
    have x21_88 := w21_51 88 (by decide) (by decide) (by decide) (by decide) (by decide) (by decide) (by decide)
    have x21_96 := w21_51 96 (by decide) (by decide) (by decide) (by decide) (by decide) (by decide) (by decide)
    have hnmv := (hK.wz (by omega)).2.2
    have hNM2 := NMr.fr (NMr.add (t := znx f N t) (q := v3) (r := (-1)) hNM e1 (show v2 = _ from (e2).symm.trans hnmv)) (fun i => w21_50 656 i (by decide)) (w21_51 88 (by decide) (by decide) (by decide) (by decide) (by decide) (by decide) (by decide))
    refine jr.aload_n rfl rfl ?_
    refine jr.iconst rfl ?_
    refine jr.putf (i := 100) (x := 0) rfl rfl (by decide) rfl (by decide) rfl rfl rfl rfl rfl ?_
    refine jr.aload_n rfl rfl ?_
    refine jr.iconst rfl ?_
    refine jr.putf (i := 101) (x := 0) rfl rfl (by decide) rfl (by decide) rfl rfl rfl rfl rfl ?_
    refine jr.aload_n rfl rfl ?_
    refine jr.iconst rfl ?_
    refine jr.iconst rfl ?_
    obtain ⟨v30, e30⟩ : ∃ z, M21 598 73 = z := ⟨_, rfl⟩
    have b30 : 0 ≤ v30 ∧ v30 ≤ 1600 := by rw [← e30]; exact hI_M21 598 73 (by decide)
    have e31 : M21 598 72 = v5 := ((w21_51 72 (by decide) (by decide) (by decide) (by decide) (by decide) (by decide) (by decide)).trans ((ju_i _ _ (by decide)).trans ((ju_c _ _ (by decide)).trans ((ju_c _ _ (by decide)).trans ((ju_c _ _ (by decide)).trans e5)))))
    have e32 : M21 598 80 = v6 := ((w21_51 80 (by decide) (by decide) (by decide) (by decide) (by decide) (by decide) (by decide)).trans ((ju_i _ _ (by decide)).trans ((ju_c _ _ (by decide)).trans ((ju_c _ _ (by decide)).trans ((ju_c _ _ (by decide)).trans e6)))))
    have e33 : M21 598 107 = v28 := ((w21_51 107 (by decide) (by decide) (by decide) (by decide) (by decide) (by decide) (by decide)).trans ((ju_i _ _ (by decide)).trans ((ju_c _ _ (by decide)).trans ((ju_c _ _ (by decide)).trans ((ju_c _ _ (by decide)).trans e28)))))
    obtain ⟨v34, e34⟩ : ∃ z, M21 598 74 = z := ⟨_, rfl⟩
    have b34 : 0 ≤ v34 ∧ v34 ≤ 4 := by rw [← e34]; exact hI_M21 598 74 (by decide)
    obtain ⟨v35, e35⟩ : ∃ z, M21 598 79 = z := ⟨_, rfl⟩
    have b35 : 0 ≤ v35 ∧ v35 ≤ 255 := by rw [← e35]; exact hI_M21 598 79 (by decide)
    obtain ⟨v38, e38⟩ : ∃ z, M21 598 75 = z := ⟨_, rfl⟩
    have b38 : 0 ≤ v38 ∧ v38 ≤ 1600 := by rw [← e38]; exact hI_M21 598 75 (by decide)
    have e42 : M21 598 81 = v15 := ((w21_51 81 (by decide) (by decide) (by decide) (by decide) (by decide) (by decide) (by decide)).trans ((ju_i _ _ (by decide)).trans ((ju_c _ _ (by decide)).trans ((ju_c _ _ (by decide)).trans ((ju_c _ _ (by decide)).trans e15)))))
    have e44 : M21 598 89 = v17 := ((w21_51 89 (by decide) (by decide) (by decide) (by decide) (by decide) (by decide) (by decide)).trans ((ju_i _ _ (by decide)).trans ((ju_c _ _ (by decide)).trans ((ju_c _ _ (by decide)).trans ((ju_c _ _ (by decide)).trans e17)))))
    have e46 : M21 598 90 = v3 := ((w21_51 90 (by decide) (by decide) (by decide) (by decide) (by decide) (by decide) (by decide)).trans ((ju_i _ _ (by decide)).trans ((ju_c _ _ (by decide)).trans ((ju_c _ _ (by decide)).trans ((ju_c _ _ (by decide)).trans e3)))))
    refine jr_v rfl rfl (Or.inl rfl) rfl rfl (by decide) rfl ⟨rfl, Nat.le_of_ble_eq_true rfl, Nat.le_of_ble_eq_true rfl⟩ rfl (jc.deep (c_beginBlock_z (f := f) (N := N) (RI.u (RI.u hI_M21 (a := 598) (i := 100) (show (0 : Int) ≤ _ ∧ _ ≤ (13 : Int) from by omega)) (a := 598) (i := 101) (show (0 : Int) ≤ _ ∧ _ ≤ (1 : Int) from by omega)) (RH.o (RH.o hH_M21 (by decide) (by decide) (by decide)) (by decide) (by decide) (by decide)) (RF.o (RF.o hS_M21 (by decide) (by decide)) (by decide) (by decide)) (by omega) (by omega) (by rw [((ju_i _ _ (by decide)).trans ((ju_i _ _ (by decide)).trans e30)), ((ju_i _ _ (by decide)).trans ((ju_i _ _ (by decide)).trans e31))]; omega) (TKr.oo (TKr.oo hK21 (by decide)) (by decide)) (by rw [((ju_i _ _ (by decide)).trans ((ju_i _ _ (by decide)).trans e32))]; omega) (by rw [((ju_i _ _ (by decide)).trans (ju_same _ _ _ _))]; omega) (by rw [((ju_i _ _ (by decide)).trans ((ju_i _ _ (by decide)).trans e33))]; omega) (by rw [((ju_i _ _ (by decide)).trans ((ju_i _ _ (by decide)).trans e34)), ((ju_i _ _ (by decide)).trans ((ju_i _ _ (by decide)).trans e35))]; intro q; omega) (fun M51 hI_M51 hH_M51 hS_M51 qa51 qb51 qt51 qd51 ql51 sn51 q051 q151 qs51 hK51 q751 bx51 bl51 w51_50 w51_51 => ?_) (fun M51 hI_M51 hH_M51 hS_M51 qa51 qb51 qt51 ql51 q051 q151 qs51 hT51 q751 w51_50 w51_51 => ?_) (fun M51 hI_M51 hH_M51 hS_M51 qa51 qb51 qt51 qn51 q051 q151 qs51 hT51 q751 w51_50 w51_51 => ?_)) (by decide))
    · have y36 : (ju (ju M21 598 100 0) 598 101 0) 598 73 = v30 := ((ju_i _ _ (by decide)).trans ((ju_i _ _ (by decide)).trans e30))
      have y37 : (ju (ju M21 598 100 0) 598 101 0) 598 74 = v34 := ((ju_i _ _ (by decide)).trans ((ju_i _ _ (by decide)).trans e34))
      have y39 : (ju (ju M21 598 100 0) 598 101 0) 598 75 = v38 := ((ju_i _ _ (by decide)).trans ((ju_i _ _ (by decide)).trans e38))
      have y40 : (ju (ju M21 598 100 0) 598 101 0) 598 79 = v35 := ((ju_i _ _ (by decide)).trans ((ju_i _ _ (by decide)).trans e35))
      have y41 : (ju (ju M21 598 100 0) 598 101 0) 598 80 = v6 := ((ju_i _ _ (by decide)).trans ((ju_i _ _ (by decide)).trans e32))
      have y43 : (ju (ju M21 598 100 0) 598 101 0) 598 81 = v15 := ((ju_i _ _ (by decide)).trans ((ju_i _ _ (by decide)).trans e42))
      have y45 : (ju (ju M21 598 100 0) 598 101 0) 598 89 = v17 := ((ju_i _ _ (by decide)).trans ((ju_i _ _ (by decide)).trans e44))
      have y47 : (ju (ju M21 598 100 0) 598 101 0) 598 90 = v3 := ((ju_i _ _ (by decide)).trans ((ju_i _ _ (by decide)).trans e46))
      have y48 : (ju (ju M21 598 100 0) 598 101 0) 598 100 = 0 := ((ju_i _ _ (by decide)).trans (ju_same _ _ _ _))
      have y49 : (ju (ju M21 598 100 0) 598 101 0) 598 101 = 0 := (ju_same _ _ _ _)
      have y50 : (ju (ju M21 598 100 0) 598 101 0) 598 107 = v28 := ((ju_i _ _ (by decide)).trans ((ju_i _ _ (by decide)).trans e33))
      have tb51 : TK (ju (ju M21 598 100 0) 598 101 0) = TK M21 := ((TK.o (Or.inr ⟨by decide, by decide⟩)).trans ((TK.o (Or.inr ⟨by decide, by decide⟩)).trans rfl))
      have x51_72 := w51_51 72 (by decide) (by decide) (by decide) (by decide) (by decide) (by decide) (by decide) (by decide) (by decide) (by decide) (by decide)
      have x51_89 := w51_51 89 (by decide) (by decide) (by decide) (by decide) (by decide) (by decide) (by decide) (by decide) (by decide) (by decide) (by decide)
      have x51_101 := w51_51 101 (by decide) (by decide) (by decide) (by decide) (by decide) (by decide) (by decide) (by decide) (by decide) (by decide) (by decide)
      have x51_88 := w51_51 88 (by decide) (by decide) (by decide) (by decide) (by decide) (by decide) (by decide) (by decide) (by decide) (by decide) (by decide)
      have x51_96 := w51_51 96 (by decide) (by decide) (by decide) (by decide) (by decide) (by decide) (by decide) (by decide) (by decide) (by decide) (by decide)
      have x51_90 := w51_51 90 (by decide) (by decide) (by decide) (by decide) (by decide) (by decide) (by decide) (by decide) (by decide) (by decide) (by decide)
      have hT51 := hK51.1
      have kk51 := hK51.kz
      have hX := XS.ib (XS.dpz hX (by rw [e33]; omega)) (by rw [((ju_i _ _ (by decide)).trans e33)]; omega) 0
      have hA := AK.cp (M' := (ju (ju M21 598 100 0) 598 101 0)) hA (CP.o (CP.o (CP.rfl _) (by decide) (Or.inr (by decide))) (by decide) (Or.inr (by decide))) (fun i => by rw [ju_c _ _ (by decide), ju_c _ _ (by decide)]) (by rw [ju_i _ _ (by decide), ju_i _ _ (by decide)])
      have hB := LB.fr (M' := (ju (ju M21 598 100 0) 598 101 0)) hB (fun i => by rw [ju_c _ _ (by decide), ju_c _ _ (by decide)]) (by rw [ju_i _ _ (by decide), ju_i _ _ (by decide)])
      have y52 : (ju (ju M21 598 100 0) 598 101 0) 598 101 = 0 := (ju_same _ _ _ _)
      have y53 : (ju (ju M21 598 100 0) 598 101 0) 598 107 = v28 := ((ju_i _ _ (by decide)).trans ((ju_i _ _ (by decide)).trans e33))
      have y54 : (ju (ju M21 598 100 0) 598 101 0) 598 90 = v3 := ((ju_i _ _ (by decide)).trans ((ju_i _ _ (by decide)).trans e46))
      have y55 : (ju (ju M21 598 100 0) 598 101 0) 598 74 = v34 := ((ju_i _ _ (by decide)).trans ((ju_i _ _ (by decide)).trans e34))
      have e0 : (ju (ju M21 598 100 0) 598 101 0) 598 107 = 0 := (by omega)
      have e1 : (ju (ju M21 598 100 0) 598 101 0) 598 101 = 0 := (by omega)
      have hX := bx51 0 (0 + 4) 0 0 _ hX (by omega) (fun _ => ⟨by omega, by omega, by omega, rfl⟩) (fun q => by exfalso; omega) (by rw [e0, e1]; decide) (by omega)
      have hB := LB.fr hB (fun i => w51_50 659 i (by decide) (by decide) (by decide)) (w51_51 90 (by decide) (by decide) (by decide) (by decide) (by decide) (by decide) (by decide) (by decide) (by decide) (by decide) (by decide))
      have hA := AK.cp hA (CP.f (CP.rfl _) (fun i => w51_50 659 i (by decide) (by decide) (by decide)) (w51_51 90 (by decide) (by decide) (by decide) (by decide) (by decide) (by decide) (by decide) (by decide) (by decide) (by decide) (by decide))) (fun i => w51_50 663 i (by decide) (by decide) (by decide)) (w51_51 96 (by decide) (by decide) (by decide) (by decide) (by decide) (by decide) (by decide) (by decide) (by decide) (by decide) (by decide))
      have e56 : M51 598 72 = v5 := ((w51_51 72 (by decide) (by decide) (by decide) (by decide) (by decide) (by decide) (by decide) (by decide) (by decide) (by decide) (by decide)).trans ((ju_i _ _ (by decide)).trans ((ju_i _ _ (by decide)).trans e31)))
      have y57 : M51 598 72 = v5 := e56
      obtain ⟨v58, e58⟩ : ∃ z, M51 598 73 = z := ⟨_, rfl⟩
      have b58 : 0 ≤ v58 ∧ v58 ≤ 1600 := by rw [← e58]; exact hI_M51 598 73 (by decide)
      have y59 : M51 598 73 = v58 := e58
      obtain ⟨v60, e60⟩ : ∃ z, M51 598 74 = z := ⟨_, rfl⟩
      have b60 : 0 ≤ v60 ∧ v60 ≤ 4 := by rw [← e60]; exact hI_M51 598 74 (by decide)
      have y61 : M51 598 74 = v60 := e60
      obtain ⟨v62, e62⟩ : ∃ z, M51 598 79 = z := ⟨_, rfl⟩
      have b62 : 0 ≤ v62 ∧ v62 ≤ 255 := by rw [← e62]; exact hI_M51 598 79 (by decide)
      have y63 : M51 598 79 = v62 := e62
      obtain ⟨v64, e64⟩ : ∃ z, M51 598 80 = z := ⟨_, rfl⟩
      have b64 : 0 ≤ v64 ∧ v64 ≤ 7 := by rw [← e64]; exact hI_M51 598 80 (by decide)
      have y65 : M51 598 80 = v64 := e64
      have e66 : M51 598 89 = v17 := ((w51_51 89 (by decide) (by decide) (by decide) (by decide) (by decide) (by decide) (by decide) (by decide) (by decide) (by decide) (by decide)).trans ((ju_i _ _ (by decide)).trans ((ju_i _ _ (by decide)).trans e44)))
      have y67 : M51 598 89 = v17 := e66
      have e68 : M51 598 90 = v3 := ((w51_51 90 (by decide) (by decide) (by decide) (by decide) (by decide) (by decide) (by decide) (by decide) (by decide) (by decide) (by decide)).trans ((ju_i _ _ (by decide)).trans ((ju_i _ _ (by decide)).trans e46)))
      have y69 : M51 598 90 = v3 := e68
      obtain ⟨v70, e70⟩ : ∃ z, M 598 96 = z := ⟨_, rfl⟩
      have b70 : 0 ≤ v70 ∧ v70 ≤ 300 := by rw [← e70]; exact hI_M 598 96 (by decide)
      have e71 : M21 598 96 = v70 := ((w21_51 96 (by decide) (by decide) (by decide) (by decide) (by decide) (by decide) (by decide)).trans ((ju_i _ _ (by decide)).trans ((ju_c _ _ (by decide)).trans ((ju_c _ _ (by decide)).trans ((ju_c _ _ (by decide)).trans e70)))))
      have e72 : M51 598 96 = v70 := ((w51_51 96 (by decide) (by decide) (by decide) (by decide) (by decide) (by decide) (by decide) (by decide) (by decide) (by decide) (by decide)).trans ((ju_i _ _ (by decide)).trans ((ju_i _ _ (by decide)).trans e71)))
      have y73 : M51 598 96 = v70 := e72
      obtain ⟨v74, e74⟩ : ∃ z, M51 598 100 = z := ⟨_, rfl⟩
      have b74 : 0 ≤ v74 ∧ v74 ≤ 13 := by rw [← e74]; exact hI_M51 598 100 (by decide)
      have y75 : M51 598 100 = v74 := e74
      obtain ⟨v76, e76⟩ : ∃ z, M51 598 107 = z := ⟨_, rfl⟩
      have b76 : 0 ≤ v76 ∧ v76 ≤ 16 := by rw [← e76]; exact hI_M51 598 107 (by decide)
      have y77 : M51 598 107 = v76 := e76
      have y78 : M51 598 80 = v64 := e64
      have e79 : M21 598 88 = v1 + 1 := ((w21_51 88 (by decide) (by decide) (by decide) (by decide) (by decide) (by decide) (by decide)).trans (ju_same _ _ _ _))
      have e80 : M51 598 88 = v1 + 1 := ((w51_51 88 (by decide) (by decide) (by decide) (by decide) (by decide) (by decide) (by decide) (by decide) (by decide) (by decide) (by decide)).trans ((ju_i _ _ (by decide)).trans ((ju_i _ _ (by decide)).trans e79)))
      obtain ⟨v81, e81⟩ : ∃ z, M51 598 75 = z := ⟨_, rfl⟩
      have b81 : 0 ≤ v81 ∧ v81 ≤ 1600 := by rw [← e81]; exact hI_M51 598 75 (by decide)
      have y82 : M51 598 75 = v81 := e81
      have y83 : M51 598 80 = v64 := e64
      obtain ⟨v84, e84⟩ : ∃ z, M51 598 81 = z := ⟨_, rfl⟩
      have b84 : (-1) ≤ v84 ∧ v84 ≤ 1600 := by rw [← e84]; exact hI_M51 598 81 (by decide)
      have y85 : M51 598 81 = v84 := e84
      have y86 : M51 598 89 = v17 := e66
      have y87 : M51 598 96 = v70 := e72
      have y88 : M51 598 100 = v74 := e74
      have e89 : M51 598 101 = 0 := ((w51_51 101 (by decide) (by decide) (by decide) (by decide) (by decide) (by decide) (by decide) (by decide) (by decide) (by decide) (by decide)).trans (ju_same _ _ _ _))
      have y90 : M51 598 101 = 0 := e89
      have y91 : M51 598 107 = v76 := e76
      have y92 : M51 598 75 = v81 := e81
      have y93 : M51 598 80 = v64 := e64
      have y94 : M51 598 81 = v84 := e84
      have y95 : M51 598 89 = v17 := e66
      have y96 : M51 598 96 = v70 := e72
      have y97 : M51 598 100 = v74 := e74
      have y98 : M51 598 101 = 0 := e89
      have y99 : M51 598 107 = v76 := e76
      have y100 : M51 598 75 = v81 := e81
      have y101 : M51 598 80 = v64 := e64
      have y102 : M51 598 81 = v84 := e84
      have y103 : M51 598 89 = v17 := e66
      have y104 : M51 598 96 = v70 := e72
      have y105 : M51 598 100 = v74 := e74
      have y106 : M51 598 101 = 0 := e89
      have y107 : M51 598 107 = v76 := e76
      have y108 : M51 598 75 = v81 := e81
      have y109 : M51 598 80 = v64 := e64
      have y110 : M51 598 81 = v84 := e84
      have y111 : M51 598 89 = v17 := e66
      have y112 : M51 598 96 = v70 := e72
      have y113 : M51 598 100 = v74 := e74
      have y114 : M51 598 101 = 0 := e89
      have y115 : M51 598 107 = v76 := e76
      have y116 : M51 598 75 = v81 := e81
      have y117 : M51 598 80 = v64 := e64
      have y118 : M51 598 81 = v84 := e84
      have y119 : M51 598 89 = v17 := e66
      have y120 : M51 598 96 = v70 := e72
      have y121 : M51 598 100 = v74 := e74
      have y122 : M51 598 101 = 0 := e89
      have y123 : M51 598 107 = v76 := e76
      refine jr.pick [0] rfl rfl ?_
      have y124 : M51 598 80 = v64 := e64
      exact r_chain_L148_z (dd := dd) (ak := []) (zs := []) (zb := 0) (zd := 0) q 3203 M51  hI_M51 hH_M51 hS_M51  (fun a i f598 f659 f660 f661 f662 f663 f664 f665 f666 f667 f668 f669 f656 f657 f658 => ((w51_50 a i f598 f668 f669).trans ((ju_c _ _ f598).trans ((ju_c _ _ f598).trans ((w21_50 a i f598).trans ((ju_c _ _ f598).trans ((ju_c _ _ f658).trans ((ju_c _ _ f657).trans ((ju_c _ _ f656).trans (hF_M a i f598 f659 f660 f661 f662 f663 f664 f665 f666 f667 f668 f669 f656 f657 f658)))))))))) (fun i g73 g74 g75 g76 g77 g78 g79 g80 g81 g89 g90 g96 g100 g102 g107 g88 g101 => ((w51_51 i g73 g74 g75 g76 g77 g78 g79 g80 g81 g100 g107).trans ((ju_i _ _ g101).trans ((ju_i _ _ g100).trans ((w21_51 i g73 g74 g75 g76 g77 g78 g79).trans ((ju_i _ _ g88).trans ((ju_c _ _ (by decide)).trans ((ju_c _ _ (by decide)).trans ((ju_c _ _ (by decide)).trans (hG_M i g73 g74 g75 g76 g77 g78 g79 g80 g81 g89 g90 g96 g100 g102 g107 g88 g101))))))))))  (Or.inr (Or.inl ⟨by omega, ⟨by omega, XS.adj hX (k' := 0) (z' := 0) (by omega) (by omega) (by omega), by omega, by omega, by omega, by omega, hB, hA, by omega⟩⟩)) (by rw [e58, e56] <;> omega) (by omega) (by omega) (by rw [e80] <;> omega) hT51 (fun q => by exfalso; omega) (NMr.fr (NMr.fr (NMr.fr hNM2 (fun i => ju_c _ _ (by decide)) (ju_i _ _ (by decide))) (fun i => ju_c _ _ (by decide)) (ju_i _ _ (by decide))) (fun i => w51_50 656 i (by decide) (by decide) (by decide)) (w51_51 88 (by decide) (by decide) (by decide) (by decide) (by decide) (by decide) (by decide) (by decide) (by decide) (by decide) (by decide))) (fun _ => ⟨_, ak, hK51, (AKr.fr (AKr.fr (AKr.fr (AKr.fr (AKr.fr (AKr.fr (AKr.fr (AKr.fr hAK (fun i => ju_c _ _ (by decide)) (fun i => ju_c _ _ (by decide)) (ju_c _ _ (by decide))) (fun i => ju_c _ _ (by decide)) (fun i => ju_c _ _ (by decide)) (ju_c _ _ (by decide))) (fun i => ju_c _ _ (by decide)) (fun i => ju_c _ _ (by decide)) (ju_c _ _ (by decide))) (fun i => ju_c _ _ (by decide)) (fun i => ju_c _ _ (by decide)) (ju_i _ _ (by decide))) (fun i => w21_50 661 i (by decide)) (fun i => w21_50 662 i (by decide)) (w21_51 96 (by decide) (by decide) (by decide) (by decide) (by decide) (by decide) (by decide))) (fun i => ju_c _ _ (by decide)) (fun i => ju_c _ _ (by decide)) (ju_i _ _ (by decide))) (fun i => ju_c _ _ (by decide)) (fun i => ju_c _ _ (by decide)) (ju_i _ _ (by decide))) (fun i => w51_50 661 i (by decide) (by decide) (by decide)) (fun i => w51_50 662 i (by decide) (by decide) (by decide)) (w51_51 96 (by decide) (by decide) (by decide) (by decide) (by decide) (by decide) (by decide) (by decide) (by decide) (by decide) (by decide))), Or.inl ⟨by omega, (zr.eqx (zr.cha hz hnm.2 (by omega) hnm.1 hzh qs51) rfl rfl (by omega) (by omega) (by omega) (by rw [(bl51.trans (by rw [blr_z ((((ju_i _ _ (by decide)).trans ((ju_i _ _ (by decide)).trans e33))).trans (by omega))]))]))⟩⟩) (fun q => by omega) (by have t := TK.le (M := M51) (by omega); omega)
    · have y36 : (ju (ju M21 598 100 0) 598 101 0) 598 73 = v30 := ((ju_i _ _ (by decide)).trans ((ju_i _ _ (by decide)).trans e30))
      have y37 : (ju (ju M21 598 100 0) 598 101 0) 598 74 = v34 := ((ju_i _ _ (by decide)).trans ((ju_i _ _ (by decide)).trans e34))
      have y39 : (ju (ju M21 598 100 0) 598 101 0) 598 75 = v38 := ((ju_i _ _ (by decide)).trans ((ju_i _ _ (by decide)).trans e38))
      have y40 : (ju (ju M21 598 100 0) 598 101 0) 598 79 = v35 := ((ju_i _ _ (by decide)).trans ((ju_i _ _ (by decide)).trans e35))
      have y41 : (ju (ju M21 598 100 0) 598 101 0) 598 80 = v6 := ((ju_i _ _ (by decide)).trans ((ju_i _ _ (by decide)).trans e32))
      have y43 : (ju (ju M21 598 100 0) 598 101 0) 598 81 = v15 := ((ju_i _ _ (by decide)).trans ((ju_i _ _ (by decide)).trans e42))
      have y45 : (ju (ju M21 598 100 0) 598 101 0) 598 89 = v17 := ((ju_i _ _ (by decide)).trans ((ju_i _ _ (by decide)).trans e44))
      have y47 : (ju (ju M21 598 100 0) 598 101 0) 598 90 = v3 := ((ju_i _ _ (by decide)).trans ((ju_i _ _ (by decide)).trans e46))
      have y48 : (ju (ju M21 598 100 0) 598 101 0) 598 100 = 0 := ((ju_i _ _ (by decide)).trans (ju_same _ _ _ _))
      have y49 : (ju (ju M21 598 100 0) 598 101 0) 598 101 = 0 := (ju_same _ _ _ _)
      have y50 : (ju (ju M21 598 100 0) 598 101 0) 598 107 = v28 := ((ju_i _ _ (by decide)).trans ((ju_i _ _ (by decide)).trans e33))
      have tb51 : TK (ju (ju M21 598 100 0) 598 101 0) = TK M21 := ((TK.o (Or.inr ⟨by decide, by decide⟩)).trans ((TK.o (Or.inr ⟨by decide, by decide⟩)).trans rfl))
      have x51_72 := w51_51 72 (by decide) (by decide) (by decide) (by decide) (by decide) (by decide) (by decide) (by decide) (by decide) (by decide) (by decide)
      have x51_89 := w51_51 89 (by decide) (by decide) (by decide) (by decide) (by decide) (by decide) (by decide) (by decide) (by decide) (by decide) (by decide)
      have x51_101 := w51_51 101 (by decide) (by decide) (by decide) (by decide) (by decide) (by decide) (by decide) (by decide) (by decide) (by decide) (by decide)
      have x51_88 := w51_51 88 (by decide) (by decide) (by decide) (by decide) (by decide) (by decide) (by decide) (by decide) (by decide) (by decide) (by decide)
      have x51_96 := w51_51 96 (by decide) (by decide) (by decide) (by decide) (by decide) (by decide) (by decide) (by decide) (by decide) (by decide) (by decide)
      have x51_90 := w51_51 90 (by decide) (by decide) (by decide) (by decide) (by decide) (by decide) (by decide) (by decide) (by decide) (by decide) (by decide)
      exfalso
      omega
    · have y36 : (ju (ju M21 598 100 0) 598 101 0) 598 73 = v30 := ((ju_i _ _ (by decide)).trans ((ju_i _ _ (by decide)).trans e30))
      have y37 : (ju (ju M21 598 100 0) 598 101 0) 598 74 = v34 := ((ju_i _ _ (by decide)).trans ((ju_i _ _ (by decide)).trans e34))
      have y39 : (ju (ju M21 598 100 0) 598 101 0) 598 75 = v38 := ((ju_i _ _ (by decide)).trans ((ju_i _ _ (by decide)).trans e38))
      have y40 : (ju (ju M21 598 100 0) 598 101 0) 598 79 = v35 := ((ju_i _ _ (by decide)).trans ((ju_i _ _ (by decide)).trans e35))
      have y41 : (ju (ju M21 598 100 0) 598 101 0) 598 80 = v6 := ((ju_i _ _ (by decide)).trans ((ju_i _ _ (by decide)).trans e32))
      have y43 : (ju (ju M21 598 100 0) 598 101 0) 598 81 = v15 := ((ju_i _ _ (by decide)).trans ((ju_i _ _ (by decide)).trans e42))
      have y45 : (ju (ju M21 598 100 0) 598 101 0) 598 89 = v17 := ((ju_i _ _ (by decide)).trans ((ju_i _ _ (by decide)).trans e44))
      have y47 : (ju (ju M21 598 100 0) 598 101 0) 598 90 = v3 := ((ju_i _ _ (by decide)).trans ((ju_i _ _ (by decide)).trans e46))
      have y48 : (ju (ju M21 598 100 0) 598 101 0) 598 100 = 0 := ((ju_i _ _ (by decide)).trans (ju_same _ _ _ _))
      have y49 : (ju (ju M21 598 100 0) 598 101 0) 598 101 = 0 := (ju_same _ _ _ _)
      have y50 : (ju (ju M21 598 100 0) 598 101 0) 598 107 = v28 := ((ju_i _ _ (by decide)).trans ((ju_i _ _ (by decide)).trans e33))
      have tb51 : TK (ju (ju M21 598 100 0) 598 101 0) = TK M21 := ((TK.o (Or.inr ⟨by decide, by decide⟩)).trans ((TK.o (Or.inr ⟨by decide, by decide⟩)).trans rfl))
      have x51_72 := w51_51 72 (by decide) (by decide) (by decide) (by decide) (by decide) (by decide) (by decide) (by decide) (by decide) (by decide) (by decide)
      have x51_89 := w51_51 89 (by decide) (by decide) (by decide) (by decide) (by decide) (by decide) (by decide) (by decide) (by decide) (by decide) (by decide)
      have x51_101 := w51_51 101 (by decide) (by decide) (by decide) (by decide) (by decide) (by decide) (by decide) (by decide) (by decide) (by decide) (by decide)
      have x51_88 := w51_51 88 (by decide) (by decide) (by decide) (by decide) (by decide) (by decide) (by decide) (by decide) (by decide) (by decide) (by decide)
      have x51_96 := w51_51 96 (by decide) (by decide) (by decide) (by decide) (by decide) (by decide) (by decide) (by decide) (by decide) (by decide) (by decide)
      have x51_90 := w51_51 90 (by decide) (by decide) (by decide) (by decide) (by decide) (by decide) (by decide) (by decide) (by decide) (by decide) (by decide)
      have zfz : zr f N xs (zft (M51 598 80) (M51 598 81)) := zr.rfz (zr.cbf hz hnm.2 (by omega) hnm.1 hzh qs51) q051 q151
      have e125 : M51 598 72 = v5 := ((w51_51 72 (by decide) (by decide) (by decide) (by decide) (by decide) (by decide) (by decide) (by decide) (by decide) (by decide) (by decide)).trans ((ju_i _ _ (by decide)).trans ((ju_i _ _ (by decide)).trans e31)))
      have y126 : M51 598 72 = v5 := e125
      obtain ⟨v127, e127⟩ : ∃ z, M51 598 73 = z := ⟨_, rfl⟩
      have b127 : 0 ≤ v127 ∧ v127 ≤ 1600 := by rw [← e127]; exact hI_M51 598 73 (by decide)
      have y128 : M51 598 73 = v127 := e127
      obtain ⟨v129, e129⟩ : ∃ z, M51 598 74 = z := ⟨_, rfl⟩
      have b129 : 0 ≤ v129 ∧ v129 ≤ 4 := by rw [← e129]; exact hI_M51 598 74 (by decide)
      have y130 : M51 598 74 = v129 := e129
      obtain ⟨v131, e131⟩ : ∃ z, M51 598 79 = z := ⟨_, rfl⟩
      have b131 : 0 ≤ v131 ∧ v131 ≤ 255 := by rw [← e131]; exact hI_M51 598 79 (by decide)
      have y132 : M51 598 79 = v131 := e131
      obtain ⟨v133, e133⟩ : ∃ z, M51 598 80 = z := ⟨_, rfl⟩
      have b133 : 0 ≤ v133 ∧ v133 ≤ 7 := by rw [← e133]; exact hI_M51 598 80 (by decide)
      have y134 : M51 598 80 = v133 := e133
      have e135 : M51 598 89 = v17 := ((w51_51 89 (by decide) (by decide) (by decide) (by decide) (by decide) (by decide) (by decide) (by decide) (by decide) (by decide) (by decide)).trans ((ju_i _ _ (by decide)).trans ((ju_i _ _ (by decide)).trans e44)))
      have y136 : M51 598 89 = v17 := e135
      have e137 : M51 598 90 = v3 := ((w51_51 90 (by decide) (by decide) (by decide) (by decide) (by decide) (by decide) (by decide) (by decide) (by decide) (by decide) (by decide)).trans ((ju_i _ _ (by decide)).trans ((ju_i _ _ (by decide)).trans e46)))
      have y138 : M51 598 90 = v3 := e137
      obtain ⟨v139, e139⟩ : ∃ z, M 598 96 = z := ⟨_, rfl⟩
      have b139 : 0 ≤ v139 ∧ v139 ≤ 300 := by rw [← e139]; exact hI_M 598 96 (by decide)
      have e140 : M21 598 96 = v139 := ((w21_51 96 (by decide) (by decide) (by decide) (by decide) (by decide) (by decide) (by decide)).trans ((ju_i _ _ (by decide)).trans ((ju_c _ _ (by decide)).trans ((ju_c _ _ (by decide)).trans ((ju_c _ _ (by decide)).trans e139)))))
      have e141 : M51 598 96 = v139 := ((w51_51 96 (by decide) (by decide) (by decide) (by decide) (by decide) (by decide) (by decide) (by decide) (by decide) (by decide) (by decide)).trans ((ju_i _ _ (by decide)).trans ((ju_i _ _ (by decide)).trans e140)))
      have y142 : M51 598 96 = v139 := e141
      obtain ⟨v143, e143⟩ : ∃ z, M51 598 100 = z := ⟨_, rfl⟩
      have b143 : 0 ≤ v143 ∧ v143 ≤ 13 := by rw [← e143]; exact hI_M51 598 100 (by decide)
      have y144 : M51 598 100 = v143 := e143
      obtain ⟨v145, e145⟩ : ∃ z, M51 598 107 = z := ⟨_, rfl⟩
      have b145 : 0 ≤ v145 ∧ v145 ≤ 16 := by rw [← e145]; exact hI_M51 598 107 (by decide)
      have y146 : M51 598 107 = v145 := e145
      have y147 : M51 598 80 = v133 := e133
      have e148 : M21 598 88 = v1 + 1 := ((w21_51 88 (by decide) (by decide) (by decide) (by decide) (by decide) (by decide) (by decide)).trans (ju_same _ _ _ _))
      have e149 : M51 598 88 = v1 + 1 := ((w51_51 88 (by decide) (by decide) (by decide) (by decide) (by decide) (by decide) (by decide) (by decide) (by decide) (by decide) (by decide)).trans ((ju_i _ _ (by decide)).trans ((ju_i _ _ (by decide)).trans e148)))
      obtain ⟨v150, e150⟩ : ∃ z, M51 598 75 = z := ⟨_, rfl⟩
      have b150 : 0 ≤ v150 ∧ v150 ≤ 1600 := by rw [← e150]; exact hI_M51 598 75 (by decide)
      have y151 : M51 598 75 = v150 := e150
      have y152 : M51 598 80 = v133 := e133
      obtain ⟨v153, e153⟩ : ∃ z, M51 598 81 = z := ⟨_, rfl⟩
      have b153 : (-1) ≤ v153 ∧ v153 ≤ 1600 := by rw [← e153]; exact hI_M51 598 81 (by decide)
      have y154 : M51 598 81 = v153 := e153
      have y155 : M51 598 89 = v17 := e135
      have y156 : M51 598 96 = v139 := e141
      have y157 : M51 598 100 = v143 := e143
      have e158 : M51 598 101 = 0 := ((w51_51 101 (by decide) (by decide) (by decide) (by decide) (by decide) (by decide) (by decide) (by decide) (by decide) (by decide) (by decide)).trans (ju_same _ _ _ _))
      have y159 : M51 598 101 = 0 := e158
      have y160 : M51 598 107 = v145 := e145
      have y161 : M51 598 75 = v150 := e150
      have y162 : M51 598 80 = v133 := e133
      have y163 : M51 598 81 = v153 := e153
      have y164 : M51 598 89 = v17 := e135
      have y165 : M51 598 96 = v139 := e141
      have y166 : M51 598 100 = v143 := e143
      have y167 : M51 598 101 = 0 := e158
      have y168 : M51 598 107 = v145 := e145
      have y169 : M51 598 75 = v150 := e150
      have y170 : M51 598 80 = v133 := e133
      have y171 : M51 598 81 = v153 := e153
      have y172 : M51 598 89 = v17 := e135
      have y173 : M51 598 96 = v139 := e141
      have y174 : M51 598 100 = v143 := e143
      have y175 : M51 598 101 = 0 := e158
      have y176 : M51 598 107 = v145 := e145
      have y177 : M51 598 75 = v150 := e150
      have y178 : M51 598 80 = v133 := e133
      have y179 : M51 598 81 = v153 := e153
      have y180 : M51 598 89 = v17 := e135
      have y181 : M51 598 96 = v139 := e141
      have y182 : M51 598 100 = v143 := e143
      have y183 : M51 598 101 = 0 := e158
      have y184 : M51 598 107 = v145 := e145
      have y185 : M51 598 75 = v150 := e150
      have y186 : M51 598 80 = v133 := e133
      have y187 : M51 598 81 = v153 := e153
      have y188 : M51 598 89 = v17 := e135
      have y189 : M51 598 96 = v139 := e141
      have y190 : M51 598 100 = v143 := e143
      have y191 : M51 598 101 = 0 := e158
      have y192 : M51 598 107 = v145 := e145
      refine jr.pick [0] rfl rfl ?_
      have y193 : M51 598 80 = v133 := e133
      exact r_chain_L148_z (dd := dd) (ak := []) (zs := []) (zb := 0) (zd := 0) q 3203 M51  hI_M51 hH_M51 hS_M51  (fun a i f598 f659 f660 f661 f662 f663 f664 f665 f666 f667 f668 f669 f656 f657 f658 => ((w51_50 a i f598 f668 f669).trans ((ju_c _ _ f598).trans ((ju_c _ _ f598).trans ((w21_50 a i f598).trans ((ju_c _ _ f598).trans ((ju_c _ _ f658).trans ((ju_c _ _ f657).trans ((ju_c _ _ f656).trans (hF_M a i f598 f659 f660 f661 f662 f663 f664 f665 f666 f667 f668 f669 f656 f657 f658)))))))))) (fun i g73 g74 g75 g76 g77 g78 g79 g80 g81 g89 g90 g96 g100 g102 g107 g88 g101 => ((w51_51 i g73 g74 g75 g76 g77 g78 g79 g80 g81 g100 g107).trans ((ju_i _ _ g101).trans ((ju_i _ _ g100).trans ((w21_51 i g73 g74 g75 g76 g77 g78 g79).trans ((ju_i _ _ g88).trans ((ju_c _ _ (by decide)).trans ((ju_c _ _ (by decide)).trans ((ju_c _ _ (by decide)).trans (hG_M i g73 g74 g75 g76 g77 g78 g79 g80 g81 g89 g90 g96 g100 g102 g107 g88 g101))))))))))  (Or.inl ⟨by omega, by omega⟩) (by rw [e127, e125] <;> omega) (by omega) (by omega) (by rw [e149] <;> omega) hT51 (fun _ => zr.fe zfz (by omega) (by omega)) (NMr.fr (NMr.fr (NMr.fr hNM2 (fun i => ju_c _ _ (by decide)) (ju_i _ _ (by decide))) (fun i => ju_c _ _ (by decide)) (ju_i _ _ (by decide))) (fun i => w51_50 656 i (by decide) (by decide) (by decide)) (w51_51 88 (by decide) (by decide) (by decide) (by decide) (by decide) (by decide) (by decide) (by decide) (by decide) (by decide) (by decide))) (fun q => by exfalso; omega) (fun q => by omega) (by have t := TK.le (M := M51) (by omega); omega)
set_option maxHeartbeats 8000000 in
theorem r_chain_L37_z {A : Nat → Option (Nat × (Nat → Int32))} {Q : Option Value → jm → Prop} {f : Int → Int} {N : Int} {xs : ZS} {t zd zb : Int} {zs : List (Int × Int × Int × Int)} {nm ak : List Int} {dd : Int} {M0 : jm} (q : ∀ (M' : jm), RI M' → RH M' → RF M' → (BT M' ∨ (DS M' 1 ∧ M' 598 107 = 0 ∧ TK M' < TK M0 ∧ 1 ≤ M' 598 88 ∧ 1 ≤ M' 598 90 ∧ M' 659 (M' 598 90 - 1) = 3)) → TK M' ≤ TK M0 → M' 598 73 ≤ M' 598 72 → (M' 598 80 ≠ 0 ∨ TK M' < TK M0) → TXr f N M' → ZFQ f N xs M' → ZCPQ f N xs M' → K8Q M0 M' → (∀ (a : Nat) (i : Int), a ≠ 598 → a ≠ 659 → a ≠ 660 → a ≠ 661 → a ≠ 662 → a ≠ 663 → a ≠ 664 → a ≠ 665 → a ≠ 666 → a ≠ 667 → a ≠ 668 → a ≠ 669 → a ≠ 656 → a ≠ 657 → a ≠ 658 → M' a i = M0 a i) → (∀ (i : Int), i ≠ 73 → i ≠ 74 → i ≠ 75 → i ≠ 76 → i ≠ 77 → i ≠ 78 → i ≠ 79 → i ≠ 80 → i ≠ 81 → i ≠ 89 → i ≠ 90 → i ≠ 96 → i ≠ 100 → i ≠ 102 → i ≠ 107 → i ≠ 88 → i ≠ 101 → M' 598 i = M0 598 i) → Q none M') : ∀ (nM : Nat) (M : jm) (k : Int), RI M → RH M → RF M → (∀ (a : Nat) (i : Int), a ≠ 598 → a ≠ 659 → a ≠ 660 → a ≠ 661 → a ≠ 662 → a ≠ 663 → a ≠ 664 → a ≠ 665 → a ≠ 666 → a ≠ 667 → a ≠ 668 → a ≠ 669 → a ≠ 656 → a ≠ 657 → a ≠ 658 → M a i = M0 a i) → (∀ (i : Int), i ≠ 73 → i ≠ 74 → i ≠ 75 → i ≠ 76 → i ≠ 77 → i ≠ 78 → i ≠ 79 → i ≠ 80 → i ≠ 81 → i ≠ 89 → i ≠ 90 → i ≠ 96 → i ≠ 100 → i ≠ 102 → i ≠ 107 → i ≠ 88 → i ≠ 101 → M 598 i = M0 598 i) → 0 ≤ k ∧ k ≤ 16 → XS M 0 0 dd 0 (-1) → AK M → LB M → M 598 96 ≤ M 598 89 ∧ M 598 89 ≤ 300 → M 598 73 ≤ M 598 72 → M 598 107 = 0 → 0 ≤ M 598 88 ∧ M 598 88 ≤ 15 → (M 598 74 = 3 → M 598 79 ≠ 10 ∧ M 598 79 ≠ 11) → TK M < TK M0 → M 598 74 = 1 → TKr f N (znx f N t) M → zr f N xs (0, t, M 598 89, zd, 0, zb, zs, nm, ak) → NMr f N M nm → AKr f N M ak → (zso f N (znx f N t) = 1 ∧ (zwd f N (znx f N t) = -1 ∨ 45 ≤ zwd f N (znx f N t))) ∧ zso f N t = 1 ∧ zwd f N t = 0 → CHQ M0 M (znx f N t) k → k ≤ M 598 88 → 16 - k ≤ nM → jr A 8 xm_369 37 [(1, .int (Int32.ofInt (k))), (0, .ref (598))] [] M Q := by
  intro nM
  induction nM using Nat.strongRecOn with
  | ind nM ih =>
    intro M k hI_M hH_M hS_M hF_M hG_M h_k hy0 hy1 hy2 hy3 hy4 hy5 hy6 hy7 hy8 hy9 hy10 hy11 hy12 hy13 hy14 hy15 hy16 hm
    have hX := hy0
    have hA := hy1
    have hB := hy2
    have dpx := XS.dep hy0
    have sl := XS.sgle hy0
    have kb := XS.kz hy0
    have bM_107 : (0 : Int) ≤ M 598 107 ∧ M 598 107 ≤ 16 := hI_M 598 107 (by decide)
    have bM_73 : (0 : Int) ≤ M 598 73 ∧ M 598 73 ≤ 1600 := hI_M 598 73 (by decide)
    have bM_88 : (0 : Int) ≤ M 598 88 ∧ M 598 88 ≤ 16 := hI_M 598 88 (by decide)
    have bM_100 : (0 : Int) ≤ M 598 100 ∧ M 598 100 ≤ 13 := hI_M 598 100 (by decide)
    have hK := hy10
    have kk0 := hK.kz
    have hT := hK.1
    have hz := hy11
    have hNM := hy12
    have hAK := hy13
    have hnm := hy14
    have hnl := hNM.1
    rcases hy15 with zg | zb
    · obtain ⟨zg0, zg1, hF0⟩ := zg
      refine jr.iload_n rfl rfl ?_
      refine jr.aload_n rfl rfl ?_
      obtain ⟨v1, e1⟩ : ∃ z, M 598 88 = z := ⟨_, rfl⟩
      have b1 : 0 ≤ v1 ∧ v1 ≤ 16 := by rw [← e1]; exact hI_M 598 88 (by decide)
      refine jr.getf (i := 88) (x := v1) (v := .int (Int32.ofInt (v1))) rfl rfl (by decide) rfl (by decide) rfl rfl e1 rfl ?_
      refine jr.icmp_ge rfl rfl (by omega) (by omega) (fun h42 => ?_) (fun h42 => ?_)
      · refine jr.aload_n rfl rfl ?_
        obtain ⟨v2, e2⟩ : ∃ z, M 598 80 = z := ⟨_, rfl⟩
        have b2 : 0 ≤ v2 ∧ v2 ≤ 7 := by rw [← e2]; exact hI_M 598 80 (by decide)
        refine jr_v rfl rfl (Or.inl rfl) rfl rfl (by decide) rfl ⟨rfl, Nat.le_of_ble_eq_true rfl, Nat.le_of_ble_eq_true rfl⟩ rfl (jc.deep (c_good hI_M  (fun t75_0 => ?_) (fun f75_0 => ?_)) (by decide))
        · refine jr.if_ne rfl rfl (by omega) (fun _ => ?_) (fun h => absurd (by decide) h)
          obtain ⟨v3, e3⟩ : ∃ z, M 598 96 = z := ⟨_, rfl⟩
          have b3 : 0 ≤ v3 ∧ v3 ≤ 300 := by rw [← e3]; exact hI_M 598 96 (by decide)
          obtain ⟨v4, e4⟩ : ∃ z, M 598 89 = z := ⟨_, rfl⟩
          have b4 : 0 ≤ v4 ∧ v4 ≤ 301 := by rw [← e4]; exact hI_M 598 89 (by decide)
          obtain ⟨v5, e5⟩ : ∃ z, M 598 73 = z := ⟨_, rfl⟩
          have b5 : 0 ≤ v5 ∧ v5 ≤ 1600 := by rw [← e5]; exact hI_M 598 73 (by decide)
          obtain ⟨v6, e6⟩ : ∃ z, M 598 72 = z := ⟨_, rfl⟩
          have b6 : 0 ≤ v6 ∧ v6 ≤ 1600 := by rw [← e6]; exact hI_M 598 72 (by decide)
          obtain ⟨v7, e7⟩ : ∃ z, M 598 107 = z := ⟨_, rfl⟩
          have b7 : 0 ≤ v7 ∧ v7 ≤ 16 := by rw [← e7]; exact hI_M 598 107 (by decide)
          obtain ⟨v8, e8⟩ : ∃ z, M 598 74 = z := ⟨_, rfl⟩
          have b8 : 0 ≤ v8 ∧ v8 ≤ 4 := by rw [← e8]; exact hI_M 598 74 (by decide)
          obtain ⟨v9, e9⟩ : ∃ z, M 598 79 = z := ⟨_, rfl⟩
          have b9 : 0 ≤ v9 ∧ v9 ≤ 255 := by rw [← e9]; exact hI_M 598 79 (by decide)
          refine jr.pick [1] rfl rfl ?_
          exact r_chain_L82_z q M  hI_M hH_M hS_M  (fun a i f598 f659 f660 f661 f662 f663 f664 f665 f666 f667 f668 f669 f656 f657 f658 => (hF_M a i f598 f659 f660 f661 f662 f663 f664 f665 f666 f667 f668 f669 f656 f657 f658)) (fun i g73 g74 g75 g76 g77 g78 g79 g80 g81 g89 g90 g96 g100 g102 g107 g88 g101 => (hG_M i g73 g74 g75 g76 g77 g78 g79 g80 g81 g89 g90 g96 g100 g102 g107 g88 g101))  hX hA hB (by rw [e3, e4] <;> omega) (by rw [e5, e6] <;> omega) (by rw [e7] <;> omega) (by rw [e1] <;> omega) (by rw [e8, e9] <;> omega) (by omega) (by rw [e8] <;> omega) (by rw [e2] <;> omega) hK hz hNM hAK hnm (NMr.nf hNM (hK.wz (by omega)).2.2 (fun j j0 j1 => hF0 j j0 (by omega))) (by omega)
        · exfalso
          omega
      · refine jr.aload_n rfl rfl ?_
        refine jr.getf (i := 91) (v := .ref 656) rfl rfl (by decide) rfl (by decide) rfl rfl rfl rfl ?_
        refine jr.iload_n rfl rfl ?_
        obtain ⟨v10, e10⟩ : ∃ z, M 656 k = z := ⟨_, rfl⟩
        have b10 : (-9223372036854775808) ≤ v10 ∧ v10 ≤ 9223372036854775807 := by rw [← e10]; exact (by have q := hI_M 656 k (by decide); rw [xri_row rfl rfl] at q; exact q)
        refine jr.lald (i := k) (x := v10) rfl (by decide) rfl (by decide) (by omega) (by omega) e10 ?_
        refine jr.aload_n rfl rfl ?_
        obtain ⟨v11, e11⟩ : ∃ z, M 598 77 = z := ⟨_, rfl⟩
        have b11 : (-9223372036854775808) ≤ v11 ∧ v11 ≤ 9223372036854775807 := by rw [← e11]; exact hI_M 598 77 (by decide)
        refine jr.getf (i := 77) (x := v11) (v := .long (Int64.ofInt (v11))) rfl rfl (by decide) rfl (by decide) rfl rfl e11 rfl ?_
        refine jr.lcmp_ne rfl rfl rfl (by omega) (by omega) (fun h55 => ?_) (fun h55 => ?_)
        · refine jr.iinc rfl rfl (by decide) rfl ?_
          refine jr.goto rfl rfl ?_
          obtain ⟨v12, e12⟩ : ∃ z, M 598 96 = z := ⟨_, rfl⟩
          have b12 : 0 ≤ v12 ∧ v12 ≤ 300 := by rw [← e12]; exact hI_M 598 96 (by decide)
          obtain ⟨v13, e13⟩ : ∃ z, M 598 89 = z := ⟨_, rfl⟩
          have b13 : 0 ≤ v13 ∧ v13 ≤ 301 := by rw [← e13]; exact hI_M 598 89 (by decide)
          obtain ⟨v14, e14⟩ : ∃ z, M 598 73 = z := ⟨_, rfl⟩
          have b14 : 0 ≤ v14 ∧ v14 ≤ 1600 := by rw [← e14]; exact hI_M 598 73 (by decide)
          obtain ⟨v15, e15⟩ : ∃ z, M 598 72 = z := ⟨_, rfl⟩
          have b15 : 0 ≤ v15 ∧ v15 ≤ 1600 := by rw [← e15]; exact hI_M 598 72 (by decide)
          obtain ⟨v16, e16⟩ : ∃ z, M 598 107 = z := ⟨_, rfl⟩
          have b16 : 0 ≤ v16 ∧ v16 ≤ 16 := by rw [← e16]; exact hI_M 598 107 (by decide)
          obtain ⟨v17, e17⟩ : ∃ z, M 598 74 = z := ⟨_, rfl⟩
          have b17 : 0 ≤ v17 ∧ v17 ≤ 4 := by rw [← e17]; exact hI_M 598 74 (by decide)
          obtain ⟨v18, e18⟩ : ∃ z, M 598 79 = z := ⟨_, rfl⟩
          have b18 : 0 ≤ v18 ∧ v18 ≤ 255 := by rw [← e18]; exact hI_M 598 79 (by decide)
          obtain ⟨v19, e19⟩ : ∃ z, M 598 75 = z := ⟨_, rfl⟩
          have b19 : 0 ≤ v19 ∧ v19 ≤ 1600 := by rw [← e19]; exact hI_M 598 75 (by decide)
          have y20 : M 598 75 = v19 := e19
          have y21 : M 598 77 = v11 := e11
          obtain ⟨v22, e22⟩ : ∃ z, M 598 80 = z := ⟨_, rfl⟩
          have b22 : 0 ≤ v22 ∧ v22 ≤ 7 := by rw [← e22]; exact hI_M 598 80 (by decide)
          have y23 : M 598 80 = v22 := e22
          obtain ⟨v24, e24⟩ : ∃ z, M 598 81 = z := ⟨_, rfl⟩
          have b24 : (-1) ≤ v24 ∧ v24 ≤ 1600 := by rw [← e24]; exact hI_M 598 81 (by decide)
          have y25 : M 598 81 = v24 := e24
          have y26 : M 598 89 = v13 := e13
          have y27 : M 598 96 = v12 := e12
          obtain ⟨v28, e28⟩ : ∃ z, M 598 100 = z := ⟨_, rfl⟩
          have b28 : 0 ≤ v28 ∧ v28 ≤ 13 := by rw [← e28]; exact hI_M 598 100 (by decide)
          have y29 : M 598 100 = v28 := e28
          obtain ⟨v30, e30⟩ : ∃ z, M 598 101 = z := ⟨_, rfl⟩
          have b30 : 0 ≤ v30 ∧ v30 ≤ 1 := by rw [← e30]; exact hI_M 598 101 (by decide)
          have y31 : M 598 101 = v30 := e30
          have y32 : M 598 107 = v16 := e16
          have y33 : M 598 75 = v19 := e19
          have y34 : M 598 77 = v11 := e11
          have y35 : M 598 80 = v22 := e22
          have y36 : M 598 81 = v24 := e24
          have y37 : M 598 89 = v13 := e13
          have y38 : M 598 96 = v12 := e12
          have y39 : M 598 100 = v28 := e28
          have y40 : M 598 101 = v30 := e30
          have y41 : M 598 107 = v16 := e16
          have y42 : M 598 75 = v19 := e19
          have y43 : M 598 77 = v11 := e11
          have y44 : M 598 80 = v22 := e22
          have y45 : M 598 81 = v24 := e24
          have y46 : M 598 89 = v13 := e13
          have y47 : M 598 96 = v12 := e12
          have y48 : M 598 100 = v28 := e28
          have y49 : M 598 101 = v30 := e30
          have y50 : M 598 107 = v16 := e16
          refine jr.pick [0, 1] rfl rfl ?_
          exact ih (nM - 1) (by omega) M (k + 1) hI_M hH_M hS_M  (fun a i f598 f659 f660 f661 f662 f663 f664 f665 f666 f667 f668 f669 f656 f657 f658 => (hF_M a i f598 f659 f660 f661 f662 f663 f664 f665 f666 f667 f668 f669 f656 f657 f658)) (fun i g73 g74 g75 g76 g77 g78 g79 g80 g81 g89 g90 g96 g100 g102 g107 g88 g101 => (hG_M i g73 g74 g75 g76 g77 g78 g79 g80 g81 g89 g90 g96 g100 g102 g107 g88 g101)) (by omega) hX hA hB (by rw [e12, e13] <;> omega) (by rw [e14, e15] <;> omega) (by rw [e16] <;> omega) (by rw [e1] <;> omega) (by rw [e17, e18] <;> omega) (by omega) (by rw [e17] <;> omega) hK (zr.eqx hz rfl rfl (by omega) rfl rfl rfl) hNM hAK hnm (Or.inl ⟨by omega, by omega, fun j j0 j1 => by by_cases hj : j = k; (rw [hj, e10, e11]; omega); (exact hF0 j j0 (by omega))⟩) (by rw [e1] <;> omega) (by omega)
        · refine jr.aload_n rfl rfl ?_
          refine jr.iconst rfl ?_
          refine jr.aload_n rfl rfl ?_
          obtain ⟨v51, e51⟩ : ∃ z, M 598 75 = z := ⟨_, rfl⟩
          have b51 : 0 ≤ v51 ∧ v51 ≤ 1600 := by rw [← e51]; exact hI_M 598 75 (by decide)
          refine jr.getf (i := 75) (x := v51) (v := .int (Int32.ofInt (v51))) rfl rfl (by decide) rfl (by decide) rfl rfl e51 rfl ?_
          obtain ⟨v52, e52⟩ : ∃ z, M 598 80 = z := ⟨_, rfl⟩
          have b52 : 0 ≤ v52 ∧ v52 ≤ 7 := by rw [← e52]; exact hI_M 598 80 (by decide)
          obtain ⟨v53, e53⟩ : ∃ z, M 598 89 = z := ⟨_, rfl⟩
          have b53 : 0 ≤ v53 ∧ v53 ≤ 301 := by rw [← e53]; exact hI_M 598 89 (by decide)
          obtain ⟨v54, e54⟩ : ∃ z, M 598 100 = z := ⟨_, rfl⟩
          have b54 : 0 ≤ v54 ∧ v54 ≤ 13 := by rw [← e54]; exact hI_M 598 100 (by decide)
          obtain ⟨v55, e55⟩ : ∃ z, M 598 81 = z := ⟨_, rfl⟩
          have b55 : (-1) ≤ v55 ∧ v55 ≤ 1600 := by rw [← e55]; exact hI_M 598 81 (by decide)
          obtain ⟨v57, e57⟩ : ∃ z, M 598 73 = z := ⟨_, rfl⟩
          have b57 : 0 ≤ v57 ∧ v57 ≤ 1600 := by rw [← e57]; exact hI_M 598 73 (by decide)
          obtain ⟨v59, e59⟩ : ∃ z, M 598 74 = z := ⟨_, rfl⟩
          have b59 : 0 ≤ v59 ∧ v59 ≤ 4 := by rw [← e59]; exact hI_M 598 74 (by decide)
          refine jr_v rfl rfl (Or.inl rfl) rfl rfl (by decide) rfl ⟨rfl, Nat.le_of_ble_eq_true rfl, Nat.le_of_ble_eq_true rfl⟩ rfl (jc.deep (c_fails_z (f := f) (N := N) hI_M hH_M hS_M (by omega) (by omega) (by rw [e52]; omega) (fun M56 hI_M56 hH_M56 hS_M56 qn56 q056 q156 w56_50 w56_51 => ?_)) (by decide))
          have tk56 : TK M56 = TK M := TK.fr (w56_51 73 (by decide) (by decide)) (w56_51 74 (by decide) (by decide))
          have x56_72 := w56_51 72 (by decide) (by decide)
          have x56_73 := w56_51 73 (by decide) (by decide)
          have x56_74 := w56_51 74 (by decide) (by decide)
          have x56_75 := w56_51 75 (by decide) (by decide)
          have x56_76 := w56_51 76 (by decide) (by decide)
          have x56_78 := w56_51 78 (by decide) (by decide)
          have x56_79 := w56_51 79 (by decide) (by decide)
          have x56_89 := w56_51 89 (by decide) (by decide)
          have x56_100 := w56_51 100 (by decide) (by decide)
          have y58 : M 598 73 = v57 := e57
          have y60 : M 598 74 = v59 := e59
          have y61 : M 598 89 = v53 := e53
          have y62 : M 598 100 = v54 := e54
          have x56_73 := w56_51 73 (by decide) (by decide)
          have x56_74 := w56_51 74 (by decide) (by decide)
          have x56_89 := w56_51 89 (by decide) (by decide)
          have x56_100 := w56_51 100 (by decide) (by decide)
          have hX := XS.fr2 hX w56_50 (w56_51 88 (by decide) (by decide)) (w56_51 90 (by decide) (by decide)) (w56_51 101 (by decide) (by decide)) (w56_51 107 (by decide) (by decide)) (k' := 0) (d' := dd) (z' := 0) (by omega) (by omega) (by omega) (by omega)
          have hA := AK.cp hA (CP.f (CP.rfl _) (fun i => w56_50 659 i (by decide)) (w56_51 90 (by decide) (by decide))) (fun i => w56_50 663 i (by decide)) (w56_51 96 (by decide) (by decide))
          have hB := LB.fr hB (fun i => w56_50 659 i (by decide)) (w56_51 90 (by decide) (by decide))
          have x56_101 := w56_51 101 (by decide) (by decide)
          have x56_107 := w56_51 107 (by decide) (by decide)
          have x56_88 := w56_51 88 (by decide) (by decide)
          have x56_96 := w56_51 96 (by decide) (by decide)
          refine jr.iinc rfl rfl (by decide) rfl ?_
          refine jr.goto rfl rfl ?_
          obtain ⟨v63, e63⟩ : ∃ z, M 598 96 = z := ⟨_, rfl⟩
          have b63 : 0 ≤ v63 ∧ v63 ≤ 300 := by rw [← e63]; exact hI_M 598 96 (by decide)
          have e64 : M56 598 96 = v63 := ((w56_51 96 (by decide) (by decide)).trans e63)
          have e65 : M56 598 89 = v53 := ((w56_51 89 (by decide) (by decide)).trans e53)
          have e66 : M56 598 73 = v57 := ((w56_51 73 (by decide) (by decide)).trans e57)
          obtain ⟨v67, e67⟩ : ∃ z, M 598 72 = z := ⟨_, rfl⟩
          have b67 : 0 ≤ v67 ∧ v67 ≤ 1600 := by rw [← e67]; exact hI_M 598 72 (by decide)
          have e68 : M56 598 72 = v67 := ((w56_51 72 (by decide) (by decide)).trans e67)
          obtain ⟨v69, e69⟩ : ∃ z, M 598 107 = z := ⟨_, rfl⟩
          have b69 : 0 ≤ v69 ∧ v69 ≤ 16 := by rw [← e69]; exact hI_M 598 107 (by decide)
          have e70 : M56 598 107 = v69 := ((w56_51 107 (by decide) (by decide)).trans e69)
          have e71 : M56 598 88 = v1 := ((w56_51 88 (by decide) (by decide)).trans e1)
          have e72 : M56 598 74 = v59 := ((w56_51 74 (by decide) (by decide)).trans e59)
          obtain ⟨v73, e73⟩ : ∃ z, M 598 79 = z := ⟨_, rfl⟩
          have b73 : 0 ≤ v73 ∧ v73 ≤ 255 := by rw [← e73]; exact hI_M 598 79 (by decide)
          have e74 : M56 598 79 = v73 := ((w56_51 79 (by decide) (by decide)).trans e73)
          have e75 : M56 598 75 = v51 := ((w56_51 75 (by decide) (by decide)).trans e51)
          have y76 : M56 598 75 = v51 := e75
          have e77 : M56 598 77 = v11 := ((w56_51 77 (by decide) (by decide)).trans e11)
          have y78 : M56 598 77 = v11 := e77
          obtain ⟨v79, e79⟩ : ∃ z, M56 598 80 = z := ⟨_, rfl⟩
          have b79 : 0 ≤ v79 ∧ v79 ≤ 7 := by rw [← e79]; exact hI_M56 598 80 (by decide)
          have y80 : M56 598 80 = v79 := e79
          obtain ⟨v81, e81⟩ : ∃ z, M56 598 81 = z := ⟨_, rfl⟩
          have b81 : (-1) ≤ v81 ∧ v81 ≤ 1600 := by rw [← e81]; exact hI_M56 598 81 (by decide)
          have y82 : M56 598 81 = v81 := e81
          have y83 : M56 598 89 = v53 := e65
          have y84 : M56 598 96 = v63 := e64
          have e85 : M56 598 100 = v54 := ((w56_51 100 (by decide) (by decide)).trans e54)
          have y86 : M56 598 100 = v54 := e85
          obtain ⟨v87, e87⟩ : ∃ z, M 598 101 = z := ⟨_, rfl⟩
          have b87 : 0 ≤ v87 ∧ v87 ≤ 1 := by rw [← e87]; exact hI_M 598 101 (by decide)
          have e88 : M56 598 101 = v87 := ((w56_51 101 (by decide) (by decide)).trans e87)
          have y89 : M56 598 101 = v87 := e88
          have y90 : M56 598 107 = v69 := e70
          have y91 : M56 598 75 = v51 := e75
          have y92 : M56 598 77 = v11 := e77
          have y93 : M56 598 80 = v79 := e79
          have y94 : M56 598 81 = v81 := e81
          have y95 : M56 598 89 = v53 := e65
          have y96 : M56 598 96 = v63 := e64
          have y97 : M56 598 100 = v54 := e85
          have y98 : M56 598 101 = v87 := e88
          have y99 : M56 598 107 = v69 := e70
          have y100 : M56 598 75 = v51 := e75
          have y101 : M56 598 77 = v11 := e77
          have y102 : M56 598 80 = v79 := e79
          have y103 : M56 598 81 = v81 := e81
          have y104 : M56 598 89 = v53 := e65
          have y105 : M56 598 96 = v63 := e64
          have y106 : M56 598 100 = v54 := e85
          have y107 : M56 598 101 = v87 := e88
          have y108 : M56 598 107 = v69 := e70
          refine jr.pick [0, 1] rfl rfl ?_
          exact ih (nM - 1) (by omega) M56 (k + 1) hI_M56 hH_M56 hS_M56  (fun a i f598 f659 f660 f661 f662 f663 f664 f665 f666 f667 f668 f669 f656 f657 f658 => ((w56_50 a i f598).trans (hF_M a i f598 f659 f660 f661 f662 f663 f664 f665 f666 f667 f668 f669 f656 f657 f658))) (fun i g73 g74 g75 g76 g77 g78 g79 g80 g81 g89 g90 g96 g100 g102 g107 g88 g101 => ((w56_51 i g80 g81).trans (hG_M i g73 g74 g75 g76 g77 g78 g79 g80 g81 g89 g90 g96 g100 g102 g107 g88 g101))) (by omega) hX hA hB (by rw [e64, e65] <;> omega) (by rw [e66, e68] <;> omega) (by rw [e70] <;> omega) (by rw [e71] <;> omega) (by rw [e72, e74] <;> omega) (by omega) (by rw [e72] <;> omega) (TKr.fr hK (w56_51 72 (by decide) (by decide)) (fun i => w56_50 651 i (by decide)) (fun i => w56_50 649 i (by decide)) (fun i => w56_50 650 i (by decide)) (w56_51 73 (by decide) (by decide)) (w56_51 74 (by decide) (by decide)) (w56_51 75 (by decide) (by decide)) (w56_51 76 (by decide) (by decide)) (w56_51 77 (by decide) (by decide)) (w56_51 78 (by decide) (by decide)) (w56_51 79 (by decide) (by decide))) (zr.eqx hz rfl rfl (by omega) rfl rfl rfl) (NMr.fr hNM (fun i => w56_50 656 i (by decide)) (w56_51 88 (by decide) (by decide))) (AKr.fr hAK (fun i => w56_50 661 i (by decide)) (fun i => w56_50 662 i (by decide)) (w56_51 96 (by decide) (by decide))) hnm (Or.inr ⟨by omega, by omega, k, by omega, by omega, by rw [w56_50 656 _ (by decide), e10, w56_51 77 (by decide) (by decide), e11]; omega⟩) (by rw [e71] <;> omega) (by omega)
    · obtain ⟨zb0, zb1, hEX⟩ := zb
      have zfz := zr.fe (zr.ctw hz hnm.2 (by omega) hnm.1 (NMr.nt hNM (hK.wz (by omega)).2.2 (by obtain ⟨j, j0, j1, j2⟩ := hEX; exact ⟨j, j0, by omega, j2⟩))) zb0 zb1
      refine jr.iload_n rfl rfl ?_
      refine jr.aload_n rfl rfl ?_
      obtain ⟨v109, e109⟩ : ∃ z, M 598 88 = z := ⟨_, rfl⟩
      have b109 : 0 ≤ v109 ∧ v109 ≤ 16 := by rw [← e109]; exact hI_M 598 88 (by decide)
      refine jr.getf (i := 88) (x := v109) (v := .int (Int32.ofInt (v109))) rfl rfl (by decide) rfl (by decide) rfl rfl e109 rfl ?_
      refine jr.icmp_ge rfl rfl (by omega) (by omega) (fun h42 => ?_) (fun h42 => ?_)
      · refine jr.aload_n rfl rfl ?_
        obtain ⟨v110, e110⟩ : ∃ z, M 598 80 = z := ⟨_, rfl⟩
        have b110 : 0 ≤ v110 ∧ v110 ≤ 7 := by rw [← e110]; exact hI_M 598 80 (by decide)
        refine jr_v rfl rfl (Or.inl rfl) rfl rfl (by decide) rfl ⟨rfl, Nat.le_of_ble_eq_true rfl, Nat.le_of_ble_eq_true rfl⟩ rfl (jc.deep (c_good hI_M  (fun t75_0 => ?_) (fun f75_0 => ?_)) (by decide))
        · exfalso
          omega
        · refine jr.if_ne rfl rfl (by omega) (fun h => absurd h (by decide)) (fun _ => ?_)
          obtain ⟨v111, e111⟩ : ∃ z, M 598 72 = z := ⟨_, rfl⟩
          have b111 : 0 ≤ v111 ∧ v111 ≤ 1600 := by rw [← e111]; exact hI_M 598 72 (by decide)
          have y112 : M 598 72 = v111 := e111
          obtain ⟨v113, e113⟩ : ∃ z, M 598 73 = z := ⟨_, rfl⟩
          have b113 : 0 ≤ v113 ∧ v113 ≤ 1600 := by rw [← e113]; exact hI_M 598 73 (by decide)
          have y114 : M 598 73 = v113 := e113
          have y115 : M 598 80 = v110 := e110
          obtain ⟨v116, e116⟩ : ∃ z, M 598 90 = z := ⟨_, rfl⟩
          have b116 : 0 ≤ v116 ∧ v116 ≤ 2200 := by rw [← e116]; exact hI_M 598 90 (by decide)
          have y117 : M 598 90 = v116 := e116
          obtain ⟨v118, e118⟩ : ∃ z, M 598 75 = z := ⟨_, rfl⟩
          have b118 : 0 ≤ v118 ∧ v118 ≤ 1600 := by rw [← e118]; exact hI_M 598 75 (by decide)
          have y119 : M 598 75 = v118 := e118
          have y120 : M 598 80 = v110 := e110
          obtain ⟨v121, e121⟩ : ∃ z, M 598 81 = z := ⟨_, rfl⟩
          have b121 : (-1) ≤ v121 ∧ v121 ≤ 1600 := by rw [← e121]; exact hI_M 598 81 (by decide)
          have y122 : M 598 81 = v121 := e121
          have y123 : M 598 88 = v109 := e109
          obtain ⟨v124, e124⟩ : ∃ z, M 598 89 = z := ⟨_, rfl⟩
          have b124 : 0 ≤ v124 ∧ v124 ≤ 301 := by rw [← e124]; exact hI_M 598 89 (by decide)
          have y125 : M 598 89 = v124 := e124
          obtain ⟨v126, e126⟩ : ∃ z, M 598 100 = z := ⟨_, rfl⟩
          have b126 : 0 ≤ v126 ∧ v126 ≤ 13 := by rw [← e126]; exact hI_M 598 100 (by decide)
          have y127 : M 598 100 = v126 := e126
          obtain ⟨v128, e128⟩ : ∃ z, M 598 101 = z := ⟨_, rfl⟩
          have b128 : 0 ≤ v128 ∧ v128 ≤ 1 := by rw [← e128]; exact hI_M 598 101 (by decide)
          have y129 : M 598 101 = v128 := e128
          obtain ⟨v130, e130⟩ : ∃ z, M 598 107 = z := ⟨_, rfl⟩
          have b130 : 0 ≤ v130 ∧ v130 ≤ 16 := by rw [← e130]; exact hI_M 598 107 (by decide)
          have y131 : M 598 107 = v130 := e130
          exact jr.vreturn rfl rfl (q _ hI_M hH_M hS_M  (Or.inl ⟨by omega, by omega⟩) (by omega) (by omega) (by omega) hT (fun _ => zr.fe zfz (by omega) (by omega)) (fun q => by exfalso; omega) (fun q => by omega) (fun a i f598 f659 f660 f661 f662 f663 f664 f665 f666 f667 f668 f669 f656 f657 f658 => (hF_M a i f598 f659 f660 f661 f662 f663 f664 f665 f666 f667 f668 f669 f656 f657 f658)) (fun i g73 g74 g75 g76 g77 g78 g79 g80 g81 g89 g90 g96 g100 g102 g107 g88 g101 => (hG_M i g73 g74 g75 g76 g77 g78 g79 g80 g81 g89 g90 g96 g100 g102 g107 g88 g101)))
      · refine jr.aload_n rfl rfl ?_
        refine jr.getf (i := 91) (v := .ref 656) rfl rfl (by decide) rfl (by decide) rfl rfl rfl rfl ?_
        refine jr.iload_n rfl rfl ?_
        obtain ⟨v132, e132⟩ : ∃ z, M 656 k = z := ⟨_, rfl⟩
        have b132 : (-9223372036854775808) ≤ v132 ∧ v132 ≤ 9223372036854775807 := by rw [← e132]; exact (by have q := hI_M 656 k (by decide); rw [xri_row rfl rfl] at q; exact q)
        refine jr.lald (i := k) (x := v132) rfl (by decide) rfl (by decide) (by omega) (by omega) e132 ?_
        refine jr.aload_n rfl rfl ?_
        obtain ⟨v133, e133⟩ : ∃ z, M 598 77 = z := ⟨_, rfl⟩
        have b133 : (-9223372036854775808) ≤ v133 ∧ v133 ≤ 9223372036854775807 := by rw [← e133]; exact hI_M 598 77 (by decide)
        refine jr.getf (i := 77) (x := v133) (v := .long (Int64.ofInt (v133))) rfl rfl (by decide) rfl (by decide) rfl rfl e133 rfl ?_
        refine jr.lcmp_ne rfl rfl rfl (by omega) (by omega) (fun h55 => ?_) (fun h55 => ?_)
        · refine jr.iinc rfl rfl (by decide) rfl ?_
          refine jr.goto rfl rfl ?_
          obtain ⟨v134, e134⟩ : ∃ z, M 598 96 = z := ⟨_, rfl⟩
          have b134 : 0 ≤ v134 ∧ v134 ≤ 300 := by rw [← e134]; exact hI_M 598 96 (by decide)
          obtain ⟨v135, e135⟩ : ∃ z, M 598 89 = z := ⟨_, rfl⟩
          have b135 : 0 ≤ v135 ∧ v135 ≤ 301 := by rw [← e135]; exact hI_M 598 89 (by decide)
          obtain ⟨v136, e136⟩ : ∃ z, M 598 73 = z := ⟨_, rfl⟩
          have b136 : 0 ≤ v136 ∧ v136 ≤ 1600 := by rw [← e136]; exact hI_M 598 73 (by decide)
          obtain ⟨v137, e137⟩ : ∃ z, M 598 72 = z := ⟨_, rfl⟩
          have b137 : 0 ≤ v137 ∧ v137 ≤ 1600 := by rw [← e137]; exact hI_M 598 72 (by decide)
          obtain ⟨v138, e138⟩ : ∃ z, M 598 107 = z := ⟨_, rfl⟩
          have b138 : 0 ≤ v138 ∧ v138 ≤ 16 := by rw [← e138]; exact hI_M 598 107 (by decide)
          obtain ⟨v139, e139⟩ : ∃ z, M 598 74 = z := ⟨_, rfl⟩
          have b139 : 0 ≤ v139 ∧ v139 ≤ 4 := by rw [← e139]; exact hI_M 598 74 (by decide)
          obtain ⟨v140, e140⟩ : ∃ z, M 598 79 = z := ⟨_, rfl⟩
          have b140 : 0 ≤ v140 ∧ v140 ≤ 255 := by rw [← e140]; exact hI_M 598 79 (by decide)
          obtain ⟨v141, e141⟩ : ∃ z, M 598 75 = z := ⟨_, rfl⟩
          have b141 : 0 ≤ v141 ∧ v141 ≤ 1600 := by rw [← e141]; exact hI_M 598 75 (by decide)
          have y142 : M 598 75 = v141 := e141
          have y143 : M 598 77 = v133 := e133
          obtain ⟨v144, e144⟩ : ∃ z, M 598 80 = z := ⟨_, rfl⟩
          have b144 : 0 ≤ v144 ∧ v144 ≤ 7 := by rw [← e144]; exact hI_M 598 80 (by decide)
          have y145 : M 598 80 = v144 := e144
          obtain ⟨v146, e146⟩ : ∃ z, M 598 81 = z := ⟨_, rfl⟩
          have b146 : (-1) ≤ v146 ∧ v146 ≤ 1600 := by rw [← e146]; exact hI_M 598 81 (by decide)
          have y147 : M 598 81 = v146 := e146
          have y148 : M 598 89 = v135 := e135
          have y149 : M 598 96 = v134 := e134
          obtain ⟨v150, e150⟩ : ∃ z, M 598 100 = z := ⟨_, rfl⟩
          have b150 : 0 ≤ v150 ∧ v150 ≤ 13 := by rw [← e150]; exact hI_M 598 100 (by decide)
          have y151 : M 598 100 = v150 := e150
          obtain ⟨v152, e152⟩ : ∃ z, M 598 101 = z := ⟨_, rfl⟩
          have b152 : 0 ≤ v152 ∧ v152 ≤ 1 := by rw [← e152]; exact hI_M 598 101 (by decide)
          have y153 : M 598 101 = v152 := e152
          have y154 : M 598 107 = v138 := e138
          have y155 : M 598 75 = v141 := e141
          have y156 : M 598 77 = v133 := e133
          have y157 : M 598 80 = v144 := e144
          have y158 : M 598 81 = v146 := e146
          have y159 : M 598 89 = v135 := e135
          have y160 : M 598 96 = v134 := e134
          have y161 : M 598 100 = v150 := e150
          have y162 : M 598 101 = v152 := e152
          have y163 : M 598 107 = v138 := e138
          have y164 : M 598 75 = v141 := e141
          have y165 : M 598 77 = v133 := e133
          have y166 : M 598 80 = v144 := e144
          have y167 : M 598 81 = v146 := e146
          have y168 : M 598 89 = v135 := e135
          have y169 : M 598 96 = v134 := e134
          have y170 : M 598 100 = v150 := e150
          have y171 : M 598 101 = v152 := e152
          have y172 : M 598 107 = v138 := e138
          refine jr.pick [0, 1] rfl rfl ?_
          exact ih (nM - 1) (by omega) M (k + 1) hI_M hH_M hS_M  (fun a i f598 f659 f660 f661 f662 f663 f664 f665 f666 f667 f668 f669 f656 f657 f658 => (hF_M a i f598 f659 f660 f661 f662 f663 f664 f665 f666 f667 f668 f669 f656 f657 f658)) (fun i g73 g74 g75 g76 g77 g78 g79 g80 g81 g89 g90 g96 g100 g102 g107 g88 g101 => (hG_M i g73 g74 g75 g76 g77 g78 g79 g80 g81 g89 g90 g96 g100 g102 g107 g88 g101)) (by omega) hX hA hB (by rw [e134, e135] <;> omega) (by rw [e136, e137] <;> omega) (by rw [e138] <;> omega) (by rw [e109] <;> omega) (by rw [e139, e140] <;> omega) (by omega) (by rw [e139] <;> omega) hK (zr.eqx hz rfl rfl (by omega) rfl rfl rfl) hNM hAK hnm (Or.inr ⟨by omega, by omega, by obtain ⟨j, j0, j1, j2⟩ := hEX; exact ⟨j, j0, by omega, j2⟩⟩) (by rw [e109] <;> omega) (by omega)
        · refine jr.aload_n rfl rfl ?_
          refine jr.iconst rfl ?_
          refine jr.aload_n rfl rfl ?_
          obtain ⟨v173, e173⟩ : ∃ z, M 598 75 = z := ⟨_, rfl⟩
          have b173 : 0 ≤ v173 ∧ v173 ≤ 1600 := by rw [← e173]; exact hI_M 598 75 (by decide)
          refine jr.getf (i := 75) (x := v173) (v := .int (Int32.ofInt (v173))) rfl rfl (by decide) rfl (by decide) rfl rfl e173 rfl ?_
          obtain ⟨v174, e174⟩ : ∃ z, M 598 80 = z := ⟨_, rfl⟩
          have b174 : 0 ≤ v174 ∧ v174 ≤ 7 := by rw [← e174]; exact hI_M 598 80 (by decide)
          obtain ⟨v175, e175⟩ : ∃ z, M 598 89 = z := ⟨_, rfl⟩
          have b175 : 0 ≤ v175 ∧ v175 ≤ 301 := by rw [← e175]; exact hI_M 598 89 (by decide)
          obtain ⟨v176, e176⟩ : ∃ z, M 598 100 = z := ⟨_, rfl⟩
          have b176 : 0 ≤ v176 ∧ v176 ≤ 13 := by rw [← e176]; exact hI_M 598 100 (by decide)
          obtain ⟨v177, e177⟩ : ∃ z, M 598 81 = z := ⟨_, rfl⟩
          have b177 : (-1) ≤ v177 ∧ v177 ≤ 1600 := by rw [← e177]; exact hI_M 598 81 (by decide)
          obtain ⟨v179, e179⟩ : ∃ z, M 598 73 = z := ⟨_, rfl⟩
          have b179 : 0 ≤ v179 ∧ v179 ≤ 1600 := by rw [← e179]; exact hI_M 598 73 (by decide)
          obtain ⟨v181, e181⟩ : ∃ z, M 598 74 = z := ⟨_, rfl⟩
          have b181 : 0 ≤ v181 ∧ v181 ≤ 4 := by rw [← e181]; exact hI_M 598 74 (by decide)
          refine jr_v rfl rfl (Or.inl rfl) rfl rfl (by decide) rfl ⟨rfl, Nat.le_of_ble_eq_true rfl, Nat.le_of_ble_eq_true rfl⟩ rfl (jc.deep (d_fails_z (f := f) (N := N) hI_M hH_M hS_M (by omega) (by omega) (by rw [e174]; omega) (fun M178 hI_M178 hH_M178 hS_M178 q0178 q1178 w178_50 w178_51 => ?_)) (by decide))
          have tk178 : TK M178 = TK M := TK.fr (w178_51 73 (by decide) (by decide)) (w178_51 74 (by decide) (by decide))
          have x178_72 := w178_51 72 (by decide) (by decide)
          have x178_73 := w178_51 73 (by decide) (by decide)
          have x178_74 := w178_51 74 (by decide) (by decide)
          have x178_75 := w178_51 75 (by decide) (by decide)
          have x178_76 := w178_51 76 (by decide) (by decide)
          have x178_78 := w178_51 78 (by decide) (by decide)
          have x178_79 := w178_51 79 (by decide) (by decide)
          have x178_89 := w178_51 89 (by decide) (by decide)
          have x178_100 := w178_51 100 (by decide) (by decide)
          have y180 : M 598 73 = v179 := e179
          have y182 : M 598 74 = v181 := e181
          have y183 : M 598 89 = v175 := e175
          have y184 : M 598 100 = v176 := e176
          have x178_73 := w178_51 73 (by decide) (by decide)
          have x178_74 := w178_51 74 (by decide) (by decide)
          have x178_89 := w178_51 89 (by decide) (by decide)
          have x178_100 := w178_51 100 (by decide) (by decide)
          have hX := XS.fr2 hX w178_50 (w178_51 88 (by decide) (by decide)) (w178_51 90 (by decide) (by decide)) (w178_51 101 (by decide) (by decide)) (w178_51 107 (by decide) (by decide)) (k' := 0) (d' := dd) (z' := 0) (by omega) (by omega) (by omega) (by omega)
          have hA := AK.cp hA (CP.f (CP.rfl _) (fun i => w178_50 659 i (by decide)) (w178_51 90 (by decide) (by decide))) (fun i => w178_50 663 i (by decide)) (w178_51 96 (by decide) (by decide))
          have hB := LB.fr hB (fun i => w178_50 659 i (by decide)) (w178_51 90 (by decide) (by decide))
          have x178_101 := w178_51 101 (by decide) (by decide)
          have x178_107 := w178_51 107 (by decide) (by decide)
          have x178_88 := w178_51 88 (by decide) (by decide)
          have x178_96 := w178_51 96 (by decide) (by decide)
          refine jr.iinc rfl rfl (by decide) rfl ?_
          refine jr.goto rfl rfl ?_
          obtain ⟨v185, e185⟩ : ∃ z, M 598 96 = z := ⟨_, rfl⟩
          have b185 : 0 ≤ v185 ∧ v185 ≤ 300 := by rw [← e185]; exact hI_M 598 96 (by decide)
          have e186 : M178 598 96 = v185 := ((w178_51 96 (by decide) (by decide)).trans e185)
          have e187 : M178 598 89 = v175 := ((w178_51 89 (by decide) (by decide)).trans e175)
          have e188 : M178 598 73 = v179 := ((w178_51 73 (by decide) (by decide)).trans e179)
          obtain ⟨v189, e189⟩ : ∃ z, M 598 72 = z := ⟨_, rfl⟩
          have b189 : 0 ≤ v189 ∧ v189 ≤ 1600 := by rw [← e189]; exact hI_M 598 72 (by decide)
          have e190 : M178 598 72 = v189 := ((w178_51 72 (by decide) (by decide)).trans e189)
          obtain ⟨v191, e191⟩ : ∃ z, M 598 107 = z := ⟨_, rfl⟩
          have b191 : 0 ≤ v191 ∧ v191 ≤ 16 := by rw [← e191]; exact hI_M 598 107 (by decide)
          have e192 : M178 598 107 = v191 := ((w178_51 107 (by decide) (by decide)).trans e191)
          have e193 : M178 598 88 = v109 := ((w178_51 88 (by decide) (by decide)).trans e109)
          have e194 : M178 598 74 = v181 := ((w178_51 74 (by decide) (by decide)).trans e181)
          obtain ⟨v195, e195⟩ : ∃ z, M 598 79 = z := ⟨_, rfl⟩
          have b195 : 0 ≤ v195 ∧ v195 ≤ 255 := by rw [← e195]; exact hI_M 598 79 (by decide)
          have e196 : M178 598 79 = v195 := ((w178_51 79 (by decide) (by decide)).trans e195)
          have e197 : M178 598 75 = v173 := ((w178_51 75 (by decide) (by decide)).trans e173)
          have y198 : M178 598 75 = v173 := e197
          have e199 : M178 598 77 = v133 := ((w178_51 77 (by decide) (by decide)).trans e133)
          have y200 : M178 598 77 = v133 := e199
          obtain ⟨v201, e201⟩ : ∃ z, M178 598 80 = z := ⟨_, rfl⟩
          have b201 : 0 ≤ v201 ∧ v201 ≤ 7 := by rw [← e201]; exact hI_M178 598 80 (by decide)
          have y202 : M178 598 80 = v201 := e201
          obtain ⟨v203, e203⟩ : ∃ z, M178 598 81 = z := ⟨_, rfl⟩
          have b203 : (-1) ≤ v203 ∧ v203 ≤ 1600 := by rw [← e203]; exact hI_M178 598 81 (by decide)
          have y204 : M178 598 81 = v203 := e203
          have y205 : M178 598 89 = v175 := e187
          have y206 : M178 598 96 = v185 := e186
          have e207 : M178 598 100 = v176 := ((w178_51 100 (by decide) (by decide)).trans e176)
          have y208 : M178 598 100 = v176 := e207
          obtain ⟨v209, e209⟩ : ∃ z, M 598 101 = z := ⟨_, rfl⟩
          have b209 : 0 ≤ v209 ∧ v209 ≤ 1 := by rw [← e209]; exact hI_M 598 101 (by decide)
          have e210 : M178 598 101 = v209 := ((w178_51 101 (by decide) (by decide)).trans e209)
          have y211 : M178 598 101 = v209 := e210
          have y212 : M178 598 107 = v191 := e192
          have y213 : M178 598 75 = v173 := e197
          have y214 : M178 598 77 = v133 := e199
          have y215 : M178 598 80 = v201 := e201
          have y216 : M178 598 81 = v203 := e203
          have y217 : M178 598 89 = v175 := e187
          have y218 : M178 598 96 = v185 := e186
          have y219 : M178 598 100 = v176 := e207
          have y220 : M178 598 101 = v209 := e210
          have y221 : M178 598 107 = v191 := e192
          have y222 : M178 598 75 = v173 := e197
          have y223 : M178 598 77 = v133 := e199
          have y224 : M178 598 80 = v201 := e201
          have y225 : M178 598 81 = v203 := e203
          have y226 : M178 598 89 = v175 := e187
          have y227 : M178 598 96 = v185 := e186
          have y228 : M178 598 100 = v176 := e207
          have y229 : M178 598 101 = v209 := e210
          have y230 : M178 598 107 = v191 := e192
          refine jr.pick [0, 1] rfl rfl ?_
          exact ih (nM - 1) (by omega) M178 (k + 1) hI_M178 hH_M178 hS_M178  (fun a i f598 f659 f660 f661 f662 f663 f664 f665 f666 f667 f668 f669 f656 f657 f658 => ((w178_50 a i f598).trans (hF_M a i f598 f659 f660 f661 f662 f663 f664 f665 f666 f667 f668 f669 f656 f657 f658))) (fun i g73 g74 g75 g76 g77 g78 g79 g80 g81 g89 g90 g96 g100 g102 g107 g88 g101 => ((w178_51 i g80 g81).trans (hG_M i g73 g74 g75 g76 g77 g78 g79 g80 g81 g89 g90 g96 g100 g102 g107 g88 g101))) (by omega) hX hA hB (by rw [e186, e187] <;> omega) (by rw [e188, e190] <;> omega) (by rw [e192] <;> omega) (by rw [e193] <;> omega) (by rw [e194, e196] <;> omega) (by omega) (by rw [e194] <;> omega) (TKr.fr hK (w178_51 72 (by decide) (by decide)) (fun i => w178_50 651 i (by decide)) (fun i => w178_50 649 i (by decide)) (fun i => w178_50 650 i (by decide)) (w178_51 73 (by decide) (by decide)) (w178_51 74 (by decide) (by decide)) (w178_51 75 (by decide) (by decide)) (w178_51 76 (by decide) (by decide)) (w178_51 77 (by decide) (by decide)) (w178_51 78 (by decide) (by decide)) (w178_51 79 (by decide) (by decide))) (zr.eqx hz rfl rfl (by omega) rfl rfl rfl) (NMr.fr hNM (fun i => w178_50 656 i (by decide)) (w178_51 88 (by decide) (by decide))) (AKr.fr hAK (fun i => w178_50 661 i (by decide)) (fun i => w178_50 662 i (by decide)) (w178_51 96 (by decide) (by decide))) hnm (Or.inr ⟨by omega, by omega, by obtain ⟨j, j0, j1, j2⟩ := hEX; exact ⟨j, j0, by omega, (by rw [w178_50 656 _ (by decide), w178_51 77 (by decide) (by decide)]; exact j2)⟩⟩) (by rw [e193] <;> omega) (by omega)
set_option maxHeartbeats 8000000 in
theorem r_chain_z {A : Nat → Option (Nat × (Nat → Int32))} {Q : Option Value → jm → Prop} {f : Int → Int} {N : Int} {xs : ZS} {t zd zb : Int} {zs : List (Int × Int × Int × Int)} {nm ak : List Int} {dd : Int} {M : jm} (hI_M : RI M) (hH_M : RH M) (hS_M : RF M) (p0 : XS M 0 0 dd 1 (-1)) (p1 : AK M) (p2 : LB M) (p3 : (M 598 80 = 0 ∧ M 598 96 ≤ M 598 89 ∧ M 598 89 ≤ 300 ∧ M 598 107 = 0)) (p4 : M 598 73 ≤ M 598 72) (p5 : (M 598 74 = 3 → M 598 79 ≠ 10 ∧ M 598 79 ≠ 11)) (p6 : M 598 74 = 1) (p7 : TKr f N t M) (p8 : zr f N xs (0, t, M 598 89, zd, 0, zb, zs, nm, ak)) (p9 : NMr f N M nm) (p10 : AKr f N M ak) (p11 : M 598 76 = 0) (q : ∀ (M' : jm), RI M' → RH M' → RF M' → (BT M' ∨ (DS M' 1 ∧ M' 598 107 = 0 ∧ TK M' < TK M ∧ 1 ≤ M' 598 88 ∧ 1 ≤ M' 598 90 ∧ M' 659 (M' 598 90 - 1) = 3)) → TK M' ≤ TK M → M' 598 73 ≤ M' 598 72 → (M' 598 80 ≠ 0 ∨ TK M' < TK M) → TXr f N M' → ZFQ f N xs M' → ZCPQ f N xs M' → K8Q M M' → (∀ (a : Nat) (i : Int), a ≠ 598 → a ≠ 659 → a ≠ 660 → a ≠ 661 → a ≠ 662 → a ≠ 663 → a ≠ 664 → a ≠ 665 → a ≠ 666 → a ≠ 667 → a ≠ 668 → a ≠ 669 → a ≠ 656 → a ≠ 657 → a ≠ 658 → M' a i = M a i) → (∀ (i : Int), i ≠ 73 → i ≠ 74 → i ≠ 75 → i ≠ 76 → i ≠ 77 → i ≠ 78 → i ≠ 79 → i ≠ 80 → i ≠ 81 → i ≠ 89 → i ≠ 90 → i ≠ 96 → i ≠ 100 → i ≠ 102 → i ≠ 107 → i ≠ 88 → i ≠ 101 → M' 598 i = M 598 i) → Q none M') : jc A 9 369 [.ref (598)] M Q := by
  have hX := p0
  have hA := p1
  have hB := p2
  have dpx := XS.dep p0
  have sl := XS.sgle p0
  have kb := XS.kz p0
  have bM_107 : (0 : Int) ≤ M 598 107 ∧ M 598 107 ≤ 16 := hI_M 598 107 (by decide)
  have bM_73 : (0 : Int) ≤ M 598 73 ∧ M 598 73 ≤ 1600 := hI_M 598 73 (by decide)
  have bM_88 : (0 : Int) ≤ M 598 88 ∧ M 598 88 ≤ 16 := hI_M 598 88 (by decide)
  have bM_100 : (0 : Int) ≤ M 598 100 ∧ M 598 100 ≤ 13 := hI_M 598 100 (by decide)
  have hK := p7
  have kk0 := hK.kz
  have hT := hK.1
  have hz := p8
  have hNM := p9
  have hnl := hNM.1
  have hAK := p10
  have w0t := hK.wz p6
  refine jc_of (m := xm_369) rfl (Nat.le_of_ble_eq_true rfl) rfl ?_
  refine jr.aload_n rfl rfl ?_
  obtain ⟨v1, e1⟩ : ∃ z, M 598 88 = z := ⟨_, rfl⟩
  have b1 : 0 ≤ v1 ∧ v1 ≤ 16 := by rw [← e1]; exact hI_M 598 88 (by decide)
  refine jr.getf (i := 88) (x := v1) (v := .int (Int32.ofInt (v1))) rfl rfl (by decide) rfl (by decide) rfl rfl e1 rfl ?_
  refine jr.bipush rfl (by decide) ?_
  refine jr.icmp_ne rfl rfl (by omega) (by omega) (fun h6 => ?_) (fun h6 => ?_)
  · refine jr.aload_n rfl rfl ?_
    obtain ⟨v2, e2⟩ : ∃ z, M 598 73 = z := ⟨_, rfl⟩
    have b2 : 0 ≤ v2 ∧ v2 ≤ 1600 := by rw [← e2]; exact hI_M 598 73 (by decide)
    obtain ⟨v3, e3⟩ : ∃ z, M 598 72 = z := ⟨_, rfl⟩
    have b3 : 0 ≤ v3 ∧ v3 ≤ 1600 := by rw [← e3]; exact hI_M 598 72 (by decide)
    obtain ⟨v4, e4⟩ : ∃ z, M 598 80 = z := ⟨_, rfl⟩
    have b4 : 0 ≤ v4 ∧ v4 ≤ 7 := by rw [← e4]; exact hI_M 598 80 (by decide)
    obtain ⟨v5, e5⟩ : ∃ z, M 598 74 = z := ⟨_, rfl⟩
    have b5 : 0 ≤ v5 ∧ v5 ≤ 4 := by rw [← e5]; exact hI_M 598 74 (by decide)
    obtain ⟨v6, e6⟩ : ∃ z, M 598 89 = z := ⟨_, rfl⟩
    have b6 : 0 ≤ v6 ∧ v6 ≤ 301 := by rw [← e6]; exact hI_M 598 89 (by decide)
    obtain ⟨v7, e7⟩ : ∃ z, M 598 100 = z := ⟨_, rfl⟩
    have b7 : 0 ≤ v7 ∧ v7 ≤ 13 := by rw [← e7]; exact hI_M 598 100 (by decide)
    obtain ⟨v8, e8⟩ : ∃ z, M 598 81 = z := ⟨_, rfl⟩
    have b8 : (-1) ≤ v8 ∧ v8 ≤ 1600 := by rw [← e8]; exact hI_M 598 81 (by decide)
    refine jr_v rfl rfl (Or.inl rfl) rfl rfl (by decide) rfl ⟨rfl, Nat.le_of_ble_eq_true rfl, Nat.le_of_ble_eq_true rfl⟩ rfl (jc.deep (c_next_z (f := f) (N := N) hI_M hH_M hS_M (by rw [e2, e3]; omega) hK (by rw [e4]; omega) (by rw [e5]; omega) (fun M9 hI_M9 hH_M9 hS_M9 qa9 qb9 qt9 sn9 hK9 w9_50 w9_51 => ?_)) (by decide))
    have x9_72 := w9_51 72 (by decide) (by decide) (by decide) (by decide) (by decide) (by decide) (by decide)
    have x9_80 := w9_51 80 (by decide) (by decide) (by decide) (by decide) (by decide) (by decide) (by decide)
    have x9_81 := w9_51 81 (by decide) (by decide) (by decide) (by decide) (by decide) (by decide) (by decide)
    have x9_89 := w9_51 89 (by decide) (by decide) (by decide) (by decide) (by decide) (by decide) (by decide)
    have x9_100 := w9_51 100 (by decide) (by decide) (by decide) (by decide) (by decide) (by decide) (by decide)
    have hT9 := hK9.1
    have kk9 := hK9.kz
    have y10 : M 598 73 = v2 := e2
    have y11 : M 598 74 = v5 := e5
    have y12 : M 598 89 = v6 := e6
    have y13 : M 598 100 = v7 := e7
    have x9_89 := w9_51 89 (by decide) (by decide) (by decide) (by decide) (by decide) (by decide) (by decide)
    have x9_100 := w9_51 100 (by decide) (by decide) (by decide) (by decide) (by decide) (by decide) (by decide)
    have hX := XS.fr2 hX w9_50 (w9_51 88 (by decide) (by decide) (by decide) (by decide) (by decide) (by decide) (by decide)) (w9_51 90 (by decide) (by decide) (by decide) (by decide) (by decide) (by decide) (by decide)) (w9_51 101 (by decide) (by decide) (by decide) (by decide) (by decide) (by decide) (by decide)) (w9_51 107 (by decide) (by decide) (by decide) (by decide) (by decide) (by decide) (by decide)) (k' := 0) (d' := dd) (z' := 0) (by omega) (by omega) (by omega) (by omega)
    have hA := AK.cp hA (CP.f (CP.rfl _) (fun i => w9_50 659 i (by decide)) (w9_51 90 (by decide) (by decide) (by decide) (by decide) (by decide) (by decide) (by decide))) (fun i => w9_50 663 i (by decide)) (w9_51 96 (by decide) (by decide) (by decide) (by decide) (by decide) (by decide) (by decide))
    have hB := LB.fr hB (fun i => w9_50 659 i (by decide)) (w9_51 90 (by decide) (by decide) (by decide) (by decide) (by decide) (by decide) (by decide))
    have x9_101 := w9_51 101 (by decide) (by decide) (by decide) (by decide) (by decide) (by decide) (by decide)
    have x9_107 := w9_51 107 (by decide) (by decide) (by decide) (by decide) (by decide) (by decide) (by decide)
    have x9_88 := w9_51 88 (by decide) (by decide) (by decide) (by decide) (by decide) (by decide) (by decide)
    have x9_96 := w9_51 96 (by decide) (by decide) (by decide) (by decide) (by decide) (by decide) (by decide)
    refine jr.aload_n rfl rfl ?_
    refine jr_v rfl rfl (Or.inl rfl) rfl rfl (by decide) rfl ⟨rfl, Nat.le_of_ble_eq_true rfl, Nat.le_of_ble_eq_true rfl⟩ rfl (jc.deep (c_isName_z hI_M9  (fun t24_0 t24_1 => ?_) (fun f24_0 => ?_)) (by decide))
    · refine jr.if_ne rfl rfl (by omega) (fun _ => ?_) (fun h => absurd (by decide) h)
      refine jr.iconst rfl ?_
      refine jr.istore_n rfl (by decide) rfl ?_
      obtain ⟨v14, e14⟩ : ∃ z, M 598 96 = z := ⟨_, rfl⟩
      have b14 : 0 ≤ v14 ∧ v14 ≤ 300 := by rw [← e14]; exact hI_M 598 96 (by decide)
      have e15 : M9 598 96 = v14 := ((w9_51 96 (by decide) (by decide) (by decide) (by decide) (by decide) (by decide) (by decide)).trans e14)
      have e16 : M9 598 89 = v6 := ((w9_51 89 (by decide) (by decide) (by decide) (by decide) (by decide) (by decide) (by decide)).trans e6)
      obtain ⟨v17, e17⟩ : ∃ z, M9 598 73 = z := ⟨_, rfl⟩
      have b17 : 0 ≤ v17 ∧ v17 ≤ 1600 := by rw [← e17]; exact hI_M9 598 73 (by decide)
      have e18 : M9 598 72 = v3 := ((w9_51 72 (by decide) (by decide) (by decide) (by decide) (by decide) (by decide) (by decide)).trans e3)
      obtain ⟨v19, e19⟩ : ∃ z, M 598 107 = z := ⟨_, rfl⟩
      have b19 : 0 ≤ v19 ∧ v19 ≤ 16 := by rw [← e19]; exact hI_M 598 107 (by decide)
      have e20 : M9 598 107 = v19 := ((w9_51 107 (by decide) (by decide) (by decide) (by decide) (by decide) (by decide) (by decide)).trans e19)
      have e21 : M9 598 88 = v1 := ((w9_51 88 (by decide) (by decide) (by decide) (by decide) (by decide) (by decide) (by decide)).trans e1)
      obtain ⟨v22, e22⟩ : ∃ z, M9 598 74 = z := ⟨_, rfl⟩
      have b22 : 0 ≤ v22 ∧ v22 ≤ 4 := by rw [← e22]; exact hI_M9 598 74 (by decide)
      obtain ⟨v23, e23⟩ : ∃ z, M9 598 79 = z := ⟨_, rfl⟩
      have b23 : 0 ≤ v23 ∧ v23 ≤ 255 := by rw [← e23]; exact hI_M9 598 79 (by decide)
      obtain ⟨v24, e24⟩ : ∃ z, M9 598 75 = z := ⟨_, rfl⟩
      have b24 : 0 ≤ v24 ∧ v24 ≤ 1600 := by rw [← e24]; exact hI_M9 598 75 (by decide)
      have y25 : M9 598 75 = v24 := e24
      obtain ⟨v26, e26⟩ : ∃ z, M9 598 77 = z := ⟨_, rfl⟩
      have b26 : (-9223372036854775808) ≤ v26 ∧ v26 ≤ 9223372036854775807 := by rw [← e26]; exact hI_M9 598 77 (by decide)
      have y27 : M9 598 77 = v26 := e26
      have e28 : M9 598 80 = v4 := ((w9_51 80 (by decide) (by decide) (by decide) (by decide) (by decide) (by decide) (by decide)).trans e4)
      have y29 : M9 598 80 = v4 := e28
      have e30 : M9 598 81 = v8 := ((w9_51 81 (by decide) (by decide) (by decide) (by decide) (by decide) (by decide) (by decide)).trans e8)
      have y31 : M9 598 81 = v8 := e30
      have y32 : M9 598 89 = v6 := e16
      have y33 : M9 598 96 = v14 := e15
      have e34 : M9 598 100 = v7 := ((w9_51 100 (by decide) (by decide) (by decide) (by decide) (by decide) (by decide) (by decide)).trans e7)
      have y35 : M9 598 100 = v7 := e34
      obtain ⟨v36, e36⟩ : ∃ z, M 598 101 = z := ⟨_, rfl⟩
      have b36 : 0 ≤ v36 ∧ v36 ≤ 1 := by rw [← e36]; exact hI_M 598 101 (by decide)
      have e37 : M9 598 101 = v36 := ((w9_51 101 (by decide) (by decide) (by decide) (by decide) (by decide) (by decide) (by decide)).trans e36)
      have y38 : M9 598 101 = v36 := e37
      have y39 : M9 598 107 = v19 := e20
      have y40 : M9 598 75 = v24 := e24
      have y41 : M9 598 77 = v26 := e26
      have y42 : M9 598 80 = v4 := e28
      have y43 : M9 598 81 = v8 := e30
      have y44 : M9 598 89 = v6 := e16
      have y45 : M9 598 96 = v14 := e15
      have y46 : M9 598 100 = v7 := e34
      have y47 : M9 598 101 = v36 := e37
      have y48 : M9 598 107 = v19 := e20
      have y49 : M9 598 75 = v24 := e24
      have y50 : M9 598 77 = v26 := e26
      have y51 : M9 598 80 = v4 := e28
      have y52 : M9 598 81 = v8 := e30
      have y53 : M9 598 89 = v6 := e16
      have y54 : M9 598 96 = v14 := e15
      have y55 : M9 598 100 = v7 := e34
      have y56 : M9 598 101 = v36 := e37
      have y57 : M9 598 107 = v19 := e20
      refine jr.pick [0, 1] rfl rfl ?_
      exact r_chain_L37_z q 16 M9 0 hI_M9 hH_M9 hS_M9  (fun a i f598 f659 f660 f661 f662 f663 f664 f665 f666 f667 f668 f669 f656 f657 f658 => ((w9_50 a i f598).trans rfl)) (fun i g73 g74 g75 g76 g77 g78 g79 g80 g81 g89 g90 g96 g100 g102 g107 g88 g101 => ((w9_51 i g73 g74 g75 g76 g77 g78 g79).trans rfl)) (by omega) hX hA hB (by rw [e15, e16] <;> omega) (by rw [e17, e18] <;> omega) (by rw [e20] <;> omega) (by rw [e21] <;> omega) (by rw [e22, e23] <;> omega) (by omega) (by rw [e22] <;> omega) hK9 (zr.eqx hz rfl rfl (by omega) rfl rfl rfl) (NMr.fr hNM (fun i => w9_50 656 i (by decide)) (w9_51 88 (by decide) (by decide) (by decide) (by decide) (by decide) (by decide) (by decide))) (AKr.fr hAK (fun i => w9_50 661 i (by decide)) (fun i => w9_50 662 i (by decide)) (w9_51 96 (by decide) (by decide) (by decide) (by decide) (by decide) (by decide) (by decide))) ⟨by have q := hK9.wz (by omega); omega, by have q := hK.wz (by omega); omega⟩ (Or.inl ⟨by omega, by omega, fun j j0 j1 => by exfalso; omega⟩) (by rw [e21] <;> omega) (by omega)
    · refine jr.if_ne rfl rfl (by omega) (fun h => absurd h (by decide)) (fun _ => ?_)
      refine jr.aload_n rfl rfl ?_
      have e58 : M9 598 80 = v4 := ((w9_51 80 (by decide) (by decide) (by decide) (by decide) (by decide) (by decide) (by decide)).trans e4)
      have e59 : M9 598 89 = v6 := ((w9_51 89 (by decide) (by decide) (by decide) (by decide) (by decide) (by decide) (by decide)).trans e6)
      have e60 : M9 598 100 = v7 := ((w9_51 100 (by decide) (by decide) (by decide) (by decide) (by decide) (by decide) (by decide)).trans e7)
      have e61 : M9 598 81 = v8 := ((w9_51 81 (by decide) (by decide) (by decide) (by decide) (by decide) (by decide) (by decide)).trans e8)
      refine jr_v rfl rfl (Or.inl rfl) rfl rfl (by decide) rfl ⟨rfl, Nat.le_of_ble_eq_true rfl, Nat.le_of_ble_eq_true rfl⟩ rfl (jc.deep (c_wrongToken_z (f := f) (N := N) hI_M9 hH_M9 hS_M9 hK9 (by rw [e58]; omega) (fun M62 hI_M62 hH_M62 hS_M62 qn62 q062 q162 w62_50 w62_51 => ?_)) (by decide))
      have tk62 : TK M62 = TK M9 := TK.fr (w62_51 73 (by decide) (by decide)) (w62_51 74 (by decide) (by decide))
      have x62_72 := w62_51 72 (by decide) (by decide)
      have x62_73 := w62_51 73 (by decide) (by decide)
      have x62_74 := w62_51 74 (by decide) (by decide)
      have x62_75 := w62_51 75 (by decide) (by decide)
      have x62_76 := w62_51 76 (by decide) (by decide)
      have x62_78 := w62_51 78 (by decide) (by decide)
      have x62_79 := w62_51 79 (by decide) (by decide)
      have x62_89 := w62_51 89 (by decide) (by decide)
      have x62_100 := w62_51 100 (by decide) (by decide)
      have zfz := zr.rfz (zr.cnf hz (by omega) (by omega) (fun z => by have q := hK9.wz (by omega); omega)) q062 q162
      have e63 : M9 598 72 = v3 := ((w9_51 72 (by decide) (by decide) (by decide) (by decide) (by decide) (by decide) (by decide)).trans e3)
      have e64 : M62 598 72 = v3 := ((w62_51 72 (by decide) (by decide)).trans e63)
      have y65 : M62 598 72 = v3 := e64
      obtain ⟨v66, e66⟩ : ∃ z, M9 598 73 = z := ⟨_, rfl⟩
      have b66 : 0 ≤ v66 ∧ v66 ≤ 1600 := by rw [← e66]; exact hI_M9 598 73 (by decide)
      have e67 : M62 598 73 = v66 := ((w62_51 73 (by decide) (by decide)).trans e66)
      have y68 : M62 598 73 = v66 := e67
      obtain ⟨v69, e69⟩ : ∃ z, M62 598 80 = z := ⟨_, rfl⟩
      have b69 : 0 ≤ v69 ∧ v69 ≤ 7 := by rw [← e69]; exact hI_M62 598 80 (by decide)
      have y70 : M62 598 80 = v69 := e69
      obtain ⟨v71, e71⟩ : ∃ z, M 598 90 = z := ⟨_, rfl⟩
      have b71 : 0 ≤ v71 ∧ v71 ≤ 2200 := by rw [← e71]; exact hI_M 598 90 (by decide)
      have e72 : M9 598 90 = v71 := ((w9_51 90 (by decide) (by decide) (by decide) (by decide) (by decide) (by decide) (by decide)).trans e71)
      have e73 : M62 598 90 = v71 := ((w62_51 90 (by decide) (by decide)).trans e72)
      have y74 : M62 598 90 = v71 := e73
      obtain ⟨v75, e75⟩ : ∃ z, M9 598 75 = z := ⟨_, rfl⟩
      have b75 : 0 ≤ v75 ∧ v75 ≤ 1600 := by rw [← e75]; exact hI_M9 598 75 (by decide)
      have e76 : M62 598 75 = v75 := ((w62_51 75 (by decide) (by decide)).trans e75)
      have y77 : M62 598 75 = v75 := e76
      have y78 : M62 598 80 = v69 := e69
      obtain ⟨v79, e79⟩ : ∃ z, M62 598 81 = z := ⟨_, rfl⟩
      have b79 : (-1) ≤ v79 ∧ v79 ≤ 1600 := by rw [← e79]; exact hI_M62 598 81 (by decide)
      have y80 : M62 598 81 = v79 := e79
      have e81 : M9 598 88 = v1 := ((w9_51 88 (by decide) (by decide) (by decide) (by decide) (by decide) (by decide) (by decide)).trans e1)
      have e82 : M62 598 88 = v1 := ((w62_51 88 (by decide) (by decide)).trans e81)
      have y83 : M62 598 88 = v1 := e82
      have e84 : M62 598 89 = v6 := ((w62_51 89 (by decide) (by decide)).trans e59)
      have y85 : M62 598 89 = v6 := e84
      have e86 : M62 598 100 = v7 := ((w62_51 100 (by decide) (by decide)).trans e60)
      have y87 : M62 598 100 = v7 := e86
      obtain ⟨v88, e88⟩ : ∃ z, M 598 101 = z := ⟨_, rfl⟩
      have b88 : 0 ≤ v88 ∧ v88 ≤ 1 := by rw [← e88]; exact hI_M 598 101 (by decide)
      have e89 : M9 598 101 = v88 := ((w9_51 101 (by decide) (by decide) (by decide) (by decide) (by decide) (by decide) (by decide)).trans e88)
      have e90 : M62 598 101 = v88 := ((w62_51 101 (by decide) (by decide)).trans e89)
      have y91 : M62 598 101 = v88 := e90
      obtain ⟨v92, e92⟩ : ∃ z, M 598 107 = z := ⟨_, rfl⟩
      have b92 : 0 ≤ v92 ∧ v92 ≤ 16 := by rw [← e92]; exact hI_M 598 107 (by decide)
      have e93 : M9 598 107 = v92 := ((w9_51 107 (by decide) (by decide) (by decide) (by decide) (by decide) (by decide) (by decide)).trans e92)
      have e94 : M62 598 107 = v92 := ((w62_51 107 (by decide) (by decide)).trans e93)
      have y95 : M62 598 107 = v92 := e94
      exact jr.vreturn rfl rfl (q _ hI_M62 hH_M62 hS_M62  (Or.inl ⟨by omega, by omega⟩) (by omega) (by omega) (by omega) (TXr.fr hT9 (w62_51 72 (by decide) (by decide)) (fun i => w62_50 651 i (by decide)) (fun i => w62_50 649 i (by decide)) (fun i => w62_50 650 i (by decide))) (fun _ => zr.fe zfz (by omega) (by omega)) (fun q => by exfalso; omega) (fun q => by omega) (fun a i f598 f659 f660 f661 f662 f663 f664 f665 f666 f667 f668 f669 f656 f657 f658 => ((w62_50 a i f598).trans ((w9_50 a i f598).trans rfl))) (fun i g73 g74 g75 g76 g77 g78 g79 g80 g81 g89 g90 g96 g100 g102 g107 g88 g101 => ((w62_51 i g80 g81).trans ((w9_51 i g73 g74 g75 g76 g77 g78 g79).trans rfl))))
  · refine jr.aload_n rfl rfl ?_
    refine jr.iconst rfl ?_
    refine jr.aload_n rfl rfl ?_
    obtain ⟨v96, e96⟩ : ∃ z, M 598 75 = z := ⟨_, rfl⟩
    have b96 : 0 ≤ v96 ∧ v96 ≤ 1600 := by rw [← e96]; exact hI_M 598 75 (by decide)
    refine jr.getf (i := 75) (x := v96) (v := .int (Int32.ofInt (v96))) rfl rfl (by decide) rfl (by decide) rfl rfl e96 rfl ?_
    obtain ⟨v97, e97⟩ : ∃ z, M 598 80 = z := ⟨_, rfl⟩
    have b97 : 0 ≤ v97 ∧ v97 ≤ 7 := by rw [← e97]; exact hI_M 598 80 (by decide)
    obtain ⟨v98, e98⟩ : ∃ z, M 598 89 = z := ⟨_, rfl⟩
    have b98 : 0 ≤ v98 ∧ v98 ≤ 301 := by rw [← e98]; exact hI_M 598 89 (by decide)
    obtain ⟨v99, e99⟩ : ∃ z, M 598 100 = z := ⟨_, rfl⟩
    have b99 : 0 ≤ v99 ∧ v99 ≤ 13 := by rw [← e99]; exact hI_M 598 100 (by decide)
    obtain ⟨v100, e100⟩ : ∃ z, M 598 81 = z := ⟨_, rfl⟩
    have b100 : (-1) ≤ v100 ∧ v100 ≤ 1600 := by rw [← e100]; exact hI_M 598 81 (by decide)
    refine jr_v rfl rfl (Or.inl rfl) rfl rfl (by decide) rfl ⟨rfl, Nat.le_of_ble_eq_true rfl, Nat.le_of_ble_eq_true rfl⟩ rfl (jc.deep (c_fails_z (f := f) (N := N) hI_M hH_M hS_M (by omega) (by omega) (by rw [e97]; omega) (fun M101 hI_M101 hH_M101 hS_M101 qn101 q0101 q1101 w101_50 w101_51 => ?_)) (by decide))
    have tk101 : TK M101 = TK M := TK.fr (w101_51 73 (by decide) (by decide)) (w101_51 74 (by decide) (by decide))
    have x101_72 := w101_51 72 (by decide) (by decide)
    have x101_73 := w101_51 73 (by decide) (by decide)
    have x101_74 := w101_51 74 (by decide) (by decide)
    have x101_75 := w101_51 75 (by decide) (by decide)
    have x101_76 := w101_51 76 (by decide) (by decide)
    have x101_78 := w101_51 78 (by decide) (by decide)
    have x101_79 := w101_51 79 (by decide) (by decide)
    have x101_89 := w101_51 89 (by decide) (by decide)
    have x101_100 := w101_51 100 (by decide) (by decide)
    have zfz : zr f N xs (zft (M101 598 80) (M101 598 81)) := zr.fe (zr.cfu hz (by omega) (by omega)) (by omega) (by omega)
    obtain ⟨v102, e102⟩ : ∃ z, M 598 72 = z := ⟨_, rfl⟩
    have b102 : 0 ≤ v102 ∧ v102 ≤ 1600 := by rw [← e102]; exact hI_M 598 72 (by decide)
    have e103 : M101 598 72 = v102 := ((w101_51 72 (by decide) (by decide)).trans e102)
    have y104 : M101 598 72 = v102 := e103
    obtain ⟨v105, e105⟩ : ∃ z, M 598 73 = z := ⟨_, rfl⟩
    have b105 : 0 ≤ v105 ∧ v105 ≤ 1600 := by rw [← e105]; exact hI_M 598 73 (by decide)
    have e106 : M101 598 73 = v105 := ((w101_51 73 (by decide) (by decide)).trans e105)
    have y107 : M101 598 73 = v105 := e106
    obtain ⟨v108, e108⟩ : ∃ z, M101 598 80 = z := ⟨_, rfl⟩
    have b108 : 0 ≤ v108 ∧ v108 ≤ 7 := by rw [← e108]; exact hI_M101 598 80 (by decide)
    have y109 : M101 598 80 = v108 := e108
    obtain ⟨v110, e110⟩ : ∃ z, M 598 90 = z := ⟨_, rfl⟩
    have b110 : 0 ≤ v110 ∧ v110 ≤ 2200 := by rw [← e110]; exact hI_M 598 90 (by decide)
    have e111 : M101 598 90 = v110 := ((w101_51 90 (by decide) (by decide)).trans e110)
    have y112 : M101 598 90 = v110 := e111
    have e113 : M101 598 75 = v96 := ((w101_51 75 (by decide) (by decide)).trans e96)
    have y114 : M101 598 75 = v96 := e113
    have y115 : M101 598 80 = v108 := e108
    obtain ⟨v116, e116⟩ : ∃ z, M101 598 81 = z := ⟨_, rfl⟩
    have b116 : (-1) ≤ v116 ∧ v116 ≤ 1600 := by rw [← e116]; exact hI_M101 598 81 (by decide)
    have y117 : M101 598 81 = v116 := e116
    have e118 : M101 598 88 = v1 := ((w101_51 88 (by decide) (by decide)).trans e1)
    have y119 : M101 598 88 = v1 := e118
    have e120 : M101 598 89 = v98 := ((w101_51 89 (by decide) (by decide)).trans e98)
    have y121 : M101 598 89 = v98 := e120
    have e122 : M101 598 100 = v99 := ((w101_51 100 (by decide) (by decide)).trans e99)
    have y123 : M101 598 100 = v99 := e122
    obtain ⟨v124, e124⟩ : ∃ z, M 598 101 = z := ⟨_, rfl⟩
    have b124 : 0 ≤ v124 ∧ v124 ≤ 1 := by rw [← e124]; exact hI_M 598 101 (by decide)
    have e125 : M101 598 101 = v124 := ((w101_51 101 (by decide) (by decide)).trans e124)
    have y126 : M101 598 101 = v124 := e125
    obtain ⟨v127, e127⟩ : ∃ z, M 598 107 = z := ⟨_, rfl⟩
    have b127 : 0 ≤ v127 ∧ v127 ≤ 16 := by rw [← e127]; exact hI_M 598 107 (by decide)
    have e128 : M101 598 107 = v127 := ((w101_51 107 (by decide) (by decide)).trans e127)
    have y129 : M101 598 107 = v127 := e128
    exact jr.vreturn rfl rfl (q _ hI_M101 hH_M101 hS_M101  (Or.inl ⟨by omega, by omega⟩) (by omega) (by omega) (by omega) (TXr.fr hT (w101_51 72 (by decide) (by decide)) (fun i => w101_50 651 i (by decide)) (fun i => w101_50 649 i (by decide)) (fun i => w101_50 650 i (by decide))) (fun _ => zr.fe zfz (by omega) (by omega)) (fun q => by exfalso; omega) (fun q => by omega) (fun a i f598 f659 f660 f661 f662 f663 f664 f665 f666 f667 f668 f669 f656 f657 f658 => ((w101_50 a i f598).trans rfl)) (fun i g73 g74 g75 g76 g77 g78 g79 g80 g81 g89 g90 g96 g100 g102 g107 g88 g101 => ((w101_51 i g80 g81).trans rfl)))
