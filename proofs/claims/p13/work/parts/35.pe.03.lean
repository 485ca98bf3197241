section
theorem r_chain_L82 {A : Nat → Option (Nat × (Nat → Int32))} {Q : Option Value → jm → Prop} {dd : Int} {M0 : jm} (q : ∀ (M' : jm), RI M' → RH M' → RF M' → (BT M' ∨ (DS M' 1 ∧ M' 598 107 = 0 ∧ TK M' < TK M0 ∧ 1 ≤ M' 598 88 ∧ 1 ≤ M' 598 90 ∧ M' 659 (M' 598 90 - 1) = 3)) → TK M' ≤ TK M0 → M' 598 73 ≤ M' 598 72 → (M' 598 80 ≠ 0 ∨ TK M' < TK M0) → (∀ (a : Nat) (i : Int), a ≠ 598 → a ≠ 659 → a ≠ 660 → a ≠ 661 → a ≠ 662 → a ≠ 663 → a ≠ 664 → a ≠ 665 → a ≠ 666 → a ≠ 667 → a ≠ 668 → a ≠ 669 → a ≠ 656 → a ≠ 657 → a ≠ 658 → M' a i = M0 a i) → (∀ (i : Int), i ≠ 73 → i ≠ 74 → i ≠ 75 → i ≠ 76 → i ≠ 77 → i ≠ 78 → i ≠ 79 → i ≠ 80 → i ≠ 81 → i ≠ 89 → i ≠ 90 → i ≠ 96 → i ≠ 100 → i ≠ 102 → i ≠ 107 → i ≠ 88 → i ≠ 101 → M' 598 i = M0 598 i) → Q none M') : ∀ (M : jm) , RI M → RH M → RF M → (∀ (a : Nat) (i : Int), a ≠ 598 → a ≠ 659 → a ≠ 660 → a ≠ 661 → a ≠ 662 → a ≠ 663 → a ≠ 664 → a ≠ 665 → a ≠ 666 → a ≠ 667 → a ≠ 668 → a ≠ 669 → a ≠ 656 → a ≠ 657 → a ≠ 658 → M a i = M0 a i) → (∀ (i : Int), i ≠ 73 → i ≠ 74 → i ≠ 75 → i ≠ 76 → i ≠ 77 → i ≠ 78 → i ≠ 79 → i ≠ 80 → i ≠ 81 → i ≠ 89 → i ≠ 90 → i ≠ 96 → i ≠ 100 → i ≠ 102 → i ≠ 107 → i ≠ 88 → i ≠ 101 → M 598 i = M0 598 i) → XS M 0 0 dd 0 (-1) → AK M → LB M → M 598 96 ≤ M 598 89 ∧ M 598 89 ≤ 300 → M 598 73 ≤ M 598 72 → M 598 107 = 0 → 0 ≤ M 598 88 ∧ M 598 88 ≤ 15 → (M 598 74 = 3 → M 598 79 ≠ 10 ∧ M 598 79 ≠ 11) → TK M < TK M0 → M 598 74 = 1 → M 598 80 = 0 → jr A 8 xm_369 82 [(0, .ref (598))] [] M Q := by
    intro M  hI_M hH_M hS_M hF_M hG_M  hy0 hy1 hy2 hy3 hy4 hy5 hy6 hy7 hy8 hy9 hy10
    have hX := hy0
    have hA := hy1
    have hB := hy2
    have dpx := XS.dep hy0
    have sl := XS.sgle hy0
    have kb := XS.kz hy0
    have bM_107 : (0 : Int) ≤ M 598 107 ∧ M 598 107 ≤ 16 := hI_M 598 107 (by decide)
    have bM_73 : (0 : Int) ≤ M 598 73 ∧ M 598 73 ≤ 1600 := hI_M 598 73 (by decide)
    have bM_88 : (0 : Int) ≤ M 598 88 ∧ M 598 88 ≤ 16 := hI_M 598 88 (by decide)
    have bM_100 : (0 : Int) ≤ M 598 100 ∧ M 598 100 ≤ 13 := hI_M 598 100 (by decide)
    refine jr.aload_n rfl rfl ?_
    refine jr.getf (i := 91) (v := .ref 656) rfl rfl (by decide) rfl (by decide) rfl rfl rfl rfl ?_
    refine jr.aload_n rfl rfl ?_
    obtain ⟨v1, e1⟩ : ∃ z, M 598 88 = z := ⟨_, rfl⟩
    have b1 : 0 ≤ v1 ∧ v1 ≤ 16 := by rw [← e1]; exact hI_M 598 88 (by decide)
    refine jr.getf (i := 88) (x := v1) (v := .int (Int32.ofInt (v1))) rfl rfl (by decide) rfl (by decide) rfl rfl e1 rfl ?_
    refine jr.aload_n rfl rfl ?_
    obtain ⟨v2, e2⟩ : ∃ z, M 598 77 = z := ⟨_, rfl⟩
    have b2 : (-9223372036854775808) ≤ v2 ∧ v2 ≤ 9223372036854775807 := by rw [← e2]; exact hI_M 598 77 (by decide)
    refine jr.getf (i := 77) (x := v2) (v := .long (Int64.ofInt (v2))) rfl rfl (by decide) rfl (by decide) rfl rfl e2 rfl ?_
    refine jr.last (i := v1) (x := v2) rfl (by decide) rfl (by decide) (by omega) (by omega) ?_
    refine jr.aload_n rfl rfl ?_
    refine jr.getf (i := 92) (v := .ref 657) rfl rfl (by decide) rfl (by decide) rfl rfl rfl rfl ?_
    refine jr.aload_n rfl rfl ?_
    refine jr.getf (i := 88) (x := v1) (v := .int (Int32.ofInt (v1))) rfl rfl (by decide) rfl (by decide) rfl rfl ((ju_c _ _ (by decide)).trans e1) rfl ?_
    refine jr.aload_n rfl rfl ?_
    obtain ⟨v3, e3⟩ : ∃ z, M 598 90 = z := ⟨_, rfl⟩
    have b3 : 0 ≤ v3 ∧ v3 ≤ 2200 := by rw [← e3]; exact hI_M 598 90 (by decide)
    refine jr.getf (i := 90) (x := v3) (v := .int (Int32.ofInt (v3))) rfl rfl (by decide) rfl (by decide) rfl rfl ((ju_c _ _ (by decide)).trans e3) rfl ?_
    refine jr.iast (i := v1) (x := v3) rfl (by decide) rfl (by decide) (by omega) (by omega) ?_
    refine jr.aload_n rfl rfl ?_
    refine jr.getf (i := 93) (v := .ref 658) rfl rfl (by decide) rfl (by decide) rfl rfl rfl rfl ?_
    refine jr.aload_n rfl rfl ?_
    refine jr.getf (i := 88) (x := v1) (v := .int (Int32.ofInt (v1))) rfl rfl (by decide) rfl (by decide) rfl rfl ((ju_c _ _ (by decide)).trans ((ju_c _ _ (by decide)).trans e1)) rfl ?_
    refine jr.iconst rfl ?_
    refine jr.iast (i := v1) (x := (-1)) rfl (by decide) rfl (by decide) (by omega) (by omega) ?_
    refine jr.aload_n rfl rfl ?_
    refine jr.dup rfl rfl ?_
    refine jr.getf (i := 88) (x := v1) (v := .int (Int32.ofInt (v1))) rfl rfl (by decide) rfl (by decide) rfl rfl ((ju_c _ _ (by decide)).trans ((ju_c _ _ (by decide)).trans ((ju_c _ _ (by decide)).trans e1))) rfl ?_
    refine jr.iconst rfl ?_
    refine jr.iadd rfl ?_
    refine jr.putf (i := 88) (x := (v1 + 1)) rfl rfl (by decide) rfl (by decide) rfl rfl rfl rfl rfl ?_
    refine jr.aload_n rfl rfl ?_
    obtain ⟨v5, e5⟩ : ∃ z, M 598 73 = z := ⟨_, rfl⟩
    have b5 : 0 ≤ v5 ∧ v5 ≤ 1600 := by rw [← e5]; exact hI_M 598 73 (by decide)
    obtain ⟨v6, e6⟩ : ∃ z, M 598 72 = z := ⟨_, rfl⟩
    have b6 : 0 ≤ v6 ∧ v6 ≤ 1600 := by rw [← e6]; exact hI_M 598 72 (by decide)
    obtain ⟨v10, e10⟩ : ∃ z, M 598 74 = z := ⟨_, rfl⟩
    have b10 : 0 ≤ v10 ∧ v10 ≤ 4 := by rw [← e10]; exact hI_M 598 74 (by decide)
    obtain ⟨v12, e12⟩ : ∃ z, M 598 89 = z := ⟨_, rfl⟩
    have b12 : 0 ≤ v12 ∧ v12 ≤ 301 := by rw [← e12]; exact hI_M 598 89 (by decide)
    obtain ⟨v14, e14⟩ : ∃ z, M 598 100 = z := ⟨_, rfl⟩
    have b14 : 0 ≤ v14 ∧ v14 ≤ 13 := by rw [← e14]; exact hI_M 598 100 (by decide)
    obtain ⟨v16, e16⟩ : ∃ z, M 598 107 = z := ⟨_, rfl⟩
    have b16 : 0 ≤ v16 ∧ v16 ≤ 16 := by rw [← e16]; exact hI_M 598 107 (by decide)
    refine jr_v rfl rfl (Or.inl rfl) rfl rfl (by decide) rfl ⟨rfl, Nat.le_of_ble_eq_true rfl, Nat.le_of_ble_eq_true rfl⟩ rfl (jc.deep (r_next (RI.u (RI.u (RI.u (RI.u hI_M (a := 656) (i := v1) (by rw [xri_row rfl rfl]; show (-9223372036854775808 : Int) ≤ _ ∧ _ ≤ (9223372036854775807 : Int); omega)) (a := 657) (i := v1) (by rw [xri_row rfl rfl]; show (0 : Int) ≤ _ ∧ _ ≤ (2200 : Int); omega)) (a := 658) (i := v1) (by rw [xri_row rfl rfl]; show (-1 : Int) ≤ _ ∧ _ ≤ (2200 : Int); omega)) (a := 598) (i := 88) (show (0 : Int) ≤ _ ∧ _ ≤ (16 : Int) from by omega)) (RH.o (RH.o (RH.o (RH.o hH_M (by decide) (by decide) (by decide)) (by decide) (by decide) (by decide)) (by decide) (by decide) (by decide)) (by decide) (by decide) (by decide)) (RF.o (RF.o (RF.o (RF.o hS_M (by decide) (by decide)) (by decide) (by decide)) (by decide) (by decide)) (by decide) (by decide))   (by rw [((ju_i _ _ (by decide)).trans ((ju_c _ _ (by decide)).trans ((ju_c _ _ (by decide)).trans ((ju_c _ _ (by decide)).trans e5)))), ((ju_i _ _ (by decide)).trans ((ju_c _ _ (by decide)).trans ((ju_c _ _ (by decide)).trans ((ju_c _ _ (by decide)).trans e6))))]; omega) (fun M4 hI_M4 hH_M4 hS_M4  w4_0 w4_1 w4_2 w4_3 w4_4 w4_5 w4_6 => ?_)) (by decide))
    have y18 : (ju (ju (ju (ju M 656 v1 v2) 657 v1 v3) 658 v1 (-1)) 598 88 (v1 + 1)) 598 73 = v5 := ((ju_i _ _ (by decide)).trans ((ju_c _ _ (by decide)).trans ((ju_c _ _ (by decide)).trans ((ju_c _ _ (by decide)).trans e5))))
    have y19 : (ju (ju (ju (ju M 656 v1 v2) 657 v1 v3) 658 v1 (-1)) 598 88 (v1 + 1)) 598 74 = v10 := ((ju_i _ _ (by decide)).trans ((ju_c _ _ (by decide)).trans ((ju_c _ _ (by decide)).trans ((ju_c _ _ (by decide)).trans e10))))
    have tb4 : TK (ju (ju (ju (ju M 656 v1 v2) 657 v1 v3) 658 v1 (-1)) 598 88 (v1 + 1)) = TK M := ((TK.o (Or.inr ⟨by decide, by decide⟩)).trans ((TK.o (Or.inl (by decide))).trans ((TK.o (Or.inl (by decide))).trans ((TK.o (Or.inl (by decide))).trans rfl))))
    have y7 : M 598 88 = v1 := e1
    have y8 : M 598 90 = v3 := e3
    have hX := XS.chn (nm := v2) hX e1 e3 (by omega) (by have z := hB; unfold LB at z; rw [e3] at z; exact z)
    have hA := AK.cp (M' := (ju (ju (ju (ju M 656 v1 v2) 657 v1 v3) 658 v1 (-1)) 598 88 (v1 + 1))) hA (CP.o (CP.o (CP.o (CP.o (CP.rfl _) (by decide) (Or.inl (by decide))) (by decide) (Or.inl (by decide))) (by decide) (Or.inl (by decide))) (by decide) (Or.inr (by decide))) (fun i => by rw [ju_c _ _ (by decide), ju_c _ _ (by decide), ju_c _ _ (by decide), ju_c _ _ (by decide)]) (by rw [ju_i _ _ (by decide), ju_c _ _ (by decide), ju_c _ _ (by decide), ju_c _ _ (by decide)])
    have hB := LB.fr (M' := (ju (ju (ju (ju M 656 v1 v2) 657 v1 v3) 658 v1 (-1)) 598 88 (v1 + 1))) hB (fun i => by rw [ju_c _ _ (by decide), ju_c _ _ (by decide), ju_c _ _ (by decide), ju_c _ _ (by decide)]) (by rw [ju_i _ _ (by decide), ju_c _ _ (by decide), ju_c _ _ (by decide), ju_c _ _ (by decide)])
    have y9 : (ju (ju (ju (ju M 656 v1 v2) 657 v1 v3) 658 v1 (-1)) 598 88 (v1 + 1)) 598 73 = v5 := ((ju_i _ _ (by decide)).trans ((ju_c _ _ (by decide)).trans ((ju_c _ _ (by decide)).trans ((ju_c _ _ (by decide)).trans e5))))
    have y11 : (ju (ju (ju (ju M 656 v1 v2) 657 v1 v3) 658 v1 (-1)) 598 88 (v1 + 1)) 598 74 = v10 := ((ju_i _ _ (by decide)).trans ((ju_c _ _ (by decide)).trans ((ju_c _ _ (by decide)).trans ((ju_c _ _ (by decide)).trans e10))))
    have y13 : (ju (ju (ju (ju M 656 v1 v2) 657 v1 v3) 658 v1 (-1)) 598 88 (v1 + 1)) 598 89 = v12 := ((ju_i _ _ (by decide)).trans ((ju_c _ _ (by decide)).trans ((ju_c _ _ (by decide)).trans ((ju_c _ _ (by decide)).trans e12))))
    have y15 : (ju (ju (ju (ju M 656 v1 v2) 657 v1 v3) 658 v1 (-1)) 598 88 (v1 + 1)) 598 100 = v14 := ((ju_i _ _ (by decide)).trans ((ju_c _ _ (by decide)).trans ((ju_c _ _ (by decide)).trans ((ju_c _ _ (by decide)).trans e14))))
    have y17 : (ju (ju (ju (ju M 656 v1 v2) 657 v1 v3) 658 v1 (-1)) 598 88 (v1 + 1)) 598 107 = v16 := ((ju_i _ _ (by decide)).trans ((ju_c _ _ (by decide)).trans ((ju_c _ _ (by decide)).trans ((ju_c _ _ (by decide)).trans e16))))
    have x4_89 := w4_6 89 (by decide) (by decide) (by decide) (by decide) (by decide) (by decide) (by decide)
    have x4_100 := w4_6 100 (by decide) (by decide) (by decide) (by decide) (by decide) (by decide) (by decide)
    have x4_107 := w4_6 107 (by decide) (by decide) (by decide) (by decide) (by decide) (by decide) (by decide)
    have hX := XS.fr2 hX w4_5 (w4_6 88 (by decide) (by decide) (by decide) (by decide) (by decide) (by decide) (by decide)) (w4_6 90 (by decide) (by decide) (by decide) (by decide) (by decide) (by decide) (by decide)) (w4_6 101 (by decide) (by decide) (by decide) (by decide) (by decide) (by decide) (by decide)) (w4_6 107 (by decide) (by decide) (by decide) (by decide) (by decide) (by decide) (by decide)) (k' := 0 + 4) (d' := dd) (z' := 0) (by omega) (by omega) (by omega) (by omega)
    have hA := AK.cp hA (CP.f (CP.rfl _) (fun i => w4_5 659 i (by decide)) (w4_6 90 (by decide) (by decide) (by decide) (by decide) (by decide) (by decide) (by decide))) (fun i => w4_5 663 i (by decide)) (w4_6 96 (by decide) (by decide) (by decide) (by decide) (by decide) (by decide) (by decide))
    have hB := LB.fr hB (fun i => w4_5 659 i (by decide)) (w4_6 90 (by decide) (by decide) (by decide) (by decide) (by decide) (by decide) (by decide))
    refine jr.aload_n rfl rfl ?_
    refine jr.iconst rfl ?_
    refine jr.putf (i := 100) (x := 0) rfl rfl (by decide) rfl (by decide) rfl rfl rfl rfl rfl ?_
    refine jr.aload_n rfl rfl ?_
    refine jr.iconst rfl ?_
    refine jr.putf (i := 101) (x := 0) rfl rfl (by decide) rfl (by decide) rfl rfl rfl rfl rfl ?_
    refine jr.aload_n rfl rfl ?_
    refine jr.iconst rfl ?_
    refine jr.iconst rfl ?_
    obtain ⟨v21, e21⟩ : ∃ z, M4 598 73 = z := ⟨_, rfl⟩
    have b21 : 0 ≤ v21 ∧ v21 ≤ 1600 := by rw [← e21]; exact hI_M4 598 73 (by decide)
    have e22 : M4 598 72 = v6 := ((w4_6 72 (by decide) (by decide) (by decide) (by decide) (by decide) (by decide) (by decide)).trans ((ju_i _ _ (by decide)).trans ((ju_c _ _ (by decide)).trans ((ju_c _ _ (by decide)).trans ((ju_c _ _ (by decide)).trans e6)))))
    obtain ⟨v23, e23⟩ : ∃ z, M 598 80 = z := ⟨_, rfl⟩
    have b23 : 0 ≤ v23 ∧ v23 ≤ 7 := by rw [← e23]; exact hI_M 598 80 (by decide)
    have e24 : M4 598 80 = v23 := ((w4_6 80 (by decide) (by decide) (by decide) (by decide) (by decide) (by decide) (by decide)).trans ((ju_i _ _ (by decide)).trans ((ju_c _ _ (by decide)).trans ((ju_c _ _ (by decide)).trans ((ju_c _ _ (by decide)).trans e23)))))
    have e25 : M4 598 107 = v16 := ((w4_6 107 (by decide) (by decide) (by decide) (by decide) (by decide) (by decide) (by decide)).trans ((ju_i _ _ (by decide)).trans ((ju_c _ _ (by decide)).trans ((ju_c _ _ (by decide)).trans ((ju_c _ _ (by decide)).trans e16)))))
    have e28 : M4 598 90 = v3 := ((w4_6 90 (by decide) (by decide) (by decide) (by decide) (by decide) (by decide) (by decide)).trans ((ju_i _ _ (by decide)).trans ((ju_c _ _ (by decide)).trans ((ju_c _ _ (by decide)).trans ((ju_c _ _ (by decide)).trans e3)))))
    obtain ⟨v30, e30⟩ : ∃ z, M4 598 74 = z := ⟨_, rfl⟩
    have b30 : 0 ≤ v30 ∧ v30 ≤ 4 := by rw [← e30]; exact hI_M4 598 74 (by decide)
    obtain ⟨v34, e34⟩ : ∃ z, M4 598 79 = z := ⟨_, rfl⟩
    have b34 : 0 ≤ v34 ∧ v34 ≤ 255 := by rw [← e34]; exact hI_M4 598 79 (by decide)
    refine jr_v rfl rfl (Or.inl rfl) rfl rfl (by decide) rfl ⟨rfl, Nat.le_of_ble_eq_true rfl, Nat.le_of_ble_eq_true rfl⟩ rfl (jc.deep (r_beginBlock (RI.u (RI.u hI_M4 (a := 598) (i := 100) (show (0 : Int) ≤ _ ∧ _ ≤ (13 : Int) from by omega)) (a := 598) (i := 101) (show (0 : Int) ≤ _ ∧ _ ≤ (1 : Int) from by omega)) (RH.o (RH.o hH_M4 (by decide) (by decide) (by decide)) (by decide) (by decide) (by decide)) (RF.o (RF.o hS_M4 (by decide) (by decide)) (by decide) (by decide))  (by omega) (by omega) (by rw [((ju_i _ _ (by decide)).trans ((ju_i _ _ (by decide)).trans e21)), ((ju_i _ _ (by decide)).trans ((ju_i _ _ (by decide)).trans e22))]; omega) (by rw [((ju_i _ _ (by decide)).trans ((ju_i _ _ (by decide)).trans e24)), ((ju_i _ _ (by decide)).trans (ju_same _ _ _ _))]; intro q; omega) (by rw [((ju_i _ _ (by decide)).trans ((ju_i _ _ (by decide)).trans e25))]; omega) (fun M20 hI_M20 hH_M20 hS_M20  w20_0 w20_1 w20_2 w20_3 w20_4 w20_5 w20_6 w20_7 w20_8 w20_9 w20_10 w20_11 => ?_)) (by decide))
    have y32 : (ju (ju M4 598 100 0) 598 101 0) 598 73 = v21 := ((ju_i _ _ (by decide)).trans ((ju_i _ _ (by decide)).trans e21))
    have y33 : (ju (ju M4 598 100 0) 598 101 0) 598 74 = v30 := ((ju_i _ _ (by decide)).trans ((ju_i _ _ (by decide)).trans e30))
    have y35 : (ju (ju M4 598 100 0) 598 101 0) 598 79 = v34 := ((ju_i _ _ (by decide)).trans ((ju_i _ _ (by decide)).trans e34))
    have y36 : (ju (ju M4 598 100 0) 598 101 0) 598 80 = v23 := ((ju_i _ _ (by decide)).trans ((ju_i _ _ (by decide)).trans e24))
    have y37 : (ju (ju M4 598 100 0) 598 101 0) 598 90 = v3 := ((ju_i _ _ (by decide)).trans ((ju_i _ _ (by decide)).trans e28))
    have y38 : (ju (ju M4 598 100 0) 598 101 0) 598 101 = 0 := (ju_same _ _ _ _)
    have y39 : (ju (ju M4 598 100 0) 598 101 0) 598 107 = v16 := ((ju_i _ _ (by decide)).trans ((ju_i _ _ (by decide)).trans e25))
    have tb20 : TK (ju (ju M4 598 100 0) 598 101 0) = TK M4 := ((TK.o (Or.inr ⟨by decide, by decide⟩)).trans ((TK.o (Or.inr ⟨by decide, by decide⟩)).trans rfl))
    have hX := XS.ib (XS.dpz hX (by rw [e25]; omega)) (by rw [((ju_i _ _ (by decide)).trans e25)]; omega) 0
    have hA := AK.cp (M' := (ju (ju M4 598 100 0) 598 101 0)) hA (CP.o (CP.o (CP.rfl _) (by decide) (Or.inr (by decide))) (by decide) (Or.inr (by decide))) (fun i => by rw [ju_c _ _ (by decide), ju_c _ _ (by decide)]) (by rw [ju_i _ _ (by decide), ju_i _ _ (by decide)])
    have hB := LB.fr (M' := (ju (ju M4 598 100 0) 598 101 0)) hB (fun i => by rw [ju_c _ _ (by decide), ju_c _ _ (by decide)]) (by rw [ju_i _ _ (by decide), ju_i _ _ (by decide)])
    have y26 : (ju (ju M4 598 100 0) 598 101 0) 598 101 = 0 := (ju_same _ _ _ _)
    have y27 : (ju (ju M4 598 100 0) 598 101 0) 598 107 = v16 := ((ju_i _ _ (by decide)).trans ((ju_i _ _ (by decide)).trans e25))
    have y29 : (ju (ju M4 598 100 0) 598 101 0) 598 90 = v3 := ((ju_i _ _ (by decide)).trans ((ju_i _ _ (by decide)).trans e28))
    have y31 : (ju (ju M4 598 100 0) 598 101 0) 598 74 = v30 := ((ju_i _ _ (by decide)).trans ((ju_i _ _ (by decide)).trans e30))
    have e40 : M20 598 72 = v6 := ((w20_11 72 (by decide) (by decide) (by decide) (by decide) (by decide) (by decide) (by decide) (by decide) (by decide) (by decide) (by decide)).trans ((ju_i _ _ (by decide)).trans ((ju_i _ _ (by decide)).trans e22)))
    have y41 : M20 598 72 = v6 := e40
    obtain ⟨v42, e42⟩ : ∃ z, M20 598 73 = z := ⟨_, rfl⟩
    have b42 : 0 ≤ v42 ∧ v42 ≤ 1600 := by rw [← e42]; exact hI_M20 598 73 (by decide)
    have y43 : M20 598 73 = v42 := e42
    obtain ⟨v44, e44⟩ : ∃ z, M20 598 74 = z := ⟨_, rfl⟩
    have b44 : 0 ≤ v44 ∧ v44 ≤ 4 := by rw [← e44]; exact hI_M20 598 74 (by decide)
    have y45 : M20 598 74 = v44 := e44
    obtain ⟨v46, e46⟩ : ∃ z, M20 598 79 = z := ⟨_, rfl⟩
    have b46 : 0 ≤ v46 ∧ v46 ≤ 255 := by rw [← e46]; exact hI_M20 598 79 (by decide)
    have y47 : M20 598 79 = v46 := e46
    obtain ⟨v48, e48⟩ : ∃ z, M20 598 80 = z := ⟨_, rfl⟩
    have b48 : 0 ≤ v48 ∧ v48 ≤ 7 := by rw [← e48]; exact hI_M20 598 80 (by decide)
    have y49 : M20 598 80 = v48 := e48
    have e50 : M4 598 89 = v12 := ((w4_6 89 (by decide) (by decide) (by decide) (by decide) (by decide) (by decide) (by decide)).trans ((ju_i _ _ (by decide)).trans ((ju_c _ _ (by decide)).trans ((ju_c _ _ (by decide)).trans ((ju_c _ _ (by decide)).trans e12)))))
    have e51 : M20 598 89 = v12 := ((w20_11 89 (by decide) (by decide) (by decide) (by decide) (by decide) (by decide) (by decide) (by decide) (by decide) (by decide) (by decide)).trans ((ju_i _ _ (by decide)).trans ((ju_i _ _ (by decide)).trans e50)))
    have y52 : M20 598 89 = v12 := e51
    have e53 : M20 598 90 = v3 := ((w20_11 90 (by decide) (by decide) (by decide) (by decide) (by decide) (by decide) (by decide) (by decide) (by decide) (by decide) (by decide)).trans ((ju_i _ _ (by decide)).trans ((ju_i _ _ (by decide)).trans e28)))
    have y54 : M20 598 90 = v3 := e53
    obtain ⟨v55, e55⟩ : ∃ z, M 598 96 = z := ⟨_, rfl⟩
    have b55 : 0 ≤ v55 ∧ v55 ≤ 300 := by rw [← e55]; exact hI_M 598 96 (by decide)
    have e56 : M4 598 96 = v55 := ((w4_6 96 (by decide) (by decide) (by decide) (by decide) (by decide) (by decide) (by decide)).trans ((ju_i _ _ (by decide)).trans ((ju_c _ _ (by decide)).trans ((ju_c _ _ (by decide)).trans ((ju_c _ _ (by decide)).trans e55)))))
    have e57 : M20 598 96 = v55 := ((w20_11 96 (by decide) (by decide) (by decide) (by decide) (by decide) (by decide) (by decide) (by decide) (by decide) (by decide) (by decide)).trans ((ju_i _ _ (by decide)).trans ((ju_i _ _ (by decide)).trans e56)))
    have y58 : M20 598 96 = v55 := e57
    obtain ⟨v59, e59⟩ : ∃ z, M20 598 100 = z := ⟨_, rfl⟩
    have b59 : 0 ≤ v59 ∧ v59 ≤ 13 := by rw [← e59]; exact hI_M20 598 100 (by decide)
    have y60 : M20 598 100 = v59 := e59
    obtain ⟨v61, e61⟩ : ∃ z, M20 598 107 = z := ⟨_, rfl⟩
    have b61 : 0 ≤ v61 ∧ v61 ≤ 16 := by rw [← e61]; exact hI_M20 598 107 (by decide)
    have y62 : M20 598 107 = v61 := e61
    have y63 : M20 598 80 = v48 := e48
    have e64 : M4 598 88 = v1 + 1 := ((w4_6 88 (by decide) (by decide) (by decide) (by decide) (by decide) (by decide) (by decide)).trans (ju_same _ _ _ _))
    have e65 : M20 598 88 = v1 + 1 := ((w20_11 88 (by decide) (by decide) (by decide) (by decide) (by decide) (by decide) (by decide) (by decide) (by decide) (by decide) (by decide)).trans ((ju_i _ _ (by decide)).trans ((ju_i _ _ (by decide)).trans e64)))
    refine jr.pick (ls := [_]) [0] rfl rfl ?_
    have y66 : M20 598 80 = v48 := e48
    exact r_chain_L148 (dd := dd) q 3203 M20  hI_M20 hH_M20 hS_M20  (fun a i f598 f659 f660 f661 f662 f663 f664 f665 f666 f667 f668 f669 f656 f657 f658 => ((w20_10 a i f598 f668 f669).trans ((ju_c _ _ f598).trans ((ju_c _ _ f598).trans ((w4_5 a i f598).trans ((ju_c _ _ f598).trans ((ju_c _ _ f658).trans ((ju_c _ _ f657).trans ((ju_c _ _ f656).trans (hF_M a i f598 f659 f660 f661 f662 f663 f664 f665 f666 f667 f668 f669 f656 f657 f658)))))))))) (fun i g73 g74 g75 g76 g77 g78 g79 g80 g81 g89 g90 g96 g100 g102 g107 g88 g101 => ((w20_11 i g73 g74 g75 g76 g77 g78 g79 g80 g81 g100 g107).trans ((ju_i _ _ g101).trans ((ju_i _ _ g100).trans ((w4_6 i g73 g74 g75 g76 g77 g78 g79).trans ((ju_i _ _ g88).trans ((ju_c _ _ (by decide)).trans ((ju_c _ _ (by decide)).trans ((ju_c _ _ (by decide)).trans (hG_M i g73 g74 g75 g76 g77 g78 g79 g80 g81 g89 g90 g96 g100 g102 g107 g88 g101))))))))))  (by by_cases hf : v48 = 0; (first | (have e0 : (ju (ju M4 598 100 0) 598 101 0) 598 107 = 0 := (by omega); have e1 : (ju (ju M4 598 100 0) 598 101 0) 598 101 = 0 := (by omega); have hX := w20_9 0 (0 + 4) 0 0 _ hX (by omega) (fun _ => ⟨by omega, by omega, by omega, rfl⟩) (fun q => by exfalso; omega) (by rw [e0, e1]; decide) (by omega); have hB := LB.fr hB (fun i => w20_10 659 i (by decide) (by decide) (by decide)) (w20_11 90 (by decide) (by decide) (by decide) (by decide) (by decide) (by decide) (by decide) (by decide) (by decide) (by decide) (by decide)); have hA := AK.cp hA (CP.f (CP.rfl _) (fun i => w20_10 659 i (by decide) (by decide) (by decide)) (w20_11 90 (by decide) (by decide) (by decide) (by decide) (by decide) (by decide) (by decide) (by decide) (by decide) (by decide) (by decide))) (fun i => w20_10 663 i (by decide) (by decide) (by decide)) (w20_11 96 (by decide) (by decide) (by decide) (by decide) (by decide) (by decide) (by decide) (by decide) (by decide) (by decide) (by decide)); exact Or.inr (Or.inl ⟨by omega, ⟨by omega, XS.adj hX (k' := 0) (z' := 0) (by omega) (by omega) (by omega), by omega, by omega, by omega, by omega, hB, hA, by omega⟩⟩)) | (exfalso; omega)); (exact Or.inl ⟨by omega, by omega⟩)) (by rw [e42, e40] <;> omega) (by omega) (by omega) (by rw [e65] <;> omega) (by have t := TK.le (M := M20) (by omega); omega)
end
