theorem r_reduce_L0 {A : Nat → Option (Nat × (Nat → Int32))} {Q : Option Value → jm → Prop} {b kk : Int} {M0 : jm} {y0 : Int} (q : ∀ (M' : jm), RI M' → RH M' → RF M' → GS M' b 1 kk → (M' 598 102 = 0 ∨ strn (M' 664 (M' 598 102 - 1)) < y0) → TK M' = TK M0 → CP M0 M' → (∀ (a : Nat) (i : Int), a ≠ 598 → a ≠ 659 → a ≠ 660 → M' a i = M0 a i) → (∀ (i : Int), i ≠ 90 → i ≠ 100 → i ≠ 102 → M' 598 i = M0 598 i) → Q none M') : ∀ (nM : Nat) (M : jm) (y : Int), RI M → RH M → RF M → (∀ (a : Nat) (i : Int), a ≠ 598 → a ≠ 659 → a ≠ 660 → M a i = M0 a i) → (∀ (i : Int), i ≠ 90 → i ≠ 100 → i ≠ 102 → M 598 i = M0 598 i) → 1 ≤ y ∧ y ≤ 6 → GS M b 1 kk → TK M = TK M0 → CP M0 M → y = y0 → M 598 102 ≤ nM → jr A 1 xm_355 0 [(1, .int (Int32.ofInt (y))), (0, .ref (598))] [] M Q := by
  intro nM
  induction nM using Nat.strongRecOn with
  | ind nM ih =>
    intro M y hI_M hH_M hS_M hF_M hG_M h_y hy0 hy1 hy2 hy3 hm
    subst hy3
    obtain ⟨gs1, gs2, gs3, gs4, gs5, gs6⟩ := id hy0
    have hE := gs2
    have sl := ES.sgle gs2
    have bb := ES.bb gs2
    have kb := ES.kz gs2
    have b107 : (0 : Int) ≤ M 598 107 ∧ M 598 107 ≤ 16 := hI_M 598 107 (by decide)
    have b73 : (0 : Int) ≤ M 598 73 ∧ M 598 73 ≤ 1600 := hI_M 598 73 (by decide)
    have b88 : (0 : Int) ≤ M 598 88 ∧ M 598 88 ≤ 16 := hI_M 598 88 (by decide)
    have b100 : (0 : Int) ≤ M 598 100 ∧ M 598 100 ≤ 13 := hI_M 598 100 (by decide)
    have hCP := hy2
    refine jr.aload_n rfl rfl ?_
    obtain ⟨v1, e1⟩ : ∃ z, M 598 102 = z := ⟨_, rfl⟩
    have b1 : 0 ≤ v1 ∧ v1 ≤ 400 := by rw [← e1]; exact hI_M 598 102 (by decide)
    refine jr.getf (i := 102) (x := v1) (v := .int (Int32.ofInt (v1))) rfl rfl (by decide) rfl (by decide) rfl rfl e1 rfl ?_
    refine jr.if_le rfl rfl (by omega) (fun h4 => ?_) (fun h4 => ?_)
    · exact jr.vreturn rfl rfl (q _ hI_M hH_M hS_M  hy0 (Or.inl (by omega)) hy1 hCP (fun a i f598 f659 f660 => (hF_M a i f598 f659 f660)) (fun i g90 g100 g102 => (hG_M i g90 g100 g102)))
    · refine jr.aload_n rfl rfl ?_
      refine jr.getf (i := 103) (v := .ref 664) rfl rfl (by decide) rfl (by decide) rfl rfl rfl rfl ?_
      refine jr.aload_n rfl rfl ?_
      refine jr.getf (i := 102) (x := v1) (v := .int (Int32.ofInt (v1))) rfl rfl (by decide) rfl (by decide) rfl rfl e1 rfl ?_
      refine jr.iconst rfl ?_
      refine jr.isub rfl ?_
      obtain ⟨v2, e2⟩ : ∃ z, M 664 (v1 - 1) = z := ⟨_, rfl⟩
      have b2 : 0 ≤ v2 ∧ v2 ≤ 255 := by rw [← e2]; exact (by have q := hI_M 664 (v1 - 1) (by decide); rw [xri_row rfl rfl] at q; exact q)
      refine jr.iald (i := (v1 - 1)) (x := v2) rfl (by decide) rfl (by decide) (by omega) (by omega) e2 ?_
      refine jr.bipush rfl (by decide) ?_
      refine jr.icmp_eq rfl rfl (by omega) (by omega) (fun h20 => ?_) (fun h20 => ?_)
      · exact jr.vreturn rfl rfl (q _ hI_M hH_M hS_M  hy0 (by rw [e1]; first | exact Or.inr (by rw [e2, h20]; show (0 : Int) < y; omega) | exact Or.inr (by rw [e2]; omega)) hy1 hCP (fun a i f598 f659 f660 => (hF_M a i f598 f659 f660)) (fun i g90 g100 g102 => (hG_M i g90 g100 g102)))
      · refine jr.aload_n rfl rfl ?_
        refine jr.getf (i := 103) (v := .ref 664) rfl rfl (by decide) rfl (by decide) rfl rfl rfl rfl ?_
        refine jr.aload_n rfl rfl ?_
        refine jr.getf (i := 102) (x := v1) (v := .int (Int32.ofInt (v1))) rfl rfl (by decide) rfl (by decide) rfl rfl e1 rfl ?_
        refine jr.iconst rfl ?_
        refine jr.isub rfl ?_
        refine jr.iald (i := (v1 - 1)) (x := v2) rfl (by decide) rfl (by decide) (by omega) (by omega) e2 ?_
        refine jr_s rfl rfl (Or.inl rfl) ⟨Nat.le_of_ble_eq_true rfl, Nat.le_of_ble_eq_true rfl⟩ rfl rfl (jc.deep (r_strength hI_M hH_M hS_M (Kp.rfl _) (by omega)  (fun r3 z3 w3_0 => ?_)) (by decide))
        have tp := ES.top gs2 (by omega)
        rw [e1, e2] at tp
        have dp1 := ES.dpos gs2 (by omega)
        rw [e1, e2] at dp1
        have pt1 := ES.ptl gs2 (by omega)
        rw [e1, e2] at pt1
        refine jr.iload_n rfl rfl ?_
        refine jr.icmp_lt rfl rfl (by omega) (by omega) (fun h38 => ?_) (fun h38 => ?_)
        · exact jr.vreturn rfl rfl (q _ hI_M hH_M hS_M  hy0 (by rw [e1]; first | exact Or.inr (by rw [e2, h20]; show (0 : Int) < y; omega) | exact Or.inr (by rw [e2]; omega)) hy1 hCP (fun a i f598 f659 f660 => (hF_M a i f598 f659 f660)) (fun i g90 g100 g102 => (hG_M i g90 g100 g102)))
        · refine jr.aload_n rfl rfl ?_
          refine jr.dup rfl rfl ?_
          refine jr.getf (i := 102) (x := v1) (v := .int (Int32.ofInt (v1))) rfl rfl (by decide) rfl (by decide) rfl rfl e1 rfl ?_
          refine jr.iconst rfl ?_
          refine jr.isub rfl ?_
          refine jr.putf (i := 102) (x := (v1 - 1)) rfl rfl (by decide) rfl (by decide) rfl rfl rfl rfl rfl ?_
          refine jr.aload_n rfl rfl ?_
          refine jr.getf (i := 103) (v := .ref 664) rfl rfl (by decide) rfl (by decide) rfl rfl rfl rfl ?_
          refine jr.aload_n rfl rfl ?_
          refine jr.getf (i := 102) (x := (v1 - 1)) (v := .int (Int32.ofInt (v1 - 1))) rfl rfl (by decide) rfl (by decide) rfl rfl (ju_same _ _ _ _) rfl ?_
          refine jr.iald (i := (v1 - 1)) (x := v2) rfl (by decide) rfl (by decide) (by omega) (by omega) ((ju_c _ _ (by decide)).trans e2) ?_
          refine jr.istore_n (ls' := [_, _, _]) rfl (by decide) rfl ?_
          refine jr.iload_n rfl rfl ?_
          refine jr.bipush rfl (by decide) ?_
          refine jr.icmp_eq rfl rfl (by omega) (by omega) (fun h64 => ?_) (fun h64 => ?_)
          · refine jr.aload_n rfl rfl ?_
            refine jr.iload_n rfl rfl ?_
            refine jr.lconst (x := 0) rfl (by decide) ?_
            obtain ⟨v4, e4⟩ : ∃ z, M 598 90 = z := ⟨_, rfl⟩
            have b4 : 0 ≤ v4 ∧ v4 ≤ 2200 := by rw [← e4]; exact hI_M 598 90 (by decide)
            refine jr_v rfl rfl (Or.inl rfl) rfl rfl (by decide) rfl ⟨rfl, Nat.le_of_ble_eq_true rfl, Nat.le_of_ble_eq_true rfl⟩ rfl (jc.deep (r_emit ((ju_i _ _ (by decide)).trans e4) (by omega) (by omega) (by omega) ?_) (by decide))
            refine jr.aload_n rfl rfl ?_
            refine jr.dup rfl rfl ?_
            obtain ⟨v5, e5⟩ : ∃ z, M 598 100 = z := ⟨_, rfl⟩
            have b5 : 0 ≤ v5 ∧ v5 ≤ 13 := by rw [← e5]; exact hI_M 598 100 (by decide)
            refine jr.getf (i := 100) (x := v5) (v := .int (Int32.ofInt (v5))) rfl rfl (by decide) rfl (by decide) rfl rfl ((ju_i _ _ (by decide)).trans ((ju_c _ _ (by decide)).trans ((ju_c _ _ (by decide)).trans ((ju_i _ _ (by decide)).trans e5)))) rfl ?_
            refine jr.iconst rfl ?_
            refine jr.isub rfl ?_
            refine jr.putf (i := 100) (x := (v5 - 1)) rfl rfl (by decide) rfl (by decide) rfl rfl rfl rfl rfl ?_
            refine jr.goto rfl rfl ?_
            refine jr.goto rfl rfl ?_
            obtain ⟨v6, e6⟩ : ∃ z, M 598 72 = z := ⟨_, rfl⟩
            have b6 : 0 ≤ v6 ∧ v6 ≤ 1600 := by rw [← e6]; exact hI_M 598 72 (by decide)
            have y7 : (ju (ju (ju (ju (ju M 598 102 (v1 - 1)) 659 v4 v2) 660 v4 0) 598 90 (v4 + 1)) 598 100 (v5 - 1)) 598 72 = v6 := ((ju_i _ _ (by decide)).trans ((ju_i _ _ (by decide)).trans ((ju_c _ _ (by decide)).trans ((ju_c _ _ (by decide)).trans ((ju_i _ _ (by decide)).trans e6)))))
            obtain ⟨v8, e8⟩ : ∃ z, M 598 73 = z := ⟨_, rfl⟩
            have b8 : 0 ≤ v8 ∧ v8 ≤ 1600 := by rw [← e8]; exact hI_M 598 73 (by decide)
            have y9 : (ju (ju (ju (ju (ju M 598 102 (v1 - 1)) 659 v4 v2) 660 v4 0) 598 90 (v4 + 1)) 598 100 (v5 - 1)) 598 73 = v8 := ((ju_i _ _ (by decide)).trans ((ju_i _ _ (by decide)).trans ((ju_c _ _ (by decide)).trans ((ju_c _ _ (by decide)).trans ((ju_i _ _ (by decide)).trans e8)))))
            obtain ⟨v10, e10⟩ : ∃ z, M 598 74 = z := ⟨_, rfl⟩
            have b10 : 0 ≤ v10 ∧ v10 ≤ 4 := by rw [← e10]; exact hI_M 598 74 (by decide)
            have y11 : (ju (ju (ju (ju (ju M 598 102 (v1 - 1)) 659 v4 v2) 660 v4 0) 598 90 (v4 + 1)) 598 100 (v5 - 1)) 598 74 = v10 := ((ju_i _ _ (by decide)).trans ((ju_i _ _ (by decide)).trans ((ju_c _ _ (by decide)).trans ((ju_c _ _ (by decide)).trans ((ju_i _ _ (by decide)).trans e10)))))
            obtain ⟨v12, e12⟩ : ∃ z, M 598 79 = z := ⟨_, rfl⟩
            have b12 : 0 ≤ v12 ∧ v12 ≤ 255 := by rw [← e12]; exact hI_M 598 79 (by decide)
            have y13 : (ju (ju (ju (ju (ju M 598 102 (v1 - 1)) 659 v4 v2) 660 v4 0) 598 90 (v4 + 1)) 598 100 (v5 - 1)) 598 79 = v12 := ((ju_i _ _ (by decide)).trans ((ju_i _ _ (by decide)).trans ((ju_c _ _ (by decide)).trans ((ju_c _ _ (by decide)).trans ((ju_i _ _ (by decide)).trans e12)))))
            obtain ⟨v14, e14⟩ : ∃ z, M 598 80 = z := ⟨_, rfl⟩
            have b14 : 0 ≤ v14 ∧ v14 ≤ 7 := by rw [← e14]; exact hI_M 598 80 (by decide)
            have y15 : (ju (ju (ju (ju (ju M 598 102 (v1 - 1)) 659 v4 v2) 660 v4 0) 598 90 (v4 + 1)) 598 100 (v5 - 1)) 598 80 = v14 := ((ju_i _ _ (by decide)).trans ((ju_i _ _ (by decide)).trans ((ju_c _ _ (by decide)).trans ((ju_c _ _ (by decide)).trans ((ju_i _ _ (by decide)).trans e14)))))
            obtain ⟨v16, e16⟩ : ∃ z, M 598 89 = z := ⟨_, rfl⟩
            have b16 : 0 ≤ v16 ∧ v16 ≤ 301 := by rw [← e16]; exact hI_M 598 89 (by decide)
            have y17 : (ju (ju (ju (ju (ju M 598 102 (v1 - 1)) 659 v4 v2) 660 v4 0) 598 90 (v4 + 1)) 598 100 (v5 - 1)) 598 89 = v16 := ((ju_i _ _ (by decide)).trans ((ju_i _ _ (by decide)).trans ((ju_c _ _ (by decide)).trans ((ju_c _ _ (by decide)).trans ((ju_i _ _ (by decide)).trans e16)))))
            have y18 : (ju (ju (ju (ju (ju M 598 102 (v1 - 1)) 659 v4 v2) 660 v4 0) 598 90 (v4 + 1)) 598 100 (v5 - 1)) 598 100 = v5 - 1 := (ju_same _ _ _ _)
            refine jr.pick (ls := [_, _]) [1, 2] rfl rfl ?_
            exact ih (nM - 1) (by omega) (ju (ju (ju (ju (ju M 598 102 (v1 - 1)) 659 v4 v2) 660 v4 0) 598 90 (v4 + 1)) 598 100 (v5 - 1)) y (RI.u (RI.u (RI.u (RI.u (RI.u hI_M (a := 598) (i := 102) (show (0 : Int) ≤ _ ∧ _ ≤ (400 : Int) from by omega)) (a := 659) (i := v4) (by rw [xri_row rfl rfl]; show (0 : Int) ≤ _ ∧ _ ≤ (1000 : Int); omega)) (a := 660) (i := v4) (by rw [xri_row rfl rfl]; show (-9223372036854775808 : Int) ≤ _ ∧ _ ≤ (9223372036854775807 : Int); omega)) (a := 598) (i := 90) (show (0 : Int) ≤ _ ∧ _ ≤ (2200 : Int) from by omega)) (a := 598) (i := 100) (show (0 : Int) ≤ _ ∧ _ ≤ (13 : Int) from by omega)) (RH.o (RH.o (RH.o (RH.o (RH.o hH_M (by decide) (by decide) (by decide)) (by decide) (by decide) (by decide)) (by decide) (by decide) (by decide)) (by decide) (by decide) (by decide)) (by decide) (by decide) (by decide)) (RF.o (RF.o (RF.o (RF.o (RF.o hS_M (by decide) (by decide)) (by decide) (by decide)) (by decide) (by decide)) (by decide) (by decide)) (by decide) (by decide))  (fun a i f598 f659 f660 => ((ju_c _ _ f598).trans ((ju_c _ _ f598).trans ((ju_c _ _ f660).trans ((ju_c _ _ f659).trans ((ju_c _ _ f598).trans (hF_M a i f598 f659 f660))))))) (fun i g90 g100 g102 => ((ju_i _ _ g100).trans ((ju_i _ _ g90).trans ((ju_c _ _ (by decide)).trans ((ju_c _ _ (by decide)).trans ((ju_i _ _ g102).trans (hG_M i g90 g100 g102))))))) (by omega) ⟨by omega, ES.adj (ES.redU gs2 e1 e4 e5 e2 (by omega) (by omega) (by omega)) (k' := kk) (z' := 0) (by omega) (by omega) (by omega), by omega, by omega, by omega, by omega⟩ ((((TK.o (Or.inr ⟨by decide, by decide⟩)).trans ((TK.o (Or.inr ⟨by decide, by decide⟩)).trans ((TK.o (Or.inl (by decide))).trans ((TK.o (Or.inl (by decide))).trans ((TK.o (Or.inr ⟨by decide, by decide⟩)).trans rfl)))))).trans hy1) (CP.o (CP.emit (CP.o hCP (by decide) (Or.inr (by decide))) ((ju_i _ _ (by decide)).trans e4)) (by decide) (Or.inr (by decide))) (by omega) (by rw [((ju_i _ _ (by decide)).trans ((ju_i _ _ (by decide)).trans ((ju_c _ _ (by decide)).trans ((ju_c _ _ (by decide)).trans (ju_same _ _ _ _)))))]; omega)
          · refine jr.iload_n rfl rfl ?_
            refine jr.bipush rfl (by decide) ?_
            refine jr.icmp_ne rfl rfl (by omega) (by omega) (fun h70 => ?_) (fun h70 => ?_)
            · refine jr.iload_n rfl rfl ?_
              refine jr.bipush rfl (by decide) ?_
              refine jr.icmp_eq rfl rfl (by omega) (by omega) (fun h95 => ?_) (fun h95 => ?_)
              · refine jr.aload_n rfl rfl ?_
                refine jr.bipush rfl (by decide) ?_
                refine jr.lconst (x := 0) rfl (by decide) ?_
                obtain ⟨v19, e19⟩ : ∃ z, M 598 90 = z := ⟨_, rfl⟩
                have b19 : 0 ≤ v19 ∧ v19 ≤ 2200 := by rw [← e19]; exact hI_M 598 90 (by decide)
                refine jr_v rfl rfl (Or.inl rfl) rfl rfl (by decide) rfl ⟨rfl, Nat.le_of_ble_eq_true rfl, Nat.le_of_ble_eq_true rfl⟩ rfl (jc.deep (r_emit ((ju_i _ _ (by decide)).trans e19) (by omega) (by omega) (by omega) ?_) (by decide))
                refine jr.aload_n rfl rfl ?_
                refine jr.getf (i := 95) (v := .ref 660) rfl rfl (by decide) rfl (by decide) rfl rfl rfl rfl ?_
                refine jr.aload_n rfl rfl ?_
                refine jr.getf (i := 104) (v := .ref 665) rfl rfl (by decide) rfl (by decide) rfl rfl rfl rfl ?_
                refine jr.aload_n rfl rfl ?_
                refine jr.getf (i := 102) (x := (v1 - 1)) (v := .int (Int32.ofInt (v1 - 1))) rfl rfl (by decide) rfl (by decide) rfl rfl ((ju_i _ _ (by decide)).trans ((ju_c _ _ (by decide)).trans ((ju_c _ _ (by decide)).trans (ju_same _ _ _ _)))) rfl ?_
                obtain ⟨v20, e20⟩ : ∃ z, M 665 (v1 - 1) = z := ⟨_, rfl⟩
                have b20 : 0 ≤ v20 ∧ v20 ≤ 2200 := by rw [← e20]; exact (by have q := hI_M 665 (v1 - 1) (by decide); rw [xri_row rfl rfl] at q; exact q)
                refine jr.iald (i := (v1 - 1)) (x := v20) rfl (by decide) rfl (by decide) (by omega) (by omega) ((ju_c _ _ (by decide)).trans ((ju_c _ _ (by decide)).trans ((ju_c _ _ (by decide)).trans ((ju_c _ _ (by decide)).trans e20)))) ?_
                refine jr.aload_n rfl rfl ?_
                refine jr.getf (i := 90) (x := (v19 + 1)) (v := .int (Int32.ofInt (v19 + 1))) rfl rfl (by decide) rfl (by decide) rfl rfl (ju_same _ _ _ _) rfl ?_
                refine jr.i2l rfl (by omega) ?_
                refine jr.last (i := v20) (x := (v19 + 1)) rfl (by decide) rfl (by decide) (by omega) (by omega) ?_
                refine jr.goto rfl rfl ?_
                refine jr.goto rfl rfl ?_
                obtain ⟨v21, e21⟩ : ∃ z, M 598 72 = z := ⟨_, rfl⟩
                have b21 : 0 ≤ v21 ∧ v21 ≤ 1600 := by rw [← e21]; exact hI_M 598 72 (by decide)
                have y22 : (ju (ju (ju (ju (ju M 598 102 (v1 - 1)) 659 v19 9) 660 v19 0) 598 90 (v19 + 1)) 660 v20 (v19 + 1)) 598 72 = v21 := ((ju_c _ _ (by decide)).trans ((ju_i _ _ (by decide)).trans ((ju_c _ _ (by decide)).trans ((ju_c _ _ (by decide)).trans ((ju_i _ _ (by decide)).trans e21)))))
                obtain ⟨v23, e23⟩ : ∃ z, M 598 73 = z := ⟨_, rfl⟩
                have b23 : 0 ≤ v23 ∧ v23 ≤ 1600 := by rw [← e23]; exact hI_M 598 73 (by decide)
                have y24 : (ju (ju (ju (ju (ju M 598 102 (v1 - 1)) 659 v19 9) 660 v19 0) 598 90 (v19 + 1)) 660 v20 (v19 + 1)) 598 73 = v23 := ((ju_c _ _ (by decide)).trans ((ju_i _ _ (by decide)).trans ((ju_c _ _ (by decide)).trans ((ju_c _ _ (by decide)).trans ((ju_i _ _ (by decide)).trans e23)))))
                obtain ⟨v25, e25⟩ : ∃ z, M 598 74 = z := ⟨_, rfl⟩
                have b25 : 0 ≤ v25 ∧ v25 ≤ 4 := by rw [← e25]; exact hI_M 598 74 (by decide)
                have y26 : (ju (ju (ju (ju (ju M 598 102 (v1 - 1)) 659 v19 9) 660 v19 0) 598 90 (v19 + 1)) 660 v20 (v19 + 1)) 598 74 = v25 := ((ju_c _ _ (by decide)).trans ((ju_i _ _ (by decide)).trans ((ju_c _ _ (by decide)).trans ((ju_c _ _ (by decide)).trans ((ju_i _ _ (by decide)).trans e25)))))
                obtain ⟨v27, e27⟩ : ∃ z, M 598 79 = z := ⟨_, rfl⟩
                have b27 : 0 ≤ v27 ∧ v27 ≤ 255 := by rw [← e27]; exact hI_M 598 79 (by decide)
                have y28 : (ju (ju (ju (ju (ju M 598 102 (v1 - 1)) 659 v19 9) 660 v19 0) 598 90 (v19 + 1)) 660 v20 (v19 + 1)) 598 79 = v27 := ((ju_c _ _ (by decide)).trans ((ju_i _ _ (by decide)).trans ((ju_c _ _ (by decide)).trans ((ju_c _ _ (by decide)).trans ((ju_i _ _ (by decide)).trans e27)))))
                obtain ⟨v29, e29⟩ : ∃ z, M 598 80 = z := ⟨_, rfl⟩
                have b29 : 0 ≤ v29 ∧ v29 ≤ 7 := by rw [← e29]; exact hI_M 598 80 (by decide)
                have y30 : (ju (ju (ju (ju (ju M 598 102 (v1 - 1)) 659 v19 9) 660 v19 0) 598 90 (v19 + 1)) 660 v20 (v19 + 1)) 598 80 = v29 := ((ju_c _ _ (by decide)).trans ((ju_i _ _ (by decide)).trans ((ju_c _ _ (by decide)).trans ((ju_c _ _ (by decide)).trans ((ju_i _ _ (by decide)).trans e29)))))
                obtain ⟨v31, e31⟩ : ∃ z, M 598 89 = z := ⟨_, rfl⟩
                have b31 : 0 ≤ v31 ∧ v31 ≤ 301 := by rw [← e31]; exact hI_M 598 89 (by decide)
                have y32 : (ju (ju (ju (ju (ju M 598 102 (v1 - 1)) 659 v19 9) 660 v19 0) 598 90 (v19 + 1)) 660 v20 (v19 + 1)) 598 89 = v31 := ((ju_c _ _ (by decide)).trans ((ju_i _ _ (by decide)).trans ((ju_c _ _ (by decide)).trans ((ju_c _ _ (by decide)).trans ((ju_i _ _ (by decide)).trans e31)))))
                obtain ⟨v33, e33⟩ : ∃ z, M 598 100 = z := ⟨_, rfl⟩
                have b33 : 0 ≤ v33 ∧ v33 ≤ 13 := by rw [← e33]; exact hI_M 598 100 (by decide)
                have y34 : (ju (ju (ju (ju (ju M 598 102 (v1 - 1)) 659 v19 9) 660 v19 0) 598 90 (v19 + 1)) 660 v20 (v19 + 1)) 598 100 = v33 := ((ju_c _ _ (by decide)).trans ((ju_i _ _ (by decide)).trans ((ju_c _ _ (by decide)).trans ((ju_c _ _ (by decide)).trans ((ju_i _ _ (by decide)).trans e33)))))
                refine jr.pick (ls := [_, _]) [1, 2] rfl rfl ?_
                exact ih (nM - 1) (by omega) (ju (ju (ju (ju (ju M 598 102 (v1 - 1)) 659 v19 9) 660 v19 0) 598 90 (v19 + 1)) 660 v20 (v19 + 1)) y (RI.u (RI.u (RI.u (RI.u (RI.u hI_M (a := 598) (i := 102) (show (0 : Int) ≤ _ ∧ _ ≤ (400 : Int) from by omega)) (a := 659) (i := v19) (by rw [xri_row rfl rfl]; show (0 : Int) ≤ _ ∧ _ ≤ (1000 : Int); omega)) (a := 660) (i := v19) (by rw [xri_row rfl rfl]; show (-9223372036854775808 : Int) ≤ _ ∧ _ ≤ (9223372036854775807 : Int); omega)) (a := 598) (i := 90) (show (0 : Int) ≤ _ ∧ _ ≤ (2200 : Int) from by omega)) (a := 660) (i := v20) (by rw [xri_row rfl rfl]; show (-9223372036854775808 : Int) ≤ _ ∧ _ ≤ (9223372036854775807 : Int); omega)) (RH.o (RH.o (RH.o (RH.o (RH.o hH_M (by decide) (by decide) (by decide)) (by decide) (by decide) (by decide)) (by decide) (by decide) (by decide)) (by decide) (by decide) (by decide)) (by decide) (by decide) (by decide)) (RF.o (RF.o (RF.o (RF.o (RF.o hS_M (by decide) (by decide)) (by decide) (by decide)) (by decide) (by decide)) (by decide) (by decide)) (by decide) (by decide))  (fun a i f598 f659 f660 => ((ju_c _ _ f660).trans ((ju_c _ _ f598).trans ((ju_c _ _ f660).trans ((ju_c _ _ f659).trans ((ju_c _ _ f598).trans (hF_M a i f598 f659 f660))))))) (fun i g90 g100 g102 => ((ju_c _ _ (by decide)).trans ((ju_i _ _ g90).trans ((ju_c _ _ (by decide)).trans ((ju_c _ _ (by decide)).trans ((ju_i _ _ g102).trans (hG_M i g90 g100 g102))))))) (by omega) ⟨by omega, ES.adj (ES.redA gs2 e1 e19 e20 (by omega) (by rw [e2]; omega) (by omega)) (k' := kk) (z' := 0) (by omega) (by omega) (by omega), by omega, by omega, by omega, by omega⟩ ((((TK.o (Or.inl (by decide))).trans ((TK.o (Or.inr ⟨by decide, by decide⟩)).trans ((TK.o (Or.inl (by decide))).trans ((TK.o (Or.inl (by decide))).trans ((TK.o (Or.inr ⟨by decide, by decide⟩)).trans rfl)))))).trans hy1) (CP.o (CP.emit (CP.o hCP (by decide) (Or.inr (by decide))) ((ju_i _ _ (by decide)).trans e19)) (by decide) (Or.inl (by decide))) (by omega) (by rw [((ju_c _ _ (by decide)).trans ((ju_i _ _ (by decide)).trans ((ju_c _ _ (by decide)).trans ((ju_c _ _ (by decide)).trans (ju_same _ _ _ _)))))]; omega)
              · refine jr.iload_n rfl rfl ?_
                refine jr.bipush rfl (by decide) ?_
                refine jr.icmp_ne rfl rfl (by omega) (by omega) (fun h101 => ?_) (fun h101 => ?_)
                · refine jr.aload_n rfl rfl ?_
                  refine jr.bipush rfl (by decide) ?_
                  refine jr.iload_n rfl rfl ?_
                  refine jr.iadd rfl ?_
                  refine jr.lconst (x := 0) rfl (by decide) ?_
                  obtain ⟨v35, e35⟩ : ∃ z, M 598 90 = z := ⟨_, rfl⟩
                  have b35 : 0 ≤ v35 ∧ v35 ≤ 2200 := by rw [← e35]; exact hI_M 598 90 (by decide)
                  refine jr_v rfl rfl (Or.inl rfl) rfl rfl (by decide) rfl ⟨rfl, Nat.le_of_ble_eq_true rfl, Nat.le_of_ble_eq_true rfl⟩ rfl (jc.deep (r_emit ((ju_i _ _ (by decide)).trans e35) (by omega) (by omega) (by omega) ?_) (by decide))
                  refine jr.goto rfl rfl ?_
                  obtain ⟨v36, e36⟩ : ∃ z, M 598 72 = z := ⟨_, rfl⟩
                  have b36 : 0 ≤ v36 ∧ v36 ≤ 1600 := by rw [← e36]; exact hI_M 598 72 (by decide)
                  have y37 : (ju (ju (ju (ju M 598 102 (v1 - 1)) 659 v35 (100 + v2)) 660 v35 0) 598 90 (v35 + 1)) 598 72 = v36 := ((ju_i _ _ (by decide)).trans ((ju_c _ _ (by decide)).trans ((ju_c _ _ (by decide)).trans ((ju_i _ _ (by decide)).trans e36))))
                  obtain ⟨v38, e38⟩ : ∃ z, M 598 73 = z := ⟨_, rfl⟩
                  have b38 : 0 ≤ v38 ∧ v38 ≤ 1600 := by rw [← e38]; exact hI_M 598 73 (by decide)
                  have y39 : (ju (ju (ju (ju M 598 102 (v1 - 1)) 659 v35 (100 + v2)) 660 v35 0) 598 90 (v35 + 1)) 598 73 = v38 := ((ju_i _ _ (by decide)).trans ((ju_c _ _ (by decide)).trans ((ju_c _ _ (by decide)).trans ((ju_i _ _ (by decide)).trans e38))))
                  obtain ⟨v40, e40⟩ : ∃ z, M 598 74 = z := ⟨_, rfl⟩
                  have b40 : 0 ≤ v40 ∧ v40 ≤ 4 := by rw [← e40]; exact hI_M 598 74 (by decide)
                  have y41 : (ju (ju (ju (ju M 598 102 (v1 - 1)) 659 v35 (100 + v2)) 660 v35 0) 598 90 (v35 + 1)) 598 74 = v40 := ((ju_i _ _ (by decide)).trans ((ju_c _ _ (by decide)).trans ((ju_c _ _ (by decide)).trans ((ju_i _ _ (by decide)).trans e40))))
                  obtain ⟨v42, e42⟩ : ∃ z, M 598 79 = z := ⟨_, rfl⟩
                  have b42 : 0 ≤ v42 ∧ v42 ≤ 255 := by rw [← e42]; exact hI_M 598 79 (by decide)
                  have y43 : (ju (ju (ju (ju M 598 102 (v1 - 1)) 659 v35 (100 + v2)) 660 v35 0) 598 90 (v35 + 1)) 598 79 = v42 := ((ju_i _ _ (by decide)).trans ((ju_c _ _ (by decide)).trans ((ju_c _ _ (by decide)).trans ((ju_i _ _ (by decide)).trans e42))))
                  obtain ⟨v44, e44⟩ : ∃ z, M 598 80 = z := ⟨_, rfl⟩
                  have b44 : 0 ≤ v44 ∧ v44 ≤ 7 := by rw [← e44]; exact hI_M 598 80 (by decide)
                  have y45 : (ju (ju (ju (ju M 598 102 (v1 - 1)) 659 v35 (100 + v2)) 660 v35 0) 598 90 (v35 + 1)) 598 80 = v44 := ((ju_i _ _ (by decide)).trans ((ju_c _ _ (by decide)).trans ((ju_c _ _ (by decide)).trans ((ju_i _ _ (by decide)).trans e44))))
                  obtain ⟨v46, e46⟩ : ∃ z, M 598 89 = z := ⟨_, rfl⟩
                  have b46 : 0 ≤ v46 ∧ v46 ≤ 301 := by rw [← e46]; exact hI_M 598 89 (by decide)
                  have y47 : (ju (ju (ju (ju M 598 102 (v1 - 1)) 659 v35 (100 + v2)) 660 v35 0) 598 90 (v35 + 1)) 598 89 = v46 := ((ju_i _ _ (by decide)).trans ((ju_c _ _ (by decide)).trans ((ju_c _ _ (by decide)).trans ((ju_i _ _ (by decide)).trans e46))))
                  obtain ⟨v48, e48⟩ : ∃ z, M 598 100 = z := ⟨_, rfl⟩
                  have b48 : 0 ≤ v48 ∧ v48 ≤ 13 := by rw [← e48]; exact hI_M 598 100 (by decide)
                  have y49 : (ju (ju (ju (ju M 598 102 (v1 - 1)) 659 v35 (100 + v2)) 660 v35 0) 598 90 (v35 + 1)) 598 100 = v48 := ((ju_i _ _ (by decide)).trans ((ju_c _ _ (by decide)).trans ((ju_c _ _ (by decide)).trans ((ju_i _ _ (by decide)).trans e48))))
                  refine jr.pick (ls := [_, _]) [1, 2] rfl rfl ?_
                  exact ih (nM - 1) (by omega) (ju (ju (ju (ju M 598 102 (v1 - 1)) 659 v35 (100 + v2)) 660 v35 0) 598 90 (v35 + 1)) y (RI.u (RI.u (RI.u (RI.u hI_M (a := 598) (i := 102) (show (0 : Int) ≤ _ ∧ _ ≤ (400 : Int) from by omega)) (a := 659) (i := v35) (by rw [xri_row rfl rfl]; show (0 : Int) ≤ _ ∧ _ ≤ (1000 : Int); omega)) (a := 660) (i := v35) (by rw [xri_row rfl rfl]; show (-9223372036854775808 : Int) ≤ _ ∧ _ ≤ (9223372036854775807 : Int); omega)) (a := 598) (i := 90) (show (0 : Int) ≤ _ ∧ _ ≤ (2200 : Int) from by omega)) (RH.o (RH.o (RH.o (RH.o hH_M (by decide) (by decide) (by decide)) (by decide) (by decide) (by decide)) (by decide) (by decide) (by decide)) (by decide) (by decide) (by decide)) (RF.o (RF.o (RF.o (RF.o hS_M (by decide) (by decide)) (by decide) (by decide)) (by decide) (by decide)) (by decide) (by decide))  (fun a i f598 f659 f660 => ((ju_c _ _ f598).trans ((ju_c _ _ f660).trans ((ju_c _ _ f659).trans ((ju_c _ _ f598).trans (hF_M a i f598 f659 f660)))))) (fun i g90 g100 g102 => ((ju_i _ _ g90).trans ((ju_c _ _ (by decide)).trans ((ju_c _ _ (by decide)).trans ((ju_i _ _ g102).trans (hG_M i g90 g100 g102)))))) (by omega) ⟨by omega, ES.adj (ES.redB gs2 e1 e35 e2 (by omega) (by omega) (by omega)) (k' := kk) (z' := 0) (by omega) (by omega) (by omega), by omega, by omega, by omega, by omega⟩ ((((TK.o (Or.inr ⟨by decide, by decide⟩)).trans ((TK.o (Or.inl (by decide))).trans ((TK.o (Or.inl (by decide))).trans ((TK.o (Or.inr ⟨by decide, by decide⟩)).trans rfl))))).trans hy1) (CP.emit (CP.o hCP (by decide) (Or.inr (by decide))) ((ju_i _ _ (by decide)).trans e35)) (by omega) (by rw [((ju_i _ _ (by decide)).trans ((ju_c _ _ (by decide)).trans ((ju_c _ _ (by decide)).trans (ju_same _ _ _ _))))]; omega)
                · refine jr.aload_n rfl rfl ?_
                  refine jr.bipush rfl (by decide) ?_
                  refine jr.lconst (x := 0) rfl (by decide) ?_
                  obtain ⟨v50, e50⟩ : ∃ z, M 598 90 = z := ⟨_, rfl⟩
                  have b50 : 0 ≤ v50 ∧ v50 ≤ 2200 := by rw [← e50]; exact hI_M 598 90 (by decide)
                  refine jr_v rfl rfl (Or.inl rfl) rfl rfl (by decide) rfl ⟨rfl, Nat.le_of_ble_eq_true rfl, Nat.le_of_ble_eq_true rfl⟩ rfl (jc.deep (r_emit ((ju_i _ _ (by decide)).trans e50) (by omega) (by omega) (by omega) ?_) (by decide))
                  refine jr.aload_n rfl rfl ?_
                  refine jr.getf (i := 95) (v := .ref 660) rfl rfl (by decide) rfl (by decide) rfl rfl rfl rfl ?_
                  refine jr.aload_n rfl rfl ?_
                  refine jr.getf (i := 104) (v := .ref 665) rfl rfl (by decide) rfl (by decide) rfl rfl rfl rfl ?_
                  refine jr.aload_n rfl rfl ?_
                  refine jr.getf (i := 102) (x := (v1 - 1)) (v := .int (Int32.ofInt (v1 - 1))) rfl rfl (by decide) rfl (by decide) rfl rfl ((ju_i _ _ (by decide)).trans ((ju_c _ _ (by decide)).trans ((ju_c _ _ (by decide)).trans (ju_same _ _ _ _)))) rfl ?_
                  obtain ⟨v51, e51⟩ : ∃ z, M 665 (v1 - 1) = z := ⟨_, rfl⟩
                  have b51 : 0 ≤ v51 ∧ v51 ≤ 2200 := by rw [← e51]; exact (by have q := hI_M 665 (v1 - 1) (by decide); rw [xri_row rfl rfl] at q; exact q)
                  refine jr.iald (i := (v1 - 1)) (x := v51) rfl (by decide) rfl (by decide) (by omega) (by omega) ((ju_c _ _ (by decide)).trans ((ju_c _ _ (by decide)).trans ((ju_c _ _ (by decide)).trans ((ju_c _ _ (by decide)).trans e51)))) ?_
                  refine jr.aload_n rfl rfl ?_
                  refine jr.getf (i := 90) (x := (v50 + 1)) (v := .int (Int32.ofInt (v50 + 1))) rfl rfl (by decide) rfl (by decide) rfl rfl (ju_same _ _ _ _) rfl ?_
                  refine jr.i2l rfl (by omega) ?_
                  refine jr.last (i := v51) (x := (v50 + 1)) rfl (by decide) rfl (by decide) (by omega) (by omega) ?_
                  refine jr.goto rfl rfl ?_
                  refine jr.goto rfl rfl ?_
                  obtain ⟨v52, e52⟩ : ∃ z, M 598 72 = z := ⟨_, rfl⟩
                  have b52 : 0 ≤ v52 ∧ v52 ≤ 1600 := by rw [← e52]; exact hI_M 598 72 (by decide)
                  have y53 : (ju (ju (ju (ju (ju M 598 102 (v1 - 1)) 659 v50 9) 660 v50 0) 598 90 (v50 + 1)) 660 v51 (v50 + 1)) 598 72 = v52 := ((ju_c _ _ (by decide)).trans ((ju_i _ _ (by decide)).trans ((ju_c _ _ (by decide)).trans ((ju_c _ _ (by decide)).trans ((ju_i _ _ (by decide)).trans e52)))))
                  obtain ⟨v54, e54⟩ : ∃ z, M 598 73 = z := ⟨_, rfl⟩
                  have b54 : 0 ≤ v54 ∧ v54 ≤ 1600 := by rw [← e54]; exact hI_M 598 73 (by decide)
                  have y55 : (ju (ju (ju (ju (ju M 598 102 (v1 - 1)) 659 v50 9) 660 v50 0) 598 90 (v50 + 1)) 660 v51 (v50 + 1)) 598 73 = v54 := ((ju_c _ _ (by decide)).trans ((ju_i _ _ (by decide)).trans ((ju_c _ _ (by decide)).trans ((ju_c _ _ (by decide)).trans ((ju_i _ _ (by decide)).trans e54)))))
                  obtain ⟨v56, e56⟩ : ∃ z, M 598 74 = z := ⟨_, rfl⟩
                  have b56 : 0 ≤ v56 ∧ v56 ≤ 4 := by rw [← e56]; exact hI_M 598 74 (by decide)
                  have y57 : (ju (ju (ju (ju (ju M 598 102 (v1 - 1)) 659 v50 9) 660 v50 0) 598 90 (v50 + 1)) 660 v51 (v50 + 1)) 598 74 = v56 := ((ju_c _ _ (by decide)).trans ((ju_i _ _ (by decide)).trans ((ju_c _ _ (by decide)).trans ((ju_c _ _ (by decide)).trans ((ju_i _ _ (by decide)).trans e56)))))
                  obtain ⟨v58, e58⟩ : ∃ z, M 598 79 = z := ⟨_, rfl⟩
                  have b58 : 0 ≤ v58 ∧ v58 ≤ 255 := by rw [← e58]; exact hI_M 598 79 (by decide)
                  have y59 : (ju (ju (ju (ju (ju M 598 102 (v1 - 1)) 659 v50 9) 660 v50 0) 598 90 (v50 + 1)) 660 v51 (v50 + 1)) 598 79 = v58 := ((ju_c _ _ (by decide)).trans ((ju_i _ _ (by decide)).trans ((ju_c _ _ (by decide)).trans ((ju_c _ _ (by decide)).trans ((ju_i _ _ (by decide)).trans e58)))))
                  obtain ⟨v60, e60⟩ : ∃ z, M 598 80 = z := ⟨_, rfl⟩
                  have b60 : 0 ≤ v60 ∧ v60 ≤ 7 := by rw [← e60]; exact hI_M 598 80 (by decide)
                  have y61 : (ju (ju (ju (ju (ju M 598 102 (v1 - 1)) 659 v50 9) 660 v50 0) 598 90 (v50 + 1)) 660 v51 (v50 + 1)) 598 80 = v60 := ((ju_c _ _ (by decide)).trans ((ju_i _ _ (by decide)).trans ((ju_c _ _ (by decide)).trans ((ju_c _ _ (by decide)).trans ((ju_i _ _ (by decide)).trans e60)))))
                  obtain ⟨v62, e62⟩ : ∃ z, M 598 89 = z := ⟨_, rfl⟩
                  have b62 : 0 ≤ v62 ∧ v62 ≤ 301 := by rw [← e62]; exact hI_M 598 89 (by decide)
                  have y63 : (ju (ju (ju (ju (ju M 598 102 (v1 - 1)) 659 v50 9) 660 v50 0) 598 90 (v50 + 1)) 660 v51 (v50 + 1)) 598 89 = v62 := ((ju_c _ _ (by decide)).trans ((ju_i _ _ (by decide)).trans ((ju_c _ _ (by decide)).trans ((ju_c _ _ (by decide)).trans ((ju_i _ _ (by decide)).trans e62)))))
                  obtain ⟨v64, e64⟩ : ∃ z, M 598 100 = z := ⟨_, rfl⟩
                  have b64 : 0 ≤ v64 ∧ v64 ≤ 13 := by rw [← e64]; exact hI_M 598 100 (by decide)
                  have y65 : (ju (ju (ju (ju (ju M 598 102 (v1 - 1)) 659 v50 9) 660 v50 0) 598 90 (v50 + 1)) 660 v51 (v50 + 1)) 598 100 = v64 := ((ju_c _ _ (by decide)).trans ((ju_i _ _ (by decide)).trans ((ju_c _ _ (by decide)).trans ((ju_c _ _ (by decide)).trans ((ju_i _ _ (by decide)).trans e64)))))
                  refine jr.pick (ls := [_, _]) [1, 2] rfl rfl ?_
                  exact ih (nM - 1) (by omega) (ju (ju (ju (ju (ju M 598 102 (v1 - 1)) 659 v50 9) 660 v50 0) 598 90 (v50 + 1)) 660 v51 (v50 + 1)) y (RI.u (RI.u (RI.u (RI.u (RI.u hI_M (a := 598) (i := 102) (show (0 : Int) ≤ _ ∧ _ ≤ (400 : Int) from by omega)) (a := 659) (i := v50) (by rw [xri_row rfl rfl]; show (0 : Int) ≤ _ ∧ _ ≤ (1000 : Int); omega)) (a := 660) (i := v50) (by rw [xri_row rfl rfl]; show (-9223372036854775808 : Int) ≤ _ ∧ _ ≤ (9223372036854775807 : Int); omega)) (a := 598) (i := 90) (show (0 : Int) ≤ _ ∧ _ ≤ (2200 : Int) from by omega)) (a := 660) (i := v51) (by rw [xri_row rfl rfl]; show (-9223372036854775808 : Int) ≤ _ ∧ _ ≤ (9223372036854775807 : Int); omega)) (RH.o (RH.o (RH.o (RH.o (RH.o hH_M (by decide) (by decide) (by decide)) (by decide) (by decide) (by decide)) (by decide) (by decide) (by decide)) (by decide) (by decide) (by decide)) (by decide) (by decide) (by decide)) (RF.o (RF.o (RF.o (RF.o (RF.o hS_M (by decide) (by decide)) (by decide) (by decide)) (by decide) (by decide)) (by decide) (by decide)) (by decide) (by decide))  (fun a i f598 f659 f660 => ((ju_c _ _ f660).trans ((ju_c _ _ f598).trans ((ju_c _ _ f660).trans ((ju_c _ _ f659).trans ((ju_c _ _ f598).trans (hF_M a i f598 f659 f660))))))) (fun i g90 g100 g102 => ((ju_c _ _ (by decide)).trans ((ju_i _ _ g90).trans ((ju_c _ _ (by decide)).trans ((ju_c _ _ (by decide)).trans ((ju_i _ _ g102).trans (hG_M i g90 g100 g102))))))) (by omega) ⟨by omega, ES.adj (ES.redA gs2 e1 e50 e51 (by omega) (by rw [e2]; omega) (by omega)) (k' := kk) (z' := 0) (by omega) (by omega) (by omega), by omega, by omega, by omega, by omega⟩ ((((TK.o (Or.inl (by decide))).trans ((TK.o (Or.inr ⟨by decide, by decide⟩)).trans ((TK.o (Or.inl (by decide))).trans ((TK.o (Or.inl (by decide))).trans ((TK.o (Or.inr ⟨by decide, by decide⟩)).trans rfl)))))).trans hy1) (CP.o (CP.emit (CP.o hCP (by decide) (Or.inr (by decide))) ((ju_i _ _ (by decide)).trans e50)) (by decide) (Or.inl (by decide))) (by omega) (by rw [((ju_c _ _ (by decide)).trans ((ju_i _ _ (by decide)).trans ((ju_c _ _ (by decide)).trans ((ju_c _ _ (by decide)).trans (ju_same _ _ _ _)))))]; omega)
            · refine jr.aload_n rfl rfl ?_
              refine jr.iload_n rfl rfl ?_
              refine jr.lconst (x := 0) rfl (by decide) ?_
              obtain ⟨v66, e66⟩ : ∃ z, M 598 90 = z := ⟨_, rfl⟩
              have b66 : 0 ≤ v66 ∧ v66 ≤ 2200 := by rw [← e66]; exact hI_M 598 90 (by decide)
              refine jr_v rfl rfl (Or.inl rfl) rfl rfl (by decide) rfl ⟨rfl, Nat.le_of_ble_eq_true rfl, Nat.le_of_ble_eq_true rfl⟩ rfl (jc.deep (r_emit ((ju_i _ _ (by decide)).trans e66) (by omega) (by omega) (by omega) ?_) (by decide))
              refine jr.aload_n rfl rfl ?_
              refine jr.dup rfl rfl ?_
              obtain ⟨v67, e67⟩ : ∃ z, M 598 100 = z := ⟨_, rfl⟩
              have b67 : 0 ≤ v67 ∧ v67 ≤ 13 := by rw [← e67]; exact hI_M 598 100 (by decide)
              refine jr.getf (i := 100) (x := v67) (v := .int (Int32.ofInt (v67))) rfl rfl (by decide) rfl (by decide) rfl rfl ((ju_i _ _ (by decide)).trans ((ju_c _ _ (by decide)).trans ((ju_c _ _ (by decide)).trans ((ju_i _ _ (by decide)).trans e67)))) rfl ?_
              refine jr.iconst rfl ?_
              refine jr.isub rfl ?_
              refine jr.putf (i := 100) (x := (v67 - 1)) rfl rfl (by decide) rfl (by decide) rfl rfl rfl rfl rfl ?_
              refine jr.goto rfl rfl ?_
              refine jr.goto rfl rfl ?_
              obtain ⟨v68, e68⟩ : ∃ z, M 598 72 = z := ⟨_, rfl⟩
              have b68 : 0 ≤ v68 ∧ v68 ≤ 1600 := by rw [← e68]; exact hI_M 598 72 (by decide)
              have y69 : (ju (ju (ju (ju (ju M 598 102 (v1 - 1)) 659 v66 v2) 660 v66 0) 598 90 (v66 + 1)) 598 100 (v67 - 1)) 598 72 = v68 := ((ju_i _ _ (by decide)).trans ((ju_i _ _ (by decide)).trans ((ju_c _ _ (by decide)).trans ((ju_c _ _ (by decide)).trans ((ju_i _ _ (by decide)).trans e68)))))
              obtain ⟨v70, e70⟩ : ∃ z, M 598 73 = z := ⟨_, rfl⟩
              have b70 : 0 ≤ v70 ∧ v70 ≤ 1600 := by rw [← e70]; exact hI_M 598 73 (by decide)
              have y71 : (ju (ju (ju (ju (ju M 598 102 (v1 - 1)) 659 v66 v2) 660 v66 0) 598 90 (v66 + 1)) 598 100 (v67 - 1)) 598 73 = v70 := ((ju_i _ _ (by decide)).trans ((ju_i _ _ (by decide)).trans ((ju_c _ _ (by decide)).trans ((ju_c _ _ (by decide)).trans ((ju_i _ _ (by decide)).trans e70)))))
              obtain ⟨v72, e72⟩ : ∃ z, M 598 74 = z := ⟨_, rfl⟩
              have b72 : 0 ≤ v72 ∧ v72 ≤ 4 := by rw [← e72]; exact hI_M 598 74 (by decide)
              have y73 : (ju (ju (ju (ju (ju M 598 102 (v1 - 1)) 659 v66 v2) 660 v66 0) 598 90 (v66 + 1)) 598 100 (v67 - 1)) 598 74 = v72 := ((ju_i _ _ (by decide)).trans ((ju_i _ _ (by decide)).trans ((ju_c _ _ (by decide)).trans ((ju_c _ _ (by decide)).trans ((ju_i _ _ (by decide)).trans e72)))))
              obtain ⟨v74, e74⟩ : ∃ z, M 598 79 = z := ⟨_, rfl⟩
              have b74 : 0 ≤ v74 ∧ v74 ≤ 255 := by rw [← e74]; exact hI_M 598 79 (by decide)
              have y75 : (ju (ju (ju (ju (ju M 598 102 (v1 - 1)) 659 v66 v2) 660 v66 0) 598 90 (v66 + 1)) 598 100 (v67 - 1)) 598 79 = v74 := ((ju_i _ _ (by decide)).trans ((ju_i _ _ (by decide)).trans ((ju_c _ _ (by decide)).trans ((ju_c _ _ (by decide)).trans ((ju_i _ _ (by decide)).trans e74)))))
              obtain ⟨v76, e76⟩ : ∃ z, M 598 80 = z := ⟨_, rfl⟩
              have b76 : 0 ≤ v76 ∧ v76 ≤ 7 := by rw [← e76]; exact hI_M 598 80 (by decide)
              have y77 : (ju (ju (ju (ju (ju M 598 102 (v1 - 1)) 659 v66 v2) 660 v66 0) 598 90 (v66 + 1)) 598 100 (v67 - 1)) 598 80 = v76 := ((ju_i _ _ (by decide)).trans ((ju_i _ _ (by decide)).trans ((ju_c _ _ (by decide)).trans ((ju_c _ _ (by decide)).trans ((ju_i _ _ (by decide)).trans e76)))))
              obtain ⟨v78, e78⟩ : ∃ z, M 598 89 = z := ⟨_, rfl⟩
              have b78 : 0 ≤ v78 ∧ v78 ≤ 301 := by rw [← e78]; exact hI_M 598 89 (by decide)
              have y79 : (ju (ju (ju (ju (ju M 598 102 (v1 - 1)) 659 v66 v2) 660 v66 0) 598 90 (v66 + 1)) 598 100 (v67 - 1)) 598 89 = v78 := ((ju_i _ _ (by decide)).trans ((ju_i _ _ (by decide)).trans ((ju_c _ _ (by decide)).trans ((ju_c _ _ (by decide)).trans ((ju_i _ _ (by decide)).trans e78)))))
              have y80 : (ju (ju (ju (ju (ju M 598 102 (v1 - 1)) 659 v66 v2) 660 v66 0) 598 90 (v66 + 1)) 598 100 (v67 - 1)) 598 100 = v67 - 1 := (ju_same _ _ _ _)
              refine jr.pick (ls := [_, _]) [1, 2] rfl rfl ?_
              exact ih (nM - 1) (by omega) (ju (ju (ju (ju (ju M 598 102 (v1 - 1)) 659 v66 v2) 660 v66 0) 598 90 (v66 + 1)) 598 100 (v67 - 1)) y (RI.u (RI.u (RI.u (RI.u (RI.u hI_M (a := 598) (i := 102) (show (0 : Int) ≤ _ ∧ _ ≤ (400 : Int) from by omega)) (a := 659) (i := v66) (by rw [xri_row rfl rfl]; show (0 : Int) ≤ _ ∧ _ ≤ (1000 : Int); omega)) (a := 660) (i := v66) (by rw [xri_row rfl rfl]; show (-9223372036854775808 : Int) ≤ _ ∧ _ ≤ (9223372036854775807 : Int); omega)) (a := 598) (i := 90) (show (0 : Int) ≤ _ ∧ _ ≤ (2200 : Int) from by omega)) (a := 598) (i := 100) (show (0 : Int) ≤ _ ∧ _ ≤ (13 : Int) from by omega)) (RH.o (RH.o (RH.o (RH.o (RH.o hH_M (by decide) (by decide) (by decide)) (by decide) (by decide) (by decide)) (by decide) (by decide) (by decide)) (by decide) (by decide) (by decide)) (by decide) (by decide) (by decide)) (RF.o (RF.o (RF.o (RF.o (RF.o hS_M (by decide) (by decide)) (by decide) (by decide)) (by decide) (by decide)) (by decide) (by decide)) (by decide) (by decide))  (fun a i f598 f659 f660 => ((ju_c _ _ f598).trans ((ju_c _ _ f598).trans ((ju_c _ _ f660).trans ((ju_c _ _ f659).trans ((ju_c _ _ f598).trans (hF_M a i f598 f659 f660))))))) (fun i g90 g100 g102 => ((ju_i _ _ g100).trans ((ju_i _ _ g90).trans ((ju_c _ _ (by decide)).trans ((ju_c _ _ (by decide)).trans ((ju_i _ _ g102).trans (hG_M i g90 g100 g102))))))) (by omega) ⟨by omega, ES.adj (ES.redU gs2 e1 e66 e67 e2 (by omega) (by omega) (by omega)) (k' := kk) (z' := 0) (by omega) (by omega) (by omega), by omega, by omega, by omega, by omega⟩ ((((TK.o (Or.inr ⟨by decide, by decide⟩)).trans ((TK.o (Or.inr ⟨by decide, by decide⟩)).trans ((TK.o (Or.inl (by decide))).trans ((TK.o (Or.inl (by decide))).trans ((TK.o (Or.inr ⟨by decide, by decide⟩)).trans rfl)))))).trans hy1) (CP.o (CP.emit (CP.o hCP (by decide) (Or.inr (by decide))) ((ju_i _ _ (by decide)).trans e66)) (by decide) (Or.inr (by decide))) (by omega) (by rw [((ju_i _ _ (by decide)).trans ((ju_i _ _ (by decide)).trans ((ju_c _ _ (by decide)).trans ((ju_c _ _ (by decide)).trans (ju_same _ _ _ _)))))]; omega)
