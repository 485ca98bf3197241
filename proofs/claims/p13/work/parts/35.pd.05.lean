theorem r_deed_L112 {A : Nat → Option (Nat × (Nat → Int32))} {Q : Option Value → jm → Prop} {M0 : jm} (q : ∀ (M' : jm), RI M' → RH M' → RF M' → (BT M' ∨ (DS M' 0 ∧ TK M' < TK M0)) → TK M' ≤ TK M0 → M' 598 73 ≤ M' 598 72 → (M' 598 80 ≠ 0 ∨ TK M' < TK M0) → M0 598 107 ≤ M' 598 107 → (∀ (a : Nat) (i : Int), a ≠ 598 → a ≠ 659 → a ≠ 660 → a ≠ 661 → a ≠ 662 → a ≠ 663 → a ≠ 664 → a ≠ 665 → a ≠ 666 → a ≠ 667 → a ≠ 668 → a ≠ 669 → M' a i = M0 a i) → (∀ (i : Int), i ≠ 73 → i ≠ 74 → i ≠ 75 → i ≠ 76 → i ≠ 77 → i ≠ 78 → i ≠ 79 → i ≠ 80 → i ≠ 81 → i ≠ 89 → i ≠ 90 → i ≠ 96 → i ≠ 100 → i ≠ 102 → i ≠ 107 → M' 598 i = M0 598 i) → Q none M') : ∀ (M : jm) (w : Int), RI M → RH M → RF M → (∀ (a : Nat) (i : Int), a ≠ 598 → a ≠ 659 → a ≠ 660 → a ≠ 661 → a ≠ 662 → a ≠ 663 → a ≠ 664 → a ≠ 665 → a ≠ 666 → a ≠ 667 → a ≠ 668 → a ≠ 669 → M a i = M0 a i) → (∀ (i : Int), i ≠ 73 → i ≠ 74 → i ≠ 75 → i ≠ 76 → i ≠ 77 → i ≠ 78 → i ≠ 79 → i ≠ 80 → i ≠ 81 → i ≠ 89 → i ≠ 90 → i ≠ 96 → i ≠ 100 → i ≠ 102 → i ≠ 107 → M 598 i = M0 598 i) → 8 ≤ w ∧ w ≤ 9 → XS M 0 (0 + 2 + 2) 0 0 (-1) → AK M → M 598 80 = 0 → M 598 96 < M 598 89 ∧ M 598 89 ≤ 300 → M 598 100 ≤ 12 → M 598 73 ≤ M 598 72 → 1 ≤ M 598 107 ∧ M 598 107 = M0 598 107 → 1 ≤ M 598 88 → (M 598 74 = 3 → M 598 79 ≠ 10 ∧ M 598 79 ≠ 11) → TK M < TK M0 → 0 ≤ M 598 96 → 1 ≤ M 598 90 ∧ M 659 (M 598 90 - 1) = 0 → jr A 7 xm_367 112 [(1, .int (Int32.ofInt (w))), (0, .ref (598))] [] M Q := by
    intro M w hI_M hH_M hS_M hF_M hG_M h_w hy0 hy1 hy2 hy3 hy4 hy5 hy6 hy7 hy8 hy9 hy10 hy11
    have hX := hy0
    have hA := hy1
    have dpx := XS.dep hy0
    have sl := XS.sgle hy0
    have bM_107 : (0 : Int) ≤ M 598 107 ∧ M 598 107 ≤ 16 := hI_M 598 107 (by decide)
    have bM_73 : (0 : Int) ≤ M 598 73 ∧ M 598 73 ≤ 1600 := hI_M 598 73 (by decide)
    have bM_88 : (0 : Int) ≤ M 598 88 ∧ M 598 88 ≤ 16 := hI_M 598 88 (by decide)
    have bM_100 : (0 : Int) ≤ M 598 100 ∧ M 598 100 ≤ 13 := hI_M 598 100 (by decide)
    obtain ⟨hs1, hs2⟩ := hy11
    obtain ⟨c0, hc0⟩ : ∃ z, M 598 90 = z := ⟨_, rfl⟩
    rw [hc0] at hs1 hs2
    have bc0 : (0 : Int) ≤ c0 ∧ c0 ≤ 2200 := by rw [← hc0]; exact hI_M 598 90 (by decide)
    refine jr.aload_n rfl rfl ?_
    refine jr_v rfl rfl (Or.inl rfl) rfl rfl (by decide) rfl ⟨rfl, Nat.le_of_ble_eq_true rfl, Nat.le_of_ble_eq_true rfl⟩ rfl (jc.deep (c_isName hI_M  (fun t113_0 => ?_) (fun f113_0 => ?_)) (by decide))
    · refine jr.if_ne rfl rfl (by omega) (fun _ => ?_) (fun h => absurd (by decide) h)
      refine jr.aload_n rfl rfl ?_
      refine jr.getf (i := 97) (v := .ref 661) rfl rfl (by decide) rfl (by decide) rfl rfl rfl rfl ?_
      refine jr.aload_n rfl rfl ?_
      obtain ⟨v1, e1⟩ : ∃ z, M 598 96 = z := ⟨_, rfl⟩
      have b1 : 0 ≤ v1 ∧ v1 ≤ 300 := by rw [← e1]; exact hI_M 598 96 (by decide)
      refine jr.getf (i := 96) (x := v1) (v := .int (Int32.ofInt (v1))) rfl rfl (by decide) rfl (by decide) rfl rfl e1 rfl ?_
      refine jr.aload_n rfl rfl ?_
      obtain ⟨v2, e2⟩ : ∃ z, M 598 77 = z := ⟨_, rfl⟩
      have b2 : (-9223372036854775808) ≤ v2 ∧ v2 ≤ 9223372036854775807 := by rw [← e2]; exact hI_M 598 77 (by decide)
      refine jr.getf (i := 77) (x := v2) (v := .long (Int64.ofInt (v2))) rfl rfl (by decide) rfl (by decide) rfl rfl e2 rfl ?_
      refine jr.last (i := v1) (x := v2) rfl (by decide) rfl (by decide) (by omega) (by omega) ?_
      refine jr.aload_n rfl rfl ?_
      refine jr.getf (i := 98) (v := .ref 662) rfl rfl (by decide) rfl (by decide) rfl rfl rfl rfl ?_
      refine jr.aload_n rfl rfl ?_
      refine jr.getf (i := 96) (x := v1) (v := .int (Int32.ofInt (v1))) rfl rfl (by decide) rfl (by decide) rfl rfl ((ju_c _ _ (by decide)).trans e1) rfl ?_
      refine jr.aload_n rfl rfl ?_
      obtain ⟨v3, e3⟩ : ∃ z, M 598 75 = z := ⟨_, rfl⟩
      have b3 : 0 ≤ v3 ∧ v3 ≤ 1600 := by rw [← e3]; exact hI_M 598 75 (by decide)
      refine jr.getf (i := 75) (x := v3) (v := .int (Int32.ofInt (v3))) rfl rfl (by decide) rfl (by decide) rfl rfl ((ju_c _ _ (by decide)).trans e3) rfl ?_
      refine jr.iast (i := v1) (x := v3) rfl (by decide) rfl (by decide) (by omega) (by omega) ?_
      refine jr.aload_n rfl rfl ?_
      refine jr.getf (i := 99) (v := .ref 663) rfl rfl (by decide) rfl (by decide) rfl rfl rfl rfl ?_
      refine jr.aload_n rfl rfl ?_
      refine jr.getf (i := 96) (x := v1) (v := .int (Int32.ofInt (v1))) rfl rfl (by decide) rfl (by decide) rfl rfl ((ju_c _ _ (by decide)).trans ((ju_c _ _ (by decide)).trans e1)) rfl ?_
      refine jr.aload_n rfl rfl ?_
      refine jr.getf (i := 90) (x := c0) (v := .int (Int32.ofInt (c0))) rfl rfl (by decide) rfl (by decide) rfl rfl ((ju_c _ _ (by decide)).trans ((ju_c _ _ (by decide)).trans hc0)) rfl ?_
      refine jr.iast (i := v1) (x := c0) rfl (by decide) rfl (by decide) (by omega) (by omega) ?_
      refine jr.aload_n rfl rfl ?_
      refine jr.dup rfl rfl ?_
      refine jr.getf (i := 96) (x := v1) (v := .int (Int32.ofInt (v1))) rfl rfl (by decide) rfl (by decide) rfl rfl ((ju_c _ _ (by decide)).trans ((ju_c _ _ (by decide)).trans ((ju_c _ _ (by decide)).trans e1))) rfl ?_
      refine jr.iconst rfl ?_
      refine jr.iadd rfl ?_
      refine jr.putf (i := 96) (x := (v1 + 1)) rfl rfl (by decide) rfl (by decide) rfl rfl rfl rfl rfl ?_
      refine jr.aload_n rfl rfl ?_
      obtain ⟨v5, e5⟩ : ∃ z, M 598 73 = z := ⟨_, rfl⟩
      have b5 : 0 ≤ v5 ∧ v5 ≤ 1600 := by rw [← e5]; exact hI_M 598 73 (by decide)
      obtain ⟨v6, e6⟩ : ∃ z, M 598 72 = z := ⟨_, rfl⟩
      have b6 : 0 ≤ v6 ∧ v6 ≤ 1600 := by rw [← e6]; exact hI_M 598 72 (by decide)
      obtain ⟨v8, e8⟩ : ∃ z, M 598 74 = z := ⟨_, rfl⟩
      have b8 : 0 ≤ v8 ∧ v8 ≤ 4 := by rw [← e8]; exact hI_M 598 74 (by decide)
      obtain ⟨v10, e10⟩ : ∃ z, M 598 89 = z := ⟨_, rfl⟩
      have b10 : 0 ≤ v10 ∧ v10 ≤ 301 := by rw [← e10]; exact hI_M 598 89 (by decide)
      obtain ⟨v12, e12⟩ : ∃ z, M 598 100 = z := ⟨_, rfl⟩
      have b12 : 0 ≤ v12 ∧ v12 ≤ 13 := by rw [← e12]; exact hI_M 598 100 (by decide)
      refine jr_v rfl rfl (Or.inl rfl) rfl rfl (by decide) rfl ⟨rfl, Nat.le_of_ble_eq_true rfl, Nat.le_of_ble_eq_true rfl⟩ rfl (jc.deep (r_next (RI.u (RI.u (RI.u (RI.u hI_M (a := 661) (i := v1) (by rw [xri_row rfl rfl]; show (-9223372036854775808 : Int) ≤ _ ∧ _ ≤ (9223372036854775807 : Int); omega)) (a := 662) (i := v1) (by rw [xri_row rfl rfl]; show (0 : Int) ≤ _ ∧ _ ≤ (1600 : Int); omega)) (a := 663) (i := v1) (by rw [xri_row rfl rfl]; show (0 : Int) ≤ _ ∧ _ ≤ (2200 : Int); omega)) (a := 598) (i := 96) (show (0 : Int) ≤ _ ∧ _ ≤ (300 : Int) from by omega)) (RH.o (RH.o (RH.o (RH.o hH_M (by decide) (by decide) (by decide)) (by decide) (by decide) (by decide)) (by decide) (by decide) (by decide)) (by decide) (by decide) (by decide)) (RF.o (RF.o (RF.o (RF.o hS_M (by decide) (by decide)) (by decide) (by decide)) (by decide) (by decide)) (by decide) (by decide))   (by rw [((ju_i _ _ (by decide)).trans ((ju_c _ _ (by decide)).trans ((ju_c _ _ (by decide)).trans ((ju_c _ _ (by decide)).trans e5)))), ((ju_i _ _ (by decide)).trans ((ju_c _ _ (by decide)).trans ((ju_c _ _ (by decide)).trans ((ju_c _ _ (by decide)).trans e6))))]; omega) (fun M4 hI_M4 hH_M4 hS_M4  w4_0 w4_1 w4_2 w4_3 w4_4 w4_5 w4_6 => ?_)) (by decide))
      have y14 : (ju (ju (ju (ju M 661 v1 v2) 662 v1 v3) 663 v1 c0) 598 96 (v1 + 1)) 598 73 = v5 := ((ju_i _ _ (by decide)).trans ((ju_c _ _ (by decide)).trans ((ju_c _ _ (by decide)).trans ((ju_c _ _ (by decide)).trans e5))))
      have y15 : (ju (ju (ju (ju M 661 v1 v2) 662 v1 v3) 663 v1 c0) 598 96 (v1 + 1)) 598 74 = v8 := ((ju_i _ _ (by decide)).trans ((ju_c _ _ (by decide)).trans ((ju_c _ _ (by decide)).trans ((ju_c _ _ (by decide)).trans e8))))
      have tb4 : TK (ju (ju (ju (ju M 661 v1 v2) 662 v1 v3) 663 v1 c0) 598 96 (v1 + 1)) = TK M := ((TK.o (Or.inr ⟨by decide, by decide⟩)).trans ((TK.o (Or.inl (by decide))).trans ((TK.o (Or.inl (by decide))).trans ((TK.o (Or.inl (by decide))).trans rfl))))
      have hA2 := AK.ask (p := v2) (q := v3) hA e1 hc0
      have hX := XS.f96 (v := (v1 + 1)) (XS.irr (a := 663) (i := v1) (v := c0) (XS.irr (a := 662) (i := v1) (v := v3) (XS.irr (a := 661) (i := v1) (v := v2) hX (by decide)) (by decide)) (by decide))
      have y7 : (ju (ju (ju (ju M 661 v1 v2) 662 v1 v3) 663 v1 c0) 598 96 (v1 + 1)) 598 73 = v5 := ((ju_i _ _ (by decide)).trans ((ju_c _ _ (by decide)).trans ((ju_c _ _ (by decide)).trans ((ju_c _ _ (by decide)).trans e5))))
      have y9 : (ju (ju (ju (ju M 661 v1 v2) 662 v1 v3) 663 v1 c0) 598 96 (v1 + 1)) 598 74 = v8 := ((ju_i _ _ (by decide)).trans ((ju_c _ _ (by decide)).trans ((ju_c _ _ (by decide)).trans ((ju_c _ _ (by decide)).trans e8))))
      have y11 : (ju (ju (ju (ju M 661 v1 v2) 662 v1 v3) 663 v1 c0) 598 96 (v1 + 1)) 598 89 = v10 := ((ju_i _ _ (by decide)).trans ((ju_c _ _ (by decide)).trans ((ju_c _ _ (by decide)).trans ((ju_c _ _ (by decide)).trans e10))))
      have y13 : (ju (ju (ju (ju M 661 v1 v2) 662 v1 v3) 663 v1 c0) 598 96 (v1 + 1)) 598 100 = v12 := ((ju_i _ _ (by decide)).trans ((ju_c _ _ (by decide)).trans ((ju_c _ _ (by decide)).trans ((ju_c _ _ (by decide)).trans e12))))
      have x4_89 := w4_6 89 (by decide) (by decide) (by decide) (by decide) (by decide) (by decide) (by decide)
      have x4_100 := w4_6 100 (by decide) (by decide) (by decide) (by decide) (by decide) (by decide) (by decide)
      have hX := XS.fr2 hX w4_5 (w4_6 88 (by decide) (by decide) (by decide) (by decide) (by decide) (by decide) (by decide)) (w4_6 90 (by decide) (by decide) (by decide) (by decide) (by decide) (by decide) (by decide)) (w4_6 101 (by decide) (by decide) (by decide) (by decide) (by decide) (by decide) (by decide)) (w4_6 107 (by decide) (by decide) (by decide) (by decide) (by decide) (by decide) (by decide)) (k' := 0 + 2 + 2) (d' := 0) (z' := 0) (by omega) (by omega) (by omega) (by omega)
      have hA2 := AK2.fr hA2 w4_5 (w4_6 96 (by decide) (by decide) (by decide) (by decide) (by decide) (by decide) (by decide)) (w4_6 90 (by decide) (by decide) (by decide) (by decide) (by decide) (by decide) (by decide))
      refine jr.goto rfl rfl ?_
      have e16 : M4 598 72 = v6 := ((w4_6 72 (by decide) (by decide) (by decide) (by decide) (by decide) (by decide) (by decide)).trans ((ju_i _ _ (by decide)).trans ((ju_c _ _ (by decide)).trans ((ju_c _ _ (by decide)).trans ((ju_c _ _ (by decide)).trans e6)))))
      have y17 : M4 598 72 = v6 := e16
      obtain ⟨v18, e18⟩ : ∃ z, M4 598 73 = z := ⟨_, rfl⟩
      have b18 : 0 ≤ v18 ∧ v18 ≤ 1600 := by rw [← e18]; exact hI_M4 598 73 (by decide)
      have y19 : M4 598 73 = v18 := e18
      obtain ⟨v20, e20⟩ : ∃ z, M4 598 74 = z := ⟨_, rfl⟩
      have b20 : 0 ≤ v20 ∧ v20 ≤ 4 := by rw [← e20]; exact hI_M4 598 74 (by decide)
      have y21 : M4 598 74 = v20 := e20
      obtain ⟨v22, e22⟩ : ∃ z, M4 598 79 = z := ⟨_, rfl⟩
      have b22 : 0 ≤ v22 ∧ v22 ≤ 255 := by rw [← e22]; exact hI_M4 598 79 (by decide)
      have y23 : M4 598 79 = v22 := e22
      obtain ⟨v24, e24⟩ : ∃ z, M 598 80 = z := ⟨_, rfl⟩
      have b24 : 0 ≤ v24 ∧ v24 ≤ 7 := by rw [← e24]; exact hI_M 598 80 (by decide)
      have e25 : M4 598 80 = v24 := ((w4_6 80 (by decide) (by decide) (by decide) (by decide) (by decide) (by decide) (by decide)).trans ((ju_i _ _ (by decide)).trans ((ju_c _ _ (by decide)).trans ((ju_c _ _ (by decide)).trans ((ju_c _ _ (by decide)).trans e24)))))
      have y26 : M4 598 80 = v24 := e25
      have e27 : M4 598 89 = v10 := ((w4_6 89 (by decide) (by decide) (by decide) (by decide) (by decide) (by decide) (by decide)).trans ((ju_i _ _ (by decide)).trans ((ju_c _ _ (by decide)).trans ((ju_c _ _ (by decide)).trans ((ju_c _ _ (by decide)).trans e10)))))
      have y28 : M4 598 89 = v10 := e27
      have e29 : M4 598 90 = c0 := ((w4_6 90 (by decide) (by decide) (by decide) (by decide) (by decide) (by decide) (by decide)).trans ((ju_i _ _ (by decide)).trans ((ju_c _ _ (by decide)).trans ((ju_c _ _ (by decide)).trans ((ju_c _ _ (by decide)).trans hc0)))))
      have y30 : M4 598 90 = c0 := e29
      have e31 : M4 598 96 = v1 + 1 := ((w4_6 96 (by decide) (by decide) (by decide) (by decide) (by decide) (by decide) (by decide)).trans (ju_same _ _ _ _))
      have y32 : M4 598 96 = v1 + 1 := e31
      have e33 : M4 598 100 = v12 := ((w4_6 100 (by decide) (by decide) (by decide) (by decide) (by decide) (by decide) (by decide)).trans ((ju_i _ _ (by decide)).trans ((ju_c _ _ (by decide)).trans ((ju_c _ _ (by decide)).trans ((ju_c _ _ (by decide)).trans e12)))))
      have y34 : M4 598 100 = v12 := e33
      obtain ⟨v35, e35⟩ : ∃ z, M 598 107 = z := ⟨_, rfl⟩
      have b35 : 0 ≤ v35 ∧ v35 ≤ 16 := by rw [← e35]; exact hI_M 598 107 (by decide)
      have e36 : M4 598 107 = v35 := ((w4_6 107 (by decide) (by decide) (by decide) (by decide) (by decide) (by decide) (by decide)).trans ((ju_i _ _ (by decide)).trans ((ju_c _ _ (by decide)).trans ((ju_c _ _ (by decide)).trans ((ju_c _ _ (by decide)).trans e35)))))
      have y37 : M4 598 107 = v35 := e36
      have e38 : M4 659 (c0 - 1) = 0 := ((w4_5 659 (c0 - 1) (by decide)).trans ((ju_c _ _ (by decide)).trans ((ju_c _ _ (by decide)).trans ((ju_c _ _ (by decide)).trans ((ju_c _ _ (by decide)).trans hs2)))))
      obtain ⟨v39, e39⟩ : ∃ z, M 598 88 = z := ⟨_, rfl⟩
      have b39 : 0 ≤ v39 ∧ v39 ≤ 16 := by rw [← e39]; exact hI_M 598 88 (by decide)
      have e40 : M4 598 88 = v39 := ((w4_6 88 (by decide) (by decide) (by decide) (by decide) (by decide) (by decide) (by decide)).trans ((ju_i _ _ (by decide)).trans ((ju_c _ _ (by decide)).trans ((ju_c _ _ (by decide)).trans ((ju_c _ _ (by decide)).trans e39)))))
      refine jr.pick (ls := [_, _]) [0, 1] rfl rfl ?_
      exact r_deed_L230 q M4 w hI_M4 hH_M4 hS_M4  (fun a i f598 f659 f660 f661 f662 f663 f664 f665 f666 f667 f668 f669 => ((w4_5 a i f598).trans ((ju_c _ _ f598).trans ((ju_c _ _ f663).trans ((ju_c _ _ f662).trans ((ju_c _ _ f661).trans (hF_M a i f598 f659 f660 f661 f662 f663 f664 f665 f666 f667 f668 f669))))))) (fun i g73 g74 g75 g76 g77 g78 g79 g80 g81 g89 g90 g96 g100 g102 g107 => ((w4_6 i g73 g74 g75 g76 g77 g78 g79).trans ((ju_i _ _ g96).trans ((ju_c _ _ (by decide)).trans ((ju_c _ _ (by decide)).trans ((ju_c _ _ (by decide)).trans (hG_M i g73 g74 g75 g76 g77 g78 g79 g80 g81 g89 g90 g96 g100 g102 g107))))))) (by omega) (Or.inr ⟨⟨by omega, by have dl := dl_deed (w := w) (by omega); rw [dl.2.2.2 (by omega)]; exact hX, by omega, by omega, by omega, by omega⟩, by omega, Or.inr ⟨by omega, hA2, by omega, by rw [e29]; exact e38⟩⟩) (by rw [e18, e16] <;> omega) (by omega) (by omega) (by rw [e36] <;> omega) (by rw [e40] <;> omega) (by rw [e36] <;> omega)
    · refine jr.if_ne rfl rfl (by omega) (fun h => absurd h (by decide)) (fun _ => ?_)
      refine jr.aload_n rfl rfl ?_
      refine jr_v rfl rfl (Or.inl rfl) rfl rfl (by decide) rfl ⟨rfl, Nat.le_of_ble_eq_true rfl, Nat.le_of_ble_eq_true rfl⟩ rfl (jc.deep (r_wrongToken hI_M hH_M hS_M    (fun M41 hI_M41 hH_M41 hS_M41  w41_0 w41_1 w41_2 => ?_)) (by decide))
      have tk41 : TK M41 = TK M := TK.fr (w41_2 73 (by decide) (by decide)) (w41_2 74 (by decide) (by decide))
      obtain ⟨v42, e42⟩ : ∃ z, M 598 72 = z := ⟨_, rfl⟩
      have b42 : 0 ≤ v42 ∧ v42 ≤ 1600 := by rw [← e42]; exact hI_M 598 72 (by decide)
      have e43 : M41 598 72 = v42 := ((w41_2 72 (by decide) (by decide)).trans e42)
      have y44 : M41 598 72 = v42 := e43
      obtain ⟨v45, e45⟩ : ∃ z, M 598 73 = z := ⟨_, rfl⟩
      have b45 : 0 ≤ v45 ∧ v45 ≤ 1600 := by rw [← e45]; exact hI_M 598 73 (by decide)
      have e46 : M41 598 73 = v45 := ((w41_2 73 (by decide) (by decide)).trans e45)
      have y47 : M41 598 73 = v45 := e46
      obtain ⟨v48, e48⟩ : ∃ z, M 598 74 = z := ⟨_, rfl⟩
      have b48 : 0 ≤ v48 ∧ v48 ≤ 4 := by rw [← e48]; exact hI_M 598 74 (by decide)
      have e49 : M41 598 74 = v48 := ((w41_2 74 (by decide) (by decide)).trans e48)
      have y50 : M41 598 74 = v48 := e49
      obtain ⟨v51, e51⟩ : ∃ z, M 598 79 = z := ⟨_, rfl⟩
      have b51 : 0 ≤ v51 ∧ v51 ≤ 255 := by rw [← e51]; exact hI_M 598 79 (by decide)
      have e52 : M41 598 79 = v51 := ((w41_2 79 (by decide) (by decide)).trans e51)
      have y53 : M41 598 79 = v51 := e52
      obtain ⟨v54, e54⟩ : ∃ z, M41 598 80 = z := ⟨_, rfl⟩
      have b54 : 0 ≤ v54 ∧ v54 ≤ 7 := by rw [← e54]; exact hI_M41 598 80 (by decide)
      have y55 : M41 598 80 = v54 := e54
      obtain ⟨v56, e56⟩ : ∃ z, M 598 89 = z := ⟨_, rfl⟩
      have b56 : 0 ≤ v56 ∧ v56 ≤ 301 := by rw [← e56]; exact hI_M 598 89 (by decide)
      have e57 : M41 598 89 = v56 := ((w41_2 89 (by decide) (by decide)).trans e56)
      have y58 : M41 598 89 = v56 := e57
      have e59 : M41 598 90 = c0 := ((w41_2 90 (by decide) (by decide)).trans hc0)
      have y60 : M41 598 90 = c0 := e59
      obtain ⟨v61, e61⟩ : ∃ z, M 598 96 = z := ⟨_, rfl⟩
      have b61 : 0 ≤ v61 ∧ v61 ≤ 300 := by rw [← e61]; exact hI_M 598 96 (by decide)
      have e62 : M41 598 96 = v61 := ((w41_2 96 (by decide) (by decide)).trans e61)
      have y63 : M41 598 96 = v61 := e62
      obtain ⟨v64, e64⟩ : ∃ z, M 598 100 = z := ⟨_, rfl⟩
      have b64 : 0 ≤ v64 ∧ v64 ≤ 13 := by rw [← e64]; exact hI_M 598 100 (by decide)
      have e65 : M41 598 100 = v64 := ((w41_2 100 (by decide) (by decide)).trans e64)
      have y66 : M41 598 100 = v64 := e65
      obtain ⟨v67, e67⟩ : ∃ z, M 598 107 = z := ⟨_, rfl⟩
      have b67 : 0 ≤ v67 ∧ v67 ≤ 16 := by rw [← e67]; exact hI_M 598 107 (by decide)
      have e68 : M41 598 107 = v67 := ((w41_2 107 (by decide) (by decide)).trans e67)
      have y69 : M41 598 107 = v67 := e68
      exact jr.vreturn rfl rfl (q _ hI_M41 hH_M41 hS_M41  (Or.inl ⟨by omega, by omega⟩) (by omega) (by omega) (by omega) (by omega) (fun a i f598 f659 f660 f661 f662 f663 f664 f665 f666 f667 f668 f669 => ((w41_1 a i f598).trans (hF_M a i f598 f659 f660 f661 f662 f663 f664 f665 f666 f667 f668 f669))) (fun i g73 g74 g75 g76 g77 g78 g79 g80 g81 g89 g90 g96 g100 g102 g107 => ((w41_2 i g80 g81).trans (hG_M i g73 g74 g75 g76 g77 g78 g79 g80 g81 g89 g90 g96 g100 g102 g107))))
