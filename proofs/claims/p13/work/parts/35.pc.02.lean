theorem r_exp_L64 {A : Nat → Option (Nat × (Nat → Int32))} {Q : Option Value → jm → Prop} {b kk : Int} {M0 : jm} (q : ∀ (M' : jm), RI M' → RH M' → RF M' → (BS M' ∨ (SS M' (b + 1) kk ∧ TK M' < TK M0)) → TK M' ≤ TK M0 → M' 598 73 ≤ M' 598 72 → (M' 598 80 ≠ 0 ∨ TK M' < TK M0) → CP M0 M' → M0 598 89 ≤ M' 598 89 → (∀ (a : Nat) (i : Int), a ≠ 598 → a ≠ 659 → a ≠ 660 → a ≠ 664 → a ≠ 665 → a ≠ 666 → a ≠ 667 → M' a i = M0 a i) → (∀ (i : Int), i ≠ 73 → i ≠ 74 → i ≠ 75 → i ≠ 76 → i ≠ 77 → i ≠ 78 → i ≠ 79 → i ≠ 80 → i ≠ 81 → i ≠ 89 → i ≠ 90 → i ≠ 100 → i ≠ 102 → M' 598 i = M0 598 i) → Q none M') (nO : Nat) (ko : ∀ (M : jm) (o : Int) (m : Int), RI M → RH M → RF M → (∀ (a : Nat) (i : Int), a ≠ 598 → a ≠ 659 → a ≠ 660 → a ≠ 664 → a ≠ 665 → a ≠ 666 → a ≠ 667 → M a i = M0 a i) → (∀ (i : Int), i ≠ 73 → i ≠ 74 → i ≠ 75 → i ≠ 76 → i ≠ 77 → i ≠ 78 → i ≠ 79 → i ≠ 80 → i ≠ 81 → i ≠ 89 → i ≠ 90 → i ≠ 100 → i ≠ 102 → M 598 i = M0 598 i) → 0 ≤ o ∧ o ≤ 1 → 390 ≤ m ∧ m ≤ 390 → (BS M ∨ GS M b (1 - o) kk) → (TK M < TK M0 ∨ o = 1 ∨ M 598 80 ≠ 0) → TK M ≤ TK M0 → M 598 73 ≤ M 598 72 → 0 ≤ b ∧ b ≤ 4 → CP M0 M → M0 598 89 ≤ M 598 89 → TK M + 1 - min 1 (M 598 80) ≤ nO → jr A 6 xm_364 11 [(2, .int (Int32.ofInt (o))), (1, .int (Int32.ofInt (m))), (0, .ref (598))] [] M Q) : ∀ (M : jm) (o : Int) (m : Int), RI M → RH M → RF M → (∀ (a : Nat) (i : Int), a ≠ 598 → a ≠ 659 → a ≠ 660 → a ≠ 664 → a ≠ 665 → a ≠ 666 → a ≠ 667 → M a i = M0 a i) → (∀ (i : Int), i ≠ 73 → i ≠ 74 → i ≠ 75 → i ≠ 76 → i ≠ 77 → i ≠ 78 → i ≠ 79 → i ≠ 80 → i ≠ 81 → i ≠ 89 → i ≠ 90 → i ≠ 100 → i ≠ 102 → M 598 i = M0 598 i) → 0 ≤ o ∧ o ≤ 1 → 390 ≤ m ∧ m ≤ 390 → GS M b 1 kk → o = 0 → TK M < TK M0 → TK M ≤ nO → 0 ≤ b ∧ b ≤ 4 → CP M0 M → M0 598 89 ≤ M 598 89 → jr A 6 xm_364 64 [(2, .int (Int32.ofInt (o))), (1, .int (Int32.ofInt (m))), (0, .ref (598))] [] M Q := by
    intro M o m hI_M hH_M hS_M hF_M hG_M h_o h_m hy0 hy1 hy2 hy3 hy4 hy5 hy6
    have hCP := hy5
    refine jr.aload_n rfl rfl ?_
    refine jr.iconst rfl ?_
    refine jr_v rfl rfl (Or.inl rfl) rfl rfl (by decide) rfl ⟨rfl, Nat.le_of_ble_eq_true rfl, Nat.le_of_ble_eq_true rfl⟩ rfl (jc.deep (r_reduce hI_M hH_M hS_M  (by omega) hy0 (fun M1 hI_M1 hH_M1 hS_M1  w1_0 w1_1 w1_2 w1_3 w1_4 w1_5 => ?_)) (by decide))
    have tk1 : TK M1 = TK M := TK.fr (w1_5 73 (by decide) (by decide) (by decide)) (w1_5 74 (by decide) (by decide) (by decide))
    obtain ⟨gs1, gs2, gs3, gs4, gs5, gs6⟩ := id w1_0
    have hE := gs2
    have sl := ES.sgle gs2
    have bb := ES.bb gs2
    have kb := ES.kz gs2
    have bM1_107 : (0 : Int) ≤ M1 598 107 ∧ M1 598 107 ≤ 16 := hI_M1 598 107 (by decide)
    have bM1_73 : (0 : Int) ≤ M1 598 73 ∧ M1 598 73 ≤ 1600 := hI_M1 598 73 (by decide)
    have bM1_88 : (0 : Int) ≤ M1 598 88 ∧ M1 598 88 ≤ 16 := hI_M1 598 88 (by decide)
    have bM1_100 : (0 : Int) ≤ M1 598 100 ∧ M1 598 100 ≤ 13 := hI_M1 598 100 (by decide)
    obtain ⟨sg, hsg⟩ : ∃ z, M1 598 102 = z := ⟨_, rfl⟩
    rw [hsg] at w1_1
    have bsg : (0 : Int) ≤ sg ∧ sg ≤ 400 := by rw [← hsg]; exact hI_M1 598 102 (by decide)
    refine jr.aload_n rfl rfl ?_
    refine jr.getf (i := 102) (x := sg) (v := .int (Int32.ofInt (sg))) rfl rfl (by decide) rfl (by decide) rfl rfl hsg rfl ?_
    refine jr.if_ne rfl rfl (by omega) (fun h73 => ?_) (fun h73 => ?_)
    · have sx73 : (1 : Int) ≤ sg := by omega
      clear h73
      refine jr.aload_n rfl rfl ?_
      refine jr.getf (i := 105) (v := .ref 666) rfl rfl (by decide) rfl (by decide) rfl rfl rfl rfl ?_
      refine jr.aload_n rfl rfl ?_
      refine jr.getf (i := 102) (x := sg) (v := .int (Int32.ofInt (sg))) rfl rfl (by decide) rfl (by decide) rfl rfl hsg rfl ?_
      refine jr.iconst rfl ?_
      refine jr.isub rfl ?_
      obtain ⟨v2, e2⟩ : ∃ z, M 666 (sg - 1) = z := ⟨_, rfl⟩
      have b2 : (-1) ≤ v2 ∧ v2 ≤ 68 := by rw [← e2]; exact (by have q := hI_M 666 (sg - 1) (by decide); rw [xri_row rfl rfl] at q; exact q)
      have e3 : M1 666 (sg - 1) = v2 := ((w1_4 666 (sg - 1) (by decide) (by decide) (by decide)).trans e2)
      refine jr.iald (i := (sg - 1)) (x := v2) rfl (by decide) rfl (by decide) (by omega) (by omega) e3 ?_
      refine jr.istore_n (ls' := [_, _, _, _]) rfl (by decide) rfl ?_
      refine jr.iload_n rfl rfl ?_
      refine jr.iconst rfl ?_
      refine jr.icmp_eq rfl rfl (by omega) (by omega) (fun h91 => ?_) (fun h91 => ?_)
      · refine jr.iconst rfl ?_
        refine jr.goto rfl rfl ?_
        refine jr.istore (ls' := [_, _, _, _, _]) rfl (by decide) rfl ?_
        refine jr.aload_n rfl rfl ?_
        refine jr.bipush rfl (by decide) ?_
        refine jr_v rfl rfl (Or.inl rfl) rfl rfl (by decide) rfl ⟨rfl, Nat.le_of_ble_eq_true rfl, Nat.le_of_ble_eq_true rfl⟩ rfl (jc.deep (c_isSign hI_M1 (by omega) (fun t122_0 t122_1 => ?_) (fun f122_0 => ?_)) (by decide))
        · have tq := ES.top40 gs2 (by omega) (by rw [hsg]; omega)
          rw [hsg, e3] at tq
          have dp1 := ES.dpos gs2 (by omega)
          rw [hsg] at dp1
          have dp2 := dp1 (Or.inl tq.1)
          refine jr.if_eq rfl rfl (by omega) (fun h => absurd h (by decide)) (fun _ => ?_)
          refine jr.iload rfl rfl ?_
          refine jr.if_ne rfl rfl (by omega) (fun _ => ?_) (fun h => absurd (by decide) h)
          refine jr.aload_n rfl rfl ?_
          refine jr.bipush rfl (by decide) ?_
          refine jr_v rfl rfl (Or.inl rfl) rfl rfl (by decide) rfl ⟨rfl, Nat.le_of_ble_eq_true rfl, Nat.le_of_ble_eq_true rfl⟩ rfl (jc.deep (c_isSign hI_M1 (by omega) (fun t160_0 t160_1 => ?_) (fun f160_0 => ?_)) (by decide))
          · refine jr.if_eq rfl rfl (by omega) (fun h => absurd h (by decide)) (fun _ => ?_)
            refine jr.iload rfl rfl ?_
            refine jr.if_eq rfl rfl (by omega) (fun h => absurd h (by decide)) (fun _ => ?_)
            refine jr.aload_n rfl rfl ?_
            refine jr.dup rfl rfl ?_
            refine jr.getf (i := 102) (x := sg) (v := .int (Int32.ofInt (sg))) rfl rfl (by decide) rfl (by decide) rfl rfl hsg rfl ?_
            refine jr.iconst rfl ?_
            refine jr.isub rfl ?_
            refine jr.putf (i := 102) (x := (sg - 1)) rfl rfl (by decide) rfl (by decide) rfl rfl rfl rfl rfl ?_
            refine jr.aload_n rfl rfl ?_
            refine jr.dup rfl rfl ?_
            obtain ⟨v4, e4⟩ : ∃ z, M1 598 100 = z := ⟨_, rfl⟩
            have b4 : 0 ≤ v4 ∧ v4 ≤ 13 := by rw [← e4]; exact hI_M1 598 100 (by decide)
            refine jr.getf (i := 100) (x := v4) (v := .int (Int32.ofInt (v4))) rfl rfl (by decide) rfl (by decide) rfl rfl ((ju_i _ _ (by decide)).trans e4) rfl ?_
            refine jr.iconst rfl ?_
            refine jr.isub rfl ?_
            refine jr.putf (i := 100) (x := (v4 - 1)) rfl rfl (by decide) rfl (by decide) rfl rfl rfl rfl rfl ?_
            refine jr.aload_n rfl rfl ?_
            obtain ⟨v6, e6⟩ : ∃ z, M 598 73 = z := ⟨_, rfl⟩
            have b6 : 0 ≤ v6 ∧ v6 ≤ 1600 := by rw [← e6]; exact hI_M 598 73 (by decide)
            have e7 : M1 598 73 = v6 := ((w1_5 73 (by decide) (by decide) (by decide)).trans e6)
            obtain ⟨v8, e8⟩ : ∃ z, M 598 72 = z := ⟨_, rfl⟩
            have b8 : 0 ≤ v8 ∧ v8 ≤ 1600 := by rw [← e8]; exact hI_M 598 72 (by decide)
            have e9 : M1 598 72 = v8 := ((w1_5 72 (by decide) (by decide) (by decide)).trans e8)
            obtain ⟨v11, e11⟩ : ∃ z, M 598 89 = z := ⟨_, rfl⟩
            have b11 : 0 ≤ v11 ∧ v11 ≤ 301 := by rw [← e11]; exact hI_M 598 89 (by decide)
            have e12 : M1 598 89 = v11 := ((w1_5 89 (by decide) (by decide) (by decide)).trans e11)
            obtain ⟨v16, e16⟩ : ∃ z, M 598 74 = z := ⟨_, rfl⟩
            have b16 : 0 ≤ v16 ∧ v16 ≤ 4 := by rw [← e16]; exact hI_M 598 74 (by decide)
            have e17 : M1 598 74 = v16 := ((w1_5 74 (by decide) (by decide) (by decide)).trans e16)
            refine jr_v rfl rfl (Or.inl rfl) rfl rfl (by decide) rfl ⟨rfl, Nat.le_of_ble_eq_true rfl, Nat.le_of_ble_eq_true rfl⟩ rfl (jc.deep (r_next (RI.u (RI.u hI_M1 (a := 598) (i := 102) (show (0 : Int) ≤ _ ∧ _ ≤ (400 : Int) from by omega)) (a := 598) (i := 100) (show (0 : Int) ≤ _ ∧ _ ≤ (13 : Int) from by omega)) (RH.o (RH.o hH_M1 (by decide) (by decide) (by decide)) (by decide) (by decide) (by decide)) (RF.o (RF.o hS_M1 (by decide) (by decide)) (by decide) (by decide))   (by rw [((ju_i _ _ (by decide)).trans ((ju_i _ _ (by decide)).trans e7)), ((ju_i _ _ (by decide)).trans ((ju_i _ _ (by decide)).trans e9))]; omega) (fun M5 hI_M5 hH_M5 hS_M5  w5_0 w5_1 w5_2 w5_3 w5_4 w5_5 w5_6 => ?_)) (by decide))
            have y15 : (ju (ju M1 598 102 (sg - 1)) 598 100 (v4 - 1)) 598 73 = v6 := ((ju_i _ _ (by decide)).trans ((ju_i _ _ (by decide)).trans e7))
            have y18 : (ju (ju M1 598 102 (sg - 1)) 598 100 (v4 - 1)) 598 74 = v16 := ((ju_i _ _ (by decide)).trans ((ju_i _ _ (by decide)).trans e17))
            have tb5 : TK (ju (ju M1 598 102 (sg - 1)) 598 100 (v4 - 1)) = TK M1 := ((TK.o (Or.inr ⟨by decide, by decide⟩)).trans ((TK.o (Or.inr ⟨by decide, by decide⟩)).trans rfl))
            have hE := ES.clo1 gs2 hsg e4 tq.1 e3 (by omega) (by omega)
            have ck : 0 ≤ kcK v2 := by unfold kcK; split <;> omega
            have y10 : (ju (ju M1 598 102 (sg - 1)) 598 100 (v4 - 1)) 598 73 = v6 := ((ju_i _ _ (by decide)).trans ((ju_i _ _ (by decide)).trans e7))
            have y13 : (ju (ju M1 598 102 (sg - 1)) 598 100 (v4 - 1)) 598 89 = v11 := ((ju_i _ _ (by decide)).trans ((ju_i _ _ (by decide)).trans e12))
            have y14 : (ju (ju M1 598 102 (sg - 1)) 598 100 (v4 - 1)) 598 100 = v4 - 1 := (ju_same _ _ _ _)
            have x5_89 := w5_6 89 (by decide) (by decide) (by decide) (by decide) (by decide) (by decide) (by decide)
            have x5_100 := w5_6 100 (by decide) (by decide) (by decide) (by decide) (by decide) (by decide) (by decide)
            have hE := ES.fr2 hE w5_5 (w5_6 88 (by decide) (by decide) (by decide) (by decide) (by decide) (by decide) (by decide)) (w5_6 90 (by decide) (by decide) (by decide) (by decide) (by decide) (by decide) (by decide)) (w5_6 101 (by decide) (by decide) (by decide) (by decide) (by decide) (by decide) (by decide)) (w5_6 102 (by decide) (by decide) (by decide) (by decide) (by decide) (by decide) (by decide)) (w5_6 107 (by decide) (by decide) (by decide) (by decide) (by decide) (by decide) (by decide)) (k' := kk + kcK v2) (d' := 0) (z' := 0) (by omega) (by omega) (by omega) (by omega)
            have co1 : v2 = -1 → kcO v2 = 1 := fun z => by unfold kcO; rw [if_pos z]
            refine jr.iload_n rfl rfl ?_
            refine jr.iconst rfl ?_
            refine jr.icmp_eq rfl rfl (by omega) (by omega) (fun h197 => ?_) (fun h197 => ?_)
            · refine jr.goto rfl rfl ?_
              have e19 : M5 598 72 = v8 := ((w5_6 72 (by decide) (by decide) (by decide) (by decide) (by decide) (by decide) (by decide)).trans ((ju_i _ _ (by decide)).trans ((ju_i _ _ (by decide)).trans e9)))
              have y20 : M5 598 72 = v8 := e19
              obtain ⟨v21, e21⟩ : ∃ z, M5 598 73 = z := ⟨_, rfl⟩
              have b21 : 0 ≤ v21 ∧ v21 ≤ 1600 := by rw [← e21]; exact hI_M5 598 73 (by decide)
              have y22 : M5 598 73 = v21 := e21
              obtain ⟨v23, e23⟩ : ∃ z, M5 598 74 = z := ⟨_, rfl⟩
              have b23 : 0 ≤ v23 ∧ v23 ≤ 4 := by rw [← e23]; exact hI_M5 598 74 (by decide)
              have y24 : M5 598 74 = v23 := e23
              obtain ⟨v25, e25⟩ : ∃ z, M5 598 79 = z := ⟨_, rfl⟩
              have b25 : 0 ≤ v25 ∧ v25 ≤ 255 := by rw [← e25]; exact hI_M5 598 79 (by decide)
              have y26 : M5 598 79 = v25 := e25
              obtain ⟨v27, e27⟩ : ∃ z, M 598 80 = z := ⟨_, rfl⟩
              have b27 : 0 ≤ v27 ∧ v27 ≤ 7 := by rw [← e27]; exact hI_M 598 80 (by decide)
              have e28 : M1 598 80 = v27 := ((w1_5 80 (by decide) (by decide) (by decide)).trans e27)
              have e29 : M5 598 80 = v27 := ((w5_6 80 (by decide) (by decide) (by decide) (by decide) (by decide) (by decide) (by decide)).trans ((ju_i _ _ (by decide)).trans ((ju_i _ _ (by decide)).trans e28)))
              have y30 : M5 598 80 = v27 := e29
              have e31 : M5 598 89 = v11 := ((w5_6 89 (by decide) (by decide) (by decide) (by decide) (by decide) (by decide) (by decide)).trans ((ju_i _ _ (by decide)).trans ((ju_i _ _ (by decide)).trans e12)))
              have y32 : M5 598 89 = v11 := e31
              obtain ⟨v33, e33⟩ : ∃ z, M1 598 90 = z := ⟨_, rfl⟩
              have b33 : 0 ≤ v33 ∧ v33 ≤ 2200 := by rw [← e33]; exact hI_M1 598 90 (by decide)
              have e34 : M5 598 90 = v33 := ((w5_6 90 (by decide) (by decide) (by decide) (by decide) (by decide) (by decide) (by decide)).trans ((ju_i _ _ (by decide)).trans ((ju_i _ _ (by decide)).trans e33)))
              have y35 : M5 598 90 = v33 := e34
              have e36 : M5 598 100 = v4 - 1 := ((w5_6 100 (by decide) (by decide) (by decide) (by decide) (by decide) (by decide) (by decide)).trans (ju_same _ _ _ _))
              have y37 : M5 598 100 = v4 - 1 := e36
              obtain ⟨v38, e38⟩ : ∃ z, M 598 107 = z := ⟨_, rfl⟩
              have b38 : 0 ≤ v38 ∧ v38 ≤ 16 := by rw [← e38]; exact hI_M 598 107 (by decide)
              have e39 : M1 598 107 = v38 := ((w1_5 107 (by decide) (by decide) (by decide)).trans e38)
              have e40 : M5 598 107 = v38 := ((w5_6 107 (by decide) (by decide) (by decide) (by decide) (by decide) (by decide) (by decide)).trans ((ju_i _ _ (by decide)).trans ((ju_i _ _ (by decide)).trans e39)))
              have y41 : M5 598 107 = v38 := e40
              have y42 : M5 598 80 = v27 := e29
              refine jr.pick (ls := [_, _, _]) [2, 3, 4] rfl rfl ?_
              have y43 : M5 598 80 = v27 := e29
              exact ko M5 o m hI_M5 hH_M5 hS_M5  (fun a i f598 f659 f660 f664 f665 f666 f667 => ((w5_5 a i f598).trans ((ju_c _ _ f598).trans ((ju_c _ _ f598).trans ((w1_4 a i f598 f659 f660).trans (hF_M a i f598 f659 f660 f664 f665 f666 f667)))))) (fun i g73 g74 g75 g76 g77 g78 g79 g80 g81 g89 g90 g100 g102 => ((w5_6 i g73 g74 g75 g76 g77 g78 g79).trans ((ju_i _ _ g100).trans ((ju_i _ _ g102).trans ((w1_5 i g90 g100 g102).trans (hG_M i g73 g74 g75 g76 g77 g78 g79 g80 g81 g89 g90 g100 g102)))))) (by omega) (by omega) (by by_cases hf : v27 = 0; (first | (exact Or.inr (GS.cast (o := kcO v2) ⟨by omega, ES.adj hE (k' := kk) (z' := 0) (by omega) (by omega) (by omega), by omega, by omega, by omega, by omega⟩ (by omega))) | (exfalso; omega)); (exact Or.inl ⟨by omega, by omega⟩)) (by omega) (by omega) (by rw [e21, e19] <;> omega) (by omega) (CP.f (CP.o (CP.o (CP.trans hCP w1_3) (by decide) (Or.inr (by decide))) (by decide) (Or.inr (by decide))) (fun i => w5_5 659 i (by decide)) (w5_6 90 (by decide) (by decide) (by decide) (by decide) (by decide) (by decide) (by decide))) (by rw [e31] <;> omega) (by omega)
            · exact absurd (by omega) h197
          · refine jr.if_eq rfl rfl (by omega) (fun _ => ?_) (fun h => absurd (by decide) h)
            refine jr.aload_n rfl rfl ?_
            refine jr_v rfl rfl (Or.inl rfl) rfl rfl (by decide) rfl ⟨rfl, Nat.le_of_ble_eq_true rfl, Nat.le_of_ble_eq_true rfl⟩ rfl (jc.deep (r_wrongToken hI_M1 hH_M1 hS_M1    (fun M44 hI_M44 hH_M44 hS_M44  w44_0 w44_1 w44_2 => ?_)) (by decide))
            have tk44 : TK M44 = TK M1 := TK.fr (w44_2 73 (by decide) (by decide)) (w44_2 74 (by decide) (by decide))
            refine jr.goto rfl rfl ?_
            obtain ⟨v45, e45⟩ : ∃ z, M 598 72 = z := ⟨_, rfl⟩
            have b45 : 0 ≤ v45 ∧ v45 ≤ 1600 := by rw [← e45]; exact hI_M 598 72 (by decide)
            have e46 : M1 598 72 = v45 := ((w1_5 72 (by decide) (by decide) (by decide)).trans e45)
            have e47 : M44 598 72 = v45 := ((w44_2 72 (by decide) (by decide)).trans e46)
            have y48 : M44 598 72 = v45 := e47
            obtain ⟨v49, e49⟩ : ∃ z, M 598 73 = z := ⟨_, rfl⟩
            have b49 : 0 ≤ v49 ∧ v49 ≤ 1600 := by rw [← e49]; exact hI_M 598 73 (by decide)
            have e50 : M1 598 73 = v49 := ((w1_5 73 (by decide) (by decide) (by decide)).trans e49)
            have e51 : M44 598 73 = v49 := ((w44_2 73 (by decide) (by decide)).trans e50)
            have y52 : M44 598 73 = v49 := e51
            obtain ⟨v53, e53⟩ : ∃ z, M 598 74 = z := ⟨_, rfl⟩
            have b53 : 0 ≤ v53 ∧ v53 ≤ 4 := by rw [← e53]; exact hI_M 598 74 (by decide)
            have e54 : M1 598 74 = v53 := ((w1_5 74 (by decide) (by decide) (by decide)).trans e53)
            have e55 : M44 598 74 = v53 := ((w44_2 74 (by decide) (by decide)).trans e54)
            have y56 : M44 598 74 = v53 := e55
            obtain ⟨v57, e57⟩ : ∃ z, M 598 79 = z := ⟨_, rfl⟩
            have b57 : 0 ≤ v57 ∧ v57 ≤ 255 := by rw [← e57]; exact hI_M 598 79 (by decide)
            have e58 : M1 598 79 = v57 := ((w1_5 79 (by decide) (by decide) (by decide)).trans e57)
            have e59 : M44 598 79 = v57 := ((w44_2 79 (by decide) (by decide)).trans e58)
            have y60 : M44 598 79 = v57 := e59
            obtain ⟨v61, e61⟩ : ∃ z, M44 598 80 = z := ⟨_, rfl⟩
            have b61 : 0 ≤ v61 ∧ v61 ≤ 7 := by rw [← e61]; exact hI_M44 598 80 (by decide)
            have y62 : M44 598 80 = v61 := e61
            obtain ⟨v63, e63⟩ : ∃ z, M 598 89 = z := ⟨_, rfl⟩
            have b63 : 0 ≤ v63 ∧ v63 ≤ 301 := by rw [← e63]; exact hI_M 598 89 (by decide)
            have e64 : M1 598 89 = v63 := ((w1_5 89 (by decide) (by decide) (by decide)).trans e63)
            have e65 : M44 598 89 = v63 := ((w44_2 89 (by decide) (by decide)).trans e64)
            have y66 : M44 598 89 = v63 := e65
            obtain ⟨v67, e67⟩ : ∃ z, M1 598 90 = z := ⟨_, rfl⟩
            have b67 : 0 ≤ v67 ∧ v67 ≤ 2200 := by rw [← e67]; exact hI_M1 598 90 (by decide)
            have e68 : M44 598 90 = v67 := ((w44_2 90 (by decide) (by decide)).trans e67)
            have y69 : M44 598 90 = v67 := e68
            obtain ⟨v70, e70⟩ : ∃ z, M1 598 100 = z := ⟨_, rfl⟩
            have b70 : 0 ≤ v70 ∧ v70 ≤ 13 := by rw [← e70]; exact hI_M1 598 100 (by decide)
            have e71 : M44 598 100 = v70 := ((w44_2 100 (by decide) (by decide)).trans e70)
            have y72 : M44 598 100 = v70 := e71
            obtain ⟨v73, e73⟩ : ∃ z, M 598 107 = z := ⟨_, rfl⟩
            have b73 : 0 ≤ v73 ∧ v73 ≤ 16 := by rw [← e73]; exact hI_M 598 107 (by decide)
            have e74 : M1 598 107 = v73 := ((w1_5 107 (by decide) (by decide) (by decide)).trans e73)
            have e75 : M44 598 107 = v73 := ((w44_2 107 (by decide) (by decide)).trans e74)
            have y76 : M44 598 107 = v73 := e75
            have y77 : M44 598 80 = v61 := e61
            refine jr.pick (ls := [_, _, _]) [2, 3, 4] rfl rfl ?_
            have y78 : M44 598 80 = v61 := e61
            exact ko M44 o m hI_M44 hH_M44 hS_M44  (fun a i f598 f659 f660 f664 f665 f666 f667 => ((w44_1 a i f598).trans ((w1_4 a i f598 f659 f660).trans (hF_M a i f598 f659 f660 f664 f665 f666 f667)))) (fun i g73 g74 g75 g76 g77 g78 g79 g80 g81 g89 g90 g100 g102 => ((w44_2 i g80 g81).trans ((w1_5 i g90 g100 g102).trans (hG_M i g73 g74 g75 g76 g77 g78 g79 g80 g81 g89 g90 g100 g102)))) (by omega) (by omega) (by by_cases hf : v61 = 0; (first | (exfalso; omega) | (exact Or.inr (GS.cast (o := 0) ⟨by omega, ES.adj hE (k' := kk) (z' := 0) (by omega) (by omega) (by omega), by omega, by omega, by omega, by omega⟩ (by omega)))); (exact Or.inl ⟨by omega, by omega⟩)) (by omega) (by omega) (by rw [e51, e47] <;> omega) (by omega) (CP.f (CP.trans hCP w1_3) (fun i => w44_1 659 i (by decide)) (w44_2 90 (by decide) (by decide))) (by rw [e65] <;> omega) (by omega)
        · have tq := ES.top40 gs2 (by omega) (by rw [hsg]; omega)
          rw [hsg, e3] at tq
          have dp1 := ES.dpos gs2 (by omega)
          rw [hsg] at dp1
          have dp2 := dp1 (Or.inl tq.1)
          refine jr.if_eq rfl rfl (by omega) (fun _ => ?_) (fun h => absurd (by decide) h)
          refine jr.aload_n rfl rfl ?_
          refine jr.bipush rfl (by decide) ?_
          refine jr_v rfl rfl (Or.inl rfl) rfl rfl (by decide) rfl ⟨rfl, Nat.le_of_ble_eq_true rfl, Nat.le_of_ble_eq_true rfl⟩ rfl (jc.deep (c_isSign hI_M1 (by omega) (fun t160_0 t160_1 => ?_) (fun f160_0 => ?_)) (by decide))
          · refine jr.if_eq rfl rfl (by omega) (fun h => absurd h (by decide)) (fun _ => ?_)
            refine jr.iload rfl rfl ?_
            refine jr.if_eq rfl rfl (by omega) (fun h => absurd h (by decide)) (fun _ => ?_)
            refine jr.aload_n rfl rfl ?_
            refine jr.dup rfl rfl ?_
            refine jr.getf (i := 102) (x := sg) (v := .int (Int32.ofInt (sg))) rfl rfl (by decide) rfl (by decide) rfl rfl hsg rfl ?_
            refine jr.iconst rfl ?_
            refine jr.isub rfl ?_
            refine jr.putf (i := 102) (x := (sg - 1)) rfl rfl (by decide) rfl (by decide) rfl rfl rfl rfl rfl ?_
            refine jr.aload_n rfl rfl ?_
            refine jr.dup rfl rfl ?_
            obtain ⟨v79, e79⟩ : ∃ z, M1 598 100 = z := ⟨_, rfl⟩
            have b79 : 0 ≤ v79 ∧ v79 ≤ 13 := by rw [← e79]; exact hI_M1 598 100 (by decide)
            refine jr.getf (i := 100) (x := v79) (v := .int (Int32.ofInt (v79))) rfl rfl (by decide) rfl (by decide) rfl rfl ((ju_i _ _ (by decide)).trans e79) rfl ?_
            refine jr.iconst rfl ?_
            refine jr.isub rfl ?_
            refine jr.putf (i := 100) (x := (v79 - 1)) rfl rfl (by decide) rfl (by decide) rfl rfl rfl rfl rfl ?_
            refine jr.aload_n rfl rfl ?_
            obtain ⟨v81, e81⟩ : ∃ z, M 598 73 = z := ⟨_, rfl⟩
            have b81 : 0 ≤ v81 ∧ v81 ≤ 1600 := by rw [← e81]; exact hI_M 598 73 (by decide)
            have e82 : M1 598 73 = v81 := ((w1_5 73 (by decide) (by decide) (by decide)).trans e81)
            obtain ⟨v83, e83⟩ : ∃ z, M 598 72 = z := ⟨_, rfl⟩
            have b83 : 0 ≤ v83 ∧ v83 ≤ 1600 := by rw [← e83]; exact hI_M 598 72 (by decide)
            have e84 : M1 598 72 = v83 := ((w1_5 72 (by decide) (by decide) (by decide)).trans e83)
            obtain ⟨v86, e86⟩ : ∃ z, M 598 89 = z := ⟨_, rfl⟩
            have b86 : 0 ≤ v86 ∧ v86 ≤ 301 := by rw [← e86]; exact hI_M 598 89 (by decide)
            have e87 : M1 598 89 = v86 := ((w1_5 89 (by decide) (by decide) (by decide)).trans e86)
            obtain ⟨v91, e91⟩ : ∃ z, M 598 74 = z := ⟨_, rfl⟩
            have b91 : 0 ≤ v91 ∧ v91 ≤ 4 := by rw [← e91]; exact hI_M 598 74 (by decide)
            have e92 : M1 598 74 = v91 := ((w1_5 74 (by decide) (by decide) (by decide)).trans e91)
            refine jr_v rfl rfl (Or.inl rfl) rfl rfl (by decide) rfl ⟨rfl, Nat.le_of_ble_eq_true rfl, Nat.le_of_ble_eq_true rfl⟩ rfl (jc.deep (r_next (RI.u (RI.u hI_M1 (a := 598) (i := 102) (show (0 : Int) ≤ _ ∧ _ ≤ (400 : Int) from by omega)) (a := 598) (i := 100) (show (0 : Int) ≤ _ ∧ _ ≤ (13 : Int) from by omega)) (RH.o (RH.o hH_M1 (by decide) (by decide) (by decide)) (by decide) (by decide) (by decide)) (RF.o (RF.o hS_M1 (by decide) (by decide)) (by decide) (by decide))   (by rw [((ju_i _ _ (by decide)).trans ((ju_i _ _ (by decide)).trans e82)), ((ju_i _ _ (by decide)).trans ((ju_i _ _ (by decide)).trans e84))]; omega) (fun M80 hI_M80 hH_M80 hS_M80  w80_0 w80_1 w80_2 w80_3 w80_4 w80_5 w80_6 => ?_)) (by decide))
            have y90 : (ju (ju M1 598 102 (sg - 1)) 598 100 (v79 - 1)) 598 73 = v81 := ((ju_i _ _ (by decide)).trans ((ju_i _ _ (by decide)).trans e82))
            have y93 : (ju (ju M1 598 102 (sg - 1)) 598 100 (v79 - 1)) 598 74 = v91 := ((ju_i _ _ (by decide)).trans ((ju_i _ _ (by decide)).trans e92))
            have tb80 : TK (ju (ju M1 598 102 (sg - 1)) 598 100 (v79 - 1)) = TK M1 := ((TK.o (Or.inr ⟨by decide, by decide⟩)).trans ((TK.o (Or.inr ⟨by decide, by decide⟩)).trans rfl))
            have hE := ES.clo1 gs2 hsg e79 tq.1 e3 (by omega) (by omega)
            have ck : 0 ≤ kcK v2 := by unfold kcK; split <;> omega
            have y85 : (ju (ju M1 598 102 (sg - 1)) 598 100 (v79 - 1)) 598 73 = v81 := ((ju_i _ _ (by decide)).trans ((ju_i _ _ (by decide)).trans e82))
            have y88 : (ju (ju M1 598 102 (sg - 1)) 598 100 (v79 - 1)) 598 89 = v86 := ((ju_i _ _ (by decide)).trans ((ju_i _ _ (by decide)).trans e87))
            have y89 : (ju (ju M1 598 102 (sg - 1)) 598 100 (v79 - 1)) 598 100 = v79 - 1 := (ju_same _ _ _ _)
            have x80_89 := w80_6 89 (by decide) (by decide) (by decide) (by decide) (by decide) (by decide) (by decide)
            have x80_100 := w80_6 100 (by decide) (by decide) (by decide) (by decide) (by decide) (by decide) (by decide)
            have hE := ES.fr2 hE w80_5 (w80_6 88 (by decide) (by decide) (by decide) (by decide) (by decide) (by decide) (by decide)) (w80_6 90 (by decide) (by decide) (by decide) (by decide) (by decide) (by decide) (by decide)) (w80_6 101 (by decide) (by decide) (by decide) (by decide) (by decide) (by decide) (by decide)) (w80_6 102 (by decide) (by decide) (by decide) (by decide) (by decide) (by decide) (by decide)) (w80_6 107 (by decide) (by decide) (by decide) (by decide) (by decide) (by decide) (by decide)) (k' := kk + kcK v2) (d' := 0) (z' := 0) (by omega) (by omega) (by omega) (by omega)
            have co1 : v2 = -1 → kcO v2 = 1 := fun z => by unfold kcO; rw [if_pos z]
            refine jr.iload_n rfl rfl ?_
            refine jr.iconst rfl ?_
            refine jr.icmp_eq rfl rfl (by omega) (by omega) (fun h197 => ?_) (fun h197 => ?_)
            · refine jr.goto rfl rfl ?_
              have e94 : M80 598 72 = v83 := ((w80_6 72 (by decide) (by decide) (by decide) (by decide) (by decide) (by decide) (by decide)).trans ((ju_i _ _ (by decide)).trans ((ju_i _ _ (by decide)).trans e84)))
              have y95 : M80 598 72 = v83 := e94
              obtain ⟨v96, e96⟩ : ∃ z, M80 598 73 = z := ⟨_, rfl⟩
              have b96 : 0 ≤ v96 ∧ v96 ≤ 1600 := by rw [← e96]; exact hI_M80 598 73 (by decide)
              have y97 : M80 598 73 = v96 := e96
              obtain ⟨v98, e98⟩ : ∃ z, M80 598 74 = z := ⟨_, rfl⟩
              have b98 : 0 ≤ v98 ∧ v98 ≤ 4 := by rw [← e98]; exact hI_M80 598 74 (by decide)
              have y99 : M80 598 74 = v98 := e98
              obtain ⟨v100, e100⟩ : ∃ z, M80 598 79 = z := ⟨_, rfl⟩
              have b100 : 0 ≤ v100 ∧ v100 ≤ 255 := by rw [← e100]; exact hI_M80 598 79 (by decide)
              have y101 : M80 598 79 = v100 := e100
              obtain ⟨v102, e102⟩ : ∃ z, M 598 80 = z := ⟨_, rfl⟩
              have b102 : 0 ≤ v102 ∧ v102 ≤ 7 := by rw [← e102]; exact hI_M 598 80 (by decide)
              have e103 : M1 598 80 = v102 := ((w1_5 80 (by decide) (by decide) (by decide)).trans e102)
              have e104 : M80 598 80 = v102 := ((w80_6 80 (by decide) (by decide) (by decide) (by decide) (by decide) (by decide) (by decide)).trans ((ju_i _ _ (by decide)).trans ((ju_i _ _ (by decide)).trans e103)))
              have y105 : M80 598 80 = v102 := e104
              have e106 : M80 598 89 = v86 := ((w80_6 89 (by decide) (by decide) (by decide) (by decide) (by decide) (by decide) (by decide)).trans ((ju_i _ _ (by decide)).trans ((ju_i _ _ (by decide)).trans e87)))
              have y107 : M80 598 89 = v86 := e106
              obtain ⟨v108, e108⟩ : ∃ z, M1 598 90 = z := ⟨_, rfl⟩
              have b108 : 0 ≤ v108 ∧ v108 ≤ 2200 := by rw [← e108]; exact hI_M1 598 90 (by decide)
              have e109 : M80 598 90 = v108 := ((w80_6 90 (by decide) (by decide) (by decide) (by decide) (by decide) (by decide) (by decide)).trans ((ju_i _ _ (by decide)).trans ((ju_i _ _ (by decide)).trans e108)))
              have y110 : M80 598 90 = v108 := e109
              have e111 : M80 598 100 = v79 - 1 := ((w80_6 100 (by decide) (by decide) (by decide) (by decide) (by decide) (by decide) (by decide)).trans (ju_same _ _ _ _))
              have y112 : M80 598 100 = v79 - 1 := e111
              obtain ⟨v113, e113⟩ : ∃ z, M 598 107 = z := ⟨_, rfl⟩
              have b113 : 0 ≤ v113 ∧ v113 ≤ 16 := by rw [← e113]; exact hI_M 598 107 (by decide)
              have e114 : M1 598 107 = v113 := ((w1_5 107 (by decide) (by decide) (by decide)).trans e113)
              have e115 : M80 598 107 = v113 := ((w80_6 107 (by decide) (by decide) (by decide) (by decide) (by decide) (by decide) (by decide)).trans ((ju_i _ _ (by decide)).trans ((ju_i _ _ (by decide)).trans e114)))
              have y116 : M80 598 107 = v113 := e115
              have y117 : M80 598 80 = v102 := e104
              refine jr.pick (ls := [_, _, _]) [2, 3, 4] rfl rfl ?_
              have y118 : M80 598 80 = v102 := e104
              exact ko M80 o m hI_M80 hH_M80 hS_M80  (fun a i f598 f659 f660 f664 f665 f666 f667 => ((w80_5 a i f598).trans ((ju_c _ _ f598).trans ((ju_c _ _ f598).trans ((w1_4 a i f598 f659 f660).trans (hF_M a i f598 f659 f660 f664 f665 f666 f667)))))) (fun i g73 g74 g75 g76 g77 g78 g79 g80 g81 g89 g90 g100 g102 => ((w80_6 i g73 g74 g75 g76 g77 g78 g79).trans ((ju_i _ _ g100).trans ((ju_i _ _ g102).trans ((w1_5 i g90 g100 g102).trans (hG_M i g73 g74 g75 g76 g77 g78 g79 g80 g81 g89 g90 g100 g102)))))) (by omega) (by omega) (by by_cases hf : v102 = 0; (first | (exact Or.inr (GS.cast (o := kcO v2) ⟨by omega, ES.adj hE (k' := kk) (z' := 0) (by omega) (by omega) (by omega), by omega, by omega, by omega, by omega⟩ (by omega))) | (exfalso; omega)); (exact Or.inl ⟨by omega, by omega⟩)) (by omega) (by omega) (by rw [e96, e94] <;> omega) (by omega) (CP.f (CP.o (CP.o (CP.trans hCP w1_3) (by decide) (Or.inr (by decide))) (by decide) (Or.inr (by decide))) (fun i => w80_5 659 i (by decide)) (w80_6 90 (by decide) (by decide) (by decide) (by decide) (by decide) (by decide) (by decide))) (by rw [e106] <;> omega) (by omega)
            · exact absurd (by omega) h197
          · refine jr.if_eq rfl rfl (by omega) (fun _ => ?_) (fun h => absurd (by decide) h)
            refine jr.aload_n rfl rfl ?_
            refine jr_v rfl rfl (Or.inl rfl) rfl rfl (by decide) rfl ⟨rfl, Nat.le_of_ble_eq_true rfl, Nat.le_of_ble_eq_true rfl⟩ rfl (jc.deep (r_wrongToken hI_M1 hH_M1 hS_M1    (fun M119 hI_M119 hH_M119 hS_M119  w119_0 w119_1 w119_2 => ?_)) (by decide))
            have tk119 : TK M119 = TK M1 := TK.fr (w119_2 73 (by decide) (by decide)) (w119_2 74 (by decide) (by decide))
            refine jr.goto rfl rfl ?_
            obtain ⟨v120, e120⟩ : ∃ z, M 598 72 = z := ⟨_, rfl⟩
            have b120 : 0 ≤ v120 ∧ v120 ≤ 1600 := by rw [← e120]; exact hI_M 598 72 (by decide)
            have e121 : M1 598 72 = v120 := ((w1_5 72 (by decide) (by decide) (by decide)).trans e120)
            have e122 : M119 598 72 = v120 := ((w119_2 72 (by decide) (by decide)).trans e121)
            have y123 : M119 598 72 = v120 := e122
            obtain ⟨v124, e124⟩ : ∃ z, M 598 73 = z := ⟨_, rfl⟩
            have b124 : 0 ≤ v124 ∧ v124 ≤ 1600 := by rw [← e124]; exact hI_M 598 73 (by decide)
            have e125 : M1 598 73 = v124 := ((w1_5 73 (by decide) (by decide) (by decide)).trans e124)
            have e126 : M119 598 73 = v124 := ((w119_2 73 (by decide) (by decide)).trans e125)
            have y127 : M119 598 73 = v124 := e126
            obtain ⟨v128, e128⟩ : ∃ z, M 598 74 = z := ⟨_, rfl⟩
            have b128 : 0 ≤ v128 ∧ v128 ≤ 4 := by rw [← e128]; exact hI_M 598 74 (by decide)
            have e129 : M1 598 74 = v128 := ((w1_5 74 (by decide) (by decide) (by decide)).trans e128)
            have e130 : M119 598 74 = v128 := ((w119_2 74 (by decide) (by decide)).trans e129)
            have y131 : M119 598 74 = v128 := e130
            obtain ⟨v132, e132⟩ : ∃ z, M 598 79 = z := ⟨_, rfl⟩
            have b132 : 0 ≤ v132 ∧ v132 ≤ 255 := by rw [← e132]; exact hI_M 598 79 (by decide)
            have e133 : M1 598 79 = v132 := ((w1_5 79 (by decide) (by decide) (by decide)).trans e132)
            have e134 : M119 598 79 = v132 := ((w119_2 79 (by decide) (by decide)).trans e133)
            have y135 : M119 598 79 = v132 := e134
            obtain ⟨v136, e136⟩ : ∃ z, M119 598 80 = z := ⟨_, rfl⟩
            have b136 : 0 ≤ v136 ∧ v136 ≤ 7 := by rw [← e136]; exact hI_M119 598 80 (by decide)
            have y137 : M119 598 80 = v136 := e136
            obtain ⟨v138, e138⟩ : ∃ z, M 598 89 = z := ⟨_, rfl⟩
            have b138 : 0 ≤ v138 ∧ v138 ≤ 301 := by rw [← e138]; exact hI_M 598 89 (by decide)
            have e139 : M1 598 89 = v138 := ((w1_5 89 (by decide) (by decide) (by decide)).trans e138)
            have e140 : M119 598 89 = v138 := ((w119_2 89 (by decide) (by decide)).trans e139)
            have y141 : M119 598 89 = v138 := e140
            obtain ⟨v142, e142⟩ : ∃ z, M1 598 90 = z := ⟨_, rfl⟩
            have b142 : 0 ≤ v142 ∧ v142 ≤ 2200 := by rw [← e142]; exact hI_M1 598 90 (by decide)
            have e143 : M119 598 90 = v142 := ((w119_2 90 (by decide) (by decide)).trans e142)
            have y144 : M119 598 90 = v142 := e143
            obtain ⟨v145, e145⟩ : ∃ z, M1 598 100 = z := ⟨_, rfl⟩
            have b145 : 0 ≤ v145 ∧ v145 ≤ 13 := by rw [← e145]; exact hI_M1 598 100 (by decide)
            have e146 : M119 598 100 = v145 := ((w119_2 100 (by decide) (by decide)).trans e145)
            have y147 : M119 598 100 = v145 := e146
            obtain ⟨v148, e148⟩ : ∃ z, M 598 107 = z := ⟨_, rfl⟩
            have b148 : 0 ≤ v148 ∧ v148 ≤ 16 := by rw [← e148]; exact hI_M 598 107 (by decide)
            have e149 : M1 598 107 = v148 := ((w1_5 107 (by decide) (by decide) (by decide)).trans e148)
            have e150 : M119 598 107 = v148 := ((w119_2 107 (by decide) (by decide)).trans e149)
            have y151 : M119 598 107 = v148 := e150
            have y152 : M119 598 80 = v136 := e136
            refine jr.pick (ls := [_, _, _]) [2, 3, 4] rfl rfl ?_
            have y153 : M119 598 80 = v136 := e136
            exact ko M119 o m hI_M119 hH_M119 hS_M119  (fun a i f598 f659 f660 f664 f665 f666 f667 => ((w119_1 a i f598).trans ((w1_4 a i f598 f659 f660).trans (hF_M a i f598 f659 f660 f664 f665 f666 f667)))) (fun i g73 g74 g75 g76 g77 g78 g79 g80 g81 g89 g90 g100 g102 => ((w119_2 i g80 g81).trans ((w1_5 i g90 g100 g102).trans (hG_M i g73 g74 g75 g76 g77 g78 g79 g80 g81 g89 g90 g100 g102)))) (by omega) (by omega) (by by_cases hf : v136 = 0; (first | (exfalso; omega) | (exact Or.inr (GS.cast (o := 0) ⟨by omega, ES.adj hE (k' := kk) (z' := 0) (by omega) (by omega) (by omega), by omega, by omega, by omega, by omega⟩ (by omega)))); (exact Or.inl ⟨by omega, by omega⟩)) (by omega) (by omega) (by rw [e126, e122] <;> omega) (by omega) (CP.f (CP.trans hCP w1_3) (fun i => w119_1 659 i (by decide)) (w119_2 90 (by decide) (by decide))) (by rw [e140] <;> omega) (by omega)
      · have sx91 : (0 : Int) ≤ v2 := by omega
        clear h91
        refine jr.aload_n rfl rfl ?_
        refine jr.getf (i := 106) (v := .ref 667) rfl rfl (by decide) rfl (by decide) rfl rfl rfl rfl ?_
        refine jr.aload_n rfl rfl ?_
        refine jr.getf (i := 102) (x := sg) (v := .int (Int32.ofInt (sg))) rfl rfl (by decide) rfl (by decide) rfl rfl hsg rfl ?_
        refine jr.iconst rfl ?_
        refine jr.isub rfl ?_
        obtain ⟨v154, e154⟩ : ∃ z, M 667 (sg - 1) = z := ⟨_, rfl⟩
        have b154 : 0 ≤ v154 ∧ v154 ≤ 4 := by rw [← e154]; exact (by have q := hI_M 667 (sg - 1) (by decide); rw [xri_row rfl rfl] at q; exact q)
        have e155 : M1 667 (sg - 1) = v154 := ((w1_4 667 (sg - 1) (by decide) (by decide) (by decide)).trans e154)
        refine jr.iald (i := (sg - 1)) (x := v154) rfl (by decide) rfl (by decide) (by omega) (by omega) e155 ?_
        refine jr.iload_n rfl rfl ?_
        refine jr_s rfl rfl (Or.inl rfl) ⟨Nat.le_of_ble_eq_true rfl, Nat.le_of_ble_eq_true rfl⟩ rfl rfl (jc.deep (r_argsOf hI_M1 hH_M1 hS_M1 (Kp.rfl _) (by omega)  (fun r156 z156 w156_0 => ?_)) (by decide))
        refine jr.icmp_ne rfl rfl (by omega) (by omega) (fun h109 => ?_) (fun h109 => ?_)
        · refine jr.iconst rfl ?_
          refine jr.istore (ls' := [_, _, _, _, _]) rfl (by decide) rfl ?_
          refine jr.aload_n rfl rfl ?_
          refine jr.bipush rfl (by decide) ?_
          refine jr_v rfl rfl (Or.inl rfl) rfl rfl (by decide) rfl ⟨rfl, Nat.le_of_ble_eq_true rfl, Nat.le_of_ble_eq_true rfl⟩ rfl (jc.deep (c_isSign hI_M1 (by omega) (fun t122_0 t122_1 => ?_) (fun f122_0 => ?_)) (by decide))
          · have tq := ES.top40 gs2 (by omega) (by rw [hsg]; omega)
            rw [hsg, e3] at tq
            have dp1 := ES.dpos gs2 (by omega)
            rw [hsg] at dp1
            have dp2 := dp1 (Or.inl tq.1)
            refine jr.if_eq rfl rfl (by omega) (fun h => absurd h (by decide)) (fun _ => ?_)
            refine jr.iload rfl rfl ?_
            refine jr.if_ne rfl rfl (by omega) (fun h => absurd h (by decide)) (fun _ => ?_)
            refine jr.aload_n rfl rfl ?_
            refine jr.getf (i := 106) (v := .ref 667) rfl rfl (by decide) rfl (by decide) rfl rfl rfl rfl ?_
            refine jr.aload_n rfl rfl ?_
            refine jr.getf (i := 102) (x := sg) (v := .int (Int32.ofInt (sg))) rfl rfl (by decide) rfl (by decide) rfl rfl hsg rfl ?_
            refine jr.iconst rfl ?_
            refine jr.isub rfl ?_
            refine jr.dup2 rfl ⟨rfl, rfl⟩ ?_
            refine jr.iald (i := (sg - 1)) (x := v154) rfl (by decide) rfl (by decide) (by omega) (by omega) e155 ?_
            refine jr.iconst rfl ?_
            refine jr.iadd rfl ?_
            refine jr.iast (i := (sg - 1)) (x := (v154 + 1)) rfl (by decide) rfl (by decide) (by omega) (by omega) ?_
            refine jr.aload_n rfl rfl ?_
            obtain ⟨v158, e158⟩ : ∃ z, M 598 73 = z := ⟨_, rfl⟩
            have b158 : 0 ≤ v158 ∧ v158 ≤ 1600 := by rw [← e158]; exact hI_M 598 73 (by decide)
            have e159 : M1 598 73 = v158 := ((w1_5 73 (by decide) (by decide) (by decide)).trans e158)
            obtain ⟨v160, e160⟩ : ∃ z, M 598 72 = z := ⟨_, rfl⟩
            have b160 : 0 ≤ v160 ∧ v160 ≤ 1600 := by rw [← e160]; exact hI_M 598 72 (by decide)
            have e161 : M1 598 72 = v160 := ((w1_5 72 (by decide) (by decide) (by decide)).trans e160)
            obtain ⟨v163, e163⟩ : ∃ z, M 598 89 = z := ⟨_, rfl⟩
            have b163 : 0 ≤ v163 ∧ v163 ≤ 301 := by rw [← e163]; exact hI_M 598 89 (by decide)
            have e164 : M1 598 89 = v163 := ((w1_5 89 (by decide) (by decide) (by decide)).trans e163)
            obtain ⟨v166, e166⟩ : ∃ z, M1 598 100 = z := ⟨_, rfl⟩
            have b166 : 0 ≤ v166 ∧ v166 ≤ 13 := by rw [← e166]; exact hI_M1 598 100 (by decide)
            obtain ⟨v169, e169⟩ : ∃ z, M 598 74 = z := ⟨_, rfl⟩
            have b169 : 0 ≤ v169 ∧ v169 ≤ 4 := by rw [← e169]; exact hI_M 598 74 (by decide)
            have e170 : M1 598 74 = v169 := ((w1_5 74 (by decide) (by decide) (by decide)).trans e169)
            refine jr_v rfl rfl (Or.inl rfl) rfl rfl (by decide) rfl ⟨rfl, Nat.le_of_ble_eq_true rfl, Nat.le_of_ble_eq_true rfl⟩ rfl (jc.deep (r_next (RI.u hI_M1 (a := 667) (i := (sg - 1)) (by rw [xri_row rfl rfl]; show (0 : Int) ≤ _ ∧ _ ≤ (4 : Int); omega)) (RH.o hH_M1 (by decide) (by decide) (by decide)) (RF.o hS_M1 (by decide) (by decide))   (by rw [((ju_c _ _ (by decide)).trans e159), ((ju_c _ _ (by decide)).trans e161)]; omega) (fun M157 hI_M157 hH_M157 hS_M157  w157_0 w157_1 w157_2 w157_3 w157_4 w157_5 w157_6 => ?_)) (by decide))
            have y168 : (ju M1 667 (sg - 1) (v154 + 1)) 598 73 = v158 := ((ju_c _ _ (by decide)).trans e159)
            have y171 : (ju M1 667 (sg - 1) (v154 + 1)) 598 74 = v169 := ((ju_c _ _ (by decide)).trans e170)
            have tb157 : TK (ju M1 667 (sg - 1) (v154 + 1)) = TK M1 := ((TK.o (Or.inl (by decide))).trans rfl)
            have hE := ES.inc gs2 hsg e155 (by omega) tq.1 (by rw [e3]; omega) (by rw [e3]; omega)
            have y162 : (ju M1 667 (sg - 1) (v154 + 1)) 598 73 = v158 := ((ju_c _ _ (by decide)).trans e159)
            have y165 : (ju M1 667 (sg - 1) (v154 + 1)) 598 89 = v163 := ((ju_c _ _ (by decide)).trans e164)
            have y167 : (ju M1 667 (sg - 1) (v154 + 1)) 598 100 = v166 := ((ju_c _ _ (by decide)).trans e166)
            have x157_89 := w157_6 89 (by decide) (by decide) (by decide) (by decide) (by decide) (by decide) (by decide)
            have x157_100 := w157_6 100 (by decide) (by decide) (by decide) (by decide) (by decide) (by decide) (by decide)
            have hE := ES.fr2 hE w157_5 (w157_6 88 (by decide) (by decide) (by decide) (by decide) (by decide) (by decide) (by decide)) (w157_6 90 (by decide) (by decide) (by decide) (by decide) (by decide) (by decide) (by decide)) (w157_6 101 (by decide) (by decide) (by decide) (by decide) (by decide) (by decide) (by decide)) (w157_6 102 (by decide) (by decide) (by decide) (by decide) (by decide) (by decide) (by decide)) (w157_6 107 (by decide) (by decide) (by decide) (by decide) (by decide) (by decide) (by decide)) (k' := kk) (d' := 0) (z' := 0) (by omega) (by omega) (by omega) (by omega)
            refine jr.iconst rfl ?_
            refine jr.istore_n (ls' := [_, _, _, _, _]) rfl (by decide) rfl ?_
            refine jr.goto rfl rfl ?_
            refine jr.goto rfl rfl ?_
            have e172 : M157 598 72 = v160 := ((w157_6 72 (by decide) (by decide) (by decide) (by decide) (by decide) (by decide) (by decide)).trans ((ju_c _ _ (by decide)).trans e161))
            have y173 : M157 598 72 = v160 := e172
            obtain ⟨v174, e174⟩ : ∃ z, M157 598 73 = z := ⟨_, rfl⟩
            have b174 : 0 ≤ v174 ∧ v174 ≤ 1600 := by rw [← e174]; exact hI_M157 598 73 (by decide)
            have y175 : M157 598 73 = v174 := e174
            obtain ⟨v176, e176⟩ : ∃ z, M157 598 74 = z := ⟨_, rfl⟩
            have b176 : 0 ≤ v176 ∧ v176 ≤ 4 := by rw [← e176]; exact hI_M157 598 74 (by decide)
            have y177 : M157 598 74 = v176 := e176
            obtain ⟨v178, e178⟩ : ∃ z, M157 598 79 = z := ⟨_, rfl⟩
            have b178 : 0 ≤ v178 ∧ v178 ≤ 255 := by rw [← e178]; exact hI_M157 598 79 (by decide)
            have y179 : M157 598 79 = v178 := e178
            obtain ⟨v180, e180⟩ : ∃ z, M 598 80 = z := ⟨_, rfl⟩
            have b180 : 0 ≤ v180 ∧ v180 ≤ 7 := by rw [← e180]; exact hI_M 598 80 (by decide)
            have e181 : M1 598 80 = v180 := ((w1_5 80 (by decide) (by decide) (by decide)).trans e180)
            have e182 : M157 598 80 = v180 := ((w157_6 80 (by decide) (by decide) (by decide) (by decide) (by decide) (by decide) (by decide)).trans ((ju_c _ _ (by decide)).trans e181))
            have y183 : M157 598 80 = v180 := e182
            have e184 : M157 598 89 = v163 := ((w157_6 89 (by decide) (by decide) (by decide) (by decide) (by decide) (by decide) (by decide)).trans ((ju_c _ _ (by decide)).trans e164))
            have y185 : M157 598 89 = v163 := e184
            obtain ⟨v186, e186⟩ : ∃ z, M1 598 90 = z := ⟨_, rfl⟩
            have b186 : 0 ≤ v186 ∧ v186 ≤ 2200 := by rw [← e186]; exact hI_M1 598 90 (by decide)
            have e187 : M157 598 90 = v186 := ((w157_6 90 (by decide) (by decide) (by decide) (by decide) (by decide) (by decide) (by decide)).trans ((ju_c _ _ (by decide)).trans e186))
            have y188 : M157 598 90 = v186 := e187
            have e189 : M157 598 100 = v166 := ((w157_6 100 (by decide) (by decide) (by decide) (by decide) (by decide) (by decide) (by decide)).trans ((ju_c _ _ (by decide)).trans e166))
            have y190 : M157 598 100 = v166 := e189
            obtain ⟨v191, e191⟩ : ∃ z, M 598 107 = z := ⟨_, rfl⟩
            have b191 : 0 ≤ v191 ∧ v191 ≤ 16 := by rw [← e191]; exact hI_M 598 107 (by decide)
            have e192 : M1 598 107 = v191 := ((w1_5 107 (by decide) (by decide) (by decide)).trans e191)
            have e193 : M157 598 107 = v191 := ((w157_6 107 (by decide) (by decide) (by decide) (by decide) (by decide) (by decide) (by decide)).trans ((ju_c _ _ (by decide)).trans e192))
            have y194 : M157 598 107 = v191 := e193
            have y195 : M157 598 80 = v180 := e182
            refine jr.pick (ls := [_, _, _]) [0, 3, 4] rfl rfl ?_
            have y196 : M157 598 80 = v180 := e182
            exact ko M157 1 m hI_M157 hH_M157 hS_M157  (fun a i f598 f659 f660 f664 f665 f666 f667 => ((w157_5 a i f598).trans ((ju_c _ _ f667).trans ((w1_4 a i f598 f659 f660).trans (hF_M a i f598 f659 f660 f664 f665 f666 f667))))) (fun i g73 g74 g75 g76 g77 g78 g79 g80 g81 g89 g90 g100 g102 => ((w157_6 i g73 g74 g75 g76 g77 g78 g79).trans ((ju_c _ _ (by decide)).trans ((w1_5 i g90 g100 g102).trans (hG_M i g73 g74 g75 g76 g77 g78 g79 g80 g81 g89 g90 g100 g102))))) (by omega) (by omega) (by by_cases hf : v180 = 0; (first | (exact Or.inr (GS.cast (o := 0) ⟨by omega, ES.adj hE (k' := kk) (z' := 0) (by omega) (by omega) (by omega), by omega, by omega, by omega, by omega⟩ (by omega))) | (exfalso; omega)); (exact Or.inl ⟨by omega, by omega⟩)) (by omega) (by omega) (by rw [e174, e172] <;> omega) (by omega) (CP.f (CP.o (CP.trans hCP w1_3) (by decide) (Or.inl (by decide))) (fun i => w157_5 659 i (by decide)) (w157_6 90 (by decide) (by decide) (by decide) (by decide) (by decide) (by decide) (by decide))) (by rw [e184] <;> omega) (by omega)
          · have tq := ES.top40 gs2 (by omega) (by rw [hsg]; omega)
            rw [hsg, e3] at tq
            have dp1 := ES.dpos gs2 (by omega)
            rw [hsg] at dp1
            have dp2 := dp1 (Or.inl tq.1)
            refine jr.if_eq rfl rfl (by omega) (fun _ => ?_) (fun h => absurd (by decide) h)
            refine jr.aload_n rfl rfl ?_
            refine jr.bipush rfl (by decide) ?_
            refine jr_v rfl rfl (Or.inl rfl) rfl rfl (by decide) rfl ⟨rfl, Nat.le_of_ble_eq_true rfl, Nat.le_of_ble_eq_true rfl⟩ rfl (jc.deep (c_isSign hI_M1 (by omega) (fun t160_0 t160_1 => ?_) (fun f160_0 => ?_)) (by decide))
            · refine jr.if_eq rfl rfl (by omega) (fun h => absurd h (by decide)) (fun _ => ?_)
              refine jr.iload rfl rfl ?_
              refine jr.if_eq rfl rfl (by omega) (fun _ => ?_) (fun h => absurd (by decide) h)
              refine jr.aload_n rfl rfl ?_
              refine jr_v rfl rfl (Or.inl rfl) rfl rfl (by decide) rfl ⟨rfl, Nat.le_of_ble_eq_true rfl, Nat.le_of_ble_eq_true rfl⟩ rfl (jc.deep (r_wrongToken hI_M1 hH_M1 hS_M1    (fun M197 hI_M197 hH_M197 hS_M197  w197_0 w197_1 w197_2 => ?_)) (by decide))
              have tk197 : TK M197 = TK M1 := TK.fr (w197_2 73 (by decide) (by decide)) (w197_2 74 (by decide) (by decide))
              refine jr.goto rfl rfl ?_
              obtain ⟨v198, e198⟩ : ∃ z, M 598 72 = z := ⟨_, rfl⟩
              have b198 : 0 ≤ v198 ∧ v198 ≤ 1600 := by rw [← e198]; exact hI_M 598 72 (by decide)
              have e199 : M1 598 72 = v198 := ((w1_5 72 (by decide) (by decide) (by decide)).trans e198)
              have e200 : M197 598 72 = v198 := ((w197_2 72 (by decide) (by decide)).trans e199)
              have y201 : M197 598 72 = v198 := e200
              obtain ⟨v202, e202⟩ : ∃ z, M 598 73 = z := ⟨_, rfl⟩
              have b202 : 0 ≤ v202 ∧ v202 ≤ 1600 := by rw [← e202]; exact hI_M 598 73 (by decide)
              have e203 : M1 598 73 = v202 := ((w1_5 73 (by decide) (by decide) (by decide)).trans e202)
              have e204 : M197 598 73 = v202 := ((w197_2 73 (by decide) (by decide)).trans e203)
              have y205 : M197 598 73 = v202 := e204
              obtain ⟨v206, e206⟩ : ∃ z, M 598 74 = z := ⟨_, rfl⟩
              have b206 : 0 ≤ v206 ∧ v206 ≤ 4 := by rw [← e206]; exact hI_M 598 74 (by decide)
              have e207 : M1 598 74 = v206 := ((w1_5 74 (by decide) (by decide) (by decide)).trans e206)
              have e208 : M197 598 74 = v206 := ((w197_2 74 (by decide) (by decide)).trans e207)
              have y209 : M197 598 74 = v206 := e208
              obtain ⟨v210, e210⟩ : ∃ z, M 598 79 = z := ⟨_, rfl⟩
              have b210 : 0 ≤ v210 ∧ v210 ≤ 255 := by rw [← e210]; exact hI_M 598 79 (by decide)
              have e211 : M1 598 79 = v210 := ((w1_5 79 (by decide) (by decide) (by decide)).trans e210)
              have e212 : M197 598 79 = v210 := ((w197_2 79 (by decide) (by decide)).trans e211)
              have y213 : M197 598 79 = v210 := e212
              obtain ⟨v214, e214⟩ : ∃ z, M197 598 80 = z := ⟨_, rfl⟩
              have b214 : 0 ≤ v214 ∧ v214 ≤ 7 := by rw [← e214]; exact hI_M197 598 80 (by decide)
              have y215 : M197 598 80 = v214 := e214
              obtain ⟨v216, e216⟩ : ∃ z, M 598 89 = z := ⟨_, rfl⟩
              have b216 : 0 ≤ v216 ∧ v216 ≤ 301 := by rw [← e216]; exact hI_M 598 89 (by decide)
              have e217 : M1 598 89 = v216 := ((w1_5 89 (by decide) (by decide) (by decide)).trans e216)
              have e218 : M197 598 89 = v216 := ((w197_2 89 (by decide) (by decide)).trans e217)
              have y219 : M197 598 89 = v216 := e218
              obtain ⟨v220, e220⟩ : ∃ z, M1 598 90 = z := ⟨_, rfl⟩
              have b220 : 0 ≤ v220 ∧ v220 ≤ 2200 := by rw [← e220]; exact hI_M1 598 90 (by decide)
              have e221 : M197 598 90 = v220 := ((w197_2 90 (by decide) (by decide)).trans e220)
              have y222 : M197 598 90 = v220 := e221
              obtain ⟨v223, e223⟩ : ∃ z, M1 598 100 = z := ⟨_, rfl⟩
              have b223 : 0 ≤ v223 ∧ v223 ≤ 13 := by rw [← e223]; exact hI_M1 598 100 (by decide)
              have e224 : M197 598 100 = v223 := ((w197_2 100 (by decide) (by decide)).trans e223)
              have y225 : M197 598 100 = v223 := e224
              obtain ⟨v226, e226⟩ : ∃ z, M 598 107 = z := ⟨_, rfl⟩
              have b226 : 0 ≤ v226 ∧ v226 ≤ 16 := by rw [← e226]; exact hI_M 598 107 (by decide)
              have e227 : M1 598 107 = v226 := ((w1_5 107 (by decide) (by decide) (by decide)).trans e226)
              have e228 : M197 598 107 = v226 := ((w197_2 107 (by decide) (by decide)).trans e227)
              have y229 : M197 598 107 = v226 := e228
              have y230 : M197 598 80 = v214 := e214
              refine jr.pick (ls := [_, _, _]) [2, 3, 4] rfl rfl ?_
              have y231 : M197 598 80 = v214 := e214
              exact ko M197 o m hI_M197 hH_M197 hS_M197  (fun a i f598 f659 f660 f664 f665 f666 f667 => ((w197_1 a i f598).trans ((w1_4 a i f598 f659 f660).trans (hF_M a i f598 f659 f660 f664 f665 f666 f667)))) (fun i g73 g74 g75 g76 g77 g78 g79 g80 g81 g89 g90 g100 g102 => ((w197_2 i g80 g81).trans ((w1_5 i g90 g100 g102).trans (hG_M i g73 g74 g75 g76 g77 g78 g79 g80 g81 g89 g90 g100 g102)))) (by omega) (by omega) (by by_cases hf : v214 = 0; (first | (exfalso; omega) | (exact Or.inr (GS.cast (o := 0) ⟨by omega, ES.adj hE (k' := kk) (z' := 0) (by omega) (by omega) (by omega), by omega, by omega, by omega, by omega⟩ (by omega)))); (exact Or.inl ⟨by omega, by omega⟩)) (by omega) (by omega) (by rw [e204, e200] <;> omega) (by omega) (CP.f (CP.trans hCP w1_3) (fun i => w197_1 659 i (by decide)) (w197_2 90 (by decide) (by decide))) (by rw [e218] <;> omega) (by omega)
            · refine jr.if_eq rfl rfl (by omega) (fun _ => ?_) (fun h => absurd (by decide) h)
              refine jr.aload_n rfl rfl ?_
              refine jr_v rfl rfl (Or.inl rfl) rfl rfl (by decide) rfl ⟨rfl, Nat.le_of_ble_eq_true rfl, Nat.le_of_ble_eq_true rfl⟩ rfl (jc.deep (r_wrongToken hI_M1 hH_M1 hS_M1    (fun M232 hI_M232 hH_M232 hS_M232  w232_0 w232_1 w232_2 => ?_)) (by decide))
              have tk232 : TK M232 = TK M1 := TK.fr (w232_2 73 (by decide) (by decide)) (w232_2 74 (by decide) (by decide))
              refine jr.goto rfl rfl ?_
              obtain ⟨v233, e233⟩ : ∃ z, M 598 72 = z := ⟨_, rfl⟩
              have b233 : 0 ≤ v233 ∧ v233 ≤ 1600 := by rw [← e233]; exact hI_M 598 72 (by decide)
              have e234 : M1 598 72 = v233 := ((w1_5 72 (by decide) (by decide) (by decide)).trans e233)
              have e235 : M232 598 72 = v233 := ((w232_2 72 (by decide) (by decide)).trans e234)
              have y236 : M232 598 72 = v233 := e235
              obtain ⟨v237, e237⟩ : ∃ z, M 598 73 = z := ⟨_, rfl⟩
              have b237 : 0 ≤ v237 ∧ v237 ≤ 1600 := by rw [← e237]; exact hI_M 598 73 (by decide)
              have e238 : M1 598 73 = v237 := ((w1_5 73 (by decide) (by decide) (by decide)).trans e237)
              have e239 : M232 598 73 = v237 := ((w232_2 73 (by decide) (by decide)).trans e238)
              have y240 : M232 598 73 = v237 := e239
              obtain ⟨v241, e241⟩ : ∃ z, M 598 74 = z := ⟨_, rfl⟩
              have b241 : 0 ≤ v241 ∧ v241 ≤ 4 := by rw [← e241]; exact hI_M 598 74 (by decide)
              have e242 : M1 598 74 = v241 := ((w1_5 74 (by decide) (by decide) (by decide)).trans e241)
              have e243 : M232 598 74 = v241 := ((w232_2 74 (by decide) (by decide)).trans e242)
              have y244 : M232 598 74 = v241 := e243
              obtain ⟨v245, e245⟩ : ∃ z, M 598 79 = z := ⟨_, rfl⟩
              have b245 : 0 ≤ v245 ∧ v245 ≤ 255 := by rw [← e245]; exact hI_M 598 79 (by decide)
              have e246 : M1 598 79 = v245 := ((w1_5 79 (by decide) (by decide) (by decide)).trans e245)
              have e247 : M232 598 79 = v245 := ((w232_2 79 (by decide) (by decide)).trans e246)
              have y248 : M232 598 79 = v245 := e247
              obtain ⟨v249, e249⟩ : ∃ z, M232 598 80 = z := ⟨_, rfl⟩
              have b249 : 0 ≤ v249 ∧ v249 ≤ 7 := by rw [← e249]; exact hI_M232 598 80 (by decide)
              have y250 : M232 598 80 = v249 := e249
              obtain ⟨v251, e251⟩ : ∃ z, M 598 89 = z := ⟨_, rfl⟩
              have b251 : 0 ≤ v251 ∧ v251 ≤ 301 := by rw [← e251]; exact hI_M 598 89 (by decide)
              have e252 : M1 598 89 = v251 := ((w1_5 89 (by decide) (by decide) (by decide)).trans e251)
              have e253 : M232 598 89 = v251 := ((w232_2 89 (by decide) (by decide)).trans e252)
              have y254 : M232 598 89 = v251 := e253
              obtain ⟨v255, e255⟩ : ∃ z, M1 598 90 = z := ⟨_, rfl⟩
              have b255 : 0 ≤ v255 ∧ v255 ≤ 2200 := by rw [← e255]; exact hI_M1 598 90 (by decide)
              have e256 : M232 598 90 = v255 := ((w232_2 90 (by decide) (by decide)).trans e255)
              have y257 : M232 598 90 = v255 := e256
              obtain ⟨v258, e258⟩ : ∃ z, M1 598 100 = z := ⟨_, rfl⟩
              have b258 : 0 ≤ v258 ∧ v258 ≤ 13 := by rw [← e258]; exact hI_M1 598 100 (by decide)
              have e259 : M232 598 100 = v258 := ((w232_2 100 (by decide) (by decide)).trans e258)
              have y260 : M232 598 100 = v258 := e259
              obtain ⟨v261, e261⟩ : ∃ z, M 598 107 = z := ⟨_, rfl⟩
              have b261 : 0 ≤ v261 ∧ v261 ≤ 16 := by rw [← e261]; exact hI_M 598 107 (by decide)
              have e262 : M1 598 107 = v261 := ((w1_5 107 (by decide) (by decide) (by decide)).trans e261)
              have e263 : M232 598 107 = v261 := ((w232_2 107 (by decide) (by decide)).trans e262)
              have y264 : M232 598 107 = v261 := e263
              have y265 : M232 598 80 = v249 := e249
              refine jr.pick (ls := [_, _, _]) [2, 3, 4] rfl rfl ?_
              have y266 : M232 598 80 = v249 := e249
              exact ko M232 o m hI_M232 hH_M232 hS_M232  (fun a i f598 f659 f660 f664 f665 f666 f667 => ((w232_1 a i f598).trans ((w1_4 a i f598 f659 f660).trans (hF_M a i f598 f659 f660 f664 f665 f666 f667)))) (fun i g73 g74 g75 g76 g77 g78 g79 g80 g81 g89 g90 g100 g102 => ((w232_2 i g80 g81).trans ((w1_5 i g90 g100 g102).trans (hG_M i g73 g74 g75 g76 g77 g78 g79 g80 g81 g89 g90 g100 g102)))) (by omega) (by omega) (by by_cases hf : v249 = 0; (first | (exfalso; omega) | (exact Or.inr (GS.cast (o := 0) ⟨by omega, ES.adj hE (k' := kk) (z' := 0) (by omega) (by omega) (by omega), by omega, by omega, by omega, by omega⟩ (by omega)))); (exact Or.inl ⟨by omega, by omega⟩)) (by omega) (by omega) (by rw [e239, e235] <;> omega) (by omega) (CP.f (CP.trans hCP w1_3) (fun i => w232_1 659 i (by decide)) (w232_2 90 (by decide) (by decide))) (by rw [e253] <;> omega) (by omega)
        · refine jr.iconst rfl ?_
          refine jr.goto rfl rfl ?_
          refine jr.istore (ls' := [_, _, _, _, _]) rfl (by decide) rfl ?_
          refine jr.aload_n rfl rfl ?_
          refine jr.bipush rfl (by decide) ?_
          refine jr_v rfl rfl (Or.inl rfl) rfl rfl (by decide) rfl ⟨rfl, Nat.le_of_ble_eq_true rfl, Nat.le_of_ble_eq_true rfl⟩ rfl (jc.deep (c_isSign hI_M1 (by omega) (fun t122_0 t122_1 => ?_) (fun f122_0 => ?_)) (by decide))
          · have tq := ES.top40 gs2 (by omega) (by rw [hsg]; omega)
            rw [hsg, e3] at tq
            have dp1 := ES.dpos gs2 (by omega)
            rw [hsg] at dp1
            have dp2 := dp1 (Or.inl tq.1)
            refine jr.if_eq rfl rfl (by omega) (fun h => absurd h (by decide)) (fun _ => ?_)
            refine jr.iload rfl rfl ?_
            refine jr.if_ne rfl rfl (by omega) (fun _ => ?_) (fun h => absurd (by decide) h)
            refine jr.aload_n rfl rfl ?_
            refine jr.bipush rfl (by decide) ?_
            refine jr_v rfl rfl (Or.inl rfl) rfl rfl (by decide) rfl ⟨rfl, Nat.le_of_ble_eq_true rfl, Nat.le_of_ble_eq_true rfl⟩ rfl (jc.deep (c_isSign hI_M1 (by omega) (fun t160_0 t160_1 => ?_) (fun f160_0 => ?_)) (by decide))
            · refine jr.if_eq rfl rfl (by omega) (fun h => absurd h (by decide)) (fun _ => ?_)
              refine jr.iload rfl rfl ?_
              refine jr.if_eq rfl rfl (by omega) (fun h => absurd h (by decide)) (fun _ => ?_)
              refine jr.aload_n rfl rfl ?_
              refine jr.dup rfl rfl ?_
              refine jr.getf (i := 102) (x := sg) (v := .int (Int32.ofInt (sg))) rfl rfl (by decide) rfl (by decide) rfl rfl hsg rfl ?_
              refine jr.iconst rfl ?_
              refine jr.isub rfl ?_
              refine jr.putf (i := 102) (x := (sg - 1)) rfl rfl (by decide) rfl (by decide) rfl rfl rfl rfl rfl ?_
              refine jr.aload_n rfl rfl ?_
              refine jr.dup rfl rfl ?_
              obtain ⟨v267, e267⟩ : ∃ z, M1 598 100 = z := ⟨_, rfl⟩
              have b267 : 0 ≤ v267 ∧ v267 ≤ 13 := by rw [← e267]; exact hI_M1 598 100 (by decide)
              refine jr.getf (i := 100) (x := v267) (v := .int (Int32.ofInt (v267))) rfl rfl (by decide) rfl (by decide) rfl rfl ((ju_i _ _ (by decide)).trans e267) rfl ?_
              refine jr.iconst rfl ?_
              refine jr.isub rfl ?_
              refine jr.putf (i := 100) (x := (v267 - 1)) rfl rfl (by decide) rfl (by decide) rfl rfl rfl rfl rfl ?_
              refine jr.aload_n rfl rfl ?_
              obtain ⟨v269, e269⟩ : ∃ z, M 598 73 = z := ⟨_, rfl⟩
              have b269 : 0 ≤ v269 ∧ v269 ≤ 1600 := by rw [← e269]; exact hI_M 598 73 (by decide)
              have e270 : M1 598 73 = v269 := ((w1_5 73 (by decide) (by decide) (by decide)).trans e269)
              obtain ⟨v271, e271⟩ : ∃ z, M 598 72 = z := ⟨_, rfl⟩
              have b271 : 0 ≤ v271 ∧ v271 ≤ 1600 := by rw [← e271]; exact hI_M 598 72 (by decide)
              have e272 : M1 598 72 = v271 := ((w1_5 72 (by decide) (by decide) (by decide)).trans e271)
              obtain ⟨v274, e274⟩ : ∃ z, M 598 89 = z := ⟨_, rfl⟩
              have b274 : 0 ≤ v274 ∧ v274 ≤ 301 := by rw [← e274]; exact hI_M 598 89 (by decide)
              have e275 : M1 598 89 = v274 := ((w1_5 89 (by decide) (by decide) (by decide)).trans e274)
              obtain ⟨v279, e279⟩ : ∃ z, M 598 74 = z := ⟨_, rfl⟩
              have b279 : 0 ≤ v279 ∧ v279 ≤ 4 := by rw [← e279]; exact hI_M 598 74 (by decide)
              have e280 : M1 598 74 = v279 := ((w1_5 74 (by decide) (by decide) (by decide)).trans e279)
              refine jr_v rfl rfl (Or.inl rfl) rfl rfl (by decide) rfl ⟨rfl, Nat.le_of_ble_eq_true rfl, Nat.le_of_ble_eq_true rfl⟩ rfl (jc.deep (r_next (RI.u (RI.u hI_M1 (a := 598) (i := 102) (show (0 : Int) ≤ _ ∧ _ ≤ (400 : Int) from by omega)) (a := 598) (i := 100) (show (0 : Int) ≤ _ ∧ _ ≤ (13 : Int) from by omega)) (RH.o (RH.o hH_M1 (by decide) (by decide) (by decide)) (by decide) (by decide) (by decide)) (RF.o (RF.o hS_M1 (by decide) (by decide)) (by decide) (by decide))   (by rw [((ju_i _ _ (by decide)).trans ((ju_i _ _ (by decide)).trans e270)), ((ju_i _ _ (by decide)).trans ((ju_i _ _ (by decide)).trans e272))]; omega) (fun M268 hI_M268 hH_M268 hS_M268  w268_0 w268_1 w268_2 w268_3 w268_4 w268_5 w268_6 => ?_)) (by decide))
              have y278 : (ju (ju M1 598 102 (sg - 1)) 598 100 (v267 - 1)) 598 73 = v269 := ((ju_i _ _ (by decide)).trans ((ju_i _ _ (by decide)).trans e270))
              have y281 : (ju (ju M1 598 102 (sg - 1)) 598 100 (v267 - 1)) 598 74 = v279 := ((ju_i _ _ (by decide)).trans ((ju_i _ _ (by decide)).trans e280))
              have tb268 : TK (ju (ju M1 598 102 (sg - 1)) 598 100 (v267 - 1)) = TK M1 := ((TK.o (Or.inr ⟨by decide, by decide⟩)).trans ((TK.o (Or.inr ⟨by decide, by decide⟩)).trans rfl))
              have hE := ES.clo1 gs2 hsg e267 tq.1 e3 (by omega) (by omega)
              have ck : 0 ≤ kcK v2 := by unfold kcK; split <;> omega
              have y273 : (ju (ju M1 598 102 (sg - 1)) 598 100 (v267 - 1)) 598 73 = v269 := ((ju_i _ _ (by decide)).trans ((ju_i _ _ (by decide)).trans e270))
              have y276 : (ju (ju M1 598 102 (sg - 1)) 598 100 (v267 - 1)) 598 89 = v274 := ((ju_i _ _ (by decide)).trans ((ju_i _ _ (by decide)).trans e275))
              have y277 : (ju (ju M1 598 102 (sg - 1)) 598 100 (v267 - 1)) 598 100 = v267 - 1 := (ju_same _ _ _ _)
              have x268_89 := w268_6 89 (by decide) (by decide) (by decide) (by decide) (by decide) (by decide) (by decide)
              have x268_100 := w268_6 100 (by decide) (by decide) (by decide) (by decide) (by decide) (by decide) (by decide)
              have hE := ES.fr2 hE w268_5 (w268_6 88 (by decide) (by decide) (by decide) (by decide) (by decide) (by decide) (by decide)) (w268_6 90 (by decide) (by decide) (by decide) (by decide) (by decide) (by decide) (by decide)) (w268_6 101 (by decide) (by decide) (by decide) (by decide) (by decide) (by decide) (by decide)) (w268_6 102 (by decide) (by decide) (by decide) (by decide) (by decide) (by decide) (by decide)) (w268_6 107 (by decide) (by decide) (by decide) (by decide) (by decide) (by decide) (by decide)) (k' := kk + kcK v2) (d' := 0) (z' := 0) (by omega) (by omega) (by omega) (by omega)
              have co1 : v2 = -1 → kcO v2 = 1 := fun z => by unfold kcO; rw [if_pos z]
              refine jr.iload_n rfl rfl ?_
              refine jr.iconst rfl ?_
              refine jr.icmp_eq rfl rfl (by omega) (by omega) (fun h197 => ?_) (fun h197 => ?_)
              · exact absurd h197 (by omega)
              · refine jr.aload_n rfl rfl ?_
                refine jr.sipush rfl (by decide) ?_
                refine jr.iload_n rfl rfl ?_
                refine jr.iadd rfl ?_
                refine jr.lconst (x := 0) rfl (by decide) ?_
                obtain ⟨v282, e282⟩ : ∃ z, M1 598 90 = z := ⟨_, rfl⟩
                have b282 : 0 ≤ v282 ∧ v282 ≤ 2200 := by rw [← e282]; exact hI_M1 598 90 (by decide)
                have e283 : M268 598 90 = v282 := ((w268_6 90 (by decide) (by decide) (by decide) (by decide) (by decide) (by decide) (by decide)).trans ((ju_i _ _ (by decide)).trans ((ju_i _ _ (by decide)).trans e282)))
                have e284 : M268 598 100 = v267 - 1 := ((w268_6 100 (by decide) (by decide) (by decide) (by decide) (by decide) (by decide) (by decide)).trans (ju_same _ _ _ _))
                obtain ⟨v286, e286⟩ : ∃ z, M 598 107 = z := ⟨_, rfl⟩
                have b286 : 0 ≤ v286 ∧ v286 ≤ 16 := by rw [← e286]; exact hI_M 598 107 (by decide)
                have e287 : M1 598 107 = v286 := ((w1_5 107 (by decide) (by decide) (by decide)).trans e286)
                have e288 : M268 598 107 = v286 := ((w268_6 107 (by decide) (by decide) (by decide) (by decide) (by decide) (by decide) (by decide)).trans ((ju_i _ _ (by decide)).trans ((ju_i _ _ (by decide)).trans e287)))
                refine jr_v rfl rfl (Or.inl rfl) rfl rfl (by decide) rfl ⟨rfl, Nat.le_of_ble_eq_true rfl, Nat.le_of_ble_eq_true rfl⟩ rfl (jc.deep (r_emit e283 (by omega) (by omega) (by omega) ?_) (by decide))
                have y285 : M268 598 100 = v267 - 1 := e284
                have y289 : M268 598 107 = v286 := e288
                have al := argn_le v2
                have co : kcO v2 = argn v2 := by unfold kcO; rw [if_neg (by omega)]
                have ck2 : kcK v2 = 2 := by unfold kcK; rw [if_neg (by omega)]
                have nd : ndo (340 + v2) = argn v2 := (by rcases (show v2 = 25 ∨ v2 = 26 ∨ v2 = 27 ∨ v2 = 28 ∨ v2 = 29 ∨ v2 = 30 by omega) with r | r | r | r | r | r <;> rw [r] <;> decide)
                have dl : dlo (340 + v2) = 1 - argn v2 := (by rcases (show v2 = 25 ∨ v2 = 26 ∨ v2 = 27 ∨ v2 = 28 ∨ v2 = 29 ∨ v2 = 30 by omega) with r | r | r | r | r | r <;> rw [r] <;> decide)
                have hE := ES.emit hE e283 (340 + v2) 0 kk (by unfold vop; omega) (by omega) (by unfold exo; omega) (by unfold jpo; omega) (by omega) (by omega) (by omega) (by omega) (by omega) (by omega)
                refine jr.goto rfl rfl ?_
                refine jr.goto rfl rfl ?_
                have e290 : M268 598 72 = v271 := ((w268_6 72 (by decide) (by decide) (by decide) (by decide) (by decide) (by decide) (by decide)).trans ((ju_i _ _ (by decide)).trans ((ju_i _ _ (by decide)).trans e272)))
                have y291 : (ju (ju (ju M268 659 v282 (340 + v2)) 660 v282 0) 598 90 (v282 + 1)) 598 72 = v271 := ((ju_i _ _ (by decide)).trans ((ju_c _ _ (by decide)).trans ((ju_c _ _ (by decide)).trans e290)))
                obtain ⟨v292, e292⟩ : ∃ z, M268 598 73 = z := ⟨_, rfl⟩
                have b292 : 0 ≤ v292 ∧ v292 ≤ 1600 := by rw [← e292]; exact hI_M268 598 73 (by decide)
                have y293 : (ju (ju (ju M268 659 v282 (340 + v2)) 660 v282 0) 598 90 (v282 + 1)) 598 73 = v292 := ((ju_i _ _ (by decide)).trans ((ju_c _ _ (by decide)).trans ((ju_c _ _ (by decide)).trans e292)))
                obtain ⟨v294, e294⟩ : ∃ z, M268 598 74 = z := ⟨_, rfl⟩
                have b294 : 0 ≤ v294 ∧ v294 ≤ 4 := by rw [← e294]; exact hI_M268 598 74 (by decide)
                have y295 : (ju (ju (ju M268 659 v282 (340 + v2)) 660 v282 0) 598 90 (v282 + 1)) 598 74 = v294 := ((ju_i _ _ (by decide)).trans ((ju_c _ _ (by decide)).trans ((ju_c _ _ (by decide)).trans e294)))
                obtain ⟨v296, e296⟩ : ∃ z, M268 598 79 = z := ⟨_, rfl⟩
                have b296 : 0 ≤ v296 ∧ v296 ≤ 255 := by rw [← e296]; exact hI_M268 598 79 (by decide)
                have y297 : (ju (ju (ju M268 659 v282 (340 + v2)) 660 v282 0) 598 90 (v282 + 1)) 598 79 = v296 := ((ju_i _ _ (by decide)).trans ((ju_c _ _ (by decide)).trans ((ju_c _ _ (by decide)).trans e296)))
                obtain ⟨v298, e298⟩ : ∃ z, M 598 80 = z := ⟨_, rfl⟩
                have b298 : 0 ≤ v298 ∧ v298 ≤ 7 := by rw [← e298]; exact hI_M 598 80 (by decide)
                have e299 : M1 598 80 = v298 := ((w1_5 80 (by decide) (by decide) (by decide)).trans e298)
                have e300 : M268 598 80 = v298 := ((w268_6 80 (by decide) (by decide) (by decide) (by decide) (by decide) (by decide) (by decide)).trans ((ju_i _ _ (by decide)).trans ((ju_i _ _ (by decide)).trans e299)))
                have y301 : (ju (ju (ju M268 659 v282 (340 + v2)) 660 v282 0) 598 90 (v282 + 1)) 598 80 = v298 := ((ju_i _ _ (by decide)).trans ((ju_c _ _ (by decide)).trans ((ju_c _ _ (by decide)).trans e300)))
                have e302 : M268 598 89 = v274 := ((w268_6 89 (by decide) (by decide) (by decide) (by decide) (by decide) (by decide) (by decide)).trans ((ju_i _ _ (by decide)).trans ((ju_i _ _ (by decide)).trans e275)))
                have y303 : (ju (ju (ju M268 659 v282 (340 + v2)) 660 v282 0) 598 90 (v282 + 1)) 598 89 = v274 := ((ju_i _ _ (by decide)).trans ((ju_c _ _ (by decide)).trans ((ju_c _ _ (by decide)).trans e302)))
                have y304 : (ju (ju (ju M268 659 v282 (340 + v2)) 660 v282 0) 598 90 (v282 + 1)) 598 90 = v282 + 1 := (ju_same _ _ _ _)
                have y305 : (ju (ju (ju M268 659 v282 (340 + v2)) 660 v282 0) 598 90 (v282 + 1)) 598 100 = v267 - 1 := ((ju_i _ _ (by decide)).trans ((ju_c _ _ (by decide)).trans ((ju_c _ _ (by decide)).trans e284)))
                have y306 : (ju (ju (ju M268 659 v282 (340 + v2)) 660 v282 0) 598 90 (v282 + 1)) 598 107 = v286 := ((ju_i _ _ (by decide)).trans ((ju_c _ _ (by decide)).trans ((ju_c _ _ (by decide)).trans e288)))
                have y307 : TK (ju (ju (ju M268 659 v282 (340 + v2)) 660 v282 0) 598 90 (v282 + 1)) = TK M268 := ((TK.o (Or.inr ⟨by decide, by decide⟩)).trans ((TK.o (Or.inl (by decide))).trans ((TK.o (Or.inl (by decide))).trans rfl)))
                have y308 : (ju (ju (ju M268 659 v282 (340 + v2)) 660 v282 0) 598 90 (v282 + 1)) 598 80 = v298 := ((ju_i _ _ (by decide)).trans ((ju_c _ _ (by decide)).trans ((ju_c _ _ (by decide)).trans e300)))
                have y309 : TK (ju (ju (ju M268 659 v282 (340 + v2)) 660 v282 0) 598 90 (v282 + 1)) = TK M268 := ((TK.o (Or.inr ⟨by decide, by decide⟩)).trans ((TK.o (Or.inl (by decide))).trans ((TK.o (Or.inl (by decide))).trans rfl)))
                refine jr.pick (ls := [_, _, _]) [2, 3, 4] rfl rfl ?_
                have y310 : (ju (ju (ju M268 659 v282 (340 + v2)) 660 v282 0) 598 90 (v282 + 1)) 598 80 = v298 := ((ju_i _ _ (by decide)).trans ((ju_c _ _ (by decide)).trans ((ju_c _ _ (by decide)).trans e300)))
                have y311 : TK (ju (ju (ju M268 659 v282 (340 + v2)) 660 v282 0) 598 90 (v282 + 1)) = TK M268 := ((TK.o (Or.inr ⟨by decide, by decide⟩)).trans ((TK.o (Or.inl (by decide))).trans ((TK.o (Or.inl (by decide))).trans rfl)))
                exact ko (ju (ju (ju M268 659 v282 (340 + v2)) 660 v282 0) 598 90 (v282 + 1)) o m (RI.u (RI.u (RI.u hI_M268 (a := 659) (i := v282) (by rw [xri_row rfl rfl]; show (0 : Int) ≤ _ ∧ _ ≤ (1000 : Int); omega)) (a := 660) (i := v282) (by rw [xri_row rfl rfl]; show (-9223372036854775808 : Int) ≤ _ ∧ _ ≤ (9223372036854775807 : Int); omega)) (a := 598) (i := 90) (show (0 : Int) ≤ _ ∧ _ ≤ (2200 : Int) from by omega)) (RH.o (RH.o (RH.o hH_M268 (by decide) (by decide) (by decide)) (by decide) (by decide) (by decide)) (by decide) (by decide) (by decide)) (RF.o (RF.o (RF.o hS_M268 (by decide) (by decide)) (by decide) (by decide)) (by decide) (by decide))  (fun a i f598 f659 f660 f664 f665 f666 f667 => ((ju_c _ _ f598).trans ((ju_c _ _ f660).trans ((ju_c _ _ f659).trans ((w268_5 a i f598).trans ((ju_c _ _ f598).trans ((ju_c _ _ f598).trans ((w1_4 a i f598 f659 f660).trans (hF_M a i f598 f659 f660 f664 f665 f666 f667))))))))) (fun i g73 g74 g75 g76 g77 g78 g79 g80 g81 g89 g90 g100 g102 => ((ju_i _ _ g90).trans ((ju_c _ _ (by decide)).trans ((ju_c _ _ (by decide)).trans ((w268_6 i g73 g74 g75 g76 g77 g78 g79).trans ((ju_i _ _ g100).trans ((ju_i _ _ g102).trans ((w1_5 i g90 g100 g102).trans (hG_M i g73 g74 g75 g76 g77 g78 g79 g80 g81 g89 g90 g100 g102))))))))) (by omega) (by omega) (by by_cases hf : v298 = 0; (first | (exact Or.inr (GS.cast (o := kcO v2 + dlo (340 + v2)) ⟨by omega, ES.adj hE (k' := kk) (z' := 0) (by omega) (by omega) (by omega), by omega, by omega, by omega, by omega⟩ (by omega))) | (exfalso; omega)); (exact Or.inl ⟨by omega, by omega⟩)) (by omega) (by omega) (by rw [((ju_i _ _ (by decide)).trans ((ju_c _ _ (by decide)).trans ((ju_c _ _ (by decide)).trans e292))), ((ju_i _ _ (by decide)).trans ((ju_c _ _ (by decide)).trans ((ju_c _ _ (by decide)).trans e290)))] <;> omega) (by omega) (CP.emit (CP.f (CP.o (CP.o (CP.trans hCP w1_3) (by decide) (Or.inr (by decide))) (by decide) (Or.inr (by decide))) (fun i => w268_5 659 i (by decide)) (w268_6 90 (by decide) (by decide) (by decide) (by decide) (by decide) (by decide) (by decide))) e283) (by rw [((ju_i _ _ (by decide)).trans ((ju_c _ _ (by decide)).trans ((ju_c _ _ (by decide)).trans e302)))] <;> omega) (by omega)
            · refine jr.if_eq rfl rfl (by omega) (fun _ => ?_) (fun h => absurd (by decide) h)
              refine jr.aload_n rfl rfl ?_
              refine jr_v rfl rfl (Or.inl rfl) rfl rfl (by decide) rfl ⟨rfl, Nat.le_of_ble_eq_true rfl, Nat.le_of_ble_eq_true rfl⟩ rfl (jc.deep (r_wrongToken hI_M1 hH_M1 hS_M1    (fun M312 hI_M312 hH_M312 hS_M312  w312_0 w312_1 w312_2 => ?_)) (by decide))
              have tk312 : TK M312 = TK M1 := TK.fr (w312_2 73 (by decide) (by decide)) (w312_2 74 (by decide) (by decide))
              refine jr.goto rfl rfl ?_
              obtain ⟨v313, e313⟩ : ∃ z, M 598 72 = z := ⟨_, rfl⟩
              have b313 : 0 ≤ v313 ∧ v313 ≤ 1600 := by rw [← e313]; exact hI_M 598 72 (by decide)
              have e314 : M1 598 72 = v313 := ((w1_5 72 (by decide) (by decide) (by decide)).trans e313)
              have e315 : M312 598 72 = v313 := ((w312_2 72 (by decide) (by decide)).trans e314)
              have y316 : M312 598 72 = v313 := e315
              obtain ⟨v317, e317⟩ : ∃ z, M 598 73 = z := ⟨_, rfl⟩
              have b317 : 0 ≤ v317 ∧ v317 ≤ 1600 := by rw [← e317]; exact hI_M 598 73 (by decide)
              have e318 : M1 598 73 = v317 := ((w1_5 73 (by decide) (by decide) (by decide)).trans e317)
              have e319 : M312 598 73 = v317 := ((w312_2 73 (by decide) (by decide)).trans e318)
              have y320 : M312 598 73 = v317 := e319
              obtain ⟨v321, e321⟩ : ∃ z, M 598 74 = z := ⟨_, rfl⟩
              have b321 : 0 ≤ v321 ∧ v321 ≤ 4 := by rw [← e321]; exact hI_M 598 74 (by decide)
              have e322 : M1 598 74 = v321 := ((w1_5 74 (by decide) (by decide) (by decide)).trans e321)
              have e323 : M312 598 74 = v321 := ((w312_2 74 (by decide) (by decide)).trans e322)
              have y324 : M312 598 74 = v321 := e323
              obtain ⟨v325, e325⟩ : ∃ z, M 598 79 = z := ⟨_, rfl⟩
              have b325 : 0 ≤ v325 ∧ v325 ≤ 255 := by rw [← e325]; exact hI_M 598 79 (by decide)
              have e326 : M1 598 79 = v325 := ((w1_5 79 (by decide) (by decide) (by decide)).trans e325)
              have e327 : M312 598 79 = v325 := ((w312_2 79 (by decide) (by decide)).trans e326)
              have y328 : M312 598 79 = v325 := e327
              obtain ⟨v329, e329⟩ : ∃ z, M312 598 80 = z := ⟨_, rfl⟩
              have b329 : 0 ≤ v329 ∧ v329 ≤ 7 := by rw [← e329]; exact hI_M312 598 80 (by decide)
              have y330 : M312 598 80 = v329 := e329
              obtain ⟨v331, e331⟩ : ∃ z, M 598 89 = z := ⟨_, rfl⟩
              have b331 : 0 ≤ v331 ∧ v331 ≤ 301 := by rw [← e331]; exact hI_M 598 89 (by decide)
              have e332 : M1 598 89 = v331 := ((w1_5 89 (by decide) (by decide) (by decide)).trans e331)
              have e333 : M312 598 89 = v331 := ((w312_2 89 (by decide) (by decide)).trans e332)
              have y334 : M312 598 89 = v331 := e333
              obtain ⟨v335, e335⟩ : ∃ z, M1 598 90 = z := ⟨_, rfl⟩
              have b335 : 0 ≤ v335 ∧ v335 ≤ 2200 := by rw [← e335]; exact hI_M1 598 90 (by decide)
              have e336 : M312 598 90 = v335 := ((w312_2 90 (by decide) (by decide)).trans e335)
              have y337 : M312 598 90 = v335 := e336
              obtain ⟨v338, e338⟩ : ∃ z, M1 598 100 = z := ⟨_, rfl⟩
              have b338 : 0 ≤ v338 ∧ v338 ≤ 13 := by rw [← e338]; exact hI_M1 598 100 (by decide)
              have e339 : M312 598 100 = v338 := ((w312_2 100 (by decide) (by decide)).trans e338)
              have y340 : M312 598 100 = v338 := e339
              obtain ⟨v341, e341⟩ : ∃ z, M 598 107 = z := ⟨_, rfl⟩
              have b341 : 0 ≤ v341 ∧ v341 ≤ 16 := by rw [← e341]; exact hI_M 598 107 (by decide)
              have e342 : M1 598 107 = v341 := ((w1_5 107 (by decide) (by decide) (by decide)).trans e341)
              have e343 : M312 598 107 = v341 := ((w312_2 107 (by decide) (by decide)).trans e342)
              have y344 : M312 598 107 = v341 := e343
              have y345 : M312 598 80 = v329 := e329
              refine jr.pick (ls := [_, _, _]) [2, 3, 4] rfl rfl ?_
              have y346 : M312 598 80 = v329 := e329
              exact ko M312 o m hI_M312 hH_M312 hS_M312  (fun a i f598 f659 f660 f664 f665 f666 f667 => ((w312_1 a i f598).trans ((w1_4 a i f598 f659 f660).trans (hF_M a i f598 f659 f660 f664 f665 f666 f667)))) (fun i g73 g74 g75 g76 g77 g78 g79 g80 g81 g89 g90 g100 g102 => ((w312_2 i g80 g81).trans ((w1_5 i g90 g100 g102).trans (hG_M i g73 g74 g75 g76 g77 g78 g79 g80 g81 g89 g90 g100 g102)))) (by omega) (by omega) (by by_cases hf : v329 = 0; (first | (exfalso; omega) | (exact Or.inr (GS.cast (o := 0) ⟨by omega, ES.adj hE (k' := kk) (z' := 0) (by omega) (by omega) (by omega), by omega, by omega, by omega, by omega⟩ (by omega)))); (exact Or.inl ⟨by omega, by omega⟩)) (by omega) (by omega) (by rw [e319, e315] <;> omega) (by omega) (CP.f (CP.trans hCP w1_3) (fun i => w312_1 659 i (by decide)) (w312_2 90 (by decide) (by decide))) (by rw [e333] <;> omega) (by omega)
          · have tq := ES.top40 gs2 (by omega) (by rw [hsg]; omega)
            rw [hsg, e3] at tq
            have dp1 := ES.dpos gs2 (by omega)
            rw [hsg] at dp1
            have dp2 := dp1 (Or.inl tq.1)
            refine jr.if_eq rfl rfl (by omega) (fun _ => ?_) (fun h => absurd (by decide) h)
            refine jr.aload_n rfl rfl ?_
            refine jr.bipush rfl (by decide) ?_
            refine jr_v rfl rfl (Or.inl rfl) rfl rfl (by decide) rfl ⟨rfl, Nat.le_of_ble_eq_true rfl, Nat.le_of_ble_eq_true rfl⟩ rfl (jc.deep (c_isSign hI_M1 (by omega) (fun t160_0 t160_1 => ?_) (fun f160_0 => ?_)) (by decide))
            · refine jr.if_eq rfl rfl (by omega) (fun h => absurd h (by decide)) (fun _ => ?_)
              refine jr.iload rfl rfl ?_
              refine jr.if_eq rfl rfl (by omega) (fun h => absurd h (by decide)) (fun _ => ?_)
              refine jr.aload_n rfl rfl ?_
              refine jr.dup rfl rfl ?_
              refine jr.getf (i := 102) (x := sg) (v := .int (Int32.ofInt (sg))) rfl rfl (by decide) rfl (by decide) rfl rfl hsg rfl ?_
              refine jr.iconst rfl ?_
              refine jr.isub rfl ?_
              refine jr.putf (i := 102) (x := (sg - 1)) rfl rfl (by decide) rfl (by decide) rfl rfl rfl rfl rfl ?_
              refine jr.aload_n rfl rfl ?_
              refine jr.dup rfl rfl ?_
              obtain ⟨v347, e347⟩ : ∃ z, M1 598 100 = z := ⟨_, rfl⟩
              have b347 : 0 ≤ v347 ∧ v347 ≤ 13 := by rw [← e347]; exact hI_M1 598 100 (by decide)
              refine jr.getf (i := 100) (x := v347) (v := .int (Int32.ofInt (v347))) rfl rfl (by decide) rfl (by decide) rfl rfl ((ju_i _ _ (by decide)).trans e347) rfl ?_
              refine jr.iconst rfl ?_
              refine jr.isub rfl ?_
              refine jr.putf (i := 100) (x := (v347 - 1)) rfl rfl (by decide) rfl (by decide) rfl rfl rfl rfl rfl ?_
              refine jr.aload_n rfl rfl ?_
              obtain ⟨v349, e349⟩ : ∃ z, M 598 73 = z := ⟨_, rfl⟩
              have b349 : 0 ≤ v349 ∧ v349 ≤ 1600 := by rw [← e349]; exact hI_M 598 73 (by decide)
              have e350 : M1 598 73 = v349 := ((w1_5 73 (by decide) (by decide) (by decide)).trans e349)
              obtain ⟨v351, e351⟩ : ∃ z, M 598 72 = z := ⟨_, rfl⟩
              have b351 : 0 ≤ v351 ∧ v351 ≤ 1600 := by rw [← e351]; exact hI_M 598 72 (by decide)
              have e352 : M1 598 72 = v351 := ((w1_5 72 (by decide) (by decide) (by decide)).trans e351)
              obtain ⟨v354, e354⟩ : ∃ z, M 598 89 = z := ⟨_, rfl⟩
              have b354 : 0 ≤ v354 ∧ v354 ≤ 301 := by rw [← e354]; exact hI_M 598 89 (by decide)
              have e355 : M1 598 89 = v354 := ((w1_5 89 (by decide) (by decide) (by decide)).trans e354)
              obtain ⟨v359, e359⟩ : ∃ z, M 598 74 = z := ⟨_, rfl⟩
              have b359 : 0 ≤ v359 ∧ v359 ≤ 4 := by rw [← e359]; exact hI_M 598 74 (by decide)
              have e360 : M1 598 74 = v359 := ((w1_5 74 (by decide) (by decide) (by decide)).trans e359)
              refine jr_v rfl rfl (Or.inl rfl) rfl rfl (by decide) rfl ⟨rfl, Nat.le_of_ble_eq_true rfl, Nat.le_of_ble_eq_true rfl⟩ rfl (jc.deep (r_next (RI.u (RI.u hI_M1 (a := 598) (i := 102) (show (0 : Int) ≤ _ ∧ _ ≤ (400 : Int) from by omega)) (a := 598) (i := 100) (show (0 : Int) ≤ _ ∧ _ ≤ (13 : Int) from by omega)) (RH.o (RH.o hH_M1 (by decide) (by decide) (by decide)) (by decide) (by decide) (by decide)) (RF.o (RF.o hS_M1 (by decide) (by decide)) (by decide) (by decide))   (by rw [((ju_i _ _ (by decide)).trans ((ju_i _ _ (by decide)).trans e350)), ((ju_i _ _ (by decide)).trans ((ju_i _ _ (by decide)).trans e352))]; omega) (fun M348 hI_M348 hH_M348 hS_M348  w348_0 w348_1 w348_2 w348_3 w348_4 w348_5 w348_6 => ?_)) (by decide))
              have y358 : (ju (ju M1 598 102 (sg - 1)) 598 100 (v347 - 1)) 598 73 = v349 := ((ju_i _ _ (by decide)).trans ((ju_i _ _ (by decide)).trans e350))
              have y361 : (ju (ju M1 598 102 (sg - 1)) 598 100 (v347 - 1)) 598 74 = v359 := ((ju_i _ _ (by decide)).trans ((ju_i _ _ (by decide)).trans e360))
              have tb348 : TK (ju (ju M1 598 102 (sg - 1)) 598 100 (v347 - 1)) = TK M1 := ((TK.o (Or.inr ⟨by decide, by decide⟩)).trans ((TK.o (Or.inr ⟨by decide, by decide⟩)).trans rfl))
              have hE := ES.clo1 gs2 hsg e347 tq.1 e3 (by omega) (by omega)
              have ck : 0 ≤ kcK v2 := by unfold kcK; split <;> omega
              have y353 : (ju (ju M1 598 102 (sg - 1)) 598 100 (v347 - 1)) 598 73 = v349 := ((ju_i _ _ (by decide)).trans ((ju_i _ _ (by decide)).trans e350))
              have y356 : (ju (ju M1 598 102 (sg - 1)) 598 100 (v347 - 1)) 598 89 = v354 := ((ju_i _ _ (by decide)).trans ((ju_i _ _ (by decide)).trans e355))
              have y357 : (ju (ju M1 598 102 (sg - 1)) 598 100 (v347 - 1)) 598 100 = v347 - 1 := (ju_same _ _ _ _)
              have x348_89 := w348_6 89 (by decide) (by decide) (by decide) (by decide) (by decide) (by decide) (by decide)
              have x348_100 := w348_6 100 (by decide) (by decide) (by decide) (by decide) (by decide) (by decide) (by decide)
              have hE := ES.fr2 hE w348_5 (w348_6 88 (by decide) (by decide) (by decide) (by decide) (by decide) (by decide) (by decide)) (w348_6 90 (by decide) (by decide) (by decide) (by decide) (by decide) (by decide) (by decide)) (w348_6 101 (by decide) (by decide) (by decide) (by decide) (by decide) (by decide) (by decide)) (w348_6 102 (by decide) (by decide) (by decide) (by decide) (by decide) (by decide) (by decide)) (w348_6 107 (by decide) (by decide) (by decide) (by decide) (by decide) (by decide) (by decide)) (k' := kk + kcK v2) (d' := 0) (z' := 0) (by omega) (by omega) (by omega) (by omega)
              have co1 : v2 = -1 → kcO v2 = 1 := fun z => by unfold kcO; rw [if_pos z]
              refine jr.iload_n rfl rfl ?_
              refine jr.iconst rfl ?_
              refine jr.icmp_eq rfl rfl (by omega) (by omega) (fun h197 => ?_) (fun h197 => ?_)
              · exact absurd h197 (by omega)
              · refine jr.aload_n rfl rfl ?_
                refine jr.sipush rfl (by decide) ?_
                refine jr.iload_n rfl rfl ?_
                refine jr.iadd rfl ?_
                refine jr.lconst (x := 0) rfl (by decide) ?_
                obtain ⟨v362, e362⟩ : ∃ z, M1 598 90 = z := ⟨_, rfl⟩
                have b362 : 0 ≤ v362 ∧ v362 ≤ 2200 := by rw [← e362]; exact hI_M1 598 90 (by decide)
                have e363 : M348 598 90 = v362 := ((w348_6 90 (by decide) (by decide) (by decide) (by decide) (by decide) (by decide) (by decide)).trans ((ju_i _ _ (by decide)).trans ((ju_i _ _ (by decide)).trans e362)))
                have e364 : M348 598 100 = v347 - 1 := ((w348_6 100 (by decide) (by decide) (by decide) (by decide) (by decide) (by decide) (by decide)).trans (ju_same _ _ _ _))
                obtain ⟨v366, e366⟩ : ∃ z, M 598 107 = z := ⟨_, rfl⟩
                have b366 : 0 ≤ v366 ∧ v366 ≤ 16 := by rw [← e366]; exact hI_M 598 107 (by decide)
                have e367 : M1 598 107 = v366 := ((w1_5 107 (by decide) (by decide) (by decide)).trans e366)
                have e368 : M348 598 107 = v366 := ((w348_6 107 (by decide) (by decide) (by decide) (by decide) (by decide) (by decide) (by decide)).trans ((ju_i _ _ (by decide)).trans ((ju_i _ _ (by decide)).trans e367)))
                refine jr_v rfl rfl (Or.inl rfl) rfl rfl (by decide) rfl ⟨rfl, Nat.le_of_ble_eq_true rfl, Nat.le_of_ble_eq_true rfl⟩ rfl (jc.deep (r_emit e363 (by omega) (by omega) (by omega) ?_) (by decide))
                have y365 : M348 598 100 = v347 - 1 := e364
                have y369 : M348 598 107 = v366 := e368
                have al := argn_le v2
                have co : kcO v2 = argn v2 := by unfold kcO; rw [if_neg (by omega)]
                have ck2 : kcK v2 = 2 := by unfold kcK; rw [if_neg (by omega)]
                have nd : ndo (340 + v2) = argn v2 := (by rcases (show v2 = 25 ∨ v2 = 26 ∨ v2 = 27 ∨ v2 = 28 ∨ v2 = 29 ∨ v2 = 30 by omega) with r | r | r | r | r | r <;> rw [r] <;> decide)
                have dl : dlo (340 + v2) = 1 - argn v2 := (by rcases (show v2 = 25 ∨ v2 = 26 ∨ v2 = 27 ∨ v2 = 28 ∨ v2 = 29 ∨ v2 = 30 by omega) with r | r | r | r | r | r <;> rw [r] <;> decide)
                have hE := ES.emit hE e363 (340 + v2) 0 kk (by unfold vop; omega) (by omega) (by unfold exo; omega) (by unfold jpo; omega) (by omega) (by omega) (by omega) (by omega) (by omega) (by omega)
                refine jr.goto rfl rfl ?_
                refine jr.goto rfl rfl ?_
                have e370 : M348 598 72 = v351 := ((w348_6 72 (by decide) (by decide) (by decide) (by decide) (by decide) (by decide) (by decide)).trans ((ju_i _ _ (by decide)).trans ((ju_i _ _ (by decide)).trans e352)))
                have y371 : (ju (ju (ju M348 659 v362 (340 + v2)) 660 v362 0) 598 90 (v362 + 1)) 598 72 = v351 := ((ju_i _ _ (by decide)).trans ((ju_c _ _ (by decide)).trans ((ju_c _ _ (by decide)).trans e370)))
                obtain ⟨v372, e372⟩ : ∃ z, M348 598 73 = z := ⟨_, rfl⟩
                have b372 : 0 ≤ v372 ∧ v372 ≤ 1600 := by rw [← e372]; exact hI_M348 598 73 (by decide)
                have y373 : (ju (ju (ju M348 659 v362 (340 + v2)) 660 v362 0) 598 90 (v362 + 1)) 598 73 = v372 := ((ju_i _ _ (by decide)).trans ((ju_c _ _ (by decide)).trans ((ju_c _ _ (by decide)).trans e372)))
                obtain ⟨v374, e374⟩ : ∃ z, M348 598 74 = z := ⟨_, rfl⟩
                have b374 : 0 ≤ v374 ∧ v374 ≤ 4 := by rw [← e374]; exact hI_M348 598 74 (by decide)
                have y375 : (ju (ju (ju M348 659 v362 (340 + v2)) 660 v362 0) 598 90 (v362 + 1)) 598 74 = v374 := ((ju_i _ _ (by decide)).trans ((ju_c _ _ (by decide)).trans ((ju_c _ _ (by decide)).trans e374)))
                obtain ⟨v376, e376⟩ : ∃ z, M348 598 79 = z := ⟨_, rfl⟩
                have b376 : 0 ≤ v376 ∧ v376 ≤ 255 := by rw [← e376]; exact hI_M348 598 79 (by decide)
                have y377 : (ju (ju (ju M348 659 v362 (340 + v2)) 660 v362 0) 598 90 (v362 + 1)) 598 79 = v376 := ((ju_i _ _ (by decide)).trans ((ju_c _ _ (by decide)).trans ((ju_c _ _ (by decide)).trans e376)))
                obtain ⟨v378, e378⟩ : ∃ z, M 598 80 = z := ⟨_, rfl⟩
                have b378 : 0 ≤ v378 ∧ v378 ≤ 7 := by rw [← e378]; exact hI_M 598 80 (by decide)
                have e379 : M1 598 80 = v378 := ((w1_5 80 (by decide) (by decide) (by decide)).trans e378)
                have e380 : M348 598 80 = v378 := ((w348_6 80 (by decide) (by decide) (by decide) (by decide) (by decide) (by decide) (by decide)).trans ((ju_i _ _ (by decide)).trans ((ju_i _ _ (by decide)).trans e379)))
                have y381 : (ju (ju (ju M348 659 v362 (340 + v2)) 660 v362 0) 598 90 (v362 + 1)) 598 80 = v378 := ((ju_i _ _ (by decide)).trans ((ju_c _ _ (by decide)).trans ((ju_c _ _ (by decide)).trans e380)))
                have e382 : M348 598 89 = v354 := ((w348_6 89 (by decide) (by decide) (by decide) (by decide) (by decide) (by decide) (by decide)).trans ((ju_i _ _ (by decide)).trans ((ju_i _ _ (by decide)).trans e355)))
                have y383 : (ju (ju (ju M348 659 v362 (340 + v2)) 660 v362 0) 598 90 (v362 + 1)) 598 89 = v354 := ((ju_i _ _ (by decide)).trans ((ju_c _ _ (by decide)).trans ((ju_c _ _ (by decide)).trans e382)))
                have y384 : (ju (ju (ju M348 659 v362 (340 + v2)) 660 v362 0) 598 90 (v362 + 1)) 598 90 = v362 + 1 := (ju_same _ _ _ _)
                have y385 : (ju (ju (ju M348 659 v362 (340 + v2)) 660 v362 0) 598 90 (v362 + 1)) 598 100 = v347 - 1 := ((ju_i _ _ (by decide)).trans ((ju_c _ _ (by decide)).trans ((ju_c _ _ (by decide)).trans e364)))
                have y386 : (ju (ju (ju M348 659 v362 (340 + v2)) 660 v362 0) 598 90 (v362 + 1)) 598 107 = v366 := ((ju_i _ _ (by decide)).trans ((ju_c _ _ (by decide)).trans ((ju_c _ _ (by decide)).trans e368)))
                have y387 : TK (ju (ju (ju M348 659 v362 (340 + v2)) 660 v362 0) 598 90 (v362 + 1)) = TK M348 := ((TK.o (Or.inr ⟨by decide, by decide⟩)).trans ((TK.o (Or.inl (by decide))).trans ((TK.o (Or.inl (by decide))).trans rfl)))
                have y388 : (ju (ju (ju M348 659 v362 (340 + v2)) 660 v362 0) 598 90 (v362 + 1)) 598 80 = v378 := ((ju_i _ _ (by decide)).trans ((ju_c _ _ (by decide)).trans ((ju_c _ _ (by decide)).trans e380)))
                have y389 : TK (ju (ju (ju M348 659 v362 (340 + v2)) 660 v362 0) 598 90 (v362 + 1)) = TK M348 := ((TK.o (Or.inr ⟨by decide, by decide⟩)).trans ((TK.o (Or.inl (by decide))).trans ((TK.o (Or.inl (by decide))).trans rfl)))
                refine jr.pick (ls := [_, _, _]) [2, 3, 4] rfl rfl ?_
                have y390 : (ju (ju (ju M348 659 v362 (340 + v2)) 660 v362 0) 598 90 (v362 + 1)) 598 80 = v378 := ((ju_i _ _ (by decide)).trans ((ju_c _ _ (by decide)).trans ((ju_c _ _ (by decide)).trans e380)))
                have y391 : TK (ju (ju (ju M348 659 v362 (340 + v2)) 660 v362 0) 598 90 (v362 + 1)) = TK M348 := ((TK.o (Or.inr ⟨by decide, by decide⟩)).trans ((TK.o (Or.inl (by decide))).trans ((TK.o (Or.inl (by decide))).trans rfl)))
                exact ko (ju (ju (ju M348 659 v362 (340 + v2)) 660 v362 0) 598 90 (v362 + 1)) o m (RI.u (RI.u (RI.u hI_M348 (a := 659) (i := v362) (by rw [xri_row rfl rfl]; show (0 : Int) ≤ _ ∧ _ ≤ (1000 : Int); omega)) (a := 660) (i := v362) (by rw [xri_row rfl rfl]; show (-9223372036854775808 : Int) ≤ _ ∧ _ ≤ (9223372036854775807 : Int); omega)) (a := 598) (i := 90) (show (0 : Int) ≤ _ ∧ _ ≤ (2200 : Int) from by omega)) (RH.o (RH.o (RH.o hH_M348 (by decide) (by decide) (by decide)) (by decide) (by decide) (by decide)) (by decide) (by decide) (by decide)) (RF.o (RF.o (RF.o hS_M348 (by decide) (by decide)) (by decide) (by decide)) (by decide) (by decide))  (fun a i f598 f659 f660 f664 f665 f666 f667 => ((ju_c _ _ f598).trans ((ju_c _ _ f660).trans ((ju_c _ _ f659).trans ((w348_5 a i f598).trans ((ju_c _ _ f598).trans ((ju_c _ _ f598).trans ((w1_4 a i f598 f659 f660).trans (hF_M a i f598 f659 f660 f664 f665 f666 f667))))))))) (fun i g73 g74 g75 g76 g77 g78 g79 g80 g81 g89 g90 g100 g102 => ((ju_i _ _ g90).trans ((ju_c _ _ (by decide)).trans ((ju_c _ _ (by decide)).trans ((w348_6 i g73 g74 g75 g76 g77 g78 g79).trans ((ju_i _ _ g100).trans ((ju_i _ _ g102).trans ((w1_5 i g90 g100 g102).trans (hG_M i g73 g74 g75 g76 g77 g78 g79 g80 g81 g89 g90 g100 g102))))))))) (by omega) (by omega) (by by_cases hf : v378 = 0; (first | (exact Or.inr (GS.cast (o := kcO v2 + dlo (340 + v2)) ⟨by omega, ES.adj hE (k' := kk) (z' := 0) (by omega) (by omega) (by omega), by omega, by omega, by omega, by omega⟩ (by omega))) | (exfalso; omega)); (exact Or.inl ⟨by omega, by omega⟩)) (by omega) (by omega) (by rw [((ju_i _ _ (by decide)).trans ((ju_c _ _ (by decide)).trans ((ju_c _ _ (by decide)).trans e372))), ((ju_i _ _ (by decide)).trans ((ju_c _ _ (by decide)).trans ((ju_c _ _ (by decide)).trans e370)))] <;> omega) (by omega) (CP.emit (CP.f (CP.o (CP.o (CP.trans hCP w1_3) (by decide) (Or.inr (by decide))) (by decide) (Or.inr (by decide))) (fun i => w348_5 659 i (by decide)) (w348_6 90 (by decide) (by decide) (by decide) (by decide) (by decide) (by decide) (by decide))) e363) (by rw [((ju_i _ _ (by decide)).trans ((ju_c _ _ (by decide)).trans ((ju_c _ _ (by decide)).trans e382)))] <;> omega) (by omega)
            · refine jr.if_eq rfl rfl (by omega) (fun _ => ?_) (fun h => absurd (by decide) h)
              refine jr.aload_n rfl rfl ?_
              refine jr_v rfl rfl (Or.inl rfl) rfl rfl (by decide) rfl ⟨rfl, Nat.le_of_ble_eq_true rfl, Nat.le_of_ble_eq_true rfl⟩ rfl (jc.deep (r_wrongToken hI_M1 hH_M1 hS_M1    (fun M392 hI_M392 hH_M392 hS_M392  w392_0 w392_1 w392_2 => ?_)) (by decide))
              have tk392 : TK M392 = TK M1 := TK.fr (w392_2 73 (by decide) (by decide)) (w392_2 74 (by decide) (by decide))
              refine jr.goto rfl rfl ?_
              obtain ⟨v393, e393⟩ : ∃ z, M 598 72 = z := ⟨_, rfl⟩
              have b393 : 0 ≤ v393 ∧ v393 ≤ 1600 := by rw [← e393]; exact hI_M 598 72 (by decide)
              have e394 : M1 598 72 = v393 := ((w1_5 72 (by decide) (by decide) (by decide)).trans e393)
              have e395 : M392 598 72 = v393 := ((w392_2 72 (by decide) (by decide)).trans e394)
              have y396 : M392 598 72 = v393 := e395
              obtain ⟨v397, e397⟩ : ∃ z, M 598 73 = z := ⟨_, rfl⟩
              have b397 : 0 ≤ v397 ∧ v397 ≤ 1600 := by rw [← e397]; exact hI_M 598 73 (by decide)
              have e398 : M1 598 73 = v397 := ((w1_5 73 (by decide) (by decide) (by decide)).trans e397)
              have e399 : M392 598 73 = v397 := ((w392_2 73 (by decide) (by decide)).trans e398)
              have y400 : M392 598 73 = v397 := e399
              obtain ⟨v401, e401⟩ : ∃ z, M 598 74 = z := ⟨_, rfl⟩
              have b401 : 0 ≤ v401 ∧ v401 ≤ 4 := by rw [← e401]; exact hI_M 598 74 (by decide)
              have e402 : M1 598 74 = v401 := ((w1_5 74 (by decide) (by decide) (by decide)).trans e401)
              have e403 : M392 598 74 = v401 := ((w392_2 74 (by decide) (by decide)).trans e402)
              have y404 : M392 598 74 = v401 := e403
              obtain ⟨v405, e405⟩ : ∃ z, M 598 79 = z := ⟨_, rfl⟩
              have b405 : 0 ≤ v405 ∧ v405 ≤ 255 := by rw [← e405]; exact hI_M 598 79 (by decide)
              have e406 : M1 598 79 = v405 := ((w1_5 79 (by decide) (by decide) (by decide)).trans e405)
              have e407 : M392 598 79 = v405 := ((w392_2 79 (by decide) (by decide)).trans e406)
              have y408 : M392 598 79 = v405 := e407
              obtain ⟨v409, e409⟩ : ∃ z, M392 598 80 = z := ⟨_, rfl⟩
              have b409 : 0 ≤ v409 ∧ v409 ≤ 7 := by rw [← e409]; exact hI_M392 598 80 (by decide)
              have y410 : M392 598 80 = v409 := e409
              obtain ⟨v411, e411⟩ : ∃ z, M 598 89 = z := ⟨_, rfl⟩
              have b411 : 0 ≤ v411 ∧ v411 ≤ 301 := by rw [← e411]; exact hI_M 598 89 (by decide)
              have e412 : M1 598 89 = v411 := ((w1_5 89 (by decide) (by decide) (by decide)).trans e411)
              have e413 : M392 598 89 = v411 := ((w392_2 89 (by decide) (by decide)).trans e412)
              have y414 : M392 598 89 = v411 := e413
              obtain ⟨v415, e415⟩ : ∃ z, M1 598 90 = z := ⟨_, rfl⟩
              have b415 : 0 ≤ v415 ∧ v415 ≤ 2200 := by rw [← e415]; exact hI_M1 598 90 (by decide)
              have e416 : M392 598 90 = v415 := ((w392_2 90 (by decide) (by decide)).trans e415)
              have y417 : M392 598 90 = v415 := e416
              obtain ⟨v418, e418⟩ : ∃ z, M1 598 100 = z := ⟨_, rfl⟩
              have b418 : 0 ≤ v418 ∧ v418 ≤ 13 := by rw [← e418]; exact hI_M1 598 100 (by decide)
              have e419 : M392 598 100 = v418 := ((w392_2 100 (by decide) (by decide)).trans e418)
              have y420 : M392 598 100 = v418 := e419
              obtain ⟨v421, e421⟩ : ∃ z, M 598 107 = z := ⟨_, rfl⟩
              have b421 : 0 ≤ v421 ∧ v421 ≤ 16 := by rw [← e421]; exact hI_M 598 107 (by decide)
              have e422 : M1 598 107 = v421 := ((w1_5 107 (by decide) (by decide) (by decide)).trans e421)
              have e423 : M392 598 107 = v421 := ((w392_2 107 (by decide) (by decide)).trans e422)
              have y424 : M392 598 107 = v421 := e423
              have y425 : M392 598 80 = v409 := e409
              refine jr.pick (ls := [_, _, _]) [2, 3, 4] rfl rfl ?_
              have y426 : M392 598 80 = v409 := e409
              exact ko M392 o m hI_M392 hH_M392 hS_M392  (fun a i f598 f659 f660 f664 f665 f666 f667 => ((w392_1 a i f598).trans ((w1_4 a i f598 f659 f660).trans (hF_M a i f598 f659 f660 f664 f665 f666 f667)))) (fun i g73 g74 g75 g76 g77 g78 g79 g80 g81 g89 g90 g100 g102 => ((w392_2 i g80 g81).trans ((w1_5 i g90 g100 g102).trans (hG_M i g73 g74 g75 g76 g77 g78 g79 g80 g81 g89 g90 g100 g102)))) (by omega) (by omega) (by by_cases hf : v409 = 0; (first | (exfalso; omega) | (exact Or.inr (GS.cast (o := 0) ⟨by omega, ES.adj hE (k' := kk) (z' := 0) (by omega) (by omega) (by omega), by omega, by omega, by omega, by omega⟩ (by omega)))); (exact Or.inl ⟨by omega, by omega⟩)) (by omega) (by omega) (by rw [e399, e395] <;> omega) (by omega) (CP.f (CP.trans hCP w1_3) (fun i => w392_1 659 i (by decide)) (w392_2 90 (by decide) (by decide))) (by rw [e413] <;> omega) (by omega)
    · obtain ⟨v427, e427⟩ : ∃ z, M 598 89 = z := ⟨_, rfl⟩
      have b427 : 0 ≤ v427 ∧ v427 ≤ 301 := by rw [← e427]; exact hI_M 598 89 (by decide)
      have e428 : M1 598 89 = v427 := ((w1_5 89 (by decide) (by decide) (by decide)).trans e427)
      exact jr.vreturn rfl rfl (q _ hI_M1 hH_M1 hS_M1  (Or.inr ⟨⟨gs1, ES.xs gs2 (by omega) (by omega), gs3, gs4, gs5, gs6⟩, by omega⟩) (by omega) (by omega) (by omega) (CP.trans hCP w1_3) (by rw [e428] <;> omega) (fun a i f598 f659 f660 f664 f665 f666 f667 => ((w1_4 a i f598 f659 f660).trans (hF_M a i f598 f659 f660 f664 f665 f666 f667))) (fun i g73 g74 g75 g76 g77 g78 g79 g80 g81 g89 g90 g100 g102 => ((w1_5 i g90 g100 g102).trans (hG_M i g73 g74 g75 g76 g77 g78 g79 g80 g81 g89 g90 g100 g102))))
