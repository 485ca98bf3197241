theorem r_kindAndField_L55 {A : Nat → Option (Nat × (Nat → Int32))} {Q : Option Value → jm → Prop} {b kk : Int} {M0 : jm} (q : ∀ (M' : jm), RI M' → RH M' → RF M' → (BS M' ∨ (GS M' b 1 kk ∧ TK M' < TK M0)) → TK M' ≤ TK M0 → M' 598 73 ≤ M' 598 72 → (M' 598 80 ≠ 0 ∨ TK M' < TK M0) → CP M0 M' → M0 598 89 ≤ M' 598 89 → (∀ (a : Nat) (i : Int), a ≠ 598 → a ≠ 659 → a ≠ 660 → M' a i = M0 a i) → (∀ (i : Int), i ≠ 73 → i ≠ 74 → i ≠ 75 → i ≠ 76 → i ≠ 77 → i ≠ 78 → i ≠ 79 → i ≠ 80 → i ≠ 81 → i ≠ 89 → i ≠ 90 → M' 598 i = M0 598 i) → Q none M') : ∀ (nM : Nat) (M : jm) (i : Int) (f : Int) (k : Int), RI M → RH M → RF M → (∀ (a : Nat) (i : Int), a ≠ 598 → a ≠ 659 → a ≠ 660 → M a i = M0 a i) → (∀ (i : Int), i ≠ 73 → i ≠ 74 → i ≠ 75 → i ≠ 76 → i ≠ 77 → i ≠ 78 → i ≠ 79 → i ≠ 80 → i ≠ 81 → i ≠ 89 → i ≠ 90 → M 598 i = M0 598 i) → (-1) ≤ i ∧ i ≤ 10 → (-1) ≤ f ∧ f ≤ 10 → 0 ≤ k ∧ k ≤ 13 → ES M b 0 (kk + 4) 0 0 (-1) → M 598 80 = 0 → M 598 89 ≤ 300 → M 598 100 ≤ 12 → M 598 73 ≤ M 598 72 → TK M < TK M0 → M 598 90 ≤ 1750 → M 598 74 ≠ 0 → (M 598 74 = 3 → M 598 79 ≠ 10 ∧ M 598 79 ≠ 11) → (f = -1 ∨ (0 ≤ f ∧ M 650 (11 * k + f) ≠ -1)) → CP M0 M → 0 ≤ kk → M0 598 89 ≤ M 598 89 → i + 1 ≤ nM → jr A 3 xm_358 55 [(3, .int (Int32.ofInt (i))), (2, .int (Int32.ofInt (f))), (1, .int (Int32.ofInt (k))), (0, .ref (598))] [] M Q := by
  intro nM
  induction nM using Nat.strongRecOn with
  | ind nM ih =>
    intro M i f k hI_M hH_M hS_M hF_M hG_M h_i h_f h_k hy0 hy1 hy2 hy3 hy4 hy5 hy6 hy7 hy8 hy9 hy10 hy11 hy12 hm
    have hCP := hy10
    have hE := hy0
    have bb := ES.bb hy0
    have kb := ES.kz hy0
    have sl := ES.sgle hy0
    have b107 : (0 : Int) ≤ M 598 107 ∧ M 598 107 ≤ 16 := hI_M 598 107 (by decide)
    refine jr.iload_n rfl rfl ?_
    refine jr.if_lt rfl rfl (by omega) (fun h56 => ?_) (fun h56 => ?_)
    · refine jr.iload_n rfl rfl ?_
      refine jr.iconst rfl ?_
      refine jr.icmp_ne rfl rfl (by omega) (by omega) (fun h99 => ?_) (fun h99 => ?_)
      · have sx99 : (0 : Int) ≤ f := by omega
        clear h99
        refine jr.aload_n rfl rfl ?_
        refine jr.iconst rfl ?_
        refine jr.bipush rfl (by decide) ?_
        refine jr.iload_n rfl rfl ?_
        refine jr.imul rfl ?_
        refine jr.iload_n rfl rfl ?_
        refine jr.iadd rfl ?_
        refine jr.i2l rfl (by omega) ?_
        obtain ⟨v1, e1⟩ : ∃ z, M 598 90 = z := ⟨_, rfl⟩
        have b1 : 0 ≤ v1 ∧ v1 ≤ 2200 := by rw [← e1]; exact hI_M 598 90 (by decide)
        obtain ⟨v2, e2⟩ : ∃ z, M 598 100 = z := ⟨_, rfl⟩
        have b2 : 0 ≤ v2 ∧ v2 ≤ 13 := by rw [← e2]; exact hI_M 598 100 (by decide)
        obtain ⟨v4, e4⟩ : ∃ z, M 598 107 = z := ⟨_, rfl⟩
        have b4 : 0 ≤ v4 ∧ v4 ≤ 16 := by rw [← e4]; exact hI_M 598 107 (by decide)
        refine jr_v rfl rfl (Or.inl rfl) rfl rfl (by decide) rfl ⟨rfl, Nat.le_of_ble_eq_true rfl, Nat.le_of_ble_eq_true rfl⟩ rfl (jc.deep (r_emit e1 (by omega) (by omega) (by omega) ?_) (by decide))
        have y3 : M 598 100 = v2 := e2
        have y5 : M 598 107 = v4 := e4
        have hE := ES.emitO hE e1 5 ((16 * k) + f) (kk + 2) (Or.inr (Or.inl ⟨rfl, ES.fv hE (by omega) (by omega) (by omega)⟩)) (by omega) (by omega) (by omega)
        refine jr.aload_n rfl rfl ?_
        obtain ⟨v7, e7⟩ : ∃ z, M 598 73 = z := ⟨_, rfl⟩
        have b7 : 0 ≤ v7 ∧ v7 ≤ 1600 := by rw [← e7]; exact hI_M 598 73 (by decide)
        obtain ⟨v8, e8⟩ : ∃ z, M 598 72 = z := ⟨_, rfl⟩
        have b8 : 0 ≤ v8 ∧ v8 ≤ 1600 := by rw [← e8]; exact hI_M 598 72 (by decide)
        obtain ⟨v10, e10⟩ : ∃ z, M 598 89 = z := ⟨_, rfl⟩
        have b10 : 0 ≤ v10 ∧ v10 ≤ 301 := by rw [← e10]; exact hI_M 598 89 (by decide)
        obtain ⟨v14, e14⟩ : ∃ z, M 598 74 = z := ⟨_, rfl⟩
        have b14 : 0 ≤ v14 ∧ v14 ≤ 4 := by rw [← e14]; exact hI_M 598 74 (by decide)
        refine jr_v rfl rfl (Or.inl rfl) rfl rfl (by decide) rfl ⟨rfl, Nat.le_of_ble_eq_true rfl, Nat.le_of_ble_eq_true rfl⟩ rfl (jc.deep (r_next (RI.u (RI.u (RI.u hI_M (a := 659) (i := v1) (by rw [xri_row rfl rfl]; show (0 : Int) ≤ _ ∧ _ ≤ (1000 : Int); omega)) (a := 660) (i := v1) (by rw [xri_row rfl rfl]; show (-9223372036854775808 : Int) ≤ _ ∧ _ ≤ (9223372036854775807 : Int); omega)) (a := 598) (i := 90) (show (0 : Int) ≤ _ ∧ _ ≤ (2200 : Int) from by omega)) (RH.o (RH.o (RH.o hH_M (by decide) (by decide) (by decide)) (by decide) (by decide) (by decide)) (by decide) (by decide) (by decide)) (RF.o (RF.o (RF.o hS_M (by decide) (by decide)) (by decide) (by decide)) (by decide) (by decide))   (by rw [((ju_i _ _ (by decide)).trans ((ju_c _ _ (by decide)).trans ((ju_c _ _ (by decide)).trans e7))), ((ju_i _ _ (by decide)).trans ((ju_c _ _ (by decide)).trans ((ju_c _ _ (by decide)).trans e8)))]; omega) (fun M6 hI_M6 hH_M6 hS_M6  w6_0 w6_1 w6_2 w6_3 w6_4 w6_5 w6_6 => ?_)) (by decide))
        have y13 : (ju (ju (ju M 659 v1 5) 660 v1 ((16 * k) + f)) 598 90 (v1 + 1)) 598 73 = v7 := ((ju_i _ _ (by decide)).trans ((ju_c _ _ (by decide)).trans ((ju_c _ _ (by decide)).trans e7)))
        have y15 : (ju (ju (ju M 659 v1 5) 660 v1 ((16 * k) + f)) 598 90 (v1 + 1)) 598 74 = v14 := ((ju_i _ _ (by decide)).trans ((ju_c _ _ (by decide)).trans ((ju_c _ _ (by decide)).trans e14)))
        have tb6 : TK (ju (ju (ju M 659 v1 5) 660 v1 ((16 * k) + f)) 598 90 (v1 + 1)) = TK M := ((TK.o (Or.inr ⟨by decide, by decide⟩)).trans ((TK.o (Or.inl (by decide))).trans ((TK.o (Or.inl (by decide))).trans rfl)))
        have y9 : (ju (ju (ju M 659 v1 5) 660 v1 ((16 * k) + f)) 598 90 (v1 + 1)) 598 73 = v7 := ((ju_i _ _ (by decide)).trans ((ju_c _ _ (by decide)).trans ((ju_c _ _ (by decide)).trans e7)))
        have y11 : (ju (ju (ju M 659 v1 5) 660 v1 ((16 * k) + f)) 598 90 (v1 + 1)) 598 89 = v10 := ((ju_i _ _ (by decide)).trans ((ju_c _ _ (by decide)).trans ((ju_c _ _ (by decide)).trans e10)))
        have y12 : (ju (ju (ju M 659 v1 5) 660 v1 ((16 * k) + f)) 598 90 (v1 + 1)) 598 100 = v2 := ((ju_i _ _ (by decide)).trans ((ju_c _ _ (by decide)).trans ((ju_c _ _ (by decide)).trans e2)))
        have x6_89 := w6_6 89 (by decide) (by decide) (by decide) (by decide) (by decide) (by decide) (by decide)
        have x6_100 := w6_6 100 (by decide) (by decide) (by decide) (by decide) (by decide) (by decide) (by decide)
        have hE := ES.fr2 hE w6_5 (w6_6 88 (by decide) (by decide) (by decide) (by decide) (by decide) (by decide) (by decide)) (w6_6 90 (by decide) (by decide) (by decide) (by decide) (by decide) (by decide) (by decide)) (w6_6 101 (by decide) (by decide) (by decide) (by decide) (by decide) (by decide) (by decide)) (w6_6 102 (by decide) (by decide) (by decide) (by decide) (by decide) (by decide) (by decide)) (w6_6 107 (by decide) (by decide) (by decide) (by decide) (by decide) (by decide) (by decide)) (k' := kk + 2) (d' := 0) (z' := 0) (by omega) (by omega) (by omega) (by omega)
        have e16 : M6 598 72 = v8 := ((w6_6 72 (by decide) (by decide) (by decide) (by decide) (by decide) (by decide) (by decide)).trans ((ju_i _ _ (by decide)).trans ((ju_c _ _ (by decide)).trans ((ju_c _ _ (by decide)).trans e8))))
        have y17 : M6 598 72 = v8 := e16
        obtain ⟨v18, e18⟩ : ∃ z, M6 598 73 = z := ⟨_, rfl⟩
        have b18 : 0 ≤ v18 ∧ v18 ≤ 1600 := by rw [← e18]; exact hI_M6 598 73 (by decide)
        have y19 : M6 598 73 = v18 := e18
        obtain ⟨v20, e20⟩ : ∃ z, M6 598 74 = z := ⟨_, rfl⟩
        have b20 : 0 ≤ v20 ∧ v20 ≤ 4 := by rw [← e20]; exact hI_M6 598 74 (by decide)
        have y21 : M6 598 74 = v20 := e20
        obtain ⟨v22, e22⟩ : ∃ z, M6 598 79 = z := ⟨_, rfl⟩
        have b22 : 0 ≤ v22 ∧ v22 ≤ 255 := by rw [← e22]; exact hI_M6 598 79 (by decide)
        have y23 : M6 598 79 = v22 := e22
        obtain ⟨v24, e24⟩ : ∃ z, M 598 80 = z := ⟨_, rfl⟩
        have b24 : 0 ≤ v24 ∧ v24 ≤ 7 := by rw [← e24]; exact hI_M 598 80 (by decide)
        have e25 : M6 598 80 = v24 := ((w6_6 80 (by decide) (by decide) (by decide) (by decide) (by decide) (by decide) (by decide)).trans ((ju_i _ _ (by decide)).trans ((ju_c _ _ (by decide)).trans ((ju_c _ _ (by decide)).trans e24))))
        have y26 : M6 598 80 = v24 := e25
        have e27 : M6 598 89 = v10 := ((w6_6 89 (by decide) (by decide) (by decide) (by decide) (by decide) (by decide) (by decide)).trans ((ju_i _ _ (by decide)).trans ((ju_c _ _ (by decide)).trans ((ju_c _ _ (by decide)).trans e10))))
        have y28 : M6 598 89 = v10 := e27
        have e29 : M6 598 90 = v1 + 1 := ((w6_6 90 (by decide) (by decide) (by decide) (by decide) (by decide) (by decide) (by decide)).trans (ju_same _ _ _ _))
        have y30 : M6 598 90 = v1 + 1 := e29
        have e31 : M6 598 100 = v2 := ((w6_6 100 (by decide) (by decide) (by decide) (by decide) (by decide) (by decide) (by decide)).trans ((ju_i _ _ (by decide)).trans ((ju_c _ _ (by decide)).trans ((ju_c _ _ (by decide)).trans e2))))
        have y32 : M6 598 100 = v2 := e31
        have e33 : M6 598 107 = v4 := ((w6_6 107 (by decide) (by decide) (by decide) (by decide) (by decide) (by decide) (by decide)).trans ((ju_i _ _ (by decide)).trans ((ju_c _ _ (by decide)).trans ((ju_c _ _ (by decide)).trans e4))))
        have y34 : M6 598 107 = v4 := e33
        exact jr.vreturn rfl rfl (q _ hI_M6 hH_M6 hS_M6  (by by_cases hf : v24 = 0; (first | (exact Or.inr ⟨⟨by omega, ES.adj hE (k' := kk) (z' := 0) (by omega) (by omega) (by omega), by omega, by omega, by omega, by omega⟩, by omega⟩) | (exfalso; omega)); (exact Or.inl ⟨by omega, by omega⟩)) (by omega) (by omega) (by omega) (CP.f (CP.emit hCP e1) (fun i => w6_5 659 i (by decide)) (w6_6 90 (by decide) (by decide) (by decide) (by decide) (by decide) (by decide) (by decide))) (by omega) (fun a i f598 f659 f660 => ((w6_5 a i f598).trans ((ju_c _ _ f598).trans ((ju_c _ _ f660).trans ((ju_c _ _ f659).trans (hF_M a i f598 f659 f660)))))) (fun i g73 g74 g75 g76 g77 g78 g79 g80 g81 g89 g90 => ((w6_6 i g73 g74 g75 g76 g77 g78 g79).trans ((ju_i _ _ g90).trans ((ju_c _ _ (by decide)).trans ((ju_c _ _ (by decide)).trans (hG_M i g73 g74 g75 g76 g77 g78 g79 g80 g81 g89 g90)))))))
      · refine jr.aload_n rfl rfl ?_
        refine jr.iconst rfl ?_
        refine jr.aload_n rfl rfl ?_
        obtain ⟨v35, e35⟩ : ∃ z, M 598 75 = z := ⟨_, rfl⟩
        have b35 : 0 ≤ v35 ∧ v35 ≤ 1600 := by rw [← e35]; exact hI_M 598 75 (by decide)
        refine jr.getf (i := 75) (x := v35) (v := .int (Int32.ofInt (v35))) rfl rfl (by decide) rfl (by decide) rfl rfl e35 rfl ?_
        obtain ⟨v37, e37⟩ : ∃ z, M 598 73 = z := ⟨_, rfl⟩
        have b37 : 0 ≤ v37 ∧ v37 ≤ 1600 := by rw [← e37]; exact hI_M 598 73 (by decide)
        obtain ⟨v39, e39⟩ : ∃ z, M 598 89 = z := ⟨_, rfl⟩
        have b39 : 0 ≤ v39 ∧ v39 ≤ 301 := by rw [← e39]; exact hI_M 598 89 (by decide)
        obtain ⟨v41, e41⟩ : ∃ z, M 598 100 = z := ⟨_, rfl⟩
        have b41 : 0 ≤ v41 ∧ v41 ≤ 13 := by rw [← e41]; exact hI_M 598 100 (by decide)
        refine jr_v rfl rfl (Or.inl rfl) rfl rfl (by decide) rfl ⟨rfl, Nat.le_of_ble_eq_true rfl, Nat.le_of_ble_eq_true rfl⟩ rfl (jc.deep (r_fails hI_M hH_M hS_M  (by omega) (by omega)  (fun M36 hI_M36 hH_M36 hS_M36  w36_0 w36_1 w36_2 => ?_)) (by decide))
        have tk36 : TK M36 = TK M := TK.fr (w36_2 73 (by decide) (by decide)) (w36_2 74 (by decide) (by decide))
        have y38 : M 598 73 = v37 := e37
        have y40 : M 598 89 = v39 := e39
        have y42 : M 598 100 = v41 := e41
        have x36_73 := w36_2 73 (by decide) (by decide)
        have x36_89 := w36_2 89 (by decide) (by decide)
        have x36_100 := w36_2 100 (by decide) (by decide)
        have hE := ES.fr2 hE w36_1 (w36_2 88 (by decide) (by decide)) (w36_2 90 (by decide) (by decide)) (w36_2 101 (by decide) (by decide)) (w36_2 102 (by decide) (by decide)) (w36_2 107 (by decide) (by decide)) (k' := kk + 4) (d' := 0) (z' := 0) (by omega) (by omega) (by omega) (by omega)
        obtain ⟨v43, e43⟩ : ∃ z, M 598 72 = z := ⟨_, rfl⟩
        have b43 : 0 ≤ v43 ∧ v43 ≤ 1600 := by rw [← e43]; exact hI_M 598 72 (by decide)
        have e44 : M36 598 72 = v43 := ((w36_2 72 (by decide) (by decide)).trans e43)
        have y45 : M36 598 72 = v43 := e44
        have e46 : M36 598 73 = v37 := ((w36_2 73 (by decide) (by decide)).trans e37)
        have y47 : M36 598 73 = v37 := e46
        obtain ⟨v48, e48⟩ : ∃ z, M 598 74 = z := ⟨_, rfl⟩
        have b48 : 0 ≤ v48 ∧ v48 ≤ 4 := by rw [← e48]; exact hI_M 598 74 (by decide)
        have e49 : M36 598 74 = v48 := ((w36_2 74 (by decide) (by decide)).trans e48)
        have y50 : M36 598 74 = v48 := e49
        obtain ⟨v51, e51⟩ : ∃ z, M 598 79 = z := ⟨_, rfl⟩
        have b51 : 0 ≤ v51 ∧ v51 ≤ 255 := by rw [← e51]; exact hI_M 598 79 (by decide)
        have e52 : M36 598 79 = v51 := ((w36_2 79 (by decide) (by decide)).trans e51)
        have y53 : M36 598 79 = v51 := e52
        obtain ⟨v54, e54⟩ : ∃ z, M36 598 80 = z := ⟨_, rfl⟩
        have b54 : 0 ≤ v54 ∧ v54 ≤ 7 := by rw [← e54]; exact hI_M36 598 80 (by decide)
        have y55 : M36 598 80 = v54 := e54
        have e56 : M36 598 89 = v39 := ((w36_2 89 (by decide) (by decide)).trans e39)
        have y57 : M36 598 89 = v39 := e56
        obtain ⟨v58, e58⟩ : ∃ z, M 598 90 = z := ⟨_, rfl⟩
        have b58 : 0 ≤ v58 ∧ v58 ≤ 2200 := by rw [← e58]; exact hI_M 598 90 (by decide)
        have e59 : M36 598 90 = v58 := ((w36_2 90 (by decide) (by decide)).trans e58)
        have y60 : M36 598 90 = v58 := e59
        have e61 : M36 598 100 = v41 := ((w36_2 100 (by decide) (by decide)).trans e41)
        have y62 : M36 598 100 = v41 := e61
        obtain ⟨v63, e63⟩ : ∃ z, M 598 107 = z := ⟨_, rfl⟩
        have b63 : 0 ≤ v63 ∧ v63 ≤ 16 := by rw [← e63]; exact hI_M 598 107 (by decide)
        have e64 : M36 598 107 = v63 := ((w36_2 107 (by decide) (by decide)).trans e63)
        have y65 : M36 598 107 = v63 := e64
        exact jr.vreturn rfl rfl (q _ hI_M36 hH_M36 hS_M36  (by by_cases hf : v54 = 0; (first | (exfalso; omega) | (exact Or.inr ⟨⟨by omega, ES.adj hE (k' := kk) (z' := 0) (by omega) (by omega) (by omega), by omega, by omega, by omega, by omega⟩, by omega⟩)); (exact Or.inl ⟨by omega, by omega⟩)) (by omega) (by omega) (by omega) (CP.f hCP (fun i => w36_1 659 i (by decide)) (w36_2 90 (by decide) (by decide))) (by omega) (fun a i f598 f659 f660 => ((w36_1 a i f598).trans (hF_M a i f598 f659 f660))) (fun i g73 g74 g75 g76 g77 g78 g79 g80 g81 g89 g90 => ((w36_2 i g80 g81).trans (hG_M i g73 g74 g75 g76 g77 g78 g79 g80 g81 g89 g90))))
    · refine jr.aload_n rfl rfl ?_
      obtain ⟨v66, e66⟩ : ∃ z, M 598 76 = z := ⟨_, rfl⟩
      have b66 : (-1) ≤ v66 ∧ v66 ≤ 68 := by rw [← e66]; exact hI_M 598 76 (by decide)
      refine jr.getf (i := 76) (x := v66) (v := .int (Int32.ofInt (v66))) rfl rfl (by decide) rfl (by decide) rfl rfl e66 rfl ?_
      refine jr.iconst rfl ?_
      refine jr.icmp_eq rfl rfl (by omega) (by omega) (fun h64 => ?_) (fun h64 => ?_)
      · refine jr.iload_n rfl rfl ?_
        refine jr.istore_n (ls' := [_, _, _, _]) rfl (by decide) rfl ?_
        refine jr.iinc (ls' := [_, _, _, _]) rfl rfl (by decide) rfl ?_
        refine jr.goto rfl rfl ?_
        obtain ⟨v67, e67⟩ : ∃ z, M 598 80 = z := ⟨_, rfl⟩
        have b67 : 0 ≤ v67 ∧ v67 ≤ 7 := by rw [← e67]; exact hI_M 598 80 (by decide)
        obtain ⟨v68, e68⟩ : ∃ z, M 598 89 = z := ⟨_, rfl⟩
        have b68 : 0 ≤ v68 ∧ v68 ≤ 301 := by rw [← e68]; exact hI_M 598 89 (by decide)
        obtain ⟨v69, e69⟩ : ∃ z, M 598 100 = z := ⟨_, rfl⟩
        have b69 : 0 ≤ v69 ∧ v69 ≤ 13 := by rw [← e69]; exact hI_M 598 100 (by decide)
        obtain ⟨v70, e70⟩ : ∃ z, M 598 73 = z := ⟨_, rfl⟩
        have b70 : 0 ≤ v70 ∧ v70 ≤ 1600 := by rw [← e70]; exact hI_M 598 73 (by decide)
        obtain ⟨v71, e71⟩ : ∃ z, M 598 72 = z := ⟨_, rfl⟩
        have b71 : 0 ≤ v71 ∧ v71 ≤ 1600 := by rw [← e71]; exact hI_M 598 72 (by decide)
        obtain ⟨v72, e72⟩ : ∃ z, M 598 90 = z := ⟨_, rfl⟩
        have b72 : 0 ≤ v72 ∧ v72 ≤ 2200 := by rw [← e72]; exact hI_M 598 90 (by decide)
        obtain ⟨v73, e73⟩ : ∃ z, M 598 74 = z := ⟨_, rfl⟩
        have b73 : 0 ≤ v73 ∧ v73 ≤ 4 := by rw [← e73]; exact hI_M 598 74 (by decide)
        obtain ⟨v74, e74⟩ : ∃ z, M 598 79 = z := ⟨_, rfl⟩
        have b74 : 0 ≤ v74 ∧ v74 ≤ 255 := by rw [← e74]; exact hI_M 598 79 (by decide)
        refine jr.pick (ls := [_, _, _, _]) [0, 1, 2, 3] rfl rfl ?_
        exact ih (nM - 1) (by omega) M (i + (-1)) f k hI_M hH_M hS_M  (fun a i f598 f659 f660 => (hF_M a i f598 f659 f660)) (fun i g73 g74 g75 g76 g77 g78 g79 g80 g81 g89 g90 => (hG_M i g73 g74 g75 g76 g77 g78 g79 g80 g81 g89 g90)) (by omega) (by omega) (by omega) hE (by rw [e67] <;> omega) (by rw [e68] <;> omega) (by rw [e69] <;> omega) (by rw [e70, e71] <;> omega) (by omega) (by rw [e72] <;> omega) (by rw [e73] <;> omega) (by rw [e73, e74] <;> omega) (by omega) hCP (by omega) (by rw [e68] <;> omega) (by omega)
      · have sx64 : (0 : Int) ≤ v66 := by omega
        clear h64
        refine jr.aload_n rfl rfl ?_
        refine jr.getf (i := 70) (v := .ref 650) rfl rfl (by decide) rfl (by decide) rfl rfl rfl rfl ?_
        refine jr.bipush rfl (by decide) ?_
        refine jr.iload_n rfl rfl ?_
        refine jr.imul rfl ?_
        refine jr.iload_n rfl rfl ?_
        refine jr.iadd rfl ?_
        obtain ⟨v75, e75⟩ : ∃ z, M 650 ((11 * k) + i) = z := ⟨_, rfl⟩
        have b75 : (-1) ≤ v75 ∧ v75 ≤ 68 := by rw [← e75]; exact (by have q := hI_M 650 ((11 * k) + i) (by decide); rw [xri_row rfl rfl] at q; exact q)
        refine jr.iald (i := ((11 * k) + i)) (x := v75) rfl (by decide) rfl (by decide) (by omega) (by omega) e75 ?_
        refine jr.aload_n rfl rfl ?_
        refine jr.getf (i := 76) (x := v66) (v := .int (Int32.ofInt (v66))) rfl rfl (by decide) rfl (by decide) rfl rfl e66 rfl ?_
        refine jr.icmp_ne rfl rfl (by omega) (by omega) (fun h82 => ?_) (fun h82 => ?_)
        · refine jr.iload_n rfl rfl ?_
          refine jr.istore_n (ls' := [_, _, _, _]) rfl (by decide) rfl ?_
          refine jr.iinc (ls' := [_, _, _, _]) rfl rfl (by decide) rfl ?_
          refine jr.goto rfl rfl ?_
          obtain ⟨v76, e76⟩ : ∃ z, M 598 80 = z := ⟨_, rfl⟩
          have b76 : 0 ≤ v76 ∧ v76 ≤ 7 := by rw [← e76]; exact hI_M 598 80 (by decide)
          obtain ⟨v77, e77⟩ : ∃ z, M 598 89 = z := ⟨_, rfl⟩
          have b77 : 0 ≤ v77 ∧ v77 ≤ 301 := by rw [← e77]; exact hI_M 598 89 (by decide)
          obtain ⟨v78, e78⟩ : ∃ z, M 598 100 = z := ⟨_, rfl⟩
          have b78 : 0 ≤ v78 ∧ v78 ≤ 13 := by rw [← e78]; exact hI_M 598 100 (by decide)
          obtain ⟨v79, e79⟩ : ∃ z, M 598 73 = z := ⟨_, rfl⟩
          have b79 : 0 ≤ v79 ∧ v79 ≤ 1600 := by rw [← e79]; exact hI_M 598 73 (by decide)
          obtain ⟨v80, e80⟩ : ∃ z, M 598 72 = z := ⟨_, rfl⟩
          have b80 : 0 ≤ v80 ∧ v80 ≤ 1600 := by rw [← e80]; exact hI_M 598 72 (by decide)
          obtain ⟨v81, e81⟩ : ∃ z, M 598 90 = z := ⟨_, rfl⟩
          have b81 : 0 ≤ v81 ∧ v81 ≤ 2200 := by rw [← e81]; exact hI_M 598 90 (by decide)
          obtain ⟨v82, e82⟩ : ∃ z, M 598 74 = z := ⟨_, rfl⟩
          have b82 : 0 ≤ v82 ∧ v82 ≤ 4 := by rw [← e82]; exact hI_M 598 74 (by decide)
          obtain ⟨v83, e83⟩ : ∃ z, M 598 79 = z := ⟨_, rfl⟩
          have b83 : 0 ≤ v83 ∧ v83 ≤ 255 := by rw [← e83]; exact hI_M 598 79 (by decide)
          refine jr.pick (ls := [_, _, _, _]) [0, 1, 2, 3] rfl rfl ?_
          exact ih (nM - 1) (by omega) M (i + (-1)) f k hI_M hH_M hS_M  (fun a i f598 f659 f660 => (hF_M a i f598 f659 f660)) (fun i g73 g74 g75 g76 g77 g78 g79 g80 g81 g89 g90 => (hG_M i g73 g74 g75 g76 g77 g78 g79 g80 g81 g89 g90)) (by omega) (by omega) (by omega) hE (by rw [e76] <;> omega) (by rw [e77] <;> omega) (by rw [e78] <;> omega) (by rw [e79, e80] <;> omega) (by omega) (by rw [e81] <;> omega) (by rw [e82] <;> omega) (by rw [e82, e83] <;> omega) (by omega) hCP (by omega) (by rw [e77] <;> omega) (by omega)
        · refine jr.iload_n rfl rfl ?_
          refine jr.goto rfl rfl ?_
          refine jr.istore_n (ls' := [_, _, _, _]) rfl (by decide) rfl ?_
          refine jr.iinc (ls' := [_, _, _, _]) rfl rfl (by decide) rfl ?_
          refine jr.goto rfl rfl ?_
          obtain ⟨v84, e84⟩ : ∃ z, M 598 80 = z := ⟨_, rfl⟩
          have b84 : 0 ≤ v84 ∧ v84 ≤ 7 := by rw [← e84]; exact hI_M 598 80 (by decide)
          obtain ⟨v85, e85⟩ : ∃ z, M 598 89 = z := ⟨_, rfl⟩
          have b85 : 0 ≤ v85 ∧ v85 ≤ 301 := by rw [← e85]; exact hI_M 598 89 (by decide)
          obtain ⟨v86, e86⟩ : ∃ z, M 598 100 = z := ⟨_, rfl⟩
          have b86 : 0 ≤ v86 ∧ v86 ≤ 13 := by rw [← e86]; exact hI_M 598 100 (by decide)
          obtain ⟨v87, e87⟩ : ∃ z, M 598 73 = z := ⟨_, rfl⟩
          have b87 : 0 ≤ v87 ∧ v87 ≤ 1600 := by rw [← e87]; exact hI_M 598 73 (by decide)
          obtain ⟨v88, e88⟩ : ∃ z, M 598 72 = z := ⟨_, rfl⟩
          have b88 : 0 ≤ v88 ∧ v88 ≤ 1600 := by rw [← e88]; exact hI_M 598 72 (by decide)
          obtain ⟨v89, e89⟩ : ∃ z, M 598 90 = z := ⟨_, rfl⟩
          have b89 : 0 ≤ v89 ∧ v89 ≤ 2200 := by rw [← e89]; exact hI_M 598 90 (by decide)
          obtain ⟨v90, e90⟩ : ∃ z, M 598 74 = z := ⟨_, rfl⟩
          have b90 : 0 ≤ v90 ∧ v90 ≤ 4 := by rw [← e90]; exact hI_M 598 74 (by decide)
          obtain ⟨v91, e91⟩ : ∃ z, M 598 79 = z := ⟨_, rfl⟩
          have b91 : 0 ≤ v91 ∧ v91 ≤ 255 := by rw [← e91]; exact hI_M 598 79 (by decide)
          refine jr.pick (ls := [_, _, _, _]) [0, 1, 2, 3] rfl rfl ?_
          exact ih (nM - 1) (by omega) M (i + (-1)) i k hI_M hH_M hS_M  (fun a i f598 f659 f660 => (hF_M a i f598 f659 f660)) (fun i g73 g74 g75 g76 g77 g78 g79 g80 g81 g89 g90 => (hG_M i g73 g74 g75 g76 g77 g78 g79 g80 g81 g89 g90)) (by omega) (by omega) (by omega) hE (by rw [e84] <;> omega) (by rw [e85] <;> omega) (by rw [e86] <;> omega) (by rw [e87, e88] <;> omega) (by omega) (by rw [e89] <;> omega) (by rw [e90] <;> omega) (by rw [e90, e91] <;> omega) (by omega) hCP (by omega) (by rw [e85] <;> omega) (by omega)
