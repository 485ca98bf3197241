theorem r_beginBlock {A : Nat → Option (Nat × (Nat → Int32))} {Q : Option Value → jm → Prop} {M : jm} (hI_M : RI M) (hH_M : RH M) (hS_M : RF M) {kd : Int} (h_kd : 0 ≤ kd ∧ kd ≤ 3) {p : Int} (h_p : 0 ≤ p ∧ p ≤ 2200) (p0 : M 598 73 ≤ M 598 72) (p1 : (M 598 80 = 0 → M 598 100 ≤ 12)) (p2 : M 598 107 ≤ 15) (q : ∀ (M' : jm), RI M' → RH M' → RF M' → (M' 598 80 = 0 → M 598 74 = 3) → M' 598 73 ≤ M' 598 72 → M 598 73 ≤ M' 598 73 → TK M' ≤ TK M → (M 598 80 ≠ 0 → M' 598 80 ≠ 0) → (M' 598 80 = 0 → TK M' < TK M) → (M' 598 80 = 0 → M' 598 100 ≤ 12) → M' 598 107 = M 598 107 + 1 → ((M 598 74 = 3 → M 598 79 ≠ 10 ∧ M 598 79 ≠ 11) → (M' 598 74 = 3 → M' 598 79 ≠ 10 ∧ M' 598 79 ≠ 11)) → (∀ b k k' z x : Int, XS M b k 0 z x → M' 598 80 = 0 → (M 598 107 = 0 → kd = M 598 101 ∧ 0 ≤ kd ∧ kd ≤ 1 ∧ x = -1) → (1 ≤ M 598 107 → 2 ≤ kd ∧ kd ≤ 3 ∧ 0 ≤ p ∧ p < M 598 90 ∧ M 659 p = kd - 1 ∧ x = p) → k' + RVq (M 598 107 + 1) (M 598 101) ≤ k + RVq (M 598 107) (M 598 101) → 0 ≤ k' → XS M' b k' 0 z (-1)) → (∀ (a : Nat) (i : Int), a ≠ 598 → a ≠ 668 → a ≠ 669 → M' a i = M a i) → (∀ (i : Int), i ≠ 73 → i ≠ 74 → i ≠ 75 → i ≠ 76 → i ≠ 77 → i ≠ 78 → i ≠ 79 → i ≠ 80 → i ≠ 81 → i ≠ 100 → i ≠ 107 → M' 598 i = M 598 i) → Q none M') : jc A 5 365 [.ref (598), .int (Int32.ofInt (kd)), .int (Int32.ofInt (p))] M Q := by
  refine jc_of (m := xm_365) rfl (Nat.le_of_ble_eq_true rfl) rfl ?_
  refine jr.aload_n rfl rfl ?_
  refine jr.bipush rfl (by decide) ?_
  obtain ⟨v2, e2⟩ : ∃ z, M 598 73 = z := ⟨_, rfl⟩
  have b2 : 0 ≤ v2 ∧ v2 ≤ 1600 := by rw [← e2]; exact hI_M 598 73 (by decide)
  obtain ⟨v3, e3⟩ : ∃ z, M 598 72 = z := ⟨_, rfl⟩
  have b3 : 0 ≤ v3 ∧ v3 ≤ 1600 := by rw [← e3]; exact hI_M 598 72 (by decide)
  obtain ⟨v4, e4⟩ : ∃ z, M 598 80 = z := ⟨_, rfl⟩
  have b4 : 0 ≤ v4 ∧ v4 ≤ 7 := by rw [← e4]; exact hI_M 598 80 (by decide)
  obtain ⟨v5, e5⟩ : ∃ z, M 598 100 = z := ⟨_, rfl⟩
  have b5 : 0 ≤ v5 ∧ v5 ≤ 13 := by rw [← e5]; exact hI_M 598 100 (by decide)
  refine jr_v rfl rfl (Or.inl rfl) rfl rfl (by decide) rfl ⟨rfl, Nat.le_of_ble_eq_true rfl, Nat.le_of_ble_eq_true rfl⟩ rfl (jc.deep (r_wantDeeper hI_M hH_M hS_M  (by omega) (by rw [e2, e3]; omega) (by rw [e4, e5]; intro q; omega) (fun M1 hI_M1 hH_M1 hS_M1  w1_0 w1_1 w1_2 w1_3 w1_4 w1_5 w1_6 w1_7 w1_8 w1_9 w1_10 => ?_)) (by decide))
  refine jr.aload_n rfl rfl ?_
  refine jr.getf (i := 108) (v := .ref 668) rfl rfl (by decide) rfl (by decide) rfl rfl rfl rfl ?_
  refine jr.aload_n rfl rfl ?_
  obtain ⟨v6, e6⟩ : ∃ z, M 598 107 = z := ⟨_, rfl⟩
  have b6 : 0 ≤ v6 ∧ v6 ≤ 16 := by rw [← e6]; exact hI_M 598 107 (by decide)
  have e7 : M1 598 107 = v6 := ((w1_10 107 (by decide) (by decide) (by decide) (by decide) (by decide) (by decide) (by decide) (by decide) (by decide) (by decide)).trans e6)
  refine jr.getf (i := 107) (x := v6) (v := .int (Int32.ofInt (v6))) rfl rfl (by decide) rfl (by decide) rfl rfl e7 rfl ?_
  refine jr.iload_n rfl rfl ?_
  refine jr.iast (i := v6) (x := kd) rfl (by decide) rfl (by decide) (by omega) (by omega) ?_
  refine jr.aload_n rfl rfl ?_
  refine jr.getf (i := 109) (v := .ref 669) rfl rfl (by decide) rfl (by decide) rfl rfl rfl rfl ?_
  refine jr.aload_n rfl rfl ?_
  refine jr.getf (i := 107) (x := v6) (v := .int (Int32.ofInt (v6))) rfl rfl (by decide) rfl (by decide) rfl rfl ((ju_c _ _ (by decide)).trans e7) rfl ?_
  refine jr.iload_n rfl rfl ?_
  refine jr.iast (i := v6) (x := p) rfl (by decide) rfl (by decide) (by omega) (by omega) ?_
  refine jr.aload_n rfl rfl ?_
  refine jr.dup rfl rfl ?_
  refine jr.getf (i := 107) (x := v6) (v := .int (Int32.ofInt (v6))) rfl rfl (by decide) rfl (by decide) rfl rfl ((ju_c _ _ (by decide)).trans ((ju_c _ _ (by decide)).trans e7)) rfl ?_
  refine jr.iconst rfl ?_
  refine jr.iadd rfl ?_
  refine jr.putf (i := 107) (x := (v6 + 1)) rfl rfl (by decide) rfl (by decide) rfl rfl rfl rfl rfl ?_
  have e8 : M1 598 72 = v3 := ((w1_10 72 (by decide) (by decide) (by decide) (by decide) (by decide) (by decide) (by decide) (by decide) (by decide) (by decide)).trans e3)
  have y9 : (ju (ju (ju M1 668 v6 kd) 669 v6 p) 598 107 (v6 + 1)) 598 72 = v3 := ((ju_i _ _ (by decide)).trans ((ju_c _ _ (by decide)).trans ((ju_c _ _ (by decide)).trans e8)))
  obtain ⟨v10, e10⟩ : ∃ z, M1 598 73 = z := ⟨_, rfl⟩
  have b10 : 0 ≤ v10 ∧ v10 ≤ 1600 := by rw [← e10]; exact hI_M1 598 73 (by decide)
  have y11 : (ju (ju (ju M1 668 v6 kd) 669 v6 p) 598 107 (v6 + 1)) 598 73 = v10 := ((ju_i _ _ (by decide)).trans ((ju_c _ _ (by decide)).trans ((ju_c _ _ (by decide)).trans e10)))
  obtain ⟨v12, e12⟩ : ∃ z, M1 598 74 = z := ⟨_, rfl⟩
  have b12 : 0 ≤ v12 ∧ v12 ≤ 4 := by rw [← e12]; exact hI_M1 598 74 (by decide)
  have y13 : (ju (ju (ju M1 668 v6 kd) 669 v6 p) 598 107 (v6 + 1)) 598 74 = v12 := ((ju_i _ _ (by decide)).trans ((ju_c _ _ (by decide)).trans ((ju_c _ _ (by decide)).trans e12)))
  obtain ⟨v14, e14⟩ : ∃ z, M1 598 79 = z := ⟨_, rfl⟩
  have b14 : 0 ≤ v14 ∧ v14 ≤ 255 := by rw [← e14]; exact hI_M1 598 79 (by decide)
  have y15 : (ju (ju (ju M1 668 v6 kd) 669 v6 p) 598 107 (v6 + 1)) 598 79 = v14 := ((ju_i _ _ (by decide)).trans ((ju_c _ _ (by decide)).trans ((ju_c _ _ (by decide)).trans e14)))
  obtain ⟨v16, e16⟩ : ∃ z, M1 598 80 = z := ⟨_, rfl⟩
  have b16 : 0 ≤ v16 ∧ v16 ≤ 7 := by rw [← e16]; exact hI_M1 598 80 (by decide)
  have y17 : (ju (ju (ju M1 668 v6 kd) 669 v6 p) 598 107 (v6 + 1)) 598 80 = v16 := ((ju_i _ _ (by decide)).trans ((ju_c _ _ (by decide)).trans ((ju_c _ _ (by decide)).trans e16)))
  obtain ⟨v18, e18⟩ : ∃ z, M1 598 100 = z := ⟨_, rfl⟩
  have b18 : 0 ≤ v18 ∧ v18 ≤ 13 := by rw [← e18]; exact hI_M1 598 100 (by decide)
  have y19 : (ju (ju (ju M1 668 v6 kd) 669 v6 p) 598 107 (v6 + 1)) 598 100 = v18 := ((ju_i _ _ (by decide)).trans ((ju_c _ _ (by decide)).trans ((ju_c _ _ (by decide)).trans e18)))
  have y20 : (ju (ju (ju M1 668 v6 kd) 669 v6 p) 598 107 (v6 + 1)) 598 107 = v6 + 1 := (ju_same _ _ _ _)
  have y21 : TK (ju (ju (ju M1 668 v6 kd) 669 v6 p) 598 107 (v6 + 1)) = TK M1 := ((TK.o (Or.inr ⟨by decide, by decide⟩)).trans ((TK.o (Or.inl (by decide))).trans ((TK.o (Or.inl (by decide))).trans rfl)))
  exact jr.vreturn rfl rfl (q _ (RI.u (RI.u (RI.u hI_M1 (a := 668) (i := v6) (by rw [xri_row rfl rfl]; show (0 : Int) ≤ _ ∧ _ ≤ (3 : Int); omega)) (a := 669) (i := v6) (by rw [xri_row rfl rfl]; show (0 : Int) ≤ _ ∧ _ ≤ (2200 : Int); omega)) (a := 598) (i := 107) (show (0 : Int) ≤ _ ∧ _ ≤ (16 : Int) from by omega)) (RH.o (RH.o (RH.o hH_M1 (by decide) (by decide) (by decide)) (by decide) (by decide) (by decide)) (by decide) (by decide) (by decide)) (RF.o (RF.o (RF.o hS_M1 (by decide) (by decide)) (by decide) (by decide)) (by decide) (by decide))  (by omega) (by omega) (by omega) (by omega) (by omega) (by omega) (by omega) (by omega) (by omega) (fun b k k' z x hx hf h1 h2 hk hk0 => by have x88 := w1_10 88 (by decide) (by decide) (by decide) (by decide) (by decide) (by decide) (by decide) (by decide) (by decide) (by decide); have x90 := w1_10 90 (by decide) (by decide) (by decide) (by decide) (by decide) (by decide) (by decide) (by decide) (by decide) (by decide); have x101 := w1_10 101 (by decide) (by decide) (by decide) (by decide) (by decide) (by decide) (by decide) (by decide) (by decide) (by decide); have x107 := w1_10 107 (by decide) (by decide) (by decide) (by decide) (by decide) (by decide) (by decide) (by decide) (by decide) (by decide); have x89 := w1_10 89 (by decide) (by decide) (by decide) (by decide) (by decide) (by decide) (by decide) (by decide) (by decide) (by decide); have dpx := XS.dep hx; have hx1 := XS.fr2 hx w1_9 x88 x90 x101 x107 (k' := k) (d' := 1) (z' := z) (by omega) (XS.kz hx).1 ⟨(XS.kz hx).2, Int.le_refl _⟩ (by omega); exact XS.blk1 hx1 e7 kd p k' (fun w => by have q := h1 (by omega); omega) (fun w => by obtain ⟨u1, u2, u3, u4, u5, u6⟩ := h2 (by omega); exact ⟨u1, u2, u3, by omega, by rw [w1_9 659 _ (by decide)]; exact u5, u6⟩) (by rw [x101, ← e6]; exact hk) hk0 (by omega)) (fun a i f598 f668 f669 => ((ju_c _ _ f598).trans ((ju_c _ _ f669).trans ((ju_c _ _ f668).trans ((w1_9 a i f598).trans rfl))))) (fun i g73 g74 g75 g76 g77 g78 g79 g80 g81 g100 g107 => ((ju_i _ _ g107).trans ((ju_c _ _ (by decide)).trans ((ju_c _ _ (by decide)).trans ((w1_10 i g73 g74 g75 g76 g77 g78 g79 g80 g81 g100).trans rfl))))))
