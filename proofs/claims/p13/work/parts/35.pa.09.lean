theorem r_node {A : Nat → Option (Nat × (Nat → Int32))} {Q : Option Value → jm → Prop} {M : jm} (hI_M : RI M) (hH_M : RH M) (hS_M : RF M) (p0 : M 598 89 ≤ 300) (q : ∀ (M' : jm), RI M' → RH M' → RF M' → M' 598 89 = M 598 89 + 1 → (M 598 80 ≠ 0 → M' 598 80 ≠ 0) → (M' 598 80 = 0 → M 598 89 < 300) → (M 598 89 < 300 → M' 598 80 = M 598 80) → (∀ (a : Nat) (i : Int), a ≠ 598 → M' a i = M a i) → (∀ (i : Int), i ≠ 80 → i ≠ 81 → i ≠ 89 → M' 598 i = M 598 i) → Q none M') : jc A 2 351 [.ref (598)] M Q := by
  refine jc_of (m := xm_351) rfl (Nat.le_of_ble_eq_true rfl) rfl ?_
  refine jr.aload_n rfl rfl ?_
  obtain ⟨v1, e1⟩ : ∃ z, M 598 89 = z := ⟨_, rfl⟩
  have b1 : 0 ≤ v1 ∧ v1 ≤ 301 := by rw [← e1]; exact hI_M 598 89 (by decide)
  refine jr.getf (i := 89) (x := v1) (v := .int (Int32.ofInt (v1))) rfl rfl (by decide) rfl (by decide) rfl rfl e1 rfl ?_
  refine jr.sipush rfl (by decide) ?_
  refine jr.icmp_ne rfl rfl (by omega) (by omega) (fun h7 => ?_) (fun h7 => ?_)
  · refine jr.aload_n rfl rfl ?_
    refine jr.dup rfl rfl ?_
    refine jr.getf (i := 89) (x := v1) (v := .int (Int32.ofInt (v1))) rfl rfl (by decide) rfl (by decide) rfl rfl e1 rfl ?_
    refine jr.iconst rfl ?_
    refine jr.iadd rfl ?_
    refine jr.putf (i := 89) (x := (v1 + 1)) rfl rfl (by decide) rfl (by decide) rfl rfl rfl rfl rfl ?_
    obtain ⟨v2, e2⟩ : ∃ z, M 598 73 = z := ⟨_, rfl⟩
    have b2 : 0 ≤ v2 ∧ v2 ≤ 1600 := by rw [← e2]; exact hI_M 598 73 (by decide)
    have y3 : (ju M 598 89 (v1 + 1)) 598 73 = v2 := ((ju_i _ _ (by decide)).trans e2)
    obtain ⟨v4, e4⟩ : ∃ z, M 598 80 = z := ⟨_, rfl⟩
    have b4 : 0 ≤ v4 ∧ v4 ≤ 7 := by rw [← e4]; exact hI_M 598 80 (by decide)
    have y5 : (ju M 598 89 (v1 + 1)) 598 80 = v4 := ((ju_i _ _ (by decide)).trans e4)
    have y6 : (ju M 598 89 (v1 + 1)) 598 89 = v1 + 1 := (ju_same _ _ _ _)
    obtain ⟨v7, e7⟩ : ∃ z, M 598 100 = z := ⟨_, rfl⟩
    have b7 : 0 ≤ v7 ∧ v7 ≤ 13 := by rw [← e7]; exact hI_M 598 100 (by decide)
    have y8 : (ju M 598 89 (v1 + 1)) 598 100 = v7 := ((ju_i _ _ (by decide)).trans e7)
    have y9 : TK (ju M 598 89 (v1 + 1)) = TK M := ((TK.o (Or.inr ⟨by decide, by decide⟩)).trans rfl)
    exact jr.vreturn rfl rfl (q _ (RI.u hI_M (a := 598) (i := 89) (show (0 : Int) ≤ _ ∧ _ ≤ (301 : Int) from by omega)) (RH.o hH_M (by decide) (by decide) (by decide)) (RF.o hS_M (by decide) (by decide))  (by omega) (by omega) (by omega) (by omega) (fun a i f598 => ((ju_c _ _ f598).trans rfl)) (fun i g80 g81 g89 => ((ju_i _ _ g89).trans rfl)))
  · refine jr.aload_n rfl rfl ?_
    refine jr.iconst rfl ?_
    refine jr.aload_n rfl rfl ?_
    obtain ⟨v10, e10⟩ : ∃ z, M 598 75 = z := ⟨_, rfl⟩
    have b10 : 0 ≤ v10 ∧ v10 ≤ 1600 := by rw [← e10]; exact hI_M 598 75 (by decide)
    refine jr.getf (i := 75) (x := v10) (v := .int (Int32.ofInt (v10))) rfl rfl (by decide) rfl (by decide) rfl rfl e10 rfl ?_
    refine jr_v rfl rfl (Or.inl rfl) rfl rfl (by decide) rfl ⟨rfl, Nat.le_of_ble_eq_true rfl, Nat.le_of_ble_eq_true rfl⟩ rfl (jc.deep (r_fails hI_M hH_M hS_M  (by omega) (by omega)  (fun M11 hI_M11 hH_M11 hS_M11  w11_0 w11_1 w11_2 => ?_)) (by decide))
    have tk11 : TK M11 = TK M := TK.fr (w11_2 73 (by decide) (by decide)) (w11_2 74 (by decide) (by decide))
    refine jr.aload_n rfl rfl ?_
    refine jr.dup rfl rfl ?_
    have e12 : M11 598 89 = v1 := ((w11_2 89 (by decide) (by decide)).trans e1)
    refine jr.getf (i := 89) (x := v1) (v := .int (Int32.ofInt (v1))) rfl rfl (by decide) rfl (by decide) rfl rfl e12 rfl ?_
    refine jr.iconst rfl ?_
    refine jr.iadd rfl ?_
    refine jr.putf (i := 89) (x := (v1 + 1)) rfl rfl (by decide) rfl (by decide) rfl rfl rfl rfl rfl ?_
    obtain ⟨v13, e13⟩ : ∃ z, M 598 73 = z := ⟨_, rfl⟩
    have b13 : 0 ≤ v13 ∧ v13 ≤ 1600 := by rw [← e13]; exact hI_M 598 73 (by decide)
    have e14 : M11 598 73 = v13 := ((w11_2 73 (by decide) (by decide)).trans e13)
    have y15 : (ju M11 598 89 (v1 + 1)) 598 73 = v13 := ((ju_i _ _ (by decide)).trans e14)
    obtain ⟨v16, e16⟩ : ∃ z, M11 598 80 = z := ⟨_, rfl⟩
    have b16 : 0 ≤ v16 ∧ v16 ≤ 7 := by rw [← e16]; exact hI_M11 598 80 (by decide)
    have y17 : (ju M11 598 89 (v1 + 1)) 598 80 = v16 := ((ju_i _ _ (by decide)).trans e16)
    have y18 : (ju M11 598 89 (v1 + 1)) 598 89 = v1 + 1 := (ju_same _ _ _ _)
    obtain ⟨v19, e19⟩ : ∃ z, M 598 100 = z := ⟨_, rfl⟩
    have b19 : 0 ≤ v19 ∧ v19 ≤ 13 := by rw [← e19]; exact hI_M 598 100 (by decide)
    have e20 : M11 598 100 = v19 := ((w11_2 100 (by decide) (by decide)).trans e19)
    have y21 : (ju M11 598 89 (v1 + 1)) 598 100 = v19 := ((ju_i _ _ (by decide)).trans e20)
    have y22 : TK (ju M11 598 89 (v1 + 1)) = TK M11 := ((TK.o (Or.inr ⟨by decide, by decide⟩)).trans rfl)
    exact jr.vreturn rfl rfl (q _ (RI.u hI_M11 (a := 598) (i := 89) (show (0 : Int) ≤ _ ∧ _ ≤ (301 : Int) from by omega)) (RH.o hH_M11 (by decide) (by decide) (by decide)) (RF.o hS_M11 (by decide) (by decide))  (by omega) (by omega) (by omega) (by omega) (fun a i f598 => ((ju_c _ _ f598).trans ((w11_1 a i f598).trans rfl))) (fun i g80 g81 g89 => ((ju_i _ _ g89).trans ((w11_2 i g80 g81).trans rfl))))
