theorem r_deeper {A : Nat → Option (Nat × (Nat → Int32))} {Q : Option Value → jm → Prop} {M : jm} (hI_M : RI M) (hH_M : RH M) (hS_M : RF M) (p0 : M 598 73 ≤ M 598 72) (p1 : M 598 100 ≤ 12) (q : ∀ (M' : jm), RI M' → RH M' → RF M' → M' 598 73 ≤ M' 598 72 → M 598 73 ≤ M' 598 73 → TK M' ≤ TK M → M' 598 100 = M 598 100 + 1 → (M 598 80 ≠ 0 → M' 598 80 ≠ 0) → (M' 598 80 = 0 → M' 598 100 ≤ 12) → (M' 598 80 = 0 → M 598 74 ≠ 0 → TK M' < TK M) → ((M 598 74 = 3 → M 598 79 ≠ 10 ∧ M 598 79 ≠ 11) → (M' 598 74 = 3 → M' 598 79 ≠ 10 ∧ M' 598 79 ≠ 11)) → (∀ (a : Nat) (i : Int), a ≠ 598 → M' a i = M a i) → (∀ (i : Int), i ≠ 73 → i ≠ 74 → i ≠ 75 → i ≠ 76 → i ≠ 77 → i ≠ 78 → i ≠ 79 → i ≠ 80 → i ≠ 81 → i ≠ 100 → M' 598 i = M 598 i) → Q none M') : jc A 3 352 [.ref (598)] M Q := by
  refine jc_of (m := xm_352) rfl (Nat.le_of_ble_eq_true rfl) rfl ?_
  refine jr.aload_n rfl rfl ?_
  obtain ⟨v1, e1⟩ : ∃ z, M 598 100 = z := ⟨_, rfl⟩
  have b1 : 0 ≤ v1 ∧ v1 ≤ 13 := by rw [← e1]; exact hI_M 598 100 (by decide)
  refine jr.getf (i := 100) (x := v1) (v := .int (Int32.ofInt (v1))) rfl rfl (by decide) rfl (by decide) rfl rfl e1 rfl ?_
  refine jr.bipush rfl (by decide) ?_
  refine jr.icmp_ne rfl rfl (by omega) (by omega) (fun h6 => ?_) (fun h6 => ?_)
  · refine jr.aload_n rfl rfl ?_
    refine jr.dup rfl rfl ?_
    refine jr.getf (i := 100) (x := v1) (v := .int (Int32.ofInt (v1))) rfl rfl (by decide) rfl (by decide) rfl rfl e1 rfl ?_
    refine jr.iconst rfl ?_
    refine jr.iadd rfl ?_
    refine jr.putf (i := 100) (x := (v1 + 1)) rfl rfl (by decide) rfl (by decide) rfl rfl rfl rfl rfl ?_
    refine jr.aload_n rfl rfl ?_
    refine jr_v rfl rfl (Or.inl rfl) rfl rfl (by decide) rfl ⟨rfl, Nat.le_of_ble_eq_true rfl, Nat.le_of_ble_eq_true rfl⟩ rfl (jc.deep (c_good (RI.u hI_M (a := 598) (i := 100) (show (0 : Int) ≤ _ ∧ _ ≤ (13 : Int) from by omega))  (fun t29_0 => ?_) (fun f29_0 => ?_)) (by decide))
    · refine jr.if_eq rfl rfl (by omega) (fun h => absurd h (by decide)) (fun _ => ?_)
      refine jr.aload_n rfl rfl ?_
      obtain ⟨v3, e3⟩ : ∃ z, M 598 73 = z := ⟨_, rfl⟩
      have b3 : 0 ≤ v3 ∧ v3 ≤ 1600 := by rw [← e3]; exact hI_M 598 73 (by decide)
      obtain ⟨v4, e4⟩ : ∃ z, M 598 72 = z := ⟨_, rfl⟩
      have b4 : 0 ≤ v4 ∧ v4 ≤ 1600 := by rw [← e4]; exact hI_M 598 72 (by decide)
      obtain ⟨v6, e6⟩ : ∃ z, M 598 74 = z := ⟨_, rfl⟩
      have b6 : 0 ≤ v6 ∧ v6 ≤ 4 := by rw [← e6]; exact hI_M 598 74 (by decide)
      refine jr_v rfl rfl (Or.inl rfl) rfl rfl (by decide) rfl ⟨rfl, Nat.le_of_ble_eq_true rfl, Nat.le_of_ble_eq_true rfl⟩ rfl (jc.deep (r_next (RI.u hI_M (a := 598) (i := 100) (show (0 : Int) ≤ _ ∧ _ ≤ (13 : Int) from by omega)) (RH.o hH_M (by decide) (by decide) (by decide)) (RF.o hS_M (by decide) (by decide))   (by rw [((ju_i _ _ (by decide)).trans e3), ((ju_i _ _ (by decide)).trans e4)]; omega) (fun M2 hI_M2 hH_M2 hS_M2  w2_0 w2_1 w2_2 w2_3 w2_4 w2_5 w2_6 => ?_)) (by decide))
      have y5 : (ju M 598 100 (v1 + 1)) 598 73 = v3 := ((ju_i _ _ (by decide)).trans e3)
      have y7 : (ju M 598 100 (v1 + 1)) 598 74 = v6 := ((ju_i _ _ (by decide)).trans e6)
      have tb2 : TK (ju M 598 100 (v1 + 1)) = TK M := ((TK.o (Or.inr ⟨by decide, by decide⟩)).trans rfl)
      have e8 : M2 598 72 = v4 := ((w2_6 72 (by decide) (by decide) (by decide) (by decide) (by decide) (by decide) (by decide)).trans ((ju_i _ _ (by decide)).trans e4))
      have y9 : M2 598 72 = v4 := e8
      obtain ⟨v10, e10⟩ : ∃ z, M2 598 73 = z := ⟨_, rfl⟩
      have b10 : 0 ≤ v10 ∧ v10 ≤ 1600 := by rw [← e10]; exact hI_M2 598 73 (by decide)
      have y11 : M2 598 73 = v10 := e10
      obtain ⟨v12, e12⟩ : ∃ z, M2 598 74 = z := ⟨_, rfl⟩
      have b12 : 0 ≤ v12 ∧ v12 ≤ 4 := by rw [← e12]; exact hI_M2 598 74 (by decide)
      have y13 : M2 598 74 = v12 := e12
      obtain ⟨v14, e14⟩ : ∃ z, M2 598 79 = z := ⟨_, rfl⟩
      have b14 : 0 ≤ v14 ∧ v14 ≤ 255 := by rw [← e14]; exact hI_M2 598 79 (by decide)
      have y15 : M2 598 79 = v14 := e14
      obtain ⟨v16, e16⟩ : ∃ z, M 598 80 = z := ⟨_, rfl⟩
      have b16 : 0 ≤ v16 ∧ v16 ≤ 7 := by rw [← e16]; exact hI_M 598 80 (by decide)
      have e17 : M2 598 80 = v16 := ((w2_6 80 (by decide) (by decide) (by decide) (by decide) (by decide) (by decide) (by decide)).trans ((ju_i _ _ (by decide)).trans e16))
      have y18 : M2 598 80 = v16 := e17
      have e19 : M2 598 100 = v1 + 1 := ((w2_6 100 (by decide) (by decide) (by decide) (by decide) (by decide) (by decide) (by decide)).trans (ju_same _ _ _ _))
      have y20 : M2 598 100 = v1 + 1 := e19
      exact jr.vreturn rfl rfl (q _ hI_M2 hH_M2 hS_M2  (by omega) (by omega) (by omega) (by omega) (by omega) (by omega) (by omega) (by omega) (fun a i f598 => ((w2_5 a i f598).trans ((ju_c _ _ f598).trans rfl))) (fun i g73 g74 g75 g76 g77 g78 g79 g80 g81 g100 => ((w2_6 i g73 g74 g75 g76 g77 g78 g79).trans ((ju_i _ _ g100).trans rfl))))
    · refine jr.if_eq rfl rfl (by omega) (fun _ => ?_) (fun h => absurd (by decide) h)
      obtain ⟨v21, e21⟩ : ∃ z, M 598 72 = z := ⟨_, rfl⟩
      have b21 : 0 ≤ v21 ∧ v21 ≤ 1600 := by rw [← e21]; exact hI_M 598 72 (by decide)
      have y22 : (ju M 598 100 (v1 + 1)) 598 72 = v21 := ((ju_i _ _ (by decide)).trans e21)
      obtain ⟨v23, e23⟩ : ∃ z, M 598 73 = z := ⟨_, rfl⟩
      have b23 : 0 ≤ v23 ∧ v23 ≤ 1600 := by rw [← e23]; exact hI_M 598 73 (by decide)
      have y24 : (ju M 598 100 (v1 + 1)) 598 73 = v23 := ((ju_i _ _ (by decide)).trans e23)
      obtain ⟨v25, e25⟩ : ∃ z, M 598 74 = z := ⟨_, rfl⟩
      have b25 : 0 ≤ v25 ∧ v25 ≤ 4 := by rw [← e25]; exact hI_M 598 74 (by decide)
      have y26 : (ju M 598 100 (v1 + 1)) 598 74 = v25 := ((ju_i _ _ (by decide)).trans e25)
      obtain ⟨v27, e27⟩ : ∃ z, M 598 79 = z := ⟨_, rfl⟩
      have b27 : 0 ≤ v27 ∧ v27 ≤ 255 := by rw [← e27]; exact hI_M 598 79 (by decide)
      have y28 : (ju M 598 100 (v1 + 1)) 598 79 = v27 := ((ju_i _ _ (by decide)).trans e27)
      obtain ⟨v29, e29⟩ : ∃ z, M 598 80 = z := ⟨_, rfl⟩
      have b29 : 0 ≤ v29 ∧ v29 ≤ 7 := by rw [← e29]; exact hI_M 598 80 (by decide)
      have y30 : (ju M 598 100 (v1 + 1)) 598 80 = v29 := ((ju_i _ _ (by decide)).trans e29)
      have y31 : (ju M 598 100 (v1 + 1)) 598 100 = v1 + 1 := (ju_same _ _ _ _)
      have y32 : TK (ju M 598 100 (v1 + 1)) = TK M := ((TK.o (Or.inr ⟨by decide, by decide⟩)).trans rfl)
      exact jr.vreturn rfl rfl (q _ (RI.u hI_M (a := 598) (i := 100) (show (0 : Int) ≤ _ ∧ _ ≤ (13 : Int) from by omega)) (RH.o hH_M (by decide) (by decide) (by decide)) (RF.o hS_M (by decide) (by decide))  (by omega) (by omega) (by omega) (by omega) (by omega) (by omega) (by omega) (by omega) (fun a i f598 => ((ju_c _ _ f598).trans rfl)) (fun i g73 g74 g75 g76 g77 g78 g79 g80 g81 g100 => ((ju_i _ _ g100).trans rfl)))
  · refine jr.aload_n rfl rfl ?_
    refine jr.iconst rfl ?_
    refine jr.aload_n rfl rfl ?_
    obtain ⟨v33, e33⟩ : ∃ z, M 598 75 = z := ⟨_, rfl⟩
    have b33 : 0 ≤ v33 ∧ v33 ≤ 1600 := by rw [← e33]; exact hI_M 598 75 (by decide)
    refine jr.getf (i := 75) (x := v33) (v := .int (Int32.ofInt (v33))) rfl rfl (by decide) rfl (by decide) rfl rfl e33 rfl ?_
    refine jr_v rfl rfl (Or.inl rfl) rfl rfl (by decide) rfl ⟨rfl, Nat.le_of_ble_eq_true rfl, Nat.le_of_ble_eq_true rfl⟩ rfl (jc.deep (r_fails hI_M hH_M hS_M  (by omega) (by omega)  (fun M34 hI_M34 hH_M34 hS_M34  w34_0 w34_1 w34_2 => ?_)) (by decide))
    have tk34 : TK M34 = TK M := TK.fr (w34_2 73 (by decide) (by decide)) (w34_2 74 (by decide) (by decide))
    refine jr.aload_n rfl rfl ?_
    refine jr.dup rfl rfl ?_
    have e35 : M34 598 100 = v1 := ((w34_2 100 (by decide) (by decide)).trans e1)
    refine jr.getf (i := 100) (x := v1) (v := .int (Int32.ofInt (v1))) rfl rfl (by decide) rfl (by decide) rfl rfl e35 rfl ?_
    refine jr.iconst rfl ?_
    refine jr.iadd rfl ?_
    refine jr.putf (i := 100) (x := (v1 + 1)) rfl rfl (by decide) rfl (by decide) rfl rfl rfl rfl rfl ?_
    refine jr.aload_n rfl rfl ?_
    obtain ⟨v36, e36⟩ : ∃ z, M34 598 80 = z := ⟨_, rfl⟩
    have b36 : 0 ≤ v36 ∧ v36 ≤ 7 := by rw [← e36]; exact hI_M34 598 80 (by decide)
    refine jr_v rfl rfl (Or.inl rfl) rfl rfl (by decide) rfl ⟨rfl, Nat.le_of_ble_eq_true rfl, Nat.le_of_ble_eq_true rfl⟩ rfl (jc.deep (c_good (RI.u hI_M34 (a := 598) (i := 100) (show (0 : Int) ≤ _ ∧ _ ≤ (13 : Int) from by omega))  (fun t29_0 => ?_) (fun f29_0 => ?_)) (by decide))
    · exfalso
      have y37 : (ju M34 598 100 (v1 + 1)) 598 80 = v36 := ((ju_i _ _ (by decide)).trans e36)
      omega
    · refine jr.if_eq rfl rfl (by omega) (fun _ => ?_) (fun h => absurd (by decide) h)
      obtain ⟨v38, e38⟩ : ∃ z, M 598 72 = z := ⟨_, rfl⟩
      have b38 : 0 ≤ v38 ∧ v38 ≤ 1600 := by rw [← e38]; exact hI_M 598 72 (by decide)
      have e39 : M34 598 72 = v38 := ((w34_2 72 (by decide) (by decide)).trans e38)
      have y40 : (ju M34 598 100 (v1 + 1)) 598 72 = v38 := ((ju_i _ _ (by decide)).trans e39)
      obtain ⟨v41, e41⟩ : ∃ z, M 598 73 = z := ⟨_, rfl⟩
      have b41 : 0 ≤ v41 ∧ v41 ≤ 1600 := by rw [← e41]; exact hI_M 598 73 (by decide)
      have e42 : M34 598 73 = v41 := ((w34_2 73 (by decide) (by decide)).trans e41)
      have y43 : (ju M34 598 100 (v1 + 1)) 598 73 = v41 := ((ju_i _ _ (by decide)).trans e42)
      obtain ⟨v44, e44⟩ : ∃ z, M 598 74 = z := ⟨_, rfl⟩
      have b44 : 0 ≤ v44 ∧ v44 ≤ 4 := by rw [← e44]; exact hI_M 598 74 (by decide)
      have e45 : M34 598 74 = v44 := ((w34_2 74 (by decide) (by decide)).trans e44)
      have y46 : (ju M34 598 100 (v1 + 1)) 598 74 = v44 := ((ju_i _ _ (by decide)).trans e45)
      obtain ⟨v47, e47⟩ : ∃ z, M 598 79 = z := ⟨_, rfl⟩
      have b47 : 0 ≤ v47 ∧ v47 ≤ 255 := by rw [← e47]; exact hI_M 598 79 (by decide)
      have e48 : M34 598 79 = v47 := ((w34_2 79 (by decide) (by decide)).trans e47)
      have y49 : (ju M34 598 100 (v1 + 1)) 598 79 = v47 := ((ju_i _ _ (by decide)).trans e48)
      have y50 : (ju M34 598 100 (v1 + 1)) 598 80 = v36 := ((ju_i _ _ (by decide)).trans e36)
      have y51 : (ju M34 598 100 (v1 + 1)) 598 100 = v1 + 1 := (ju_same _ _ _ _)
      have y52 : TK (ju M34 598 100 (v1 + 1)) = TK M34 := ((TK.o (Or.inr ⟨by decide, by decide⟩)).trans rfl)
      exact jr.vreturn rfl rfl (q _ (RI.u hI_M34 (a := 598) (i := 100) (show (0 : Int) ≤ _ ∧ _ ≤ (13 : Int) from by omega)) (RH.o hH_M34 (by decide) (by decide) (by decide)) (RF.o hS_M34 (by decide) (by decide))  (by omega) (by omega) (by omega) (by omega) (by omega) (by omega) (by omega) (by omega) (fun a i f598 => ((ju_c _ _ f598).trans ((w34_1 a i f598).trans rfl))) (fun i g73 g74 g75 g76 g77 g78 g79 g80 g81 g100 => ((ju_i _ _ g100).trans ((w34_2 i g80 g81).trans rfl))))
