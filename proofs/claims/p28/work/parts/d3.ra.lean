theorem r_fails_z {A : Nat → Option (Nat × (Nat → Int32))} {Q : Option Value → jm → Prop} {M : jm} (hI_M : RI M) (hH_M : RH M) (hS_M : RF M) {w : Int} (h_w : 1 ≤ w ∧ w ≤ 7) {p : Int} (h_p : 0 ≤ p ∧ p ≤ 1600) (q : ∀ (M' : jm), RI M' → RH M' → RF M' → M' 598 80 ≠ 0 → (M 598 80 = 0 → M' 598 80 = w ∧ M' 598 81 = p) → (M 598 80 ≠ 0 → M' 598 80 = M 598 80 ∧ M' 598 81 = M 598 81) → (∀ (a : Nat) (i : Int), a ≠ 598 → M' a i = M a i) → (∀ (i : Int), i ≠ 80 → i ≠ 81 → M' 598 i = M 598 i) → Q none M') : jc A 1 338 [.ref (598), .int (Int32.ofInt (w)), .int (Int32.ofInt (p))] M Q := by
  refine jc_of (m := xm_338) rfl (Nat.le_of_ble_eq_true rfl) rfl ?_
  refine jr.aload_n rfl rfl ?_
  obtain ⟨v1, e1⟩ : ∃ z, M 598 80 = z := ⟨_, rfl⟩
  have b1 : 0 ≤ v1 ∧ v1 ≤ 7 := by rw [← e1]; exact hI_M 598 80 (by decide)
  refine jr.getf (i := 80) (x := v1) (v := .int (Int32.ofInt (v1))) rfl rfl (by decide) rfl (by decide) rfl rfl e1 rfl ?_
  refine jr.if_ne rfl rfl (by omega) (fun h4 => ?_) (fun h4 => ?_)
  · obtain ⟨v2, e2⟩ : ∃ z, M 598 81 = z := ⟨_, rfl⟩
    have b2 : (-1) ≤ v2 ∧ v2 ≤ 1600 := by rw [← e2]; exact hI_M 598 81 (by decide)
    have y3 : M 598 80 = v1 := e1
    have y4 : M 598 81 = v2 := e2
    exact jr.vreturn rfl rfl (q _ hI_M hH_M hS_M  (by omega) (by omega) (by omega) (fun a i f598 => rfl) (fun i g80 g81 => rfl))
  · refine jr.aload_n rfl rfl ?_
    refine jr.iload_n rfl rfl ?_
    refine jr.putf (i := 80) (x := w) rfl rfl (by decide) rfl (by decide) rfl rfl rfl rfl rfl ?_
    refine jr.aload_n rfl rfl ?_
    refine jr.iload_n rfl rfl ?_
    refine jr.putf (i := 81) (x := p) rfl rfl (by decide) rfl (by decide) rfl rfl rfl rfl rfl ?_
    obtain ⟨v5, e5⟩ : ∃ z, M 598 81 = z := ⟨_, rfl⟩
    have b5 : (-1) ≤ v5 ∧ v5 ≤ 1600 := by rw [← e5]; exact hI_M 598 81 (by decide)
    have y6 : (ju (ju M 598 80 w) 598 81 p) 598 80 = w := ((ju_i _ _ (by decide)).trans (ju_same _ _ _ _))
    have y7 : (ju (ju M 598 80 w) 598 81 p) 598 81 = p := (ju_same _ _ _ _)
    have y8 : TK (ju (ju M 598 80 w) 598 81 p) = TK M := ((TK.o (Or.inr ⟨by decide, by decide⟩)).trans ((TK.o (Or.inr ⟨by decide, by decide⟩)).trans rfl))
    exact jr.vreturn rfl rfl (q _ (RI.u (RI.u hI_M (a := 598) (i := 80) (show (0 : Int) ≤ _ ∧ _ ≤ (7 : Int) from by omega)) (a := 598) (i := 81) (show (-1 : Int) ≤ _ ∧ _ ≤ (1600 : Int) from by omega)) (RH.o (RH.o hH_M (by decide) (by decide) (by decide)) (by decide) (by decide) (by decide)) (RF.o (RF.o hS_M (by decide) (by decide)) (by decide) (by decide))  (by omega) (by omega) (by omega) (fun a i f598 => ((ju_c _ _ f598).trans ((ju_c _ _ f598).trans rfl))) (fun i g80 g81 => ((ju_i _ _ g81).trans ((ju_i _ _ g80).trans rfl))))
theorem r_wrongToken_z {A : Nat → Option (Nat × (Nat → Int32))} {Q : Option Value → jm → Prop} {M : jm} (hI_M : RI M) (hH_M : RH M) (hS_M : RF M) (q : ∀ (M' : jm), RI M' → RH M' → RF M' → M' 598 80 ≠ 0 → (M 598 80 = 0 → M 598 74 = 4 → M' 598 80 = 1) → (M 598 80 = 0 → M 598 74 ≠ 4 → M' 598 80 = 2) → (M 598 80 = 0 → M' 598 81 = M 598 75) → (M 598 80 ≠ 0 → M' 598 80 = M 598 80 ∧ M' 598 81 = M 598 81) → (∀ (a : Nat) (i : Int), a ≠ 598 → M' a i = M a i) → (∀ (i : Int), i ≠ 80 → i ≠ 81 → M' 598 i = M 598 i) → Q none M') : jc A 2 340 [.ref (598)] M Q := by
  refine jc_of (m := xm_340) rfl (Nat.le_of_ble_eq_true rfl) rfl ?_
  refine jr.aload_n rfl rfl ?_
  refine jr.aload_n rfl rfl ?_
  obtain ⟨v1, e1⟩ : ∃ z, M 598 74 = z := ⟨_, rfl⟩
  have b1 : 0 ≤ v1 ∧ v1 ≤ 4 := by rw [← e1]; exact hI_M 598 74 (by decide)
  refine jr.getf (i := 74) (x := v1) (v := .int (Int32.ofInt (v1))) rfl rfl (by decide) rfl (by decide) rfl rfl e1 rfl ?_
  refine jr.iconst rfl ?_
  refine jr.icmp_ne rfl rfl (by omega) (by omega) (fun h6 => ?_) (fun h6 => ?_)
  · refine jr.iconst rfl ?_
    refine jr.aload_n rfl rfl ?_
    obtain ⟨v2, e2⟩ : ∃ z, M 598 75 = z := ⟨_, rfl⟩
    have b2 : 0 ≤ v2 ∧ v2 ≤ 1600 := by rw [← e2]; exact hI_M 598 75 (by decide)
    refine jr.getf (i := 75) (x := v2) (v := .int (Int32.ofInt (v2))) rfl rfl (by decide) rfl (by decide) rfl rfl e2 rfl ?_
    refine jr_v rfl rfl (Or.inl rfl) rfl rfl (by decide) rfl ⟨rfl, Nat.le_of_ble_eq_true rfl, Nat.le_of_ble_eq_true rfl⟩ rfl (jc.deep (r_fails_z hI_M hH_M hS_M  (by omega) (by omega)  (fun M3 hI_M3 hH_M3 hS_M3  w3_0 w3_1 w3_2 w3_3 w3_4 => ?_)) (by decide))
    have tk3 : TK M3 = TK M := TK.fr (w3_4 73 (by decide) (by decide)) (w3_4 74 (by decide) (by decide))
    obtain ⟨v4, e4⟩ : ∃ z, M 598 80 = z := ⟨_, rfl⟩
    have b4 : 0 ≤ v4 ∧ v4 ≤ 7 := by rw [← e4]; exact hI_M 598 80 (by decide)
    obtain ⟨v5, e5⟩ : ∃ z, M 598 81 = z := ⟨_, rfl⟩
    have b5 : (-1) ≤ v5 ∧ v5 ≤ 1600 := by rw [← e5]; exact hI_M 598 81 (by decide)
    have e6 : M3 598 74 = v1 := ((w3_4 74 (by decide) (by decide)).trans e1)
    have y7 : M3 598 74 = v1 := e6
    have e8 : M3 598 75 = v2 := ((w3_4 75 (by decide) (by decide)).trans e2)
    have y9 : M3 598 75 = v2 := e8
    obtain ⟨v10, e10⟩ : ∃ z, M3 598 80 = z := ⟨_, rfl⟩
    have b10 : 0 ≤ v10 ∧ v10 ≤ 7 := by rw [← e10]; exact hI_M3 598 80 (by decide)
    have y11 : M3 598 80 = v10 := e10
    obtain ⟨v12, e12⟩ : ∃ z, M3 598 81 = z := ⟨_, rfl⟩
    have b12 : (-1) ≤ v12 ∧ v12 ≤ 1600 := by rw [← e12]; exact hI_M3 598 81 (by decide)
    have y13 : M3 598 81 = v12 := e12
    exact jr.vreturn rfl rfl (q _ hI_M3 hH_M3 hS_M3  (by omega) (by omega) (by omega) (by omega) (by omega) (fun a i f598 => ((w3_3 a i f598).trans rfl)) (fun i g80 g81 => ((w3_4 i g80 g81).trans rfl)))
  · refine jr.iconst rfl ?_
    refine jr.goto rfl rfl ?_
    refine jr.aload_n rfl rfl ?_
    obtain ⟨v14, e14⟩ : ∃ z, M 598 75 = z := ⟨_, rfl⟩
    have b14 : 0 ≤ v14 ∧ v14 ≤ 1600 := by rw [← e14]; exact hI_M 598 75 (by decide)
    refine jr.getf (i := 75) (x := v14) (v := .int (Int32.ofInt (v14))) rfl rfl (by decide) rfl (by decide) rfl rfl e14 rfl ?_
    refine jr_v rfl rfl (Or.inl rfl) rfl rfl (by decide) rfl ⟨rfl, Nat.le_of_ble_eq_true rfl, Nat.le_of_ble_eq_true rfl⟩ rfl (jc.deep (r_fails_z hI_M hH_M hS_M  (by omega) (by omega)  (fun M15 hI_M15 hH_M15 hS_M15  w15_0 w15_1 w15_2 w15_3 w15_4 => ?_)) (by decide))
    have tk15 : TK M15 = TK M := TK.fr (w15_4 73 (by decide) (by decide)) (w15_4 74 (by decide) (by decide))
    obtain ⟨v16, e16⟩ : ∃ z, M 598 80 = z := ⟨_, rfl⟩
    have b16 : 0 ≤ v16 ∧ v16 ≤ 7 := by rw [← e16]; exact hI_M 598 80 (by decide)
    obtain ⟨v17, e17⟩ : ∃ z, M 598 81 = z := ⟨_, rfl⟩
    have b17 : (-1) ≤ v17 ∧ v17 ≤ 1600 := by rw [← e17]; exact hI_M 598 81 (by decide)
    have e18 : M15 598 74 = v1 := ((w15_4 74 (by decide) (by decide)).trans e1)
    have y19 : M15 598 74 = v1 := e18
    have e20 : M15 598 75 = v14 := ((w15_4 75 (by decide) (by decide)).trans e14)
    have y21 : M15 598 75 = v14 := e20
    obtain ⟨v22, e22⟩ : ∃ z, M15 598 80 = z := ⟨_, rfl⟩
    have b22 : 0 ≤ v22 ∧ v22 ≤ 7 := by rw [← e22]; exact hI_M15 598 80 (by decide)
    have y23 : M15 598 80 = v22 := e22
    obtain ⟨v24, e24⟩ : ∃ z, M15 598 81 = z := ⟨_, rfl⟩
    have b24 : (-1) ≤ v24 ∧ v24 ≤ 1600 := by rw [← e24]; exact hI_M15 598 81 (by decide)
    have y25 : M15 598 81 = v24 := e24
    exact jr.vreturn rfl rfl (q _ hI_M15 hH_M15 hS_M15  (by omega) (by omega) (by omega) (by omega) (by omega) (fun a i f598 => ((w15_3 a i f598).trans rfl)) (fun i g80 g81 => ((w15_4 i g80 g81).trans rfl)))
theorem r_want_z {A : Nat → Option (Nat × (Nat → Int32))} {Q : Option Value → jm → Prop} {f : Int → Int} {N : Int} {M : jm} (hI_M : RI M) (hH_M : RH M) (hS_M : RF M) {c : Int} (h_c : 0 ≤ c ∧ c ≤ 255) (p0 : M 598 73 ≤ M 598 72) (p1 : TXr f N M) (q : ∀ (M' : jm), RI M' → RH M' → RF M' → M' 598 73 ≤ M' 598 72 → M 598 73 ≤ M' 598 73 → TK M' ≤ TK M → (M 598 80 ≠ 0 → M' 598 80 ≠ 0) → (M' 598 80 = 0 → TK M' < TK M) → ((M 598 74 = 3 → M 598 79 ≠ 10 ∧ M 598 79 ≠ 11) → (M' 598 74 = 3 → M' 598 79 ≠ 10 ∧ M' 598 79 ≠ 11)) → (M 598 80 = 0 → M 598 74 = 3 → M 598 79 = c → M' 598 80 = 0) → (M' 598 80 = 0 → TKr f N (zsp zbl f N (M 598 73)) M') → (M 598 80 = 0 → (M 598 74 ≠ 3 ∨ M 598 79 ≠ c) → M' 598 80 ≠ 0 ∧ M' 598 81 = M 598 75) → (M 598 80 = 0 → (M 598 74 ≠ 3 ∨ M 598 79 ≠ c) → M 598 74 = 4 → M' 598 80 = 1) → (M 598 80 = 0 → (M 598 74 ≠ 3 ∨ M 598 79 ≠ c) → M 598 74 ≠ 4 → M' 598 80 = 2) → (M 598 80 ≠ 0 → M' 598 80 = M 598 80 ∧ M' 598 81 = M 598 81) → TXr f N M' → (M' 598 80 = 0 → M' 598 81 = M 598 81) → (∀ (a : Nat) (i : Int), a ≠ 598 → M' a i = M a i) → (∀ (i : Int), i ≠ 73 → i ≠ 74 → i ≠ 75 → i ≠ 76 → i ≠ 77 → i ≠ 78 → i ≠ 79 → i ≠ 80 → i ≠ 81 → M' 598 i = M 598 i) → Q none M') : jc A 3 348 [.ref (598), .int (Int32.ofInt (c))] M Q := by
  have hT := p1
  refine jc_of (m := xm_348) rfl (Nat.le_of_ble_eq_true rfl) rfl ?_
  refine jr.aload_n rfl rfl ?_
  refine jr_v rfl rfl (Or.inl rfl) rfl rfl (by decide) rfl ⟨rfl, Nat.le_of_ble_eq_true rfl, Nat.le_of_ble_eq_true rfl⟩ rfl (jc.deep (c_good hI_M  (fun t1_0 => ?_) (fun f1_0 => ?_)) (by decide))
  · refine jr.if_eq rfl rfl (by omega) (fun h => absurd h (by decide)) (fun _ => ?_)
    refine jr.aload_n rfl rfl ?_
    refine jr.iload_n rfl rfl ?_
    refine jr_v rfl rfl (Or.inl rfl) rfl rfl (by decide) rfl ⟨rfl, Nat.le_of_ble_eq_true rfl, Nat.le_of_ble_eq_true rfl⟩ rfl (jc.deep (c_isSign hI_M (by omega) (fun t9_0 t9_1 => ?_) (fun f9_0 => ?_)) (by decide))
    · refine jr.if_eq rfl rfl (by omega) (fun h => absurd h (by decide)) (fun _ => ?_)
      refine jr.aload_n rfl rfl ?_
      obtain ⟨v2, e2⟩ : ∃ z, M 598 73 = z := ⟨_, rfl⟩
      have b2 : 0 ≤ v2 ∧ v2 ≤ 1600 := by rw [← e2]; exact hI_M 598 73 (by decide)
      obtain ⟨v3, e3⟩ : ∃ z, M 598 72 = z := ⟨_, rfl⟩
      have b3 : 0 ≤ v3 ∧ v3 ≤ 1600 := by rw [← e3]; exact hI_M 598 72 (by decide)
      refine jr_v rfl rfl (Or.inl rfl) rfl rfl (by decide) rfl ⟨rfl, Nat.le_of_ble_eq_true rfl, Nat.le_of_ble_eq_true rfl⟩ rfl (jc.deep (r_next_z hI_M hH_M hS_M   (by rw [e2, e3]; omega) hT (fun M1 hI_M1 hH_M1 hS_M1  w1_0 w1_1 w1_2 w1_3 w1_4 w1_5 w1_6 w1_7 => ?_)) (by decide))
      refine jr.goto rfl rfl ?_
      obtain ⟨v4, e4⟩ : ∃ z, M 598 75 = z := ⟨_, rfl⟩
      have b4 : 0 ≤ v4 ∧ v4 ≤ 1600 := by rw [← e4]; exact hI_M 598 75 (by decide)
      obtain ⟨v5, e5⟩ : ∃ z, M 598 81 = z := ⟨_, rfl⟩
      have b5 : (-1) ≤ v5 ∧ v5 ≤ 1600 := by rw [← e5]; exact hI_M 598 81 (by decide)
      have e6 : M1 598 72 = v3 := ((w1_7 72 (by decide) (by decide) (by decide) (by decide) (by decide) (by decide) (by decide)).trans e3)
      have y7 : M1 598 72 = v3 := e6
      obtain ⟨v8, e8⟩ : ∃ z, M1 598 73 = z := ⟨_, rfl⟩
      have b8 : 0 ≤ v8 ∧ v8 ≤ 1600 := by rw [← e8]; exact hI_M1 598 73 (by decide)
      have y9 : M1 598 73 = v8 := e8
      obtain ⟨v10, e10⟩ : ∃ z, M1 598 74 = z := ⟨_, rfl⟩
      have b10 : 0 ≤ v10 ∧ v10 ≤ 4 := by rw [← e10]; exact hI_M1 598 74 (by decide)
      have y11 : M1 598 74 = v10 := e10
      obtain ⟨v12, e12⟩ : ∃ z, M1 598 75 = z := ⟨_, rfl⟩
      have b12 : 0 ≤ v12 ∧ v12 ≤ 1600 := by rw [← e12]; exact hI_M1 598 75 (by decide)
      have y13 : M1 598 75 = v12 := e12
      obtain ⟨v14, e14⟩ : ∃ z, M1 598 79 = z := ⟨_, rfl⟩
      have b14 : 0 ≤ v14 ∧ v14 ≤ 255 := by rw [← e14]; exact hI_M1 598 79 (by decide)
      have y15 : M1 598 79 = v14 := e14
      obtain ⟨v16, e16⟩ : ∃ z, M 598 80 = z := ⟨_, rfl⟩
      have b16 : 0 ≤ v16 ∧ v16 ≤ 7 := by rw [← e16]; exact hI_M 598 80 (by decide)
      have e17 : M1 598 80 = v16 := ((w1_7 80 (by decide) (by decide) (by decide) (by decide) (by decide) (by decide) (by decide)).trans e16)
      have y18 : M1 598 80 = v16 := e17
      have e19 : M1 598 81 = v5 := ((w1_7 81 (by decide) (by decide) (by decide) (by decide) (by decide) (by decide) (by decide)).trans e5)
      have y20 : M1 598 81 = v5 := e19
      exact jr.vreturn rfl rfl (q _ hI_M1 hH_M1 hS_M1  (by omega) (by omega) (by omega) (by omega) (by omega) (by omega) (by omega) (fun q0 => TKr.cast w1_5 (congrArg (zsp zbl f N) ((e2).trans (e2).symm))) (by omega) (by omega) (by omega) (by omega) (TXr.fr hT (w1_7 72 (by decide) (by decide) (by decide) (by decide) (by decide) (by decide) (by decide)) (fun i => w1_6 651 i (by decide)) (fun i => w1_6 649 i (by decide)) (fun i => w1_6 650 i (by decide))) (by omega) (fun a i f598 => ((w1_6 a i f598).trans rfl)) (fun i g73 g74 g75 g76 g77 g78 g79 g80 g81 => ((w1_7 i g73 g74 g75 g76 g77 g78 g79).trans rfl)))
    · refine jr.if_eq rfl rfl (by omega) (fun _ => ?_) (fun h => absurd (by decide) h)
      refine jr.aload_n rfl rfl ?_
      obtain ⟨v21, e21⟩ : ∃ z, M 598 80 = z := ⟨_, rfl⟩
      have b21 : 0 ≤ v21 ∧ v21 ≤ 7 := by rw [← e21]; exact hI_M 598 80 (by decide)
      refine jr_v rfl rfl (Or.inl rfl) rfl rfl (by decide) rfl ⟨rfl, Nat.le_of_ble_eq_true rfl, Nat.le_of_ble_eq_true rfl⟩ rfl (jc.deep (c_good hI_M  (fun t23_0 => ?_) (fun f23_0 => ?_)) (by decide))
      · refine jr.if_eq rfl rfl (by omega) (fun h => absurd h (by decide)) (fun _ => ?_)
        refine jr.aload_n rfl rfl ?_
        refine jr_v rfl rfl (Or.inl rfl) rfl rfl (by decide) rfl ⟨rfl, Nat.le_of_ble_eq_true rfl, Nat.le_of_ble_eq_true rfl⟩ rfl (jc.deep (r_wrongToken_z hI_M hH_M hS_M    (fun M22 hI_M22 hH_M22 hS_M22  w22_0 w22_1 w22_2 w22_3 w22_4 w22_5 w22_6 => ?_)) (by decide))
        have tk22 : TK M22 = TK M := TK.fr (w22_6 73 (by decide) (by decide)) (w22_6 74 (by decide) (by decide))
        obtain ⟨v23, e23⟩ : ∃ z, M 598 75 = z := ⟨_, rfl⟩
        have b23 : 0 ≤ v23 ∧ v23 ≤ 1600 := by rw [← e23]; exact hI_M 598 75 (by decide)
        obtain ⟨v24, e24⟩ : ∃ z, M 598 81 = z := ⟨_, rfl⟩
        have b24 : (-1) ≤ v24 ∧ v24 ≤ 1600 := by rw [← e24]; exact hI_M 598 81 (by decide)
        obtain ⟨v25, e25⟩ : ∃ z, M 598 72 = z := ⟨_, rfl⟩
        have b25 : 0 ≤ v25 ∧ v25 ≤ 1600 := by rw [← e25]; exact hI_M 598 72 (by decide)
        have e26 : M22 598 72 = v25 := ((w22_6 72 (by decide) (by decide)).trans e25)
        have y27 : M22 598 72 = v25 := e26
        obtain ⟨v28, e28⟩ : ∃ z, M 598 73 = z := ⟨_, rfl⟩
        have b28 : 0 ≤ v28 ∧ v28 ≤ 1600 := by rw [← e28]; exact hI_M 598 73 (by decide)
        have e29 : M22 598 73 = v28 := ((w22_6 73 (by decide) (by decide)).trans e28)
        have y30 : M22 598 73 = v28 := e29
        obtain ⟨v31, e31⟩ : ∃ z, M 598 74 = z := ⟨_, rfl⟩
        have b31 : 0 ≤ v31 ∧ v31 ≤ 4 := by rw [← e31]; exact hI_M 598 74 (by decide)
        have e32 : M22 598 74 = v31 := ((w22_6 74 (by decide) (by decide)).trans e31)
        have y33 : M22 598 74 = v31 := e32
        have e34 : M22 598 75 = v23 := ((w22_6 75 (by decide) (by decide)).trans e23)
        have y35 : M22 598 75 = v23 := e34
        obtain ⟨v36, e36⟩ : ∃ z, M 598 79 = z := ⟨_, rfl⟩
        have b36 : 0 ≤ v36 ∧ v36 ≤ 255 := by rw [← e36]; exact hI_M 598 79 (by decide)
        have e37 : M22 598 79 = v36 := ((w22_6 79 (by decide) (by decide)).trans e36)
        have y38 : M22 598 79 = v36 := e37
        obtain ⟨v39, e39⟩ : ∃ z, M22 598 80 = z := ⟨_, rfl⟩
        have b39 : 0 ≤ v39 ∧ v39 ≤ 7 := by rw [← e39]; exact hI_M22 598 80 (by decide)
        have y40 : M22 598 80 = v39 := e39
        obtain ⟨v41, e41⟩ : ∃ z, M22 598 81 = z := ⟨_, rfl⟩
        have b41 : (-1) ≤ v41 ∧ v41 ≤ 1600 := by rw [← e41]; exact hI_M22 598 81 (by decide)
        have y42 : M22 598 81 = v41 := e41
        exact jr.vreturn rfl rfl (q _ hI_M22 hH_M22 hS_M22  (by omega) (by omega) (by omega) (by omega) (by omega) (by omega) (by omega) (fun q0 => by exfalso; omega) (by omega) (by omega) (by omega) (by omega) (TXr.fr hT (w22_6 72 (by decide) (by decide)) (fun i => w22_5 651 i (by decide)) (fun i => w22_5 649 i (by decide)) (fun i => w22_5 650 i (by decide))) (by omega) (fun a i f598 => ((w22_5 a i f598).trans rfl)) (fun i g73 g74 g75 g76 g77 g78 g79 g80 g81 => ((w22_6 i g80 g81).trans rfl)))
      · exfalso
        omega
  · refine jr.if_eq rfl rfl (by omega) (fun _ => ?_) (fun h => absurd (by decide) h)
    refine jr.aload_n rfl rfl ?_
    obtain ⟨v43, e43⟩ : ∃ z, M 598 80 = z := ⟨_, rfl⟩
    have b43 : 0 ≤ v43 ∧ v43 ≤ 7 := by rw [← e43]; exact hI_M 598 80 (by decide)
    refine jr_v rfl rfl (Or.inl rfl) rfl rfl (by decide) rfl ⟨rfl, Nat.le_of_ble_eq_true rfl, Nat.le_of_ble_eq_true rfl⟩ rfl (jc.deep (c_good hI_M  (fun t23_0 => ?_) (fun f23_0 => ?_)) (by decide))
    · exfalso
      omega
    · refine jr.if_eq rfl rfl (by omega) (fun _ => ?_) (fun h => absurd (by decide) h)
      obtain ⟨v44, e44⟩ : ∃ z, M 598 75 = z := ⟨_, rfl⟩
      have b44 : 0 ≤ v44 ∧ v44 ≤ 1600 := by rw [← e44]; exact hI_M 598 75 (by decide)
      obtain ⟨v45, e45⟩ : ∃ z, M 598 81 = z := ⟨_, rfl⟩
      have b45 : (-1) ≤ v45 ∧ v45 ≤ 1600 := by rw [← e45]; exact hI_M 598 81 (by decide)
      obtain ⟨v46, e46⟩ : ∃ z, M 598 72 = z := ⟨_, rfl⟩
      have b46 : 0 ≤ v46 ∧ v46 ≤ 1600 := by rw [← e46]; exact hI_M 598 72 (by decide)
      have y47 : M 598 72 = v46 := e46
      obtain ⟨v48, e48⟩ : ∃ z, M 598 73 = z := ⟨_, rfl⟩
      have b48 : 0 ≤ v48 ∧ v48 ≤ 1600 := by rw [← e48]; exact hI_M 598 73 (by decide)
      have y49 : M 598 73 = v48 := e48
      obtain ⟨v50, e50⟩ : ∃ z, M 598 74 = z := ⟨_, rfl⟩
      have b50 : 0 ≤ v50 ∧ v50 ≤ 4 := by rw [← e50]; exact hI_M 598 74 (by decide)
      have y51 : M 598 74 = v50 := e50
      have y52 : M 598 75 = v44 := e44
      obtain ⟨v53, e53⟩ : ∃ z, M 598 79 = z := ⟨_, rfl⟩
      have b53 : 0 ≤ v53 ∧ v53 ≤ 255 := by rw [← e53]; exact hI_M 598 79 (by decide)
      have y54 : M 598 79 = v53 := e53
      have y55 : M 598 80 = v43 := e43
      have y56 : M 598 81 = v45 := e45
      exact jr.vreturn rfl rfl (q _ hI_M hH_M hS_M  (by omega) (by omega) (by omega) (by omega) (by omega) (by omega) (by omega) (fun q0 => by exfalso; omega) (by omega) (by omega) (by omega) (by omega) hT (by omega) (fun a i f598 => rfl) (fun i g73 g74 g75 g76 g77 g78 g79 g80 g81 => rfl))
theorem r_node_z {A : Nat → Option (Nat × (Nat → Int32))} {Q : Option Value → jm → Prop} {M : jm} (hI_M : RI M) (hH_M : RH M) (hS_M : RF M) (p0 : M 598 89 ≤ 300) (q : ∀ (M' : jm), RI M' → RH M' → RF M' → M' 598 89 = M 598 89 + 1 → (M 598 80 ≠ 0 → M' 598 80 ≠ 0) → (M' 598 80 = 0 → M 598 89 < 300) → (M 598 89 < 300 → M' 598 80 = M 598 80 ∧ M' 598 81 = M 598 81) → (M 598 80 = 0 → M 598 89 = 300 → M' 598 80 = 3 ∧ M' 598 81 = M 598 75) → (M 598 80 ≠ 0 → M' 598 80 = M 598 80 ∧ M' 598 81 = M 598 81) → (∀ (a : Nat) (i : Int), a ≠ 598 → M' a i = M a i) → (∀ (i : Int), i ≠ 80 → i ≠ 81 → i ≠ 89 → M' 598 i = M 598 i) → Q none M') : jc A 2 351 [.ref (598)] M Q := by
  refine jc_of (m := xm_351) rfl (Nat.le_of_ble_eq_true rfl) rfl ?_
  refine jr.aload_n rfl rfl ?_
  obtain ⟨v1, e1⟩ : ∃ z, M 598 89 = z := ⟨_, rfl⟩
  have b1 : 0 ≤ v1 ∧ v1 ≤ 301 := by rw [← e1]; exact hI_M 598 89 (by decide)
  refine jr.getf (i := 89) (x := v1) (v := .int (Int32.ofInt (v1))) rfl rfl (by decide) rfl (by decide) rfl rfl e1 rfl ?_
  refine jr.sipush rfl (by decide) ?_
  refine jr.icmp_ne rfl rfl (by omega) (by omega) (fun h7 => ?_) (fun h7 => ?_)
  · refine jr.aload_n rfl rfl ?_
    refine jr.dup rfl rfl ?_
    refine jr.getf (i := 89) (x := v1) (v := .int (Int32.ofInt (v1))) rfl rfl (by decide) rfl (by decide) rfl rfl e1 rfl ?_
    refine jr.iconst rfl ?_
    refine jr.iadd rfl ?_
    refine jr.putf (i := 89) (x := (v1 + 1)) rfl rfl (by decide) rfl (by decide) rfl rfl rfl rfl rfl ?_
    obtain ⟨v2, e2⟩ : ∃ z, M 598 75 = z := ⟨_, rfl⟩
    have b2 : 0 ≤ v2 ∧ v2 ≤ 1600 := by rw [← e2]; exact hI_M 598 75 (by decide)
    obtain ⟨v3, e3⟩ : ∃ z, M 598 81 = z := ⟨_, rfl⟩
    have b3 : (-1) ≤ v3 ∧ v3 ≤ 1600 := by rw [← e3]; exact hI_M 598 81 (by decide)
    obtain ⟨v4, e4⟩ : ∃ z, M 598 73 = z := ⟨_, rfl⟩
    have b4 : 0 ≤ v4 ∧ v4 ≤ 1600 := by rw [← e4]; exact hI_M 598 73 (by decide)
    have y5 : (ju M 598 89 (v1 + 1)) 598 73 = v4 := ((ju_i _ _ (by decide)).trans e4)
    have y6 : (ju M 598 89 (v1 + 1)) 598 75 = v2 := ((ju_i _ _ (by decide)).trans e2)
    obtain ⟨v7, e7⟩ : ∃ z, M 598 80 = z := ⟨_, rfl⟩
    have b7 : 0 ≤ v7 ∧ v7 ≤ 7 := by rw [← e7]; exact hI_M 598 80 (by decide)
    have y8 : (ju M 598 89 (v1 + 1)) 598 80 = v7 := ((ju_i _ _ (by decide)).trans e7)
    have y9 : (ju M 598 89 (v1 + 1)) 598 81 = v3 := ((ju_i _ _ (by decide)).trans e3)
    have y10 : (ju M 598 89 (v1 + 1)) 598 89 = v1 + 1 := (ju_same _ _ _ _)
    obtain ⟨v11, e11⟩ : ∃ z, M 598 100 = z := ⟨_, rfl⟩
    have b11 : 0 ≤ v11 ∧ v11 ≤ 13 := by rw [← e11]; exact hI_M 598 100 (by decide)
    have y12 : (ju M 598 89 (v1 + 1)) 598 100 = v11 := ((ju_i _ _ (by decide)).trans e11)
    have y13 : TK (ju M 598 89 (v1 + 1)) = TK M := ((TK.o (Or.inr ⟨by decide, by decide⟩)).trans rfl)
    exact jr.vreturn rfl rfl (q _ (RI.u hI_M (a := 598) (i := 89) (show (0 : Int) ≤ _ ∧ _ ≤ (301 : Int) from by omega)) (RH.o hH_M (by decide) (by decide) (by decide)) (RF.o hS_M (by decide) (by decide))  (by omega) (by omega) (by omega) (by omega) (by omega) (by omega) (fun a i f598 => ((ju_c _ _ f598).trans rfl)) (fun i g80 g81 g89 => ((ju_i _ _ g89).trans rfl)))
  · refine jr.aload_n rfl rfl ?_
    refine jr.iconst rfl ?_
    refine jr.aload_n rfl rfl ?_
    obtain ⟨v14, e14⟩ : ∃ z, M 598 75 = z := ⟨_, rfl⟩
    have b14 : 0 ≤ v14 ∧ v14 ≤ 1600 := by rw [← e14]; exact hI_M 598 75 (by decide)
    refine jr.getf (i := 75) (x := v14) (v := .int (Int32.ofInt (v14))) rfl rfl (by decide) rfl (by decide) rfl rfl e14 rfl ?_
    refine jr_v rfl rfl (Or.inl rfl) rfl rfl (by decide) rfl ⟨rfl, Nat.le_of_ble_eq_true rfl, Nat.le_of_ble_eq_true rfl⟩ rfl (jc.deep (r_fails_z hI_M hH_M hS_M  (by omega) (by omega)  (fun M15 hI_M15 hH_M15 hS_M15  w15_0 w15_1 w15_2 w15_3 w15_4 => ?_)) (by decide))
    have tk15 : TK M15 = TK M := TK.fr (w15_4 73 (by decide) (by decide)) (w15_4 74 (by decide) (by decide))
    refine jr.aload_n rfl rfl ?_
    refine jr.dup rfl rfl ?_
    have e16 : M15 598 89 = v1 := ((w15_4 89 (by decide) (by decide)).trans e1)
    refine jr.getf (i := 89) (x := v1) (v := .int (Int32.ofInt (v1))) rfl rfl (by decide) rfl (by decide) rfl rfl e16 rfl ?_
    refine jr.iconst rfl ?_
    refine jr.iadd rfl ?_
    refine jr.putf (i := 89) (x := (v1 + 1)) rfl rfl (by decide) rfl (by decide) rfl rfl rfl rfl rfl ?_
    obtain ⟨v17, e17⟩ : ∃ z, M 598 81 = z := ⟨_, rfl⟩
    have b17 : (-1) ≤ v17 ∧ v17 ≤ 1600 := by rw [← e17]; exact hI_M 598 81 (by decide)
    obtain ⟨v18, e18⟩ : ∃ z, M 598 73 = z := ⟨_, rfl⟩
    have b18 : 0 ≤ v18 ∧ v18 ≤ 1600 := by rw [← e18]; exact hI_M 598 73 (by decide)
    have e19 : M15 598 73 = v18 := ((w15_4 73 (by decide) (by decide)).trans e18)
    have y20 : (ju M15 598 89 (v1 + 1)) 598 73 = v18 := ((ju_i _ _ (by decide)).trans e19)
    have e21 : M15 598 75 = v14 := ((w15_4 75 (by decide) (by decide)).trans e14)
    have y22 : (ju M15 598 89 (v1 + 1)) 598 75 = v14 := ((ju_i _ _ (by decide)).trans e21)
    obtain ⟨v23, e23⟩ : ∃ z, M15 598 80 = z := ⟨_, rfl⟩
    have b23 : 0 ≤ v23 ∧ v23 ≤ 7 := by rw [← e23]; exact hI_M15 598 80 (by decide)
    have y24 : (ju M15 598 89 (v1 + 1)) 598 80 = v23 := ((ju_i _ _ (by decide)).trans e23)
    obtain ⟨v25, e25⟩ : ∃ z, M15 598 81 = z := ⟨_, rfl⟩
    have b25 : (-1) ≤ v25 ∧ v25 ≤ 1600 := by rw [← e25]; exact hI_M15 598 81 (by decide)
    have y26 : (ju M15 598 89 (v1 + 1)) 598 81 = v25 := ((ju_i _ _ (by decide)).trans e25)
    have y27 : (ju M15 598 89 (v1 + 1)) 598 89 = v1 + 1 := (ju_same _ _ _ _)
    obtain ⟨v28, e28⟩ : ∃ z, M 598 100 = z := ⟨_, rfl⟩
    have b28 : 0 ≤ v28 ∧ v28 ≤ 13 := by rw [← e28]; exact hI_M 598 100 (by decide)
    have e29 : M15 598 100 = v28 := ((w15_4 100 (by decide) (by decide)).trans e28)
    have y30 : (ju M15 598 89 (v1 + 1)) 598 100 = v28 := ((ju_i _ _ (by decide)).trans e29)
    have y31 : TK (ju M15 598 89 (v1 + 1)) = TK M15 := ((TK.o (Or.inr ⟨by decide, by decide⟩)).trans rfl)
    exact jr.vreturn rfl rfl (q _ (RI.u hI_M15 (a := 598) (i := 89) (show (0 : Int) ≤ _ ∧ _ ≤ (301 : Int) from by omega)) (RH.o hH_M15 (by decide) (by decide) (by decide)) (RF.o hS_M15 (by decide) (by decide))  (by omega) (by omega) (by omega) (by omega) (by omega) (by omega) (fun a i f598 => ((ju_c _ _ f598).trans ((w15_3 a i f598).trans rfl))) (fun i g80 g81 g89 => ((ju_i _ _ g89).trans ((w15_4 i g80 g81).trans rfl))))
theorem r_deeper_z {A : Nat → Option (Nat × (Nat → Int32))} {Q : Option Value → jm → Prop} {f : Int → Int} {N : Int} {M : jm} (hI_M : RI M) (hH_M : RH M) (hS_M : RF M) (p0 : M 598 73 ≤ M 598 72) (p1 : TXr f N M) (p2 : M 598 100 ≤ 12) (q : ∀ (M' : jm), RI M' → RH M' → RF M' → M' 598 73 ≤ M' 598 72 → M 598 73 ≤ M' 598 73 → TK M' ≤ TK M → M' 598 100 = M 598 100 + 1 → (M 598 80 ≠ 0 → M' 598 80 ≠ 0) → (M' 598 80 = 0 → M' 598 100 ≤ 12) → (M' 598 80 = 0 → M 598 74 ≠ 0 → TK M' < TK M) → ((M 598 74 = 3 → M 598 79 ≠ 10 ∧ M 598 79 ≠ 11) → (M' 598 74 = 3 → M' 598 79 ≠ 10 ∧ M' 598 79 ≠ 11)) → (M 598 80 = 0 → M 598 100 < 12 → M' 598 80 = 0) → (M' 598 80 = 0 → TKr f N (zsp zbl f N (M 598 73)) M') → (M 598 80 = 0 → M 598 100 = 12 → M' 598 80 = 3 ∧ M' 598 81 = M 598 75) → (M 598 80 ≠ 0 → M' 598 80 = M 598 80 ∧ M' 598 81 = M 598 81) → TXr f N M' → (M' 598 80 = 0 → M' 598 81 = M 598 81) → (∀ (a : Nat) (i : Int), a ≠ 598 → M' a i = M a i) → (∀ (i : Int), i ≠ 73 → i ≠ 74 → i ≠ 75 → i ≠ 76 → i ≠ 77 → i ≠ 78 → i ≠ 79 → i ≠ 80 → i ≠ 81 → i ≠ 100 → M' 598 i = M 598 i) → Q none M') : jc A 3 352 [.ref (598)] M Q := by
  have hT := p1
  refine jc_of (m := xm_352) rfl (Nat.le_of_ble_eq_true rfl) rfl ?_
  refine jr.aload_n rfl rfl ?_
  obtain ⟨v1, e1⟩ : ∃ z, M 598 100 = z := ⟨_, rfl⟩
  have b1 : 0 ≤ v1 ∧ v1 ≤ 13 := by rw [← e1]; exact hI_M 598 100 (by decide)
  refine jr.getf (i := 100) (x := v1) (v := .int (Int32.ofInt (v1))) rfl rfl (by decide) rfl (by decide) rfl rfl e1 rfl ?_
  refine jr.bipush rfl (by decide) ?_
  refine jr.icmp_ne rfl rfl (by omega) (by omega) (fun h6 => ?_) (fun h6 => ?_)
  · refine jr.aload_n rfl rfl ?_
    refine jr.dup rfl rfl ?_
    refine jr.getf (i := 100) (x := v1) (v := .int (Int32.ofInt (v1))) rfl rfl (by decide) rfl (by decide) rfl rfl e1 rfl ?_
    refine jr.iconst rfl ?_
    refine jr.iadd rfl ?_
    refine jr.putf (i := 100) (x := (v1 + 1)) rfl rfl (by decide) rfl (by decide) rfl rfl rfl rfl rfl ?_
    refine jr.aload_n rfl rfl ?_
    refine jr_v rfl rfl (Or.inl rfl) rfl rfl (by decide) rfl ⟨rfl, Nat.le_of_ble_eq_true rfl, Nat.le_of_ble_eq_true rfl⟩ rfl (jc.deep (c_good (RI.u hI_M (a := 598) (i := 100) (show (0 : Int) ≤ _ ∧ _ ≤ (13 : Int) from by omega))  (fun t29_0 => ?_) (fun f29_0 => ?_)) (by decide))
    · refine jr.if_eq rfl rfl (by omega) (fun h => absurd h (by decide)) (fun _ => ?_)
      refine jr.aload_n rfl rfl ?_
      obtain ⟨v3, e3⟩ : ∃ z, M 598 73 = z := ⟨_, rfl⟩
      have b3 : 0 ≤ v3 ∧ v3 ≤ 1600 := by rw [← e3]; exact hI_M 598 73 (by decide)
      obtain ⟨v4, e4⟩ : ∃ z, M 598 72 = z := ⟨_, rfl⟩
      have b4 : 0 ≤ v4 ∧ v4 ≤ 1600 := by rw [← e4]; exact hI_M 598 72 (by decide)
      obtain ⟨v6, e6⟩ : ∃ z, M 598 74 = z := ⟨_, rfl⟩
      have b6 : 0 ≤ v6 ∧ v6 ≤ 4 := by rw [← e6]; exact hI_M 598 74 (by decide)
      refine jr_v rfl rfl (Or.inl rfl) rfl rfl (by decide) rfl ⟨rfl, Nat.le_of_ble_eq_true rfl, Nat.le_of_ble_eq_true rfl⟩ rfl (jc.deep (r_next_z (RI.u hI_M (a := 598) (i := 100) (show (0 : Int) ≤ _ ∧ _ ≤ (13 : Int) from by omega)) (RH.o hH_M (by decide) (by decide) (by decide)) (RF.o hS_M (by decide) (by decide))   (by rw [((ju_i _ _ (by decide)).trans e3), ((ju_i _ _ (by decide)).trans e4)]; omega) (TXr.o hT (by decide)) (fun M2 hI_M2 hH_M2 hS_M2  w2_0 w2_1 w2_2 w2_3 w2_4 w2_5 w2_6 w2_7 => ?_)) (by decide))
      have y5 : (ju M 598 100 (v1 + 1)) 598 73 = v3 := ((ju_i _ _ (by decide)).trans e3)
      have y7 : (ju M 598 100 (v1 + 1)) 598 74 = v6 := ((ju_i _ _ (by decide)).trans e6)
      have tb2 : TK (ju M 598 100 (v1 + 1)) = TK M := ((TK.o (Or.inr ⟨by decide, by decide⟩)).trans rfl)
      obtain ⟨v8, e8⟩ : ∃ z, M 598 75 = z := ⟨_, rfl⟩
      have b8 : 0 ≤ v8 ∧ v8 ≤ 1600 := by rw [← e8]; exact hI_M 598 75 (by decide)
      obtain ⟨v9, e9⟩ : ∃ z, M 598 81 = z := ⟨_, rfl⟩
      have b9 : (-1) ≤ v9 ∧ v9 ≤ 1600 := by rw [← e9]; exact hI_M 598 81 (by decide)
      have e10 : M2 598 72 = v4 := ((w2_7 72 (by decide) (by decide) (by decide) (by decide) (by decide) (by decide) (by decide)).trans ((ju_i _ _ (by decide)).trans e4))
      have y11 : M2 598 72 = v4 := e10
      obtain ⟨v12, e12⟩ : ∃ z, M2 598 73 = z := ⟨_, rfl⟩
      have b12 : 0 ≤ v12 ∧ v12 ≤ 1600 := by rw [← e12]; exact hI_M2 598 73 (by decide)
      have y13 : M2 598 73 = v12 := e12
      obtain ⟨v14, e14⟩ : ∃ z, M2 598 74 = z := ⟨_, rfl⟩
      have b14 : 0 ≤ v14 ∧ v14 ≤ 4 := by rw [← e14]; exact hI_M2 598 74 (by decide)
      have y15 : M2 598 74 = v14 := e14
      obtain ⟨v16, e16⟩ : ∃ z, M2 598 75 = z := ⟨_, rfl⟩
      have b16 : 0 ≤ v16 ∧ v16 ≤ 1600 := by rw [← e16]; exact hI_M2 598 75 (by decide)
      have y17 : M2 598 75 = v16 := e16
      obtain ⟨v18, e18⟩ : ∃ z, M2 598 79 = z := ⟨_, rfl⟩
      have b18 : 0 ≤ v18 ∧ v18 ≤ 255 := by rw [← e18]; exact hI_M2 598 79 (by decide)
      have y19 : M2 598 79 = v18 := e18
      obtain ⟨v20, e20⟩ : ∃ z, M 598 80 = z := ⟨_, rfl⟩
      have b20 : 0 ≤ v20 ∧ v20 ≤ 7 := by rw [← e20]; exact hI_M 598 80 (by decide)
      have e21 : M2 598 80 = v20 := ((w2_7 80 (by decide) (by decide) (by decide) (by decide) (by decide) (by decide) (by decide)).trans ((ju_i _ _ (by decide)).trans e20))
      have y22 : M2 598 80 = v20 := e21
      have e23 : M2 598 81 = v9 := ((w2_7 81 (by decide) (by decide) (by decide) (by decide) (by decide) (by decide) (by decide)).trans ((ju_i _ _ (by decide)).trans e9))
      have y24 : M2 598 81 = v9 := e23
      have e25 : M2 598 100 = v1 + 1 := ((w2_7 100 (by decide) (by decide) (by decide) (by decide) (by decide) (by decide) (by decide)).trans (ju_same _ _ _ _))
      have y26 : M2 598 100 = v1 + 1 := e25
      exact jr.vreturn rfl rfl (q _ hI_M2 hH_M2 hS_M2  (by omega) (by omega) (by omega) (by omega) (by omega) (by omega) (by omega) (by omega) (by omega) (fun q0 => TKr.cast w2_5 (congrArg (zsp zbl f N) ((((ju_i _ _ (by decide)).trans e3)).trans (e3).symm))) (by omega) (by omega) (TXr.fr (TXr.o hT (by decide)) (w2_7 72 (by decide) (by decide) (by decide) (by decide) (by decide) (by decide) (by decide)) (fun i => w2_6 651 i (by decide)) (fun i => w2_6 649 i (by decide)) (fun i => w2_6 650 i (by decide))) (by omega) (fun a i f598 => ((w2_6 a i f598).trans ((ju_c _ _ f598).trans rfl))) (fun i g73 g74 g75 g76 g77 g78 g79 g80 g81 g100 => ((w2_7 i g73 g74 g75 g76 g77 g78 g79).trans ((ju_i _ _ g100).trans rfl))))
    · refine jr.if_eq rfl rfl (by omega) (fun _ => ?_) (fun h => absurd (by decide) h)
      obtain ⟨v27, e27⟩ : ∃ z, M 598 75 = z := ⟨_, rfl⟩
      have b27 : 0 ≤ v27 ∧ v27 ≤ 1600 := by rw [← e27]; exact hI_M 598 75 (by decide)
      obtain ⟨v28, e28⟩ : ∃ z, M 598 81 = z := ⟨_, rfl⟩
      have b28 : (-1) ≤ v28 ∧ v28 ≤ 1600 := by rw [← e28]; exact hI_M 598 81 (by decide)
      obtain ⟨v29, e29⟩ : ∃ z, M 598 72 = z := ⟨_, rfl⟩
      have b29 : 0 ≤ v29 ∧ v29 ≤ 1600 := by rw [← e29]; exact hI_M 598 72 (by decide)
      have y30 : (ju M 598 100 (v1 + 1)) 598 72 = v29 := ((ju_i _ _ (by decide)).trans e29)
      obtain ⟨v31, e31⟩ : ∃ z, M 598 73 = z := ⟨_, rfl⟩
      have b31 : 0 ≤ v31 ∧ v31 ≤ 1600 := by rw [← e31]; exact hI_M 598 73 (by decide)
      have y32 : (ju M 598 100 (v1 + 1)) 598 73 = v31 := ((ju_i _ _ (by decide)).trans e31)
      obtain ⟨v33, e33⟩ : ∃ z, M 598 74 = z := ⟨_, rfl⟩
      have b33 : 0 ≤ v33 ∧ v33 ≤ 4 := by rw [← e33]; exact hI_M 598 74 (by decide)
      have y34 : (ju M 598 100 (v1 + 1)) 598 74 = v33 := ((ju_i _ _ (by decide)).trans e33)
      have y35 : (ju M 598 100 (v1 + 1)) 598 75 = v27 := ((ju_i _ _ (by decide)).trans e27)
      obtain ⟨v36, e36⟩ : ∃ z, M 598 79 = z := ⟨_, rfl⟩
      have b36 : 0 ≤ v36 ∧ v36 ≤ 255 := by rw [← e36]; exact hI_M 598 79 (by decide)
      have y37 : (ju M 598 100 (v1 + 1)) 598 79 = v36 := ((ju_i _ _ (by decide)).trans e36)
      obtain ⟨v38, e38⟩ : ∃ z, M 598 80 = z := ⟨_, rfl⟩
      have b38 : 0 ≤ v38 ∧ v38 ≤ 7 := by rw [← e38]; exact hI_M 598 80 (by decide)
      have y39 : (ju M 598 100 (v1 + 1)) 598 80 = v38 := ((ju_i _ _ (by decide)).trans e38)
      have y40 : (ju M 598 100 (v1 + 1)) 598 81 = v28 := ((ju_i _ _ (by decide)).trans e28)
      have y41 : (ju M 598 100 (v1 + 1)) 598 100 = v1 + 1 := (ju_same _ _ _ _)
      have y42 : TK (ju M 598 100 (v1 + 1)) = TK M := ((TK.o (Or.inr ⟨by decide, by decide⟩)).trans rfl)
      exact jr.vreturn rfl rfl (q _ (RI.u hI_M (a := 598) (i := 100) (show (0 : Int) ≤ _ ∧ _ ≤ (13 : Int) from by omega)) (RH.o hH_M (by decide) (by decide) (by decide)) (RF.o hS_M (by decide) (by decide))  (by omega) (by omega) (by omega) (by omega) (by omega) (by omega) (by omega) (by omega) (by omega) (fun q0 => by exfalso; omega) (by omega) (by omega) (TXr.o hT (by decide)) (by omega) (fun a i f598 => ((ju_c _ _ f598).trans rfl)) (fun i g73 g74 g75 g76 g77 g78 g79 g80 g81 g100 => ((ju_i _ _ g100).trans rfl)))
  · refine jr.aload_n rfl rfl ?_
    refine jr.iconst rfl ?_
    refine jr.aload_n rfl rfl ?_
    obtain ⟨v43, e43⟩ : ∃ z, M 598 75 = z := ⟨_, rfl⟩
    have b43 : 0 ≤ v43 ∧ v43 ≤ 1600 := by rw [← e43]; exact hI_M 598 75 (by decide)
    refine jr.getf (i := 75) (x := v43) (v := .int (Int32.ofInt (v43))) rfl rfl (by decide) rfl (by decide) rfl rfl e43 rfl ?_
    refine jr_v rfl rfl (Or.inl rfl) rfl rfl (by decide) rfl ⟨rfl, Nat.le_of_ble_eq_true rfl, Nat.le_of_ble_eq_true rfl⟩ rfl (jc.deep (r_fails_z hI_M hH_M hS_M  (by omega) (by omega)  (fun M44 hI_M44 hH_M44 hS_M44  w44_0 w44_1 w44_2 w44_3 w44_4 => ?_)) (by decide))
    have tk44 : TK M44 = TK M := TK.fr (w44_4 73 (by decide) (by decide)) (w44_4 74 (by decide) (by decide))
    refine jr.aload_n rfl rfl ?_
    refine jr.dup rfl rfl ?_
    have e45 : M44 598 100 = v1 := ((w44_4 100 (by decide) (by decide)).trans e1)
    refine jr.getf (i := 100) (x := v1) (v := .int (Int32.ofInt (v1))) rfl rfl (by decide) rfl (by decide) rfl rfl e45 rfl ?_
    refine jr.iconst rfl ?_
    refine jr.iadd rfl ?_
    refine jr.putf (i := 100) (x := (v1 + 1)) rfl rfl (by decide) rfl (by decide) rfl rfl rfl rfl rfl ?_
    refine jr.aload_n rfl rfl ?_
    obtain ⟨v46, e46⟩ : ∃ z, M44 598 80 = z := ⟨_, rfl⟩
    have b46 : 0 ≤ v46 ∧ v46 ≤ 7 := by rw [← e46]; exact hI_M44 598 80 (by decide)
    refine jr_v rfl rfl (Or.inl rfl) rfl rfl (by decide) rfl ⟨rfl, Nat.le_of_ble_eq_true rfl, Nat.le_of_ble_eq_true rfl⟩ rfl (jc.deep (c_good (RI.u hI_M44 (a := 598) (i := 100) (show (0 : Int) ≤ _ ∧ _ ≤ (13 : Int) from by omega))  (fun t29_0 => ?_) (fun f29_0 => ?_)) (by decide))
    · exfalso
      have y47 : (ju M44 598 100 (v1 + 1)) 598 80 = v46 := ((ju_i _ _ (by decide)).trans e46)
      omega
    · refine jr.if_eq rfl rfl (by omega) (fun _ => ?_) (fun h => absurd (by decide) h)
      obtain ⟨v48, e48⟩ : ∃ z, M 598 81 = z := ⟨_, rfl⟩
      have b48 : (-1) ≤ v48 ∧ v48 ≤ 1600 := by rw [← e48]; exact hI_M 598 81 (by decide)
      obtain ⟨v49, e49⟩ : ∃ z, M 598 72 = z := ⟨_, rfl⟩
      have b49 : 0 ≤ v49 ∧ v49 ≤ 1600 := by rw [← e49]; exact hI_M 598 72 (by decide)
      have e50 : M44 598 72 = v49 := ((w44_4 72 (by decide) (by decide)).trans e49)
      have y51 : (ju M44 598 100 (v1 + 1)) 598 72 = v49 := ((ju_i _ _ (by decide)).trans e50)
      obtain ⟨v52, e52⟩ : ∃ z, M 598 73 = z := ⟨_, rfl⟩
      have b52 : 0 ≤ v52 ∧ v52 ≤ 1600 := by rw [← e52]; exact hI_M 598 73 (by decide)
      have e53 : M44 598 73 = v52 := ((w44_4 73 (by decide) (by decide)).trans e52)
      have y54 : (ju M44 598 100 (v1 + 1)) 598 73 = v52 := ((ju_i _ _ (by decide)).trans e53)
      obtain ⟨v55, e55⟩ : ∃ z, M 598 74 = z := ⟨_, rfl⟩
      have b55 : 0 ≤ v55 ∧ v55 ≤ 4 := by rw [← e55]; exact hI_M 598 74 (by decide)
      have e56 : M44 598 74 = v55 := ((w44_4 74 (by decide) (by decide)).trans e55)
      have y57 : (ju M44 598 100 (v1 + 1)) 598 74 = v55 := ((ju_i _ _ (by decide)).trans e56)
      have e58 : M44 598 75 = v43 := ((w44_4 75 (by decide) (by decide)).trans e43)
      have y59 : (ju M44 598 100 (v1 + 1)) 598 75 = v43 := ((ju_i _ _ (by decide)).trans e58)
      obtain ⟨v60, e60⟩ : ∃ z, M 598 79 = z := ⟨_, rfl⟩
      have b60 : 0 ≤ v60 ∧ v60 ≤ 255 := by rw [← e60]; exact hI_M 598 79 (by decide)
      have e61 : M44 598 79 = v60 := ((w44_4 79 (by decide) (by decide)).trans e60)
      have y62 : (ju M44 598 100 (v1 + 1)) 598 79 = v60 := ((ju_i _ _ (by decide)).trans e61)
      have y63 : (ju M44 598 100 (v1 + 1)) 598 80 = v46 := ((ju_i _ _ (by decide)).trans e46)
      obtain ⟨v64, e64⟩ : ∃ z, M44 598 81 = z := ⟨_, rfl⟩
      have b64 : (-1) ≤ v64 ∧ v64 ≤ 1600 := by rw [← e64]; exact hI_M44 598 81 (by decide)
      have y65 : (ju M44 598 100 (v1 + 1)) 598 81 = v64 := ((ju_i _ _ (by decide)).trans e64)
      have y66 : (ju M44 598 100 (v1 + 1)) 598 100 = v1 + 1 := (ju_same _ _ _ _)
      have y67 : TK (ju M44 598 100 (v1 + 1)) = TK M44 := ((TK.o (Or.inr ⟨by decide, by decide⟩)).trans rfl)
      exact jr.vreturn rfl rfl (q _ (RI.u hI_M44 (a := 598) (i := 100) (show (0 : Int) ≤ _ ∧ _ ≤ (13 : Int) from by omega)) (RH.o hH_M44 (by decide) (by decide) (by decide)) (RF.o hS_M44 (by decide) (by decide))  (by omega) (by omega) (by omega) (by omega) (by omega) (by omega) (by omega) (by omega) (by omega) (fun q0 => by exfalso; omega) (by omega) (by omega) (TXr.o (TXr.fr hT (w44_4 72 (by decide) (by decide)) (fun i => w44_3 651 i (by decide)) (fun i => w44_3 649 i (by decide)) (fun i => w44_3 650 i (by decide))) (by decide)) (by omega) (fun a i f598 => ((ju_c _ _ f598).trans ((w44_3 a i f598).trans rfl))) (fun i g73 g74 g75 g76 g77 g78 g79 g80 g81 g100 => ((ju_i _ _ g100).trans ((w44_4 i g80 g81).trans rfl))))
theorem r_wantDeeper_z {A : Nat → Option (Nat × (Nat → Int32))} {Q : Option Value → jm → Prop} {f : Int → Int} {N : Int} {M : jm} (hI_M : RI M) (hH_M : RH M) (hS_M : RF M) {c : Int} (h_c : 0 ≤ c ∧ c ≤ 255) (p0 : M 598 73 ≤ M 598 72) (p1 : TXr f N M) (p2 : (M 598 80 = 0 → M 598 100 ≤ 12)) (q : ∀ (M' : jm), RI M' → RH M' → RF M' → (M' 598 80 = 0 → M 598 74 = 3) → M' 598 73 ≤ M' 598 72 → M 598 73 ≤ M' 598 73 → TK M' ≤ TK M → (M' 598 100 = M 598 100 + 1 ∨ (M' 598 80 ≠ 0 ∧ M' 598 100 = M 598 100)) → (M 598 80 ≠ 0 → M' 598 80 ≠ 0) → (M' 598 80 = 0 → M' 598 100 ≤ 12) → (M' 598 80 = 0 → TK M' < TK M) → ((M 598 74 = 3 → M 598 79 ≠ 10 ∧ M 598 79 ≠ 11) → (M' 598 74 = 3 → M' 598 79 ≠ 10 ∧ M' 598 79 ≠ 11)) → (M 598 80 = 0 → M 598 74 = 3 → M 598 79 = c → M 598 100 < 12 → M' 598 80 = 0) → (M' 598 80 = 0 → TKr f N (zsp zbl f N (M 598 73)) M') → (M 598 80 = 0 → M 598 74 = 3 → M 598 79 = c → M 598 100 = 12 → M' 598 80 = 3 ∧ M' 598 81 = M 598 75) → (M 598 80 = 0 → (M 598 74 ≠ 3 ∨ M 598 79 ≠ c) → M' 598 80 ≠ 0 ∧ M' 598 81 = M 598 75) → (M 598 80 = 0 → (M 598 74 ≠ 3 ∨ M 598 79 ≠ c) → M 598 74 = 4 → M' 598 80 = 1) → (M 598 80 = 0 → (M 598 74 ≠ 3 ∨ M 598 79 ≠ c) → M 598 74 ≠ 4 → M' 598 80 = 2) → (M 598 80 ≠ 0 → M' 598 80 = M 598 80 ∧ M' 598 81 = M 598 81) → TXr f N M' → (M' 598 80 = 0 → M' 598 81 = M 598 81) → (∀ (a : Nat) (i : Int), a ≠ 598 → M' a i = M a i) → (∀ (i : Int), i ≠ 73 → i ≠ 74 → i ≠ 75 → i ≠ 76 → i ≠ 77 → i ≠ 78 → i ≠ 79 → i ≠ 80 → i ≠ 81 → i ≠ 100 → M' 598 i = M 598 i) → Q none M') : jc A 4 353 [.ref (598), .int (Int32.ofInt (c))] M Q := by
  have hT := p1
  refine jc_of (m := xm_353) rfl (Nat.le_of_ble_eq_true rfl) rfl ?_
  refine jr.aload_n rfl rfl ?_
  refine jr_v rfl rfl (Or.inl rfl) rfl rfl (by decide) rfl ⟨rfl, Nat.le_of_ble_eq_true rfl, Nat.le_of_ble_eq_true rfl⟩ rfl (jc.deep (c_good hI_M  (fun t1_0 => ?_) (fun f1_0 => ?_)) (by decide))
  · refine jr.if_eq rfl rfl (by omega) (fun h => absurd h (by decide)) (fun _ => ?_)
    refine jr.aload_n rfl rfl ?_
    refine jr.iload_n rfl rfl ?_
    refine jr_v rfl rfl (Or.inl rfl) rfl rfl (by decide) rfl ⟨rfl, Nat.le_of_ble_eq_true rfl, Nat.le_of_ble_eq_true rfl⟩ rfl (jc.deep (c_isSign hI_M (by omega) (fun t9_0 t9_1 => ?_) (fun f9_0 => ?_)) (by decide))
    · refine jr.if_eq rfl rfl (by omega) (fun h => absurd h (by decide)) (fun _ => ?_)
      refine jr.aload_n rfl rfl ?_
      obtain ⟨v2, e2⟩ : ∃ z, M 598 73 = z := ⟨_, rfl⟩
      have b2 : 0 ≤ v2 ∧ v2 ≤ 1600 := by rw [← e2]; exact hI_M 598 73 (by decide)
      obtain ⟨v3, e3⟩ : ∃ z, M 598 72 = z := ⟨_, rfl⟩
      have b3 : 0 ≤ v3 ∧ v3 ≤ 1600 := by rw [← e3]; exact hI_M 598 72 (by decide)
      obtain ⟨v4, e4⟩ : ∃ z, M 598 100 = z := ⟨_, rfl⟩
      have b4 : 0 ≤ v4 ∧ v4 ≤ 13 := by rw [← e4]; exact hI_M 598 100 (by decide)
      refine jr_v rfl rfl (Or.inl rfl) rfl rfl (by decide) rfl ⟨rfl, Nat.le_of_ble_eq_true rfl, Nat.le_of_ble_eq_true rfl⟩ rfl (jc.deep (r_deeper_z hI_M hH_M hS_M   (by rw [e2, e3]; omega) hT (by rw [e4]; omega) (fun M1 hI_M1 hH_M1 hS_M1  w1_0 w1_1 w1_2 w1_3 w1_4 w1_5 w1_6 w1_7 w1_8 w1_9 w1_10 w1_11 w1_12 w1_13 w1_14 w1_15 => ?_)) (by decide))
      refine jr.goto rfl rfl ?_
      obtain ⟨v5, e5⟩ : ∃ z, M 598 75 = z := ⟨_, rfl⟩
      have b5 : 0 ≤ v5 ∧ v5 ≤ 1600 := by rw [← e5]; exact hI_M 598 75 (by decide)
      obtain ⟨v6, e6⟩ : ∃ z, M 598 81 = z := ⟨_, rfl⟩
      have b6 : (-1) ≤ v6 ∧ v6 ≤ 1600 := by rw [← e6]; exact hI_M 598 81 (by decide)
      have e7 : M1 598 72 = v3 := ((w1_15 72 (by decide) (by decide) (by decide) (by decide) (by decide) (by decide) (by decide) (by decide) (by decide) (by decide)).trans e3)
      have y8 : M1 598 72 = v3 := e7
      obtain ⟨v9, e9⟩ : ∃ z, M1 598 73 = z := ⟨_, rfl⟩
      have b9 : 0 ≤ v9 ∧ v9 ≤ 1600 := by rw [← e9]; exact hI_M1 598 73 (by decide)
      have y10 : M1 598 73 = v9 := e9
      obtain ⟨v11, e11⟩ : ∃ z, M1 598 74 = z := ⟨_, rfl⟩
      have b11 : 0 ≤ v11 ∧ v11 ≤ 4 := by rw [← e11]; exact hI_M1 598 74 (by decide)
      have y12 : M1 598 74 = v11 := e11
      obtain ⟨v13, e13⟩ : ∃ z, M1 598 75 = z := ⟨_, rfl⟩
      have b13 : 0 ≤ v13 ∧ v13 ≤ 1600 := by rw [← e13]; exact hI_M1 598 75 (by decide)
      have y14 : M1 598 75 = v13 := e13
      obtain ⟨v15, e15⟩ : ∃ z, M1 598 79 = z := ⟨_, rfl⟩
      have b15 : 0 ≤ v15 ∧ v15 ≤ 255 := by rw [← e15]; exact hI_M1 598 79 (by decide)
      have y16 : M1 598 79 = v15 := e15
      obtain ⟨v17, e17⟩ : ∃ z, M1 598 80 = z := ⟨_, rfl⟩
      have b17 : 0 ≤ v17 ∧ v17 ≤ 7 := by rw [← e17]; exact hI_M1 598 80 (by decide)
      have y18 : M1 598 80 = v17 := e17
      obtain ⟨v19, e19⟩ : ∃ z, M1 598 81 = z := ⟨_, rfl⟩
      have b19 : (-1) ≤ v19 ∧ v19 ≤ 1600 := by rw [← e19]; exact hI_M1 598 81 (by decide)
      have y20 : M1 598 81 = v19 := e19
      obtain ⟨v21, e21⟩ : ∃ z, M1 598 100 = z := ⟨_, rfl⟩
      have b21 : 0 ≤ v21 ∧ v21 ≤ 13 := by rw [← e21]; exact hI_M1 598 100 (by decide)
      have y22 : M1 598 100 = v21 := e21
      exact jr.vreturn rfl rfl (q _ hI_M1 hH_M1 hS_M1  (by omega) (by omega) (by omega) (by omega) (by omega) (by omega) (by omega) (by omega) (by omega) (by omega) w1_9 (by omega) (by omega) (by omega) (by omega) (by omega) w1_12 (by omega) (fun a i f598 => ((w1_14 a i f598).trans rfl)) (fun i g73 g74 g75 g76 g77 g78 g79 g80 g81 g100 => ((w1_15 i g73 g74 g75 g76 g77 g78 g79 g80 g81 g100).trans rfl)))
    · refine jr.if_eq rfl rfl (by omega) (fun _ => ?_) (fun h => absurd (by decide) h)
      refine jr.aload_n rfl rfl ?_
      obtain ⟨v23, e23⟩ : ∃ z, M 598 80 = z := ⟨_, rfl⟩
      have b23 : 0 ≤ v23 ∧ v23 ≤ 7 := by rw [← e23]; exact hI_M 598 80 (by decide)
      refine jr_v rfl rfl (Or.inl rfl) rfl rfl (by decide) rfl ⟨rfl, Nat.le_of_ble_eq_true rfl, Nat.le_of_ble_eq_true rfl⟩ rfl (jc.deep (c_good hI_M  (fun t23_0 => ?_) (fun f23_0 => ?_)) (by decide))
      · refine jr.if_eq rfl rfl (by omega) (fun h => absurd h (by decide)) (fun _ => ?_)
        refine jr.aload_n rfl rfl ?_
        refine jr_v rfl rfl (Or.inl rfl) rfl rfl (by decide) rfl ⟨rfl, Nat.le_of_ble_eq_true rfl, Nat.le_of_ble_eq_true rfl⟩ rfl (jc.deep (r_wrongToken_z hI_M hH_M hS_M    (fun M24 hI_M24 hH_M24 hS_M24  w24_0 w24_1 w24_2 w24_3 w24_4 w24_5 w24_6 => ?_)) (by decide))
        have tk24 : TK M24 = TK M := TK.fr (w24_6 73 (by decide) (by decide)) (w24_6 74 (by decide) (by decide))
        obtain ⟨v25, e25⟩ : ∃ z, M 598 75 = z := ⟨_, rfl⟩
        have b25 : 0 ≤ v25 ∧ v25 ≤ 1600 := by rw [← e25]; exact hI_M 598 75 (by decide)
        obtain ⟨v26, e26⟩ : ∃ z, M 598 81 = z := ⟨_, rfl⟩
        have b26 : (-1) ≤ v26 ∧ v26 ≤ 1600 := by rw [← e26]; exact hI_M 598 81 (by decide)
        obtain ⟨v27, e27⟩ : ∃ z, M 598 72 = z := ⟨_, rfl⟩
        have b27 : 0 ≤ v27 ∧ v27 ≤ 1600 := by rw [← e27]; exact hI_M 598 72 (by decide)
        have e28 : M24 598 72 = v27 := ((w24_6 72 (by decide) (by decide)).trans e27)
        have y29 : M24 598 72 = v27 := e28
        obtain ⟨v30, e30⟩ : ∃ z, M 598 73 = z := ⟨_, rfl⟩
        have b30 : 0 ≤ v30 ∧ v30 ≤ 1600 := by rw [← e30]; exact hI_M 598 73 (by decide)
        have e31 : M24 598 73 = v30 := ((w24_6 73 (by decide) (by decide)).trans e30)
        have y32 : M24 598 73 = v30 := e31
        obtain ⟨v33, e33⟩ : ∃ z, M 598 74 = z := ⟨_, rfl⟩
        have b33 : 0 ≤ v33 ∧ v33 ≤ 4 := by rw [← e33]; exact hI_M 598 74 (by decide)
        have e34 : M24 598 74 = v33 := ((w24_6 74 (by decide) (by decide)).trans e33)
        have y35 : M24 598 74 = v33 := e34
        have e36 : M24 598 75 = v25 := ((w24_6 75 (by decide) (by decide)).trans e25)
        have y37 : M24 598 75 = v25 := e36
        obtain ⟨v38, e38⟩ : ∃ z, M 598 79 = z := ⟨_, rfl⟩
        have b38 : 0 ≤ v38 ∧ v38 ≤ 255 := by rw [← e38]; exact hI_M 598 79 (by decide)
        have e39 : M24 598 79 = v38 := ((w24_6 79 (by decide) (by decide)).trans e38)
        have y40 : M24 598 79 = v38 := e39
        obtain ⟨v41, e41⟩ : ∃ z, M24 598 80 = z := ⟨_, rfl⟩
        have b41 : 0 ≤ v41 ∧ v41 ≤ 7 := by rw [← e41]; exact hI_M24 598 80 (by decide)
        have y42 : M24 598 80 = v41 := e41
        obtain ⟨v43, e43⟩ : ∃ z, M24 598 81 = z := ⟨_, rfl⟩
        have b43 : (-1) ≤ v43 ∧ v43 ≤ 1600 := by rw [← e43]; exact hI_M24 598 81 (by decide)
        have y44 : M24 598 81 = v43 := e43
        obtain ⟨v45, e45⟩ : ∃ z, M 598 100 = z := ⟨_, rfl⟩
        have b45 : 0 ≤ v45 ∧ v45 ≤ 13 := by rw [← e45]; exact hI_M 598 100 (by decide)
        have e46 : M24 598 100 = v45 := ((w24_6 100 (by decide) (by decide)).trans e45)
        have y47 : M24 598 100 = v45 := e46
        exact jr.vreturn rfl rfl (q _ hI_M24 hH_M24 hS_M24  (by omega) (by omega) (by omega) (by omega) (by omega) (by omega) (by omega) (by omega) (by omega) (by omega) (fun q0 => by exfalso; omega) (by omega) (by omega) (by omega) (by omega) (by omega) (TXr.fr hT (w24_6 72 (by decide) (by decide)) (fun i => w24_5 651 i (by decide)) (fun i => w24_5 649 i (by decide)) (fun i => w24_5 650 i (by decide))) (by omega) (fun a i f598 => ((w24_5 a i f598).trans rfl)) (fun i g73 g74 g75 g76 g77 g78 g79 g80 g81 g100 => ((w24_6 i g80 g81).trans rfl)))
      · exfalso
        omega
  · refine jr.if_eq rfl rfl (by omega) (fun _ => ?_) (fun h => absurd (by decide) h)
    refine jr.aload_n rfl rfl ?_
    obtain ⟨v48, e48⟩ : ∃ z, M 598 80 = z := ⟨_, rfl⟩
    have b48 : 0 ≤ v48 ∧ v48 ≤ 7 := by rw [← e48]; exact hI_M 598 80 (by decide)
    refine jr_v rfl rfl (Or.inl rfl) rfl rfl (by decide) rfl ⟨rfl, Nat.le_of_ble_eq_true rfl, Nat.le_of_ble_eq_true rfl⟩ rfl (jc.deep (c_good hI_M  (fun t23_0 => ?_) (fun f23_0 => ?_)) (by decide))
    · exfalso
      omega
    · refine jr.if_eq rfl rfl (by omega) (fun _ => ?_) (fun h => absurd (by decide) h)
      obtain ⟨v49, e49⟩ : ∃ z, M 598 75 = z := ⟨_, rfl⟩
      have b49 : 0 ≤ v49 ∧ v49 ≤ 1600 := by rw [← e49]; exact hI_M 598 75 (by decide)
      obtain ⟨v50, e50⟩ : ∃ z, M 598 81 = z := ⟨_, rfl⟩
      have b50 : (-1) ≤ v50 ∧ v50 ≤ 1600 := by rw [← e50]; exact hI_M 598 81 (by decide)
      obtain ⟨v51, e51⟩ : ∃ z, M 598 72 = z := ⟨_, rfl⟩
      have b51 : 0 ≤ v51 ∧ v51 ≤ 1600 := by rw [← e51]; exact hI_M 598 72 (by decide)
      have y52 : M 598 72 = v51 := e51
      obtain ⟨v53, e53⟩ : ∃ z, M 598 73 = z := ⟨_, rfl⟩
      have b53 : 0 ≤ v53 ∧ v53 ≤ 1600 := by rw [← e53]; exact hI_M 598 73 (by decide)
      have y54 : M 598 73 = v53 := e53
      obtain ⟨v55, e55⟩ : ∃ z, M 598 74 = z := ⟨_, rfl⟩
      have b55 : 0 ≤ v55 ∧ v55 ≤ 4 := by rw [← e55]; exact hI_M 598 74 (by decide)
      have y56 : M 598 74 = v55 := e55
      have y57 : M 598 75 = v49 := e49
      obtain ⟨v58, e58⟩ : ∃ z, M 598 79 = z := ⟨_, rfl⟩
      have b58 : 0 ≤ v58 ∧ v58 ≤ 255 := by rw [← e58]; exact hI_M 598 79 (by decide)
      have y59 : M 598 79 = v58 := e58
      have y60 : M 598 80 = v48 := e48
      have y61 : M 598 81 = v50 := e50
      obtain ⟨v62, e62⟩ : ∃ z, M 598 100 = z := ⟨_, rfl⟩
      have b62 : 0 ≤ v62 ∧ v62 ≤ 13 := by rw [← e62]; exact hI_M 598 100 (by decide)
      have y63 : M 598 100 = v62 := e62
      exact jr.vreturn rfl rfl (q _ hI_M hH_M hS_M  (by omega) (by omega) (by omega) (by omega) (by omega) (by omega) (by omega) (by omega) (by omega) (by omega) (fun q0 => by exfalso; omega) (by omega) (by omega) (by omega) (by omega) (by omega) hT (by omega) (fun a i f598 => rfl) (fun i g73 g74 g75 g76 g77 g78 g79 g80 g81 g100 => rfl))
