theorem r_want {A : Nat → Option (Nat × (Nat → Int32))} {Q : Option Value → jm → Prop} {M : jm} (hI_M : RI M) (hH_M : RH M) (hS_M : RF M) {c : Int} (h_c : 0 ≤ c ∧ c ≤ 255) (p0 : M 598 73 ≤ M 598 72) (q : ∀ (M' : jm), RI M' → RH M' → RF M' → M' 598 73 ≤ M' 598 72 → M 598 73 ≤ M' 598 73 → TK M' ≤ TK M → (M 598 80 ≠ 0 → M' 598 80 ≠ 0) → (M' 598 80 = 0 → TK M' < TK M) → ((M 598 74 = 3 → M 598 79 ≠ 10 ∧ M 598 79 ≠ 11) → (M' 598 74 = 3 → M' 598 79 ≠ 10 ∧ M' 598 79 ≠ 11)) → (∀ (a : Nat) (i : Int), a ≠ 598 → M' a i = M a i) → (∀ (i : Int), i ≠ 73 → i ≠ 74 → i ≠ 75 → i ≠ 76 → i ≠ 77 → i ≠ 78 → i ≠ 79 → i ≠ 80 → i ≠ 81 → M' 598 i = M 598 i) → Q none M') : jc A 3 348 [.ref (598), .int (Int32.ofInt (c))] M Q := by
  refine jc_of (m := xm_348) rfl (Nat.le_of_ble_eq_true rfl) rfl ?_
  refine jr.aload_n rfl rfl ?_
  refine jr_v rfl rfl (Or.inl rfl) rfl rfl (by decide) rfl ⟨rfl, Nat.le_of_ble_eq_true rfl, Nat.le_of_ble_eq_true rfl⟩ rfl (jc.deep (c_good hI_M  (fun t1_0 => ?_) (fun f1_0 => ?_)) (by decide))
  · refine jr.if_eq rfl rfl (by omega) (fun h => absurd h (by decide)) (fun _ => ?_)
    refine jr.aload_n rfl rfl ?_
    refine jr.iload_n rfl rfl ?_
    refine jr_v rfl rfl (Or.inl rfl) rfl rfl (by decide) rfl ⟨rfl, Nat.le_of_ble_eq_true rfl, Nat.le_of_ble_eq_true rfl⟩ rfl (jc.deep (c_isSign hI_M (by omega) (fun t9_0 t9_1 => ?_) (fun f9_0 => ?_)) (by decide))
    · refine jr.if_eq rfl rfl (by omega) (fun h => absurd h (by decide)) (fun _ => ?_)
      refine jr.aload_n rfl rfl ?_
      obtain ⟨v2, e2⟩ : ∃ z, M 598 73 = z := ⟨_, rfl⟩
      have b2 : 0 ≤ v2 ∧ v2 ≤ 1600 := by rw [← e2]; exact hI_M 598 73 (by decide)
      obtain ⟨v3, e3⟩ : ∃ z, M 598 72 = z := ⟨_, rfl⟩
      have b3 : 0 ≤ v3 ∧ v3 ≤ 1600 := by rw [← e3]; exact hI_M 598 72 (by decide)
      refine jr_v rfl rfl (Or.inl rfl) rfl rfl (by decide) rfl ⟨rfl, Nat.le_of_ble_eq_true rfl, Nat.le_of_ble_eq_true rfl⟩ rfl (jc.deep (r_next hI_M hH_M hS_M   (by rw [e2, e3]; omega) (fun M1 hI_M1 hH_M1 hS_M1  w1_0 w1_1 w1_2 w1_3 w1_4 w1_5 w1_6 => ?_)) (by decide))
      refine jr.goto rfl rfl ?_
      have e4 : M1 598 72 = v3 := ((w1_6 72 (by decide) (by decide) (by decide) (by decide) (by decide) (by decide) (by decide)).trans e3)
      have y5 : M1 598 72 = v3 := e4
      obtain ⟨v6, e6⟩ : ∃ z, M1 598 73 = z := ⟨_, rfl⟩
      have b6 : 0 ≤ v6 ∧ v6 ≤ 1600 := by rw [← e6]; exact hI_M1 598 73 (by decide)
      have y7 : M1 598 73 = v6 := e6
      obtain ⟨v8, e8⟩ : ∃ z, M1 598 74 = z := ⟨_, rfl⟩
      have b8 : 0 ≤ v8 ∧ v8 ≤ 4 := by rw [← e8]; exact hI_M1 598 74 (by decide)
      have y9 : M1 598 74 = v8 := e8
      obtain ⟨v10, e10⟩ : ∃ z, M1 598 79 = z := ⟨_, rfl⟩
      have b10 : 0 ≤ v10 ∧ v10 ≤ 255 := by rw [← e10]; exact hI_M1 598 79 (by decide)
      have y11 : M1 598 79 = v10 := e10
      obtain ⟨v12, e12⟩ : ∃ z, M 598 80 = z := ⟨_, rfl⟩
      have b12 : 0 ≤ v12 ∧ v12 ≤ 7 := by rw [← e12]; exact hI_M 598 80 (by decide)
      have e13 : M1 598 80 = v12 := ((w1_6 80 (by decide) (by decide) (by decide) (by decide) (by decide) (by decide) (by decide)).trans e12)
      have y14 : M1 598 80 = v12 := e13
      exact jr.vreturn rfl rfl (q _ hI_M1 hH_M1 hS_M1  (by omega) (by omega) (by omega) (by omega) (by omega) (by omega) (fun a i f598 => ((w1_5 a i f598).trans rfl)) (fun i g73 g74 g75 g76 g77 g78 g79 g80 g81 => ((w1_6 i g73 g74 g75 g76 g77 g78 g79).trans rfl)))
    · refine jr.if_eq rfl rfl (by omega) (fun _ => ?_) (fun h => absurd (by decide) h)
      refine jr.aload_n rfl rfl ?_
      obtain ⟨v15, e15⟩ : ∃ z, M 598 80 = z := ⟨_, rfl⟩
      have b15 : 0 ≤ v15 ∧ v15 ≤ 7 := by rw [← e15]; exact hI_M 598 80 (by decide)
      refine jr_v rfl rfl (Or.inl rfl) rfl rfl (by decide) rfl ⟨rfl, Nat.le_of_ble_eq_true rfl, Nat.le_of_ble_eq_true rfl⟩ rfl (jc.deep (c_good hI_M  (fun t23_0 => ?_) (fun f23_0 => ?_)) (by decide))
      · refine jr.if_eq rfl rfl (by omega) (fun h => absurd h (by decide)) (fun _ => ?_)
        refine jr.aload_n rfl rfl ?_
        refine jr_v rfl rfl (Or.inl rfl) rfl rfl (by decide) rfl ⟨rfl, Nat.le_of_ble_eq_true rfl, Nat.le_of_ble_eq_true rfl⟩ rfl (jc.deep (r_wrongToken hI_M hH_M hS_M    (fun M16 hI_M16 hH_M16 hS_M16  w16_0 w16_1 w16_2 => ?_)) (by decide))
        have tk16 : TK M16 = TK M := TK.fr (w16_2 73 (by decide) (by decide)) (w16_2 74 (by decide) (by decide))
        obtain ⟨v17, e17⟩ : ∃ z, M 598 72 = z := ⟨_, rfl⟩
        have b17 : 0 ≤ v17 ∧ v17 ≤ 1600 := by rw [← e17]; exact hI_M 598 72 (by decide)
        have e18 : M16 598 72 = v17 := ((w16_2 72 (by decide) (by decide)).trans e17)
        have y19 : M16 598 72 = v17 := e18
        obtain ⟨v20, e20⟩ : ∃ z, M 598 73 = z := ⟨_, rfl⟩
        have b20 : 0 ≤ v20 ∧ v20 ≤ 1600 := by rw [← e20]; exact hI_M 598 73 (by decide)
        have e21 : M16 598 73 = v20 := ((w16_2 73 (by decide) (by decide)).trans e20)
        have y22 : M16 598 73 = v20 := e21
        obtain ⟨v23, e23⟩ : ∃ z, M 598 74 = z := ⟨_, rfl⟩
        have b23 : 0 ≤ v23 ∧ v23 ≤ 4 := by rw [← e23]; exact hI_M 598 74 (by decide)
        have e24 : M16 598 74 = v23 := ((w16_2 74 (by decide) (by decide)).trans e23)
        have y25 : M16 598 74 = v23 := e24
        obtain ⟨v26, e26⟩ : ∃ z, M 598 79 = z := ⟨_, rfl⟩
        have b26 : 0 ≤ v26 ∧ v26 ≤ 255 := by rw [← e26]; exact hI_M 598 79 (by decide)
        have e27 : M16 598 79 = v26 := ((w16_2 79 (by decide) (by decide)).trans e26)
        have y28 : M16 598 79 = v26 := e27
        obtain ⟨v29, e29⟩ : ∃ z, M16 598 80 = z := ⟨_, rfl⟩
        have b29 : 0 ≤ v29 ∧ v29 ≤ 7 := by rw [← e29]; exact hI_M16 598 80 (by decide)
        have y30 : M16 598 80 = v29 := e29
        exact jr.vreturn rfl rfl (q _ hI_M16 hH_M16 hS_M16  (by omega) (by omega) (by omega) (by omega) (by omega) (by omega) (fun a i f598 => ((w16_1 a i f598).trans rfl)) (fun i g73 g74 g75 g76 g77 g78 g79 g80 g81 => ((w16_2 i g80 g81).trans rfl)))
      · exfalso
        omega
  · refine jr.if_eq rfl rfl (by omega) (fun _ => ?_) (fun h => absurd (by decide) h)
    refine jr.aload_n rfl rfl ?_
    obtain ⟨v31, e31⟩ : ∃ z, M 598 80 = z := ⟨_, rfl⟩
    have b31 : 0 ≤ v31 ∧ v31 ≤ 7 := by rw [← e31]; exact hI_M 598 80 (by decide)
    refine jr_v rfl rfl (Or.inl rfl) rfl rfl (by decide) rfl ⟨rfl, Nat.le_of_ble_eq_true rfl, Nat.le_of_ble_eq_true rfl⟩ rfl (jc.deep (c_good hI_M  (fun t23_0 => ?_) (fun f23_0 => ?_)) (by decide))
    · exfalso
      omega
    · refine jr.if_eq rfl rfl (by omega) (fun _ => ?_) (fun h => absurd (by decide) h)
      obtain ⟨v32, e32⟩ : ∃ z, M 598 72 = z := ⟨_, rfl⟩
      have b32 : 0 ≤ v32 ∧ v32 ≤ 1600 := by rw [← e32]; exact hI_M 598 72 (by decide)
      have y33 : M 598 72 = v32 := e32
      obtain ⟨v34, e34⟩ : ∃ z, M 598 73 = z := ⟨_, rfl⟩
      have b34 : 0 ≤ v34 ∧ v34 ≤ 1600 := by rw [← e34]; exact hI_M 598 73 (by decide)
      have y35 : M 598 73 = v34 := e34
      obtain ⟨v36, e36⟩ : ∃ z, M 598 74 = z := ⟨_, rfl⟩
      have b36 : 0 ≤ v36 ∧ v36 ≤ 4 := by rw [← e36]; exact hI_M 598 74 (by decide)
      have y37 : M 598 74 = v36 := e36
      obtain ⟨v38, e38⟩ : ∃ z, M 598 79 = z := ⟨_, rfl⟩
      have b38 : 0 ≤ v38 ∧ v38 ≤ 255 := by rw [← e38]; exact hI_M 598 79 (by decide)
      have y39 : M 598 79 = v38 := e38
      have y40 : M 598 80 = v31 := e31
      exact jr.vreturn rfl rfl (q _ hI_M hH_M hS_M  (by omega) (by omega) (by omega) (by omega) (by omega) (by omega) (fun a i f598 => rfl) (fun i g73 g74 g75 g76 g77 g78 g79 g80 g81 => rfl))
