theorem r_wantDeeper {A : Nat → Option (Nat × (Nat → Int32))} {Q : Option Value → jm → Prop} {M : jm} (hI_M : RI M) (hH_M : RH M) (hS_M : RF M) {c : Int} (h_c : 0 ≤ c ∧ c ≤ 255) (p0 : M 598 73 ≤ M 598 72) (p1 : (M 598 80 = 0 → M 598 100 ≤ 12)) (q : ∀ (M' : jm), RI M' → RH M' → RF M' → (M' 598 80 = 0 → M 598 74 = 3) → M' 598 73 ≤ M' 598 72 → M 598 73 ≤ M' 598 73 → TK M' ≤ TK M → (M' 598 100 = M 598 100 + 1 ∨ (M' 598 80 ≠ 0 ∧ M' 598 100 = M 598 100)) → (M 598 80 ≠ 0 → M' 598 80 ≠ 0) → (M' 598 80 = 0 → M' 598 100 ≤ 12) → (M' 598 80 = 0 → TK M' < TK M) → ((M 598 74 = 3 → M 598 79 ≠ 10 ∧ M 598 79 ≠ 11) → (M' 598 74 = 3 → M' 598 79 ≠ 10 ∧ M' 598 79 ≠ 11)) → (∀ (a : Nat) (i : Int), a ≠ 598 → M' a i = M a i) → (∀ (i : Int), i ≠ 73 → i ≠ 74 → i ≠ 75 → i ≠ 76 → i ≠ 77 → i ≠ 78 → i ≠ 79 → i ≠ 80 → i ≠ 81 → i ≠ 100 → M' 598 i = M 598 i) → Q none M') : jc A 4 353 [.ref (598), .int (Int32.ofInt (c))] M Q := by
  refine jc_of (m := xm_353) rfl (Nat.le_of_ble_eq_true rfl) rfl ?_
  refine jr.aload_n rfl rfl ?_
  refine jr_v rfl rfl (Or.inl rfl) rfl rfl (by decide) rfl ⟨rfl, Nat.le_of_ble_eq_true rfl, Nat.le_of_ble_eq_true rfl⟩ rfl (jc.deep (c_good hI_M  (fun t1_0 => ?_) (fun f1_0 => ?_)) (by decide))
  · refine jr.if_eq rfl rfl (by omega) (fun h => absurd h (by decide)) (fun _ => ?_)
    refine jr.aload_n rfl rfl ?_
    refine jr.iload_n rfl rfl ?_
    refine jr_v rfl rfl (Or.inl rfl) rfl rfl (by decide) rfl ⟨rfl, Nat.le_of_ble_eq_true rfl, Nat.le_of_ble_eq_true rfl⟩ rfl (jc.deep (c_isSign hI_M (by omega) (fun t9_0 t9_1 => ?_) (fun f9_0 => ?_)) (by decide))
    · refine jr.if_eq rfl rfl (by omega) (fun h => absurd h (by decide)) (fun _ => ?_)
      refine jr.aload_n rfl rfl ?_
      obtain ⟨v2, e2⟩ : ∃ z, M 598 73 = z := ⟨_, rfl⟩
      have b2 : 0 ≤ v2 ∧ v2 ≤ 1600 := by rw [← e2]; exact hI_M 598 73 (by decide)
      obtain ⟨v3, e3⟩ : ∃ z, M 598 72 = z := ⟨_, rfl⟩
      have b3 : 0 ≤ v3 ∧ v3 ≤ 1600 := by rw [← e3]; exact hI_M 598 72 (by decide)
      obtain ⟨v4, e4⟩ : ∃ z, M 598 100 = z := ⟨_, rfl⟩
      have b4 : 0 ≤ v4 ∧ v4 ≤ 13 := by rw [← e4]; exact hI_M 598 100 (by decide)
      refine jr_v rfl rfl (Or.inl rfl) rfl rfl (by decide) rfl ⟨rfl, Nat.le_of_ble_eq_true rfl, Nat.le_of_ble_eq_true rfl⟩ rfl (jc.deep (r_deeper hI_M hH_M hS_M   (by rw [e2, e3]; omega) (by rw [e4]; omega) (fun M1 hI_M1 hH_M1 hS_M1  w1_0 w1_1 w1_2 w1_3 w1_4 w1_5 w1_6 w1_7 w1_8 w1_9 => ?_)) (by decide))
      refine jr.goto rfl rfl ?_
      have e5 : M1 598 72 = v3 := ((w1_9 72 (by decide) (by decide) (by decide) (by decide) (by decide) (by decide) (by decide) (by decide) (by decide) (by decide)).trans e3)
      have y6 : M1 598 72 = v3 := e5
      obtain ⟨v7, e7⟩ : ∃ z, M1 598 73 = z := ⟨_, rfl⟩
      have b7 : 0 ≤ v7 ∧ v7 ≤ 1600 := by rw [← e7]; exact hI_M1 598 73 (by decide)
      have y8 : M1 598 73 = v7 := e7
      obtain ⟨v9, e9⟩ : ∃ z, M1 598 74 = z := ⟨_, rfl⟩
      have b9 : 0 ≤ v9 ∧ v9 ≤ 4 := by rw [← e9]; exact hI_M1 598 74 (by decide)
      have y10 : M1 598 74 = v9 := e9
      obtain ⟨v11, e11⟩ : ∃ z, M1 598 79 = z := ⟨_, rfl⟩
      have b11 : 0 ≤ v11 ∧ v11 ≤ 255 := by rw [← e11]; exact hI_M1 598 79 (by decide)
      have y12 : M1 598 79 = v11 := e11
      obtain ⟨v13, e13⟩ : ∃ z, M1 598 80 = z := ⟨_, rfl⟩
      have b13 : 0 ≤ v13 ∧ v13 ≤ 7 := by rw [← e13]; exact hI_M1 598 80 (by decide)
      have y14 : M1 598 80 = v13 := e13
      obtain ⟨v15, e15⟩ : ∃ z, M1 598 100 = z := ⟨_, rfl⟩
      have b15 : 0 ≤ v15 ∧ v15 ≤ 13 := by rw [← e15]; exact hI_M1 598 100 (by decide)
      have y16 : M1 598 100 = v15 := e15
      exact jr.vreturn rfl rfl (q _ hI_M1 hH_M1 hS_M1  (by omega) (by omega) (by omega) (by omega) (by omega) (by omega) (by omega) (by omega) (by omega) (fun a i f598 => ((w1_8 a i f598).trans rfl)) (fun i g73 g74 g75 g76 g77 g78 g79 g80 g81 g100 => ((w1_9 i g73 g74 g75 g76 g77 g78 g79 g80 g81 g100).trans rfl)))
    · refine jr.if_eq rfl rfl (by omega) (fun _ => ?_) (fun h => absurd (by decide) h)
      refine jr.aload_n rfl rfl ?_
      obtain ⟨v17, e17⟩ : ∃ z, M 598 80 = z := ⟨_, rfl⟩
      have b17 : 0 ≤ v17 ∧ v17 ≤ 7 := by rw [← e17]; exact hI_M 598 80 (by decide)
      refine jr_v rfl rfl (Or.inl rfl) rfl rfl (by decide) rfl ⟨rfl, Nat.le_of_ble_eq_true rfl, Nat.le_of_ble_eq_true rfl⟩ rfl (jc.deep (c_good hI_M  (fun t23_0 => ?_) (fun f23_0 => ?_)) (by decide))
      · refine jr.if_eq rfl rfl (by omega) (fun h => absurd h (by decide)) (fun _ => ?_)
        refine jr.aload_n rfl rfl ?_
        refine jr_v rfl rfl (Or.inl rfl) rfl rfl (by decide) rfl ⟨rfl, Nat.le_of_ble_eq_true rfl, Nat.le_of_ble_eq_true rfl⟩ rfl (jc.deep (r_wrongToken hI_M hH_M hS_M    (fun M18 hI_M18 hH_M18 hS_M18  w18_0 w18_1 w18_2 => ?_)) (by decide))
        have tk18 : TK M18 = TK M := TK.fr (w18_2 73 (by decide) (by decide)) (w18_2 74 (by decide) (by decide))
        obtain ⟨v19, e19⟩ : ∃ z, M 598 72 = z := ⟨_, rfl⟩
        have b19 : 0 ≤ v19 ∧ v19 ≤ 1600 := by rw [← e19]; exact hI_M 598 72 (by decide)
        have e20 : M18 598 72 = v19 := ((w18_2 72 (by decide) (by decide)).trans e19)
        have y21 : M18 598 72 = v19 := e20
        obtain ⟨v22, e22⟩ : ∃ z, M 598 73 = z := ⟨_, rfl⟩
        have b22 : 0 ≤ v22 ∧ v22 ≤ 1600 := by rw [← e22]; exact hI_M 598 73 (by decide)
        have e23 : M18 598 73 = v22 := ((w18_2 73 (by decide) (by decide)).trans e22)
        have y24 : M18 598 73 = v22 := e23
        obtain ⟨v25, e25⟩ : ∃ z, M 598 74 = z := ⟨_, rfl⟩
        have b25 : 0 ≤ v25 ∧ v25 ≤ 4 := by rw [← e25]; exact hI_M 598 74 (by decide)
        have e26 : M18 598 74 = v25 := ((w18_2 74 (by decide) (by decide)).trans e25)
        have y27 : M18 598 74 = v25 := e26
        obtain ⟨v28, e28⟩ : ∃ z, M 598 79 = z := ⟨_, rfl⟩
        have b28 : 0 ≤ v28 ∧ v28 ≤ 255 := by rw [← e28]; exact hI_M 598 79 (by decide)
        have e29 : M18 598 79 = v28 := ((w18_2 79 (by decide) (by decide)).trans e28)
        have y30 : M18 598 79 = v28 := e29
        obtain ⟨v31, e31⟩ : ∃ z, M18 598 80 = z := ⟨_, rfl⟩
        have b31 : 0 ≤ v31 ∧ v31 ≤ 7 := by rw [← e31]; exact hI_M18 598 80 (by decide)
        have y32 : M18 598 80 = v31 := e31
        obtain ⟨v33, e33⟩ : ∃ z, M 598 100 = z := ⟨_, rfl⟩
        have b33 : 0 ≤ v33 ∧ v33 ≤ 13 := by rw [← e33]; exact hI_M 598 100 (by decide)
        have e34 : M18 598 100 = v33 := ((w18_2 100 (by decide) (by decide)).trans e33)
        have y35 : M18 598 100 = v33 := e34
        exact jr.vreturn rfl rfl (q _ hI_M18 hH_M18 hS_M18  (by omega) (by omega) (by omega) (by omega) (by omega) (by omega) (by omega) (by omega) (by omega) (fun a i f598 => ((w18_1 a i f598).trans rfl)) (fun i g73 g74 g75 g76 g77 g78 g79 g80 g81 g100 => ((w18_2 i g80 g81).trans rfl)))
      · exfalso
        omega
  · refine jr.if_eq rfl rfl (by omega) (fun _ => ?_) (fun h => absurd (by decide) h)
    refine jr.aload_n rfl rfl ?_
    obtain ⟨v36, e36⟩ : ∃ z, M 598 80 = z := ⟨_, rfl⟩
    have b36 : 0 ≤ v36 ∧ v36 ≤ 7 := by rw [← e36]; exact hI_M 598 80 (by decide)
    refine jr_v rfl rfl (Or.inl rfl) rfl rfl (by decide) rfl ⟨rfl, Nat.le_of_ble_eq_true rfl, Nat.le_of_ble_eq_true rfl⟩ rfl (jc.deep (c_good hI_M  (fun t23_0 => ?_) (fun f23_0 => ?_)) (by decide))
    · exfalso
      omega
    · refine jr.if_eq rfl rfl (by omega) (fun _ => ?_) (fun h => absurd (by decide) h)
      obtain ⟨v37, e37⟩ : ∃ z, M 598 72 = z := ⟨_, rfl⟩
      have b37 : 0 ≤ v37 ∧ v37 ≤ 1600 := by rw [← e37]; exact hI_M 598 72 (by decide)
      have y38 : M 598 72 = v37 := e37
      obtain ⟨v39, e39⟩ : ∃ z, M 598 73 = z := ⟨_, rfl⟩
      have b39 : 0 ≤ v39 ∧ v39 ≤ 1600 := by rw [← e39]; exact hI_M 598 73 (by decide)
      have y40 : M 598 73 = v39 := e39
      obtain ⟨v41, e41⟩ : ∃ z, M 598 74 = z := ⟨_, rfl⟩
      have b41 : 0 ≤ v41 ∧ v41 ≤ 4 := by rw [← e41]; exact hI_M 598 74 (by decide)
      have y42 : M 598 74 = v41 := e41
      obtain ⟨v43, e43⟩ : ∃ z, M 598 79 = z := ⟨_, rfl⟩
      have b43 : 0 ≤ v43 ∧ v43 ≤ 255 := by rw [← e43]; exact hI_M 598 79 (by decide)
      have y44 : M 598 79 = v43 := e43
      have y45 : M 598 80 = v36 := e36
      obtain ⟨v46, e46⟩ : ∃ z, M 598 100 = z := ⟨_, rfl⟩
      have b46 : 0 ≤ v46 ∧ v46 ≤ 13 := by rw [← e46]; exact hI_M 598 100 (by decide)
      have y47 : M 598 100 = v46 := e46
      exact jr.vreturn rfl rfl (q _ hI_M hH_M hS_M  (by omega) (by omega) (by omega) (by omega) (by omega) (by omega) (by omega) (by omega) (by omega) (fun a i f598 => rfl) (fun i g73 g74 g75 g76 g77 g78 g79 g80 g81 g100 => rfl))
