theorem c_Parser_expectName {A : Nat → Option (Nat × (Nat → Int32))} [HA A] {Q : Option Value → jm → Prop} {T : jm} {M : jm} (hC_M : CI M) (ht_M : FR W_c_Parser_expectName T M) (p0 : 1 ≤ M 413 3 ∧ M 413 3 ≤ 1) (q : ∀ (M' : jm), CI M' → FR W_c_Parser_expectName T M' → Q none M') : jc A 7 221 [.ref (413)] M Q := by
  refine jc_of (m := xm_221) rfl (Nat.le_of_ble_eq_true rfl) rfl ?_
  obtain ⟨v1, e1⟩ : ∃ z_, M 413 3 = z_ := ⟨_, rfl⟩
  have b1 : 1 ≤ v1 ∧ v1 ≤ 419 := by rw [← e1]; exact (CI.r hC_M (show kd 413 = 44 from rfl) (by decide) 3)
  have b2 : 1 ≤ v1 ∧ v1 ≤ 1 := by rw [← e1]; exact p0
  refine jr.aload_n rfl rfl ?_
  refine jr_v rfl rfl (Or.inl rfl) rfl rfl (by decide) rfl ⟨rfl, Nat.le_of_ble_eq_true rfl, Nat.le_of_ble_eq_true rfl⟩ rfl (jc.deep (c_Parser_isName hC_M  (fun r3 z3  => ?_)) (by decide))
  refine jr.if_ne rfl rfl (by omega) (fun h4 => ?_) (fun h4 => ?_)
  · have sx4 : (1 : Int) ≤ r3 := by omega
    clear h4
    refine jr.aload_n rfl rfl ?_
    refine jr_v rfl rfl (Or.inl rfl) rfl rfl (by decide) rfl ⟨rfl, Nat.le_of_ble_eq_true rfl, Nat.le_of_ble_eq_true rfl⟩ rfl (jc.deep (c_Parser_advance hC_M (FR.rfl _ M)  (by have hq0 : M 413 3 = v1 := e1; omega) (fun M4 hC_M4 hf_M4  => ?_)) (by decide))
    have ht_M4 : FR W_c_Parser_expectName T M4 := FR.t ht_M hf_M4 (kw_sub rfl)
    exact jr.vreturn rfl rfl (q _ hC_M4 ht_M4  )
  · refine jr.aload_n rfl rfl ?_
    refine jr_v rfl rfl (Or.inl rfl) rfl rfl (by decide) rfl ⟨rfl, Nat.le_of_ble_eq_true rfl, Nat.le_of_ble_eq_true rfl⟩ rfl (jc.deep (c_Parser_refuse hC_M (FR.rfl _ M)  (fun M5 hC_M5 hf_M5 w5_0 => ?_)) (by decide))
    have ht_M5 : FR W_c_Parser_expectName T M5 := FR.t ht_M hf_M5 (kw_sub rfl)
    obtain ⟨v6, e6⟩ : ∃ z_, M5 413 0 = z_ := ⟨_, rfl⟩
    have b6 : (-2147483648) ≤ v6 ∧ v6 ≤ 2147483647 := by rw [← e6]; exact (CI.r hC_M5 (show kd 413 = 44 from rfl) (by decide) 0)
    refine jr.aload_n rfl rfl ?_
    have e8 : M5 413 3 = v1 := (hf_M5.g (show kd 413 = 44 from rfl) rfl).trans e1
    refine jr_v rfl rfl (Or.inl rfl) rfl rfl (by decide) rfl ⟨rfl, Nat.le_of_ble_eq_true rfl, Nat.le_of_ble_eq_true rfl⟩ rfl (jc.deep (c_Parser_advance hC_M5 (FR.rfl _ M5)  (by have hq0 : M5 413 3 = v1 := e8; omega) (fun M7 hC_M7 hf_M7  => ?_)) (by decide))
    have ht_M7 : FR W_c_Parser_expectName T M7 := FR.t ht_M5 hf_M7 (kw_sub rfl)
    exact jr.vreturn rfl rfl (q _ hC_M7 ht_M7  )
noncomputable def W_c_Parser_open : List (Nat × Nat) := [(44, 0), (44, 1), (44, 6), (44, 7), (44, 8), (44, 9), (44, 10), (44, 11)]
theorem c_Parser_open {A : Nat → Option (Nat × (Nat → Int32))} [HA A] {Q : Option Value → jm → Prop} {T : jm} {M : jm} (hC_M : CI M) (ht_M : FR W_c_Parser_open T M) {x : Int} (h_x : 0 ≤ x ∧ x ≤ 65535) {y : Int} (h_y : 0 ≤ y ∧ y ≤ 13) (p0 : 1 ≤ M 413 3 ∧ M 413 3 ≤ 1) (q : ∀ (M' : jm), CI M' → FR W_c_Parser_open T M' → (M' 413 0 ≠ 0 ∨ y ≤ 11) → Q none M') : jc A 7 222 [.ref (413), .int (Int32.ofInt (x)), .int (Int32.ofInt (y))] M Q := by
  refine jc_of (m := xm_222) rfl (Nat.le_of_ble_eq_true rfl) rfl ?_
  obtain ⟨v1, e1⟩ : ∃ z_, M 413 3 = z_ := ⟨_, rfl⟩
  have b1 : 1 ≤ v1 ∧ v1 ≤ 419 := by rw [← e1]; exact (CI.r hC_M (show kd 413 = 44 from rfl) (by decide) 3)
  have b2 : 1 ≤ v1 ∧ v1 ≤ 1 := by rw [← e1]; exact p0
  refine jr.aload_n rfl rfl ?_
  refine jr.iload_n rfl rfl ?_
  refine jr_v rfl rfl (Or.inl rfl) rfl rfl (by decide) rfl ⟨rfl, Nat.le_of_ble_eq_true rfl, Nat.le_of_ble_eq_true rfl⟩ rfl (jc.deep (c_Parser_isSign hC_M (by omega) (fun r3 z3  => ?_)) (by decide))
  refine jr.if_ne rfl rfl (by omega) (fun h5 => ?_) (fun h5 => ?_)
  · have sx5 : (1 : Int) ≤ r3 := by omega
    clear h5
    refine jr.iload_n rfl rfl ?_
    refine jr.bipush rfl (by decide) ?_
    refine jr.icmp_lt rfl rfl (by omega) (by omega) (fun h18 => ?_) (fun h18 => ?_)
    · refine jr.aload_n rfl rfl ?_
      refine jr_v rfl rfl (Or.inl rfl) rfl rfl (by decide) rfl ⟨rfl, Nat.le_of_ble_eq_true rfl, Nat.le_of_ble_eq_true rfl⟩ rfl (jc.deep (c_Parser_advance hC_M (FR.rfl _ M)  (by have hq0 : M 413 3 = v1 := e1; omega) (fun M4 hC_M4 hf_M4  => ?_)) (by decide))
      have ht_M4 : FR W_c_Parser_open T M4 := FR.t ht_M hf_M4 (kw_sub rfl)
      obtain ⟨v5, e5⟩ : ∃ z_, M 413 0 = z_ := ⟨_, rfl⟩
      have b5 : (-2147483648) ≤ v5 ∧ v5 ≤ 2147483647 := by rw [← e5]; exact (CI.r hC_M (show kd 413 = 44 from rfl) (by decide) 0)
      have e6 : M4 413 0 = v5 := (hf_M4.g (show kd 413 = 44 from rfl) rfl).trans e5
      exact jr.vreturn rfl rfl (q _ hC_M4 ht_M4  (by have hq0 : M4 413 0 = v5 := e6; omega))
    · refine jr.aload_n rfl rfl ?_
      refine jr.iconst rfl ?_
      refine jr_v rfl rfl (Or.inl rfl) rfl rfl (by decide) rfl ⟨rfl, Nat.le_of_ble_eq_true rfl, Nat.le_of_ble_eq_true rfl⟩ rfl (jc.deep (c_Parser_fail hC_M (FR.rfl _ M) (by omega) (fun M7 hC_M7 hf_M7 w7_0 => ?_)) (by decide))
      have ht_M7 : FR W_c_Parser_open T M7 := FR.t ht_M hf_M7 (kw_sub rfl)
      obtain ⟨v8, e8⟩ : ∃ z_, M7 413 0 = z_ := ⟨_, rfl⟩
      have b8 : (-2147483648) ≤ v8 ∧ v8 ≤ 2147483647 := by rw [← e8]; exact (CI.r hC_M7 (show kd 413 = 44 from rfl) (by decide) 0)
      refine jr.aload_n rfl rfl ?_
      have e10 : M7 413 3 = v1 := (hf_M7.g (show kd 413 = 44 from rfl) rfl).trans e1
      refine jr_v rfl rfl (Or.inl rfl) rfl rfl (by decide) rfl ⟨rfl, Nat.le_of_ble_eq_true rfl, Nat.le_of_ble_eq_true rfl⟩ rfl (jc.deep (c_Parser_advance hC_M7 (FR.rfl _ M7)  (by have hq0 : M7 413 3 = v1 := e10; omega) (fun M9 hC_M9 hf_M9  => ?_)) (by decide))
      have ht_M9 : FR W_c_Parser_open T M9 := FR.t ht_M7 hf_M9 (kw_sub rfl)
      have e11 : M9 413 0 = v8 := (hf_M9.g (show kd 413 = 44 from rfl) rfl).trans e8
      exact jr.vreturn rfl rfl (q _ hC_M9 ht_M9  (by have hq0 : M9 413 0 = v8 := e11; omega))
  · refine jr.aload_n rfl rfl ?_
    refine jr_v rfl rfl (Or.inl rfl) rfl rfl (by decide) rfl ⟨rfl, Nat.le_of_ble_eq_true rfl, Nat.le_of_ble_eq_true rfl⟩ rfl (jc.deep (c_Parser_refuse hC_M (FR.rfl _ M)  (fun M12 hC_M12 hf_M12 w12_0 => ?_)) (by decide))
    have ht_M12 : FR W_c_Parser_open T M12 := FR.t ht_M hf_M12 (kw_sub rfl)
    obtain ⟨v13, e13⟩ : ∃ z_, M12 413 0 = z_ := ⟨_, rfl⟩
    have b13 : (-2147483648) ≤ v13 ∧ v13 ≤ 2147483647 := by rw [← e13]; exact (CI.r hC_M12 (show kd 413 = 44 from rfl) (by decide) 0)
    refine jr.goto rfl rfl ?_
    refine jr.aload_n rfl rfl ?_
    have e15 : M12 413 3 = v1 := (hf_M12.g (show kd 413 = 44 from rfl) rfl).trans e1
    refine jr_v rfl rfl (Or.inl rfl) rfl rfl (by decide) rfl ⟨rfl, Nat.le_of_ble_eq_true rfl, Nat.le_of_ble_eq_true rfl⟩ rfl (jc.deep (c_Parser_advance hC_M12 (FR.rfl _ M12)  (by have hq0 : M12 413 3 = v1 := e15; omega) (fun M14 hC_M14 hf_M14  => ?_)) (by decide))
    have ht_M14 : FR W_c_Parser_open T M14 := FR.t ht_M12 hf_M14 (kw_sub rfl)
    have e16 : M14 413 0 = v13 := (hf_M14.g (show kd 413 = 44 from rfl) rfl).trans e13
    exact jr.vreturn rfl rfl (q _ hC_M14 ht_M14  (by have hq0 : M14 413 0 = v13 := e16; omega))
noncomputable def W_c_Parser_kindField : List (Nat × Nat) := [(44, 0), (44, 1), (44, 6), (44, 7), (44, 8), (44, 9), (44, 10), (44, 11), (47, 2), (47, 4), (48, 1000), (51, 1000)]
