theorem c_Parser_refuse {A : Nat → Option (Nat × (Nat → Int32))} [HA A] {Q : Option Value → jm → Prop} {T : jm} {M : jm} (hC_M : CI M) (ht_M : FR W_c_Parser_refuse T M) (q : ∀ (M' : jm), CI M' → FR W_c_Parser_refuse T M' → (M' 413 0 ≠ 0) → Q none M') : jc A 2 224 [.ref (413)] M Q := by
  refine jc_of (m := xm_224) rfl (Nat.le_of_ble_eq_true rfl) rfl ?_
  refine jr.aload_n rfl rfl ?_
  refine jr.aload_n rfl rfl ?_
  obtain ⟨v1, e1⟩ : ∃ z_, M 413 6 = z_ := ⟨_, rfl⟩
  have b1 : (-2147483648) ≤ v1 ∧ v1 ≤ 2147483647 := by rw [← e1]; exact (CI.r hC_M (show kd 413 = 44 from rfl) (by decide) 6)
  refine jr.getf (i := 6) (x := v1) (v := .int (Int32.ofInt (v1))) rfl rfl (by decide) rfl (by decide) rfl rfl e1 rfl ?_
  refine jr.iconst rfl ?_
  refine jr.icmp_ne rfl rfl (by omega) (by omega) (fun h6 => ?_) (fun h6 => ?_)
  · refine jr.iconst rfl ?_
    refine jr_v rfl rfl (Or.inl rfl) rfl rfl (by decide) rfl ⟨rfl, Nat.le_of_ble_eq_true rfl, Nat.le_of_ble_eq_true rfl⟩ rfl (jc.deep (c_Parser_fail hC_M (FR.rfl _ M) (by omega) (fun M2 hC_M2 hf_M2 w2_0 => ?_)) (by decide))
    have ht_M2 : FR W_c_Parser_refuse T M2 := FR.t ht_M hf_M2 (kw_sub rfl)
    obtain ⟨v3, e3⟩ : ∃ z_, M2 413 0 = z_ := ⟨_, rfl⟩
    have b3 : (-2147483648) ≤ v3 ∧ v3 ≤ 2147483647 := by rw [← e3]; exact (CI.r hC_M2 (show kd 413 = 44 from rfl) (by decide) 0)
    exact jr.vreturn rfl rfl (q _ hC_M2 ht_M2  (by have hq0 : M2 413 0 = v3 := e3; omega))
  · refine jr.iconst rfl ?_
    refine jr.goto rfl rfl ?_
    refine jr_v rfl rfl (Or.inl rfl) rfl rfl (by decide) rfl ⟨rfl, Nat.le_of_ble_eq_true rfl, Nat.le_of_ble_eq_true rfl⟩ rfl (jc.deep (c_Parser_fail hC_M (FR.rfl _ M) (by omega) (fun M4 hC_M4 hf_M4 w4_0 => ?_)) (by decide))
    have ht_M4 : FR W_c_Parser_refuse T M4 := FR.t ht_M hf_M4 (kw_sub rfl)
    obtain ⟨v5, e5⟩ : ∃ z_, M4 413 0 = z_ := ⟨_, rfl⟩
    have b5 : (-2147483648) ≤ v5 ∧ v5 ≤ 2147483647 := by rw [← e5]; exact (CI.r hC_M4 (show kd 413 = 44 from rfl) (by decide) 0)
    exact jr.vreturn rfl rfl (q _ hC_M4 ht_M4  (by have hq0 : M4 413 0 = v5 := e5; omega))
noncomputable def W_c_Parser_countNode : List (Nat × Nat) := [(44, 0), (44, 1), (47, 4)]
theorem c_Parser_countNode {A : Nat → Option (Nat × (Nat → Int32))} [HA A] {Q : Option Value → jm → Prop} {G : Nat → Int → Int} {T : jm} {M : jm} (hC_M : CI M) (ht_M : FR W_c_Parser_countNode T M) (p0 : MP M G) (q : ∀ (M' : jm), CI M' → FR W_c_Parser_countNode T M' → (MP M' G) → Q none M') : jc A 2 223 [.ref (413)] M Q := by
  refine jc_of (m := xm_223) rfl (Nat.le_of_ble_eq_true rfl) rfl ?_
  refine jr.aload_n rfl rfl ?_
  obtain ⟨v1, e1⟩ : ∃ z_, M 413 2 = z_ := ⟨_, rfl⟩
  have b1 : 0 ≤ v1 ∧ v1 ≤ 597 := by rw [← e1]; exact (CI.r hC_M (show kd 413 = 44 from rfl) (by decide) 2)
  have k2 : kd (v1).toNat = 47 := ((congrArg (fun z : Int => kd z.toNat) (show M 413 2 = v1 from e1)).symm.trans (CI.x hC_M (show kd 413 = 44 from rfl) 2 rfl (by decide)))
  refine jr.getf (i := 2) (x := v1) (v := .ref (v1.toNat)) rfl rfl (by decide) rfl (by decide) rfl rfl e1 rfl ?_
  obtain ⟨v3, e3⟩ : ∃ z_, M ((v1.toNat)) 4 = z_ := ⟨_, rfl⟩
  have b3 : (-2147483648) ≤ v3 ∧ v3 ≤ 2147483647 := by rw [← e3]; exact (CI.r hC_M k2 (by decide) 4)
  refine jr.getf (i := 4) (x := v3) (v := .int (Int32.ofInt (v3))) rfl rfl (Nat.lt_trans (kx_47 k2).1 (by decide)) (kx_47 k2).2 (by decide) rfl rfl e3 rfl ?_
  refine jr.sipush rfl (by decide) ?_
  refine jr.icmp_lt rfl rfl (by omega) (by omega) (fun h10 => ?_) (fun h10 => ?_)
  · refine jr.aload_n rfl rfl ?_
    have k4 : kd (v1).toNat = 47 := ((congrArg (fun z : Int => kd z.toNat) (show M 413 2 = v1 from e1)).symm.trans (CI.x hC_M (show kd 413 = 44 from rfl) 2 rfl (by decide)))
    refine jr.getf (i := 2) (x := v1) (v := .ref (v1.toNat)) rfl rfl (by decide) rfl (by decide) rfl rfl e1 rfl ?_
    refine jr.dup rfl rfl ?_
    refine jr.getf (i := 4) (x := v3) (v := .int (Int32.ofInt (v3))) rfl rfl (Nat.lt_trans (kx_47 k4).1 (by decide)) (kx_47 k4).2 (by decide) rfl rfl e3 rfl ?_
    refine jr.iconst rfl ?_
    refine jr.iadd rfl ?_
    refine jr.putf (i := 4) (x := (v3 + 1)) rfl rfl (Nat.lt_trans (kx_47 k4).1 (by decide)) (kx_47 k4).2 (by decide) rfl rfl rfl rfl rfl ?_
    exact jr.vreturn rfl rfl (q _ (CI.u hC_M (i := 4) k4 (show (-2147483648 : Int) ≤ _ ∧ _ ≤ (2147483647 : Int) from by omega) rfl) (FR.o ht_M k4 rfl)  (MP.w p0 hC_M e1 ⟨by omega, by omega⟩))
  · refine jr.aload_n rfl rfl ?_
    refine jr.iconst rfl ?_
    refine jr_v rfl rfl (Or.inl rfl) rfl rfl (by decide) rfl ⟨rfl, Nat.le_of_ble_eq_true rfl, Nat.le_of_ble_eq_true rfl⟩ rfl (jc.deep (c_Parser_fail hC_M (FR.rfl _ M) (by omega) (fun M5 hC_M5 hf_M5 w5_0 => ?_)) (by decide))
    have ht_M5 : FR W_c_Parser_countNode T M5 := FR.t ht_M hf_M5 (kw_sub rfl)
    obtain ⟨v6, e6⟩ : ∃ z_, M5 413 0 = z_ := ⟨_, rfl⟩
    have b6 : (-2147483648) ≤ v6 ∧ v6 ≤ 2147483647 := by rw [← e6]; exact (CI.r hC_M5 (show kd 413 = 44 from rfl) (by decide) 0)
    exact jr.vreturn rfl rfl (q _ hC_M5 ht_M5  (MP.fr p0 hC_M hf_M5 rfl))
noncomputable def W_c_Parser_expect : List (Nat × Nat) := [(44, 0), (44, 1), (44, 6), (44, 7), (44, 8), (44, 9), (44, 10), (44, 11)]
theorem c_Parser_expect {A : Nat → Option (Nat × (Nat → Int32))} [HA A] {Q : Option Value → jm → Prop} {T : jm} {M : jm} (hC_M : CI M) (ht_M : FR W_c_Parser_expect T M) {x : Int} (h_x : 0 ≤ x ∧ x ≤ 65535) (p0 : 1 ≤ M 413 3 ∧ M 413 3 ≤ 1) (q : ∀ (M' : jm), CI M' → FR W_c_Parser_expect T M' → Q none M') : jc A 7 220 [.ref (413), .int (Int32.ofInt (x))] M Q := by
  refine jc_of (m := xm_220) rfl (Nat.le_of_ble_eq_true rfl) rfl ?_
  obtain ⟨v1, e1⟩ : ∃ z_, M 413 3 = z_ := ⟨_, rfl⟩
  have b1 : 1 ≤ v1 ∧ v1 ≤ 419 := by rw [← e1]; exact (CI.r hC_M (show kd 413 = 44 from rfl) (by decide) 3)
  have b2 : 1 ≤ v1 ∧ v1 ≤ 1 := by rw [← e1]; exact p0
  refine jr.aload_n rfl rfl ?_
  refine jr.iload_n rfl rfl ?_
  refine jr_v rfl rfl (Or.inl rfl) rfl rfl (by decide) rfl ⟨rfl, Nat.le_of_ble_eq_true rfl, Nat.le_of_ble_eq_true rfl⟩ rfl (jc.deep (c_Parser_isSign hC_M (by omega) (fun r3 z3  => ?_)) (by decide))
  refine jr.if_ne rfl rfl (by omega) (fun h5 => ?_) (fun h5 => ?_)
  · have sx5 : (1 : Int) ≤ r3 := by omega
    clear h5
    refine jr.aload_n rfl rfl ?_
    refine jr_v rfl rfl (Or.inl rfl) rfl rfl (by decide) rfl ⟨rfl, Nat.le_of_ble_eq_true rfl, Nat.le_of_ble_eq_true rfl⟩ rfl (jc.deep (c_Parser_advance hC_M (FR.rfl _ M)  (by have hq0 : M 413 3 = v1 := e1; omega) (fun M4 hC_M4 hf_M4  => ?_)) (by decide))
    have ht_M4 : FR W_c_Parser_expect T M4 := FR.t ht_M hf_M4 (kw_sub rfl)
    exact jr.vreturn rfl rfl (q _ hC_M4 ht_M4  )
  · refine jr.aload_n rfl rfl ?_
    refine jr_v rfl rfl (Or.inl rfl) rfl rfl (by decide) rfl ⟨rfl, Nat.le_of_ble_eq_true rfl, Nat.le_of_ble_eq_true rfl⟩ rfl (jc.deep (c_Parser_refuse hC_M (FR.rfl _ M)  (fun M5 hC_M5 hf_M5 w5_0 => ?_)) (by decide))
    have ht_M5 : FR W_c_Parser_expect T M5 := FR.t ht_M hf_M5 (kw_sub rfl)
    obtain ⟨v6, e6⟩ : ∃ z_, M5 413 0 = z_ := ⟨_, rfl⟩
    have b6 : (-2147483648) ≤ v6 ∧ v6 ≤ 2147483647 := by rw [← e6]; exact (CI.r hC_M5 (show kd 413 = 44 from rfl) (by decide) 0)
    refine jr.aload_n rfl rfl ?_
    have e8 : M5 413 3 = v1 := (hf_M5.g (show kd 413 = 44 from rfl) rfl).trans e1
    refine jr_v rfl rfl (Or.inl rfl) rfl rfl (by decide) rfl ⟨rfl, Nat.le_of_ble_eq_true rfl, Nat.le_of_ble_eq_true rfl⟩ rfl (jc.deep (c_Parser_advance hC_M5 (FR.rfl _ M5)  (by have hq0 : M5 413 3 = v1 := e8; omega) (fun M7 hC_M7 hf_M7  => ?_)) (by decide))
    have ht_M7 : FR W_c_Parser_expect T M7 := FR.t ht_M5 hf_M7 (kw_sub rfl)
    exact jr.vreturn rfl rfl (q _ hC_M7 ht_M7  )
noncomputable def W_c_Parser_expectName : List (Nat × Nat) := [(44, 0), (44, 1), (44, 6), (44, 7), (44, 8), (44, 9), (44, 10), (44, 11)]
