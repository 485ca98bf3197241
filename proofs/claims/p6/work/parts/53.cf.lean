/-! ===== the class's methods ===== -/
def W_c_Machine_ask : List (Nat × Nat) := [(22, 4), (22, 9), (24, 1000), (26, 1000), (28, 1000)]
theorem c_Machine_ask {A : Nat → Option (Nat × (Nat → Int32))} {Q : Option Value → jm → Prop} {T : jm} {M : jm} (hC_M : CI M) (ht_M : FR W_c_Machine_ask T M) {x : Int} (h_x : (-2147483648) ≤ x ∧ x ≤ 2147483647) (q : ∀ (M' : jm), CI M' → FR W_c_Machine_ask T M' → Q none M') : jc A 5 159 [.ref (421), .int (Int32.ofInt (x))] M Q := by
  refine jc_of (m := xm_159) rfl (Nat.le_of_ble_eq_true rfl) rfl ?_
  refine jr.iload_n rfl rfl ?_
  refine jr.bipush rfl (by decide) ?_
  refine jr.icmp_ne rfl rfl (by omega) (by omega) (fun h3 => ?_) (fun h3 => ?_)
  · refine jr.lconst (x := 0) rfl (by decide) ?_
    refine jr.lstore_n rfl (by decide) rfl ?_
    refine jr.iload_n rfl rfl ?_
    refine jr.bipush rfl (by decide) ?_
    refine jr.icmp_lt rfl rfl (by omega) (by omega) (fun h18 => ?_) (fun h18 => ?_)
    · refine jr.lconst (x := 0) rfl (by decide) ?_
      refine jr.lstore rfl (by decide) rfl ?_
      refine jr.aload_n rfl rfl ?_
      refine jr_v rfl rfl (Or.inl rfl) rfl rfl (by decide) rfl ⟨rfl, Nat.le_of_ble_eq_true rfl, Nat.le_of_ble_eq_true rfl⟩ rfl (jc.deep (c_Machine_pop hC_M (FR.rfl _ M)  (fun r1 M1 hC_M1 hf_M1 z1  => ?_)) (by decide))
      have ht_M1 : FR W_c_Machine_ask T M1 := FR.t ht_M hf_M1 (kw_sub rfl)
      refine jr.lstore rfl (by decide) rfl ?_
      refine jr.iload_n rfl rfl ?_
      rcases (show x = 25 ∨ x = 26 ∨ x = 27 ∨ (x ≠ 25 ∧ x ≠ 26 ∧ x ≠ 27 ∧ x ≠ 28 ∧ x ≠ 29) by omega) with h38 | h38 | h38 | h38
      · refine jr.tsw_k 25 rfl h38 rfl ?_
        refine jr.aload_n rfl rfl ?_
        refine jr.lload rfl rfl ?_
        refine jr_v rfl rfl (Or.inl rfl) rfl rfl (by decide) rfl ⟨rfl, Nat.le_of_ble_eq_true rfl, Nat.le_of_ble_eq_true rfl⟩ rfl (jc.deep (c_Machine_askByte hC_M1 (FR.rfl _ M1) (by omega) (fun M2 hC_M2 hf_M2  => ?_)) (by decide))
        have ht_M2 : FR W_c_Machine_ask T M2 := FR.t ht_M1 hf_M2 (kw_sub rfl)
        exact jr.vreturn rfl rfl (q _ hC_M2 ht_M2  )
      · refine jr.tsw_k 26 rfl h38 rfl ?_
        refine jr.aload_n rfl rfl ?_
        refine jr.lload rfl rfl ?_
        refine jr_v rfl rfl (Or.inl rfl) rfl rfl (by decide) rfl ⟨rfl, Nat.le_of_ble_eq_true rfl, Nat.le_of_ble_eq_true rfl⟩ rfl (jc.deep (c_Machine_spend hC_M1 (FR.rfl _ M1) (by omega) (fun M3 hC_M3 hf_M3  => ?_)) (by decide))
        have ht_M3 : FR W_c_Machine_ask T M3 := FR.t ht_M1 hf_M3 (kw_sub rfl)
        exact jr.vreturn rfl rfl (q _ hC_M3 ht_M3  )
      · refine jr.tsw_k 27 rfl h38 rfl ?_
        refine jr.aload_n rfl rfl ?_
        refine jr.lload rfl rfl ?_
        refine jr_v rfl rfl (Or.inl rfl) rfl rfl (by decide) rfl ⟨rfl, Nat.le_of_ble_eq_true rfl, Nat.le_of_ble_eq_true rfl⟩ rfl (jc.deep (c_Machine_askLong hC_M1 (FR.rfl _ M1) (by omega) (fun M4 hC_M4 hf_M4  => ?_)) (by decide))
        have ht_M4 : FR W_c_Machine_ask T M4 := FR.t ht_M1 hf_M4 (kw_sub rfl)
        exact jr.vreturn rfl rfl (q _ hC_M4 ht_M4  )
      · refine jr.tsw_d rfl (by omega) (by omega) rfl ?_
        refine jr.aload_n rfl rfl ?_
        refine jr.lload rfl rfl ?_
        refine jr.lload rfl rfl ?_
        refine jr.lload_n rfl rfl ?_
        refine jr_v rfl rfl (Or.inl rfl) rfl rfl (by decide) rfl ⟨rfl, Nat.le_of_ble_eq_true rfl, Nat.le_of_ble_eq_true rfl⟩ rfl (jc.deep (c_Machine_askHead hC_M1 (FR.rfl _ M1) (by omega) (by omega) (by omega) (fun M5 hC_M5 hf_M5  => ?_)) (by decide))
        have ht_M5 : FR W_c_Machine_ask T M5 := FR.t ht_M1 hf_M5 (kw_sub rfl)
        exact jr.vreturn rfl rfl (q _ hC_M5 ht_M5  )
    · refine jr.aload_n rfl rfl ?_
      refine jr_v rfl rfl (Or.inl rfl) rfl rfl (by decide) rfl ⟨rfl, Nat.le_of_ble_eq_true rfl, Nat.le_of_ble_eq_true rfl⟩ rfl (jc.deep (c_Machine_pop hC_M (FR.rfl _ M)  (fun r6 M6 hC_M6 hf_M6 z6  => ?_)) (by decide))
      have ht_M6 : FR W_c_Machine_ask T M6 := FR.t ht_M hf_M6 (kw_sub rfl)
      refine jr.goto rfl rfl ?_
      refine jr.lstore rfl (by decide) rfl ?_
      refine jr.aload_n rfl rfl ?_
      refine jr_v rfl rfl (Or.inl rfl) rfl rfl (by decide) rfl ⟨rfl, Nat.le_of_ble_eq_true rfl, Nat.le_of_ble_eq_true rfl⟩ rfl (jc.deep (c_Machine_pop hC_M6 (FR.rfl _ M6)  (fun r7 M7 hC_M7 hf_M7 z7  => ?_)) (by decide))
      have ht_M7 : FR W_c_Machine_ask T M7 := FR.t ht_M6 hf_M7 (kw_sub rfl)
      refine jr.lstore rfl (by decide) rfl ?_
      refine jr.iload_n rfl rfl ?_
      rcases (show x = 28 ∨ x = 29 ∨ (x ≠ 25 ∧ x ≠ 26 ∧ x ≠ 27 ∧ x ≠ 28 ∧ x ≠ 29) by omega) with h38 | h38 | h38
      · refine jr.tsw_k 28 rfl h38 rfl ?_
        refine jr.aload_n rfl rfl ?_
        refine jr.lload rfl rfl ?_
        refine jr.lload rfl rfl ?_
        refine jr_v rfl rfl (Or.inl rfl) rfl rfl (by decide) rfl ⟨rfl, Nat.le_of_ble_eq_true rfl, Nat.le_of_ble_eq_true rfl⟩ rfl (jc.deep (c_Machine_askSet hC_M7 (FR.rfl _ M7) (by omega) (by omega) (fun M8 hC_M8 hf_M8  => ?_)) (by decide))
        have ht_M8 : FR W_c_Machine_ask T M8 := FR.t ht_M7 hf_M8 (kw_sub rfl)
        exact jr.vreturn rfl rfl (q _ hC_M8 ht_M8  )
      · refine jr.tsw_k 29 rfl h38 rfl ?_
        refine jr.aload_n rfl rfl ?_
        refine jr.lload rfl rfl ?_
        refine jr.lload rfl rfl ?_
        refine jr_v rfl rfl (Or.inl rfl) rfl rfl (by decide) rfl ⟨rfl, Nat.le_of_ble_eq_true rfl, Nat.le_of_ble_eq_true rfl⟩ rfl (jc.deep (c_Machine_askRow hC_M7 (FR.rfl _ M7) (by omega) (by omega) (fun M9 hC_M9 hf_M9  => ?_)) (by decide))
        have ht_M9 : FR W_c_Machine_ask T M9 := FR.t ht_M7 hf_M9 (kw_sub rfl)
        exact jr.vreturn rfl rfl (q _ hC_M9 ht_M9  )
      · refine jr.tsw_d rfl (by omega) (by omega) rfl ?_
        refine jr.aload_n rfl rfl ?_
        refine jr.lload rfl rfl ?_
        refine jr.lload rfl rfl ?_
        refine jr.lload_n rfl rfl ?_
        refine jr_v rfl rfl (Or.inl rfl) rfl rfl (by decide) rfl ⟨rfl, Nat.le_of_ble_eq_true rfl, Nat.le_of_ble_eq_true rfl⟩ rfl (jc.deep (c_Machine_askHead hC_M7 (FR.rfl _ M7) (by omega) (by omega) (by omega) (fun M10 hC_M10 hf_M10  => ?_)) (by decide))
        have ht_M10 : FR W_c_Machine_ask T M10 := FR.t ht_M7 hf_M10 (kw_sub rfl)
        exact jr.vreturn rfl rfl (q _ hC_M10 ht_M10  )
  · refine jr.aload_n rfl rfl ?_
    refine jr_v rfl rfl (Or.inl rfl) rfl rfl (by decide) rfl ⟨rfl, Nat.le_of_ble_eq_true rfl, Nat.le_of_ble_eq_true rfl⟩ rfl (jc.deep (c_Machine_pop hC_M (FR.rfl _ M)  (fun r11 M11 hC_M11 hf_M11 z11  => ?_)) (by decide))
    have ht_M11 : FR W_c_Machine_ask T M11 := FR.t ht_M hf_M11 (kw_sub rfl)
    refine jr.goto rfl rfl ?_
    refine jr.lstore_n rfl (by decide) rfl ?_
    refine jr.iload_n rfl rfl ?_
    refine jr.bipush rfl (by decide) ?_
    refine jr.icmp_lt rfl rfl (by omega) (by omega) (fun h18 => ?_) (fun h18 => ?_)
    · exact absurd h18 (by omega)
    · refine jr.aload_n rfl rfl ?_
      refine jr_v rfl rfl (Or.inl rfl) rfl rfl (by decide) rfl ⟨rfl, Nat.le_of_ble_eq_true rfl, Nat.le_of_ble_eq_true rfl⟩ rfl (jc.deep (c_Machine_pop hC_M11 (FR.rfl _ M11)  (fun r12 M12 hC_M12 hf_M12 z12  => ?_)) (by decide))
      have ht_M12 : FR W_c_Machine_ask T M12 := FR.t ht_M11 hf_M12 (kw_sub rfl)
      refine jr.goto rfl rfl ?_
      refine jr.lstore rfl (by decide) rfl ?_
      refine jr.aload_n rfl rfl ?_
      refine jr_v rfl rfl (Or.inl rfl) rfl rfl (by decide) rfl ⟨rfl, Nat.le_of_ble_eq_true rfl, Nat.le_of_ble_eq_true rfl⟩ rfl (jc.deep (c_Machine_pop hC_M12 (FR.rfl _ M12)  (fun r13 M13 hC_M13 hf_M13 z13  => ?_)) (by decide))
      have ht_M13 : FR W_c_Machine_ask T M13 := FR.t ht_M12 hf_M13 (kw_sub rfl)
      refine jr.lstore rfl (by decide) rfl ?_
      refine jr.iload_n rfl rfl ?_
      rcases (show (x ≠ 25 ∧ x ≠ 26 ∧ x ≠ 27 ∧ x ≠ 28 ∧ x ≠ 29) by omega) with h38
      · refine jr.tsw_d rfl (by omega) (by omega) rfl ?_
        refine jr.aload_n rfl rfl ?_
        refine jr.lload rfl rfl ?_
        refine jr.lload rfl rfl ?_
        refine jr.lload_n rfl rfl ?_
        refine jr_v rfl rfl (Or.inl rfl) rfl rfl (by decide) rfl ⟨rfl, Nat.le_of_ble_eq_true rfl, Nat.le_of_ble_eq_true rfl⟩ rfl (jc.deep (c_Machine_askHead hC_M13 (FR.rfl _ M13) (by omega) (by omega) (by omega) (fun M14 hC_M14 hf_M14  => ?_)) (by decide))
        have ht_M14 : FR W_c_Machine_ask T M14 := FR.t ht_M13 hf_M14 (kw_sub rfl)
        exact jr.vreturn rfl rfl (q _ hC_M14 ht_M14  )
