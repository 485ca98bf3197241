/-! ===== the class's methods ===== -/
theorem c_PacketWall_why {A : Nat → Option (Nat × (Nat → Int32))} {Q : Option Value → jm → Prop} {M : jm} (hC_M : CI M) {x : Int} (h_x : (-2147483648) ≤ x ∧ x ≤ 2147483647) (q : ∀ (r : Int), (-2147483648) ≤ r ∧ r ≤ 2147483647 → Q (some (.int (Int32.ofInt r))) M) : jc A 2 29 [.ref (0), .int (Int32.ofInt (x))] M Q := by
  refine jc_of (m := xm_29) rfl (Nat.le_of_ble_eq_true rfl) rfl ?_
  refine jr.aload_n rfl rfl ?_
  refine jr.getf (i := 11) (v := .ref 421) rfl rfl (by decide) rfl (by decide) rfl rfl rfl rfl ?_
  refine jr.iload_n rfl rfl ?_
  refine jr_v rfl rfl (Or.inl rfl) rfl rfl (by decide) rfl ⟨rfl, Nat.le_of_ble_eq_true rfl, Nat.le_of_ble_eq_true rfl⟩ rfl (jc.deep (c_Machine_reported hC_M (by omega) (fun r1 z1  => ?_)) (by decide))
  exact jr.ireturn rfl rfl rfl (q _ (by omega) )
theorem c_PacketWall_logged {A : Nat → Option (Nat × (Nat → Int32))} {Q : Option Value → jm → Prop} {M : jm} (hC_M : CI M) {x : Int} (h_x : (-2147483648) ≤ x ∧ x ≤ 2147483647) (q : ∀ (r : Int), (-9223372036854775808) ≤ r ∧ r ≤ 9223372036854775807 → Q (some (.long (Int64.ofInt r))) M) : jc A 2 31 [.ref (0), .int (Int32.ofInt (x))] M Q := by
  refine jc_of (m := xm_31) rfl (Nat.le_of_ble_eq_true rfl) rfl ?_
  refine jr.aload_n rfl rfl ?_
  refine jr.getf (i := 11) (v := .ref 421) rfl rfl (by decide) rfl (by decide) rfl rfl rfl rfl ?_
  refine jr.getf (i := 1) (v := .ref 423) rfl rfl (by decide) rfl (by decide) rfl rfl rfl rfl ?_
  refine jr.iload_n rfl rfl ?_
  refine jr_v rfl rfl (Or.inl rfl) rfl rfl (by decide) rfl ⟨rfl, Nat.le_of_ble_eq_true rfl, Nat.le_of_ble_eq_true rfl⟩ rfl (jc.deep (c_Memory_logItem hC_M (show kd 423 = 27 from rfl) (by omega) (fun r1 z1  => ?_)) (by decide))
  exact jr.lreturn rfl rfl (q _ (by omega) )
noncomputable def W_c_Machine_workSign : List (Nat × Nat) := [(22, 4), (22, 9), (22, 16), (24, 1000), (26, 1000)]
theorem c_Machine_workSign {A : Nat → Option (Nat × (Nat → Int32))} {Q : Option Value → jm → Prop} {T : jm} {M : jm} (hC_M : CI M) (ht_M : FR W_c_Machine_workSign T M) {x : Int} (h_x : (-2147483648) ≤ x ∧ x ≤ 2147483647) {y : Int} (h_y : (-2147483648) ≤ y ∧ y ≤ 2147483647) (q : ∀ (M' : jm), CI M' → FR W_c_Machine_workSign T M' → Q none M') : jc A 4 169 [.ref (421), .int (Int32.ofInt (x)), .int (Int32.ofInt (y))] M Q := by
  refine jc_of (m := xm_169) rfl (Nat.le_of_ble_eq_true rfl) rfl ?_
  refine jr.aload_n rfl rfl ?_
  refine jr_v rfl rfl (Or.inl rfl) rfl rfl (by decide) rfl ⟨rfl, Nat.le_of_ble_eq_true rfl, Nat.le_of_ble_eq_true rfl⟩ rfl (jc.deep (c_Machine_pop hC_M (FR.rfl _ M)  (fun r1 M1 hC_M1 hf_M1 z1  => ?_)) (by decide))
  have ht_M1 : FR W_c_Machine_workSign T M1 := FR.t ht_M hf_M1 (kw_sub rfl)
  refine jr.lstore_n (ls' := [_, _, _, _]) rfl (by decide) rfl ?_
  refine jr.iload_n rfl rfl ?_
  rcases (show x = 289 ∨ x = 512 ∨ x = 513 ∨ x = 514 ∨ x = 515 ∨ (x ≠ 289 ∧ x ≠ 512 ∧ x ≠ 513 ∧ x ≠ 514 ∧ x ≠ 515) by omega) with h6 | h6 | h6 | h6 | h6 | h6
  · refine jr.lsw_k 289 rfl h6 rfl ?_
    refine jr.aload_n rfl rfl ?_
    refine jr.lload_n rfl rfl ?_
    refine jr.lconst (x := 0) rfl (by decide) ?_
    refine jr.lcmp_ne rfl rfl rfl (by omega) (by omega) (fun h82 => ?_) (fun h82 => ?_)
    · refine jr.iconst rfl ?_
      refine jr_v rfl rfl (Or.inl rfl) rfl rfl (by decide) rfl ⟨rfl, Nat.le_of_ble_eq_true rfl, Nat.le_of_ble_eq_true rfl⟩ rfl (jc.deep (c_Machine_pushTruth hC_M1 (FR.rfl _ M1) (by omega) (fun M2 hC_M2 hf_M2  => ?_)) (by decide))
      have ht_M2 : FR W_c_Machine_workSign T M2 := FR.t ht_M1 hf_M2 (kw_sub rfl)
      exact jr.vreturn rfl rfl (q _ hC_M2 ht_M2  )
    · refine jr.iconst rfl ?_
      refine jr.goto rfl rfl ?_
      refine jr_v rfl rfl (Or.inl rfl) rfl rfl (by decide) rfl ⟨rfl, Nat.le_of_ble_eq_true rfl, Nat.le_of_ble_eq_true rfl⟩ rfl (jc.deep (c_Machine_pushTruth hC_M1 (FR.rfl _ M1) (by omega) (fun M3 hC_M3 hf_M3  => ?_)) (by decide))
      have ht_M3 : FR W_c_Machine_workSign T M3 := FR.t ht_M1 hf_M3 (kw_sub rfl)
      exact jr.vreturn rfl rfl (q _ hC_M3 ht_M3  )
  · refine jr.lsw_k 512 rfl h6 rfl ?_
    refine jr.aload_n rfl rfl ?_
    refine jr.lload_n rfl rfl ?_
    refine jr.lneg rfl ?_
    refine jr.lw (jl_w (-r1)) (jl_w_eq _) ?_
    have b4 : -9223372036854775808 ≤ jl_w (-r1) ∧ jl_w (-r1) ≤ 9223372036854775807 := jbl_any _
    generalize jl_w (-r1) = v4 at b4 ⊢
    refine jr_v rfl rfl (Or.inl rfl) rfl rfl (by decide) rfl ⟨rfl, Nat.le_of_ble_eq_true rfl, Nat.le_of_ble_eq_true rfl⟩ rfl (jc.deep (c_Machine_push hC_M1 (FR.rfl _ M1) (by omega) (fun M5 hC_M5 hf_M5  => ?_)) (by decide))
    have ht_M5 : FR W_c_Machine_workSign T M5 := FR.t ht_M1 hf_M5 (kw_sub rfl)
    exact jr.vreturn rfl rfl (q _ hC_M5 ht_M5  )
  · refine jr.lsw_k 513 rfl h6 rfl ?_
    refine jr.aload_n rfl rfl ?_
    refine jr.lload_n rfl rfl ?_
    refine jr.lconst (x := 0) rfl (by decide) ?_
    refine jr.lcmp_eq rfl rfl rfl (by omega) (by omega) (fun h98 => ?_) (fun h98 => ?_)
    · refine jr.iconst rfl ?_
      refine jr.iload_n rfl rfl ?_
      refine jr_v rfl rfl (Or.inl rfl) rfl rfl (by decide) rfl ⟨rfl, Nat.le_of_ble_eq_true rfl, Nat.le_of_ble_eq_true rfl⟩ rfl (jc.deep (c_Machine_skip hC_M1 (FR.rfl _ M1) (by omega) (by omega) (fun M6 hC_M6 hf_M6  => ?_)) (by decide))
      have ht_M6 : FR W_c_Machine_workSign T M6 := FR.t ht_M1 hf_M6 (kw_sub rfl)
      exact jr.vreturn rfl rfl (q _ hC_M6 ht_M6  )
    · refine jr.iconst rfl ?_
      refine jr.goto rfl rfl ?_
      refine jr.iload_n rfl rfl ?_
      refine jr_v rfl rfl (Or.inl rfl) rfl rfl (by decide) rfl ⟨rfl, Nat.le_of_ble_eq_true rfl, Nat.le_of_ble_eq_true rfl⟩ rfl (jc.deep (c_Machine_skip hC_M1 (FR.rfl _ M1) (by omega) (by omega) (fun M7 hC_M7 hf_M7  => ?_)) (by decide))
      have ht_M7 : FR W_c_Machine_workSign T M7 := FR.t ht_M1 hf_M7 (kw_sub rfl)
      exact jr.vreturn rfl rfl (q _ hC_M7 ht_M7  )
  · refine jr.lsw_k 514 rfl h6 rfl ?_
    refine jr.aload_n rfl rfl ?_
    refine jr.lload_n rfl rfl ?_
    refine jr.lconst (x := 0) rfl (by decide) ?_
    refine jr.lcmp_ne rfl rfl rfl (by omega) (by omega) (fun h115 => ?_) (fun h115 => ?_)
    · refine jr.iconst rfl ?_
      refine jr.iload_n rfl rfl ?_
      refine jr_v rfl rfl (Or.inl rfl) rfl rfl (by decide) rfl ⟨rfl, Nat.le_of_ble_eq_true rfl, Nat.le_of_ble_eq_true rfl⟩ rfl (jc.deep (c_Machine_skip hC_M1 (FR.rfl _ M1) (by omega) (by omega) (fun M8 hC_M8 hf_M8  => ?_)) (by decide))
      have ht_M8 : FR W_c_Machine_workSign T M8 := FR.t ht_M1 hf_M8 (kw_sub rfl)
      exact jr.vreturn rfl rfl (q _ hC_M8 ht_M8  )
    · refine jr.iconst rfl ?_
      refine jr.goto rfl rfl ?_
      refine jr.iload_n rfl rfl ?_
      refine jr_v rfl rfl (Or.inl rfl) rfl rfl (by decide) rfl ⟨rfl, Nat.le_of_ble_eq_true rfl, Nat.le_of_ble_eq_true rfl⟩ rfl (jc.deep (c_Machine_skip hC_M1 (FR.rfl _ M1) (by omega) (by omega) (fun M9 hC_M9 hf_M9  => ?_)) (by decide))
      have ht_M9 : FR W_c_Machine_workSign T M9 := FR.t ht_M1 hf_M9 (kw_sub rfl)
      exact jr.vreturn rfl rfl (q _ hC_M9 ht_M9  )
  · refine jr.lsw_k 515 rfl h6 rfl ?_
    refine jr.aload_n rfl rfl ?_
    refine jr.lload_n rfl rfl ?_
    refine jr.lconst (x := 0) rfl (by decide) ?_
    refine jr.lcmp_eq rfl rfl rfl (by omega) (by omega) (fun h66 => ?_) (fun h66 => ?_)
    · refine jr.iconst rfl ?_
      refine jr_v rfl rfl (Or.inl rfl) rfl rfl (by decide) rfl ⟨rfl, Nat.le_of_ble_eq_true rfl, Nat.le_of_ble_eq_true rfl⟩ rfl (jc.deep (c_Machine_pushTruth hC_M1 (FR.rfl _ M1) (by omega) (fun M10 hC_M10 hf_M10  => ?_)) (by decide))
      have ht_M10 : FR W_c_Machine_workSign T M10 := FR.t ht_M1 hf_M10 (kw_sub rfl)
      exact jr.vreturn rfl rfl (q _ hC_M10 ht_M10  )
    · refine jr.iconst rfl ?_
      refine jr.goto rfl rfl ?_
      refine jr_v rfl rfl (Or.inl rfl) rfl rfl (by decide) rfl ⟨rfl, Nat.le_of_ble_eq_true rfl, Nat.le_of_ble_eq_true rfl⟩ rfl (jc.deep (c_Machine_pushTruth hC_M1 (FR.rfl _ M1) (by omega) (fun M11 hC_M11 hf_M11  => ?_)) (by decide))
      have ht_M11 : FR W_c_Machine_workSign T M11 := FR.t ht_M1 hf_M11 (kw_sub rfl)
      exact jr.vreturn rfl rfl (q _ hC_M11 ht_M11  )
  · refine jr.lsw_d rfl (by omega) rfl (fun q hq => by simp only [List.mem_cons, List.not_mem_nil, or_false] at hq; rcases hq with rfl | rfl | rfl | rfl | rfl <;> (simp only; omega)) rfl ?_
    refine jr.aload_n rfl rfl ?_
    refine jr.iload_n rfl rfl ?_
    refine jr.sipush rfl (by decide) ?_
    refine jr.isub rfl ?_
    refine jr.iw (j_w (x - 256)) (j_w_eq _) ?_
    have b12 : -2147483648 ≤ j_w (x - 256) ∧ j_w (x - 256) ≤ 2147483647 := jb_any _
    generalize j_w (x - 256) = v12 at b12 ⊢
    refine jr.i2c rfl ?_
    have b13 : -2147483648 ≤ j_c v12 ∧ j_c v12 ≤ 2147483647 := jb_any _
    generalize j_c v12 = v13 at b13 ⊢
    refine jr.aload_n rfl rfl ?_
    refine jr_v rfl rfl (Or.inl rfl) rfl rfl (by decide) rfl ⟨rfl, Nat.le_of_ble_eq_true rfl, Nat.le_of_ble_eq_true rfl⟩ rfl (jc.deep (c_Machine_pop hC_M1 (FR.rfl _ M1)  (fun r14 M14 hC_M14 hf_M14 z14  => ?_)) (by decide))
    have ht_M14 : FR W_c_Machine_workSign T M14 := FR.t ht_M1 hf_M14 (kw_sub rfl)
    refine jr.lload_n rfl rfl ?_
    refine jr_v rfl rfl (Or.inl rfl) rfl rfl (by decide) rfl ⟨rfl, Nat.le_of_ble_eq_true rfl, Nat.le_of_ble_eq_true rfl⟩ rfl (jc.deep (c_Machine_workBetween hC_M14 (FR.rfl _ M14) (by omega) (by omega) (by omega) (fun M15 hC_M15 hf_M15  => ?_)) (by decide))
    have ht_M15 : FR W_c_Machine_workSign T M15 := FR.t ht_M14 hf_M15 (kw_sub rfl)
    exact jr.vreturn rfl rfl (q _ hC_M15 ht_M15  )
noncomputable def W_c_Machine_learn : List (Nat × Nat) := [(22, 4), (24, 1000), (31, 1000), (32, 1000)]
