/-! ===== the class's methods ===== -/
theorem c_PacketWall_why {A : Nat → Option (Nat × (Nat → Int32))} {Q : Option Value → jm → Prop} {M : jm} (hC_M : CI M) {x : Int} (h_x : (-2147483648) ≤ x ∧ x ≤ 2147483647) (q : ∀ (r : Int), (-2147483648) ≤ r ∧ r ≤ 2147483647 → Q (some (.int (Int32.ofInt r))) M) : jc A 2 29 [.ref (0), .int (Int32.ofInt (x))] M Q := by
  refine jc_of (m := xm_29) rfl (Nat.le_of_ble_eq_true rfl) rfl ?_
  refine jr.aload_n rfl rfl ?_
  refine jr.getf (i := 11) (v := .ref 421) rfl rfl (nlt rfl) rfl (nlt rfl) rfl rfl rfl rfl ?_
  refine jr.iload_n rfl rfl ?_
  refine jr_v rfl rfl (Or.inl rfl) rfl rfl (nlt rfl) rfl ⟨rfl, Nat.le_of_ble_eq_true rfl, Nat.le_of_ble_eq_true rfl⟩ rfl (jc.deep (c_Machine_reported hC_M (by omega) (fun r1 z1  => ?_)) (Nat.le_of_ble_eq_true rfl))
  exact jr.ireturn rfl rfl rfl (q _ (by omega) )
theorem c_PacketWall_logged {A : Nat → Option (Nat × (Nat → Int32))} {Q : Option Value → jm → Prop} {M : jm} (hC_M : CI M) {x : Int} (h_x : (-2147483648) ≤ x ∧ x ≤ 2147483647) (q : ∀ (r : Int), (-9223372036854775808) ≤ r ∧ r ≤ 9223372036854775807 → Q (some (.long (Int64.ofInt r))) M) : jc A 2 31 [.ref (0), .int (Int32.ofInt (x))] M Q := by
  refine jc_of (m := xm_31) rfl (Nat.le_of_ble_eq_true rfl) rfl ?_
  refine jr.aload_n rfl rfl ?_
  refine jr.getf (i := 11) (v := .ref 421) rfl rfl (nlt rfl) rfl (nlt rfl) rfl rfl rfl rfl ?_
  refine jr.getf (i := 1) (v := .ref 423) rfl rfl (nlt rfl) rfl (nlt rfl) rfl rfl rfl rfl ?_
  refine jr.iload_n rfl rfl ?_
  refine jr_v rfl rfl (Or.inl rfl) rfl rfl (nlt rfl) rfl ⟨rfl, Nat.le_of_ble_eq_true rfl, Nat.le_of_ble_eq_true rfl⟩ rfl (jc.deep (c_Memory_logItem hC_M (show kd 423 = 27 from rfl) (by omega) (fun r1 z1  => ?_)) (Nat.le_of_ble_eq_true rfl))
  exact jr.lreturn rfl rfl (q _ (by omega) )
noncomputable def W_c_Machine_workSign : List (Nat × Nat) := [(22, 4), (22, 9), (22, 16), (24, 1000), (26, 1000)]
theorem c_Machine_workSign {A : Nat → Option (Nat × (Nat → Int32))} {Q : Option Value → jm → Prop} {T : jm} {M : jm} (hC_M : CI M) (ht_M : FR W_c_Machine_workSign T M) {x : Int} (h_x : (-2147483648) ≤ x ∧ x ≤ 2147483647) {y : Int} (h_y : (-2147483648) ≤ y ∧ y ≤ 2147483647) (q : ∀ (M' : jm), CI M' → FR W_c_Machine_workSign T M' → Q none M') : jc A 4 169 [.ref (421), .int (Int32.ofInt (x)), .int (Int32.ofInt (y))] M Q := by
  refine jc_of (m := xm_169) rfl (Nat.le_of_ble_eq_true rfl) rfl ?_
  refine jr.aload_n rfl rfl ?_
  refine jr_v rfl rfl (Or.inl rfl) rfl rfl (nlt rfl) rfl ⟨rfl, Nat.le_of_ble_eq_true rfl, Nat.le_of_ble_eq_true rfl⟩ rfl (jc.deep (c_Machine_pop hC_M (FR.rfl _ M)  (fun r1 M1 hC_M1 hf_M1 z1  => ?_)) (Nat.le_of_ble_eq_true rfl))
  have ht_M1 : FR W_c_Machine_workSign T M1 := FR.t ht_M hf_M1 (kw_sub rfl)
  refine jr.lstore_n (ls' := [_, _, _, _]) rfl (nlt rfl) rfl ?_
  refine jr.iload_n rfl rfl ?_
  rcases (show x = 289 ∨ x = 512 ∨ x = 513 ∨ x = 514 ∨ x = 515 ∨ (x ≠ 289 ∧ x ≠ 512 ∧ x ≠ 513 ∧ x ≠ 514 ∧ x ≠ 515) by omega) with h6 | h6 | h6 | h6 | h6 | h6
  · refine jr.lsw_k 289 rfl h6 rfl ?_
    refine jr.aload_n rfl rfl ?_
    refine jr.lload_n rfl rfl ?_
    refine jr.lconst (x := 0) rfl (by decide) ?_
    refine jr.lcmp_ne rfl rfl rfl (by omega) (by omega) (fun h82 => ?_) (fun h82 => ?_)
    · refine jr.iconst rfl ?_
      refine jr_v rfl rfl (Or.inl rfl) rfl rfl (nlt rfl) rfl ⟨rfl, Nat.le_of_ble_eq_true rfl, Nat.le_of_ble_eq_true rfl⟩ rfl (jc.deep (c_Machine_pushTruth hC_M1 (FR.rfl _ M1) (by omega) (fun M2 hC_M2 hf_M2  => ?_)) (Nat.le_of_ble_eq_true rfl))
      have ht_M2 : FR W_c_Machine_workSign T M2 := FR.t ht_M1 hf_M2 (kw_sub rfl)
      exact jr.vreturn rfl rfl (q _ hC_M2 ht_M2  )
    · refine jr.iconst rfl ?_
      refine jr.goto rfl rfl ?_
      refine jr_v rfl rfl (Or.inl rfl) rfl rfl (nlt rfl) rfl ⟨rfl, Nat.le_of_ble_eq_true rfl, Nat.le_of_ble_eq_true rfl⟩ rfl (jc.deep (c_Machine_pushTruth hC_M1 (FR.rfl _ M1) (by omega) (fun M3 hC_M3 hf_M3  => ?_)) (Nat.le_of_ble_eq_true rfl))
      have ht_M3 : FR W_c_Machine_workSign T M3 := FR.t ht_M1 hf_M3 (kw_sub rfl)
      exact jr.vreturn rfl rfl (q _ hC_M3 ht_M3  )
  · refine jr.lsw_k 512 rfl h6 rfl ?_
    refine jr.aload_n rfl rfl ?_
    refine jr.lload_n rfl rfl ?_
    refine jr.lneg rfl ?_
    refine jr.lw (jl_w (-r1)) (jl_w_eq _) ?_
    have b4 : -9223372036854775808 ≤ jl_w (-r1) ∧ jl_w (-r1) ≤ 9223372036854775807 := jbl_any _
    generalize jl_w (-r1) = v4 at b4 ⊢
    refine jr_v rfl rfl (Or.inl rfl) rfl rfl (nlt rfl) rfl ⟨rfl, Nat.le_of_ble_eq_true rfl, Nat.le_of_ble_eq_true rfl⟩ rfl (jc.deep (c_Machine_push hC_M1 (FR.rfl _ M1) (by omega) (fun M5 hC_M5 hf_M5  => ?_)) (Nat.le_of_ble_eq_true rfl))
    have ht_M5 : FR W_c_Machine_workSign T M5 := FR.t ht_M1 hf_M5 (kw_sub rfl)
    exact jr.vreturn rfl rfl (q _ hC_M5 ht_M5  )
  · refine jr.lsw_k 513 rfl h6 rfl ?_
    refine jr.aload_n rfl rfl ?_
    refine jr.lload_n rfl rfl ?_
    refine jr.lconst (x := 0) rfl (by decide) ?_
    refine jr.lcmp_eq rfl rfl rfl (by omega) (by omega) (fun h98 => ?_) (fun h98 => ?_)
    · refine jr.iconst rfl ?_
      refine jr.iload_n rfl rfl ?_
      refine jr_v rfl rfl (Or.inl rfl) rfl rfl (nlt rfl) rfl ⟨rfl, Nat.le_of_ble_eq_true rfl, Nat.le_of_ble_eq_true rfl⟩ rfl (jc.deep (c_Machine_skip hC_M1 (FR.rfl _ M1) (by omega) (by omega) (fun M6 hC_M6 hf_M6  => ?_)) (Nat.le_of_ble_eq_true rfl))
      have ht_M6 : FR W_c_Machine_workSign T M6 := FR.t ht_M1 hf_M6 (kw_sub rfl)
      exact jr.vreturn rfl rfl (q _ hC_M6 ht_M6  )
    · refine jr.iconst rfl ?_
      refine jr.goto rfl rfl ?_
      refine jr.iload_n rfl rfl ?_
      refine jr_v rfl rfl (Or.inl rfl) rfl rfl (nlt rfl) rfl ⟨rfl, Nat.le_of_ble_eq_true rfl, Nat.le_of_ble_eq_true rfl⟩ rfl (jc.deep (c_Machine_skip hC_M1 (FR.rfl _ M1) (by omega) (by omega) (fun M7 hC_M7 hf_M7  => ?_)) (Nat.le_of_ble_eq_true rfl))
      have ht_M7 : FR W_c_Machine_workSign T M7 := FR.t ht_M1 hf_M7 (kw_sub rfl)
      exact jr.vreturn rfl rfl (q _ hC_M7 ht_M7  )
  · refine jr.lsw_k 514 rfl h6 rfl ?_
    refine jr.aload_n rfl rfl ?_
    refine jr.lload_n rfl rfl ?_
    refine jr.lconst (x := 0) rfl (by decide) ?_
    refine jr.lcmp_ne rfl rfl rfl (by omega) (by omega) (fun h115 => ?_) (fun h115 => ?_)
    · refine jr.iconst rfl ?_
      refine jr.iload_n rfl rfl ?_
      refine jr_v rfl rfl (Or.inl rfl) rfl rfl (nlt rfl) rfl ⟨rfl, Nat.le_of_ble_eq_true rfl, Nat.le_of_ble_eq_true rfl⟩ rfl (jc.deep (c_Machine_skip hC_M1 (FR.rfl _ M1) (by omega) (by omega) (fun M8 hC_M8 hf_M8  => ?_)) (Nat.le_of_ble_eq_true rfl))
      have ht_M8 : FR W_c_Machine_workSign T M8 := FR.t ht_M1 hf_M8 (kw_sub rfl)
      exact jr.vreturn rfl rfl (q _ hC_M8 ht_M8  )
    · refine jr.iconst rfl ?_
      refine jr.goto rfl rfl ?_
      refine jr.iload_n rfl rfl ?_
      refine jr_v rfl rfl (Or.inl rfl) rfl rfl (nlt rfl) rfl ⟨rfl, Nat.le_of_ble_eq_true rfl, Nat.le_of_ble_eq_true rfl⟩ rfl (jc.deep (c_Machine_skip hC_M1 (FR.rfl _ M1) (by omega) (by omega) (fun M9 hC_M9 hf_M9  => ?_)) (Nat.le_of_ble_eq_true rfl))
      have ht_M9 : FR W_c_Machine_workSign T M9 := FR.t ht_M1 hf_M9 (kw_sub rfl)
      exact jr.vreturn rfl rfl (q _ hC_M9 ht_M9  )
  · refine jr.lsw_k 515 rfl h6 rfl ?_
    refine jr.aload_n rfl rfl ?_
    refine jr.lload_n rfl rfl ?_
    refine jr.lconst (x := 0) rfl (by decide) ?_
    refine jr.lcmp_eq rfl rfl rfl (by omega) (by omega) (fun h66 => ?_) (fun h66 => ?_)
    · refine jr.iconst rfl ?_
      refine jr_v rfl rfl (Or.inl rfl) rfl rfl (nlt rfl) rfl ⟨rfl, Nat.le_of_ble_eq_true rfl, Nat.le_of_ble_eq_true rfl⟩ rfl (jc.deep (c_Machine_pushTruth hC_M1 (FR.rfl _ M1) (by omega) (fun M10 hC_M10 hf_M10  => ?_)) (Nat.le_of_ble_eq_true rfl))
      have ht_M10 : FR W_c_Machine_workSign T M10 := FR.t ht_M1 hf_M10 (kw_sub rfl)
      exact jr.vreturn rfl rfl (q _ hC_M10 ht_M10  )
    · refine jr.iconst rfl ?_
      refine jr.goto rfl rfl ?_
      refine jr_v rfl rfl (Or.inl rfl) rfl rfl (nlt rfl) rfl ⟨rfl, Nat.le_of_ble_eq_true rfl, Nat.le_of_ble_eq_true rfl⟩ rfl (jc.deep (c_Machine_pushTruth hC_M1 (FR.rfl _ M1) (by omega) (fun M11 hC_M11 hf_M11  => ?_)) (Nat.le_of_ble_eq_true rfl))
      have ht_M11 : FR W_c_Machine_workSign T M11 := FR.t ht_M1 hf_M11 (kw_sub rfl)
      exact jr.vreturn rfl rfl (q _ hC_M11 ht_M11  )
  · refine jr.lsw_d rfl (by omega) rfl (fun q hq => by simp only [List.mem_cons, List.not_mem_nil, or_false] at hq; rcases hq with rfl | rfl | rfl | rfl | rfl <;> (simp only; omega)) rfl ?_
    refine jr.aload_n rfl rfl ?_
    refine jr.iload_n rfl rfl ?_
    refine jr.sipush rfl (by decide) ?_
    refine jr.isub rfl ?_
    refine jr.iw (j_w (x - 256)) (j_w_eq _) ?_
    have b12 : -2147483648 ≤ j_w (x - 256) ∧ j_w (x - 256) ≤ 2147483647 := jb_any _
    generalize j_w (x - 256) = v12 at b12 ⊢
    refine jr.i2c rfl ?_
    have b13 : -2147483648 ≤ j_c v12 ∧ j_c v12 ≤ 2147483647 := jb_any _
    generalize j_c v12 = v13 at b13 ⊢
    refine jr.aload_n rfl rfl ?_
    refine jr_v rfl rfl (Or.inl rfl) rfl rfl (nlt rfl) rfl ⟨rfl, Nat.le_of_ble_eq_true rfl, Nat.le_of_ble_eq_true rfl⟩ rfl (jc.deep (c_Machine_pop hC_M1 (FR.rfl _ M1)  (fun r14 M14 hC_M14 hf_M14 z14  => ?_)) (Nat.le_of_ble_eq_true rfl))
    have ht_M14 : FR W_c_Machine_workSign T M14 := FR.t ht_M1 hf_M14 (kw_sub rfl)
    refine jr.lload_n rfl rfl ?_
    refine jr_v rfl rfl (Or.inl rfl) rfl rfl (nlt rfl) rfl ⟨rfl, Nat.le_of_ble_eq_true rfl, Nat.le_of_ble_eq_true rfl⟩ rfl (jc.deep (c_Machine_workBetween hC_M14 (FR.rfl _ M14) (by omega) (by omega) (by omega) (fun M15 hC_M15 hf_M15  => ?_)) (Nat.le_of_ble_eq_true rfl))
    have ht_M15 : FR W_c_Machine_workSign T M15 := FR.t ht_M14 hf_M15 (kw_sub rfl)
    exact jr.vreturn rfl rfl (q _ hC_M15 ht_M15  )
noncomputable def W_c_Machine_learn : List (Nat × Nat) := [(22, 4), (24, 1000), (31, 1000), (32, 1000)]
theorem c_Machine_learn {A : Nat → Option (Nat × (Nat → Int32))} {Q : Option Value → jm → Prop} {T : jm} {M : jm} (hC_M : CI M) (ht_M : FR W_c_Machine_learn T M) (q : ∀ (M' : jm), CI M' → FR W_c_Machine_learn T M' → Q none M') : jc A 3 176 [.ref (421)] M Q := by
  refine jc_of (m := xm_176) rfl (Nat.le_of_ble_eq_true rfl) rfl ?_
  refine jr.aload_n rfl rfl ?_
  refine jr.getf (i := 8) (v := .ref 435) rfl rfl (nlt rfl) rfl (nlt rfl) rfl rfl rfl rfl ?_
  refine jr.iconst rfl ?_
  obtain ⟨v1, e1⟩ : ∃ z_, M 435 0 = z_ := ⟨_, rfl⟩
  have b1 : (-9223372036854775808) ≤ v1 ∧ v1 ≤ 9223372036854775807 := by rw [← e1]; exact (CI.r hC_M (show kd 435 = 26 from rfl) (by decide) 0)
  refine jr.lald (i := 0) (x := v1) rfl (nlt rfl) rfl (Nat.le_of_ble_eq_true rfl) (by omega) (by omega) e1 ?_
  refine jr.iconst rfl ?_
  refine jr_s rfl rfl (Or.inl rfl) ⟨Nat.le_of_ble_eq_true rfl, Nat.le_of_ble_eq_true rfl⟩ rfl rfl (jc.deep (c_Machine_isNot hC_M (by omega) (by omega) (fun r2 z2 w2_0 => ?_)) (Nat.le_of_ble_eq_true rfl))
  refine jr.if_eq rfl rfl (by first | (refine rgb (by assumption) ?_; exact rfl) | omega) (fun h10 => ?_) (fun h10 => ?_)
  · refine jr.aload_n rfl rfl ?_
    refine jr.getf (i := 1) (v := .ref 423) rfl rfl (nlt rfl) rfl (nlt rfl) rfl rfl rfl rfl ?_
    refine jr.aload_n rfl rfl ?_
    refine jr.getf (i := 8) (v := .ref 435) rfl rfl (nlt rfl) rfl (nlt rfl) rfl rfl rfl rfl ?_
    refine jr.iconst rfl ?_
    refine jr.lald (i := 0) (x := v1) rfl (nlt rfl) rfl (Nat.le_of_ble_eq_true rfl) (by omega) (by omega) e1 ?_
    refine jr.l2i rfl ?_
    refine jr.aload_n rfl rfl ?_
    refine jr.getf (i := 8) (v := .ref 435) rfl rfl (nlt rfl) rfl (nlt rfl) rfl rfl rfl rfl ?_
    refine jr.iconst rfl ?_
    obtain ⟨v3, e3⟩ : ∃ z_, M 435 1 = z_ := ⟨_, rfl⟩
    have b3 : (-9223372036854775808) ≤ v3 ∧ v3 ≤ 9223372036854775807 := by rw [← e3]; exact (CI.r hC_M (show kd 435 = 26 from rfl) (by decide) 1)
    refine jr.lald (i := 1) (x := v3) rfl (nlt rfl) rfl (Nat.le_of_ble_eq_true rfl) (by omega) (by omega) e3 ?_
    refine jr_v rfl rfl (Or.inl rfl) rfl rfl (nlt rfl) rfl ⟨rfl, Nat.le_of_ble_eq_true rfl, Nat.le_of_ble_eq_true rfl⟩ rfl (jc.deep (c_Memory_learn hC_M (FR.rfl _ M) (show kd 423 = 27 from rfl) (by omega) (by omega) (fun M4 hC_M4 hf_M4  => ?_)) (Nat.le_of_ble_eq_true rfl))
    have ht_M4 : FR W_c_Machine_learn T M4 := FR.t ht_M hf_M4 (kw_sub rfl)
    exact jr.vreturn rfl rfl (q _ hC_M4 ht_M4  )
  · have sx10 : (1 : Int) ≤ r2 := by omega
    clear h10
    refine jr.aload_n rfl rfl ?_
    refine jr.iconst rfl ?_
    refine jr_v rfl rfl (Or.inl rfl) rfl rfl (nlt rfl) rfl ⟨rfl, Nat.le_of_ble_eq_true rfl, Nat.le_of_ble_eq_true rfl⟩ rfl (jc.deep (c_Machine_fail hC_M (FR.rfl _ M) (by omega) (fun M5 hC_M5 hf_M5  => ?_)) (Nat.le_of_ble_eq_true rfl))
    have ht_M5 : FR W_c_Machine_learn T M5 := FR.t ht_M hf_M5 (kw_sub rfl)
    refine jr.goto rfl rfl ?_
    exact jr.vreturn rfl rfl (q _ hC_M5 ht_M5  )
noncomputable def W_c_Machine_makeFresh : List (Nat × Nat) := [(22, 4), (22, 5), (24, 1000), (52, 0), (52, 1), (54, 1000)]
theorem c_Machine_makeFresh {A : Nat → Option (Nat × (Nat → Int32))} {Q : Option Value → jm → Prop} {T : jm} {M : jm} (hC_M : CI M) (ht_M : FR W_c_Machine_makeFresh T M) (q : ∀ (M' : jm), CI M' → FR W_c_Machine_makeFresh T M' → Q none M') : jc A 3 180 [.ref (421)] M Q := by
  refine jc_of (m := xm_180) rfl (Nat.le_of_ble_eq_true rfl) rfl ?_
  refine jr.aload_n rfl rfl ?_
  refine jr.getf (i := 8) (v := .ref 435) rfl rfl (nlt rfl) rfl (nlt rfl) rfl rfl rfl rfl ?_
  refine jr.iconst rfl ?_
  obtain ⟨v1, e1⟩ : ∃ z_, M 435 0 = z_ := ⟨_, rfl⟩
  have b1 : (-9223372036854775808) ≤ v1 ∧ v1 ≤ 9223372036854775807 := by rw [← e1]; exact (CI.r hC_M (show kd 435 = 26 from rfl) (by decide) 0)
  refine jr.lald (i := 0) (x := v1) rfl (nlt rfl) rfl (Nat.le_of_ble_eq_true rfl) (by omega) (by omega) e1 ?_
  refine jr.lstore_n (ls' := [_, _]) rfl (nlt rfl) rfl ?_
  refine jr.aload_n rfl rfl ?_
  refine jr.getf (i := 8) (v := .ref 435) rfl rfl (nlt rfl) rfl (nlt rfl) rfl rfl rfl rfl ?_
  refine jr.iconst rfl ?_
  obtain ⟨v2, e2⟩ : ∃ z_, M 435 1 = z_ := ⟨_, rfl⟩
  have b2 : (-9223372036854775808) ≤ v2 ∧ v2 ≤ 9223372036854775807 := by rw [← e2]; exact (CI.r hC_M (show kd 435 = 26 from rfl) (by decide) 1)
  refine jr.lald (i := 1) (x := v2) rfl (nlt rfl) rfl (Nat.le_of_ble_eq_true rfl) (by omega) (by omega) e2 ?_
  refine jr.lstore_n (ls' := [_, _, _]) rfl (nlt rfl) rfl ?_
  refine jr.aload_n rfl rfl ?_
  refine jr.getf (i := 8) (v := .ref 435) rfl rfl (nlt rfl) rfl (nlt rfl) rfl rfl rfl rfl ?_
  refine jr.iconst rfl ?_
  obtain ⟨v3, e3⟩ : ∃ z_, M 435 2 = z_ := ⟨_, rfl⟩
  have b3 : (-9223372036854775808) ≤ v3 ∧ v3 ≤ 9223372036854775807 := by rw [← e3]; exact (CI.r hC_M (show kd 435 = 26 from rfl) (by decide) 2)
  refine jr.lald (i := 2) (x := v3) rfl (nlt rfl) rfl (Nat.le_of_ble_eq_true rfl) (by omega) (by omega) e3 ?_
  refine jr.lstore (ls' := [_, _, _, _]) rfl (nlt rfl) rfl ?_
  refine jr.lload_n rfl rfl ?_
  refine jr.bipush rfl (jbp _ (nlt rfl)) ?_
  refine jr_s rfl rfl (Or.inl rfl) ⟨Nat.le_of_ble_eq_true rfl, Nat.le_of_ble_eq_true rfl⟩ rfl rfl (jc.deep (c_Machine_isNot hC_M (by omega) (by omega) (fun r4 z4 w4_0 => ?_)) (Nat.le_of_ble_eq_true rfl))
  refine jr.if_eq rfl rfl (by first | (refine rgb (by assumption) ?_; exact rfl) | omega) (fun h28 => ?_) (fun h28 => ?_)
  · refine jr.lload_n rfl rfl ?_
    refine jr.bipush rfl (jbp _ (nlt rfl)) ?_
    refine jr_s rfl rfl (Or.inl rfl) ⟨Nat.le_of_ble_eq_true rfl, Nat.le_of_ble_eq_true rfl⟩ rfl rfl (jc.deep (c_Machine_isNot hC_M (by omega) (by omega) (fun r5 z5 w5_0 => ?_)) (Nat.le_of_ble_eq_true rfl))
    refine jr.if_eq rfl rfl (by first | (refine rgb (by assumption) ?_; exact rfl) | omega) (fun h45 => ?_) (fun h45 => ?_)
    · refine jr.lload rfl rfl ?_
      refine jr.lconst (x := 0) rfl (by decide) ?_
      refine jr.lcmp_ge rfl rfl rfl (by omega) (by omega) (fun h60 => ?_) (fun h60 => ?_)
      · refine jr.lload rfl rfl ?_
        refine jr.ldc2 (x := 40) rfl rfl (by decide) ?_
        refine jr.lcmp_gt rfl rfl rfl (by omega) (by omega) (fun h77 => ?_) (fun h77 => ?_)
        · refine jr.aload_n rfl rfl ?_
          refine jr.bipush rfl (jbp _ (nlt rfl)) ?_
          refine jr_v rfl rfl (Or.inl rfl) rfl rfl (nlt rfl) rfl ⟨rfl, Nat.le_of_ble_eq_true rfl, Nat.le_of_ble_eq_true rfl⟩ rfl (jc.deep (c_Machine_fail hC_M (FR.rfl _ M) (by omega) (fun M6 hC_M6 hf_M6  => ?_)) (Nat.le_of_ble_eq_true rfl))
          have ht_M6 : FR W_c_Machine_makeFresh T M6 := FR.t ht_M hf_M6 (kw_sub rfl)
          refine jr.goto rfl rfl ?_
          exact jr.vreturn rfl rfl (q _ hC_M6 ht_M6  )
        · refine jr.aload_n rfl rfl ?_
          obtain ⟨v7, e7⟩ : ∃ z_, M 421 5 = z_ := ⟨_, rfl⟩
          have b7 : (-2147483648) ≤ v7 ∧ v7 ≤ 2147483647 := by rw [← e7]; exact (CI.r hC_M (show kd 421 = 22 from rfl) (by decide) 5)
          refine jr.getf (i := 5) (x := v7) (v := .int (Int32.ofInt (v7))) rfl rfl (nlt rfl) rfl (nlt rfl) rfl rfl e7 rfl ?_
          refine jr.sipush rfl (by decide) ?_
          refine jr.icmp_lt rfl rfl (by first | (refine rgb (by assumption) ?_; exact rfl) | omega) (rgl rfl) (fun h88 => ?_) (fun h88 => ?_)
          · refine jr.aload_n rfl rfl ?_
            refine jr.dup rfl rfl ?_
            refine jr.getf (i := 5) (x := v7) (v := .int (Int32.ofInt (v7))) rfl rfl (nlt rfl) rfl (nlt rfl) rfl rfl e7 rfl ?_
            refine jr.iconst rfl ?_
            refine jr.iadd rfl ?_
            refine jr.putf (i := 5) (x := (v7 + 1)) rfl rfl (nlt rfl) rfl (nlt rfl) rfl rfl rfl rfl rfl ?_
            refine jr.aload_n rfl rfl ?_
            refine jr.getf (i := 0) (v := .ref 422) rfl rfl (nlt rfl) rfl (nlt rfl) rfl rfl rfl rfl ?_
            refine jr.lload_n rfl rfl ?_
            refine jr.l2i rfl ?_
            have k8 := kxe_25 (a := 422) rfl (i := v1) (by omega) (by omega)
            refine jr.aald (c := (xe 422 v1)) rfl (by decide) rfl (by decide) (by decide) rfl (by decide) (by omega) (by omega) k8.1 ?_
            refine jr.lload_n rfl rfl ?_
            refine jr.l2i rfl ?_
            refine jr.lload rfl rfl ?_
            refine jr.l2i rfl ?_
            refine jr_v rfl rfl (Or.inl rfl) rfl rfl (Nat.lt_trans (kx_52 k8.2).1 (by decide)) (kx_52 k8.2).2 ⟨rfl, Nat.le_of_ble_eq_true rfl, Nat.le_of_ble_eq_true rfl⟩ rfl (jc.deep (c_Row_renew (CI.u hC_M (i := 5) (show kd 421 = 22 from rfl) (show (-2147483648 : Int) ≤ _ ∧ _ ≤ (2147483647 : Int) from by omega) rfl) (FR.rfl _ ((ju M 421 5 (v7 + 1)))) k8.2 (by omega) (by omega) (fun M9 hC_M9 hf_M9  => ?_)) (Nat.le_of_ble_eq_true rfl))
            have ht_M9 : FR W_c_Machine_makeFresh T M9 := FR.t (FR.o ht_M (show kd 421 = 22 from rfl) rfl) hf_M9 (kw_sub rfl)
            exact jr.vreturn rfl rfl (q _ hC_M9 ht_M9  )
          · refine jr.aload_n rfl rfl ?_
            refine jr.bipush rfl (jbp _ (nlt rfl)) ?_
            refine jr_v rfl rfl (Or.inl rfl) rfl rfl (nlt rfl) rfl ⟨rfl, Nat.le_of_ble_eq_true rfl, Nat.le_of_ble_eq_true rfl⟩ rfl (jc.deep (c_Machine_fail hC_M (FR.rfl _ M) (by omega) (fun M10 hC_M10 hf_M10  => ?_)) (Nat.le_of_ble_eq_true rfl))
            have ht_M10 : FR W_c_Machine_makeFresh T M10 := FR.t ht_M hf_M10 (kw_sub rfl)
            refine jr.goto rfl rfl ?_
            exact jr.vreturn rfl rfl (q _ hC_M10 ht_M10  )
      · refine jr.aload_n rfl rfl ?_
        refine jr.iconst rfl ?_
        refine jr_v rfl rfl (Or.inl rfl) rfl rfl (nlt rfl) rfl ⟨rfl, Nat.le_of_ble_eq_true rfl, Nat.le_of_ble_eq_true rfl⟩ rfl (jc.deep (c_Machine_fail hC_M (FR.rfl _ M) (by omega) (fun M11 hC_M11 hf_M11  => ?_)) (Nat.le_of_ble_eq_true rfl))
        have ht_M11 : FR W_c_Machine_makeFresh T M11 := FR.t ht_M hf_M11 (kw_sub rfl)
        refine jr.goto rfl rfl ?_
        exact jr.vreturn rfl rfl (q _ hC_M11 ht_M11  )
    · refine jr.aload_n rfl rfl ?_
      refine jr.bipush rfl (jbp _ (nlt rfl)) ?_
      refine jr_v rfl rfl (Or.inl rfl) rfl rfl (nlt rfl) rfl ⟨rfl, Nat.le_of_ble_eq_true rfl, Nat.le_of_ble_eq_true rfl⟩ rfl (jc.deep (c_Machine_fail hC_M (FR.rfl _ M) (by omega) (fun M12 hC_M12 hf_M12  => ?_)) (Nat.le_of_ble_eq_true rfl))
      have ht_M12 : FR W_c_Machine_makeFresh T M12 := FR.t ht_M hf_M12 (kw_sub rfl)
      refine jr.goto rfl rfl ?_
      exact jr.vreturn rfl rfl (q _ hC_M12 ht_M12  )
  · refine jr.aload_n rfl rfl ?_
    refine jr.iconst rfl ?_
    refine jr_v rfl rfl (Or.inl rfl) rfl rfl (nlt rfl) rfl ⟨rfl, Nat.le_of_ble_eq_true rfl, Nat.le_of_ble_eq_true rfl⟩ rfl (jc.deep (c_Machine_fail hC_M (FR.rfl _ M) (by omega) (fun M13 hC_M13 hf_M13  => ?_)) (Nat.le_of_ble_eq_true rfl))
    have ht_M13 : FR W_c_Machine_makeFresh T M13 := FR.t ht_M hf_M13 (kw_sub rfl)
    refine jr.goto rfl rfl ?_
    exact jr.vreturn rfl rfl (q _ hC_M13 ht_M13  )
theorem c_PacketWall_numberAt_p_L5 {A : Nat → Option (Nat × (Nat → Int32))} {Q : Option Value → jm → Prop} {M : jm} (hC_M : CI M) {x : Nat} (k_x : kd x = 34) {y : Int} {z : Int} (q : ∀ (r : Int), (-9223372036854775808) ≤ r ∧ r ≤ 9223372036854775807 → Q (some (.long (Int64.ofInt r))) M) : ∀ (nM : Nat) (n : Int) (i : Int), (-100000) ≤ y ∧ y ≤ 100000 → 0 ≤ z ∧ z ≤ 8 → (-9223372036854775808) ≤ n ∧ n ≤ 9223372036854775807 → (-100000) ≤ i ∧ i ≤ 100010 → y + z - i ≤ nM → jr A 0 xm_52 5 [(1, .int (Int32.ofInt (y))), (2, .int (Int32.ofInt (z))), (3, .long (Int64.ofInt (n))), (5, .int (Int32.ofInt (i))), (0, .ref (x))] [] M Q := by
  intro nM
  induction nM using Nat.strongRecOn with
  | ind nM ih =>
    intro n i h_y h_z h_n h_i hm
    refine jr.iload rfl rfl ?_
    refine jr.iload_n rfl rfl ?_
    refine jr.iload_n rfl rfl ?_
    refine jr.iadd rfl ?_
    refine jr.icmp_ge rfl rfl (by first | (refine rgb (by assumption) ?_; exact rfl) | omega) (by first | (refine rgb (by assumption) ?_; exact rfl) | omega) (fun h10 => ?_) (fun h10 => ?_)
    · refine jr.lload_n rfl rfl ?_
      exact jr.lreturn rfl rfl (q _ (by omega) )
    · refine jr.lload_n rfl rfl ?_
      refine jr.bipush rfl (jbp _ (nlt rfl)) ?_
      refine jr.lshl rfl ?_
      have b1 : -9223372036854775808 ≤ jl_shl n 8 ∧ jl_shl n 8 ≤ 9223372036854775807 := jbl_any _
      generalize jl_shl n 8 = v1 at b1 ⊢
      refine jr.iload rfl rfl ?_
      refine jr.if_lt rfl rfl (by first | (refine rgb (by assumption) ?_; exact rfl) | omega) (fun h19 => ?_) (fun h19 => ?_)
      · refine jr.iconst rfl ?_
        refine jr.i2l rfl (by omega) ?_
        refine jr.lor rfl ?_
        have b2 : -9223372036854775808 ≤ jl_or v1 0 ∧ jl_or v1 0 ≤ 9223372036854775807 := jbl_any _
        generalize jl_or v1 0 = v2 at b2 ⊢
        refine jr.lstore_n (ls' := [_, _, _, _, _]) rfl (nlt rfl) rfl ?_
        refine jr.iinc (ls' := [_, _, _, _, _]) rfl rfl (nlt rfl) rfl ?_
        refine jr.goto rfl rfl ?_
        refine jr.pick (ls := [_, _, _, _, _]) [2, 3, 1, 0, 4] rfl rfl ?_
        exact ih (nM - 1) (by omega) v2 (i + 1) (by omega) (by omega) (by omega) (by omega)  (by omega)
      · refine jr.iload rfl rfl ?_
        refine jr.aload_n rfl rfl ?_
        refine jr.alen0 (x := 400) rfl (Nat.lt_trans (kx_34 k_x).1 (by decide)) (kx_34 k_x).2 rfl ?_
        refine jr.icmp_ge rfl rfl (by first | (refine rgb (by assumption) ?_; exact rfl) | omega) (by first | (refine rgb (by assumption) ?_; exact rfl) | omega) (fun h26 => ?_) (fun h26 => ?_)
        · refine jr.iconst rfl ?_
          refine jr.i2l rfl (by omega) ?_
          refine jr.lor rfl ?_
          have b3 : -9223372036854775808 ≤ jl_or v1 0 ∧ jl_or v1 0 ≤ 9223372036854775807 := jbl_any _
          generalize jl_or v1 0 = v3 at b3 ⊢
          refine jr.lstore_n (ls' := [_, _, _, _, _]) rfl (nlt rfl) rfl ?_
          refine jr.iinc (ls' := [_, _, _, _, _]) rfl rfl (nlt rfl) rfl ?_
          refine jr.goto rfl rfl ?_
          refine jr.pick (ls := [_, _, _, _, _]) [2, 3, 1, 0, 4] rfl rfl ?_
          exact ih (nM - 1) (by omega) v3 (i + 1) (by omega) (by omega) (by omega) (by omega)  (by omega)
        · refine jr.aload_n rfl rfl ?_
          refine jr.iload rfl rfl ?_
          obtain ⟨v4, e4⟩ : ∃ z_, M x i = z_ := ⟨_, rfl⟩
          have b4 : (-1) ≤ v4 ∧ v4 ≤ 255 := by rw [← e4]; exact (CI.r hC_M k_x (by decide) i)
          refine jr.iald (i := i) (x := v4) rfl (Nat.lt_trans (kx_34 k_x).1 (by decide)) (kx_34 k_x).2 (by decide) (by omega) (by omega) e4 ?_
          refine jr.goto rfl rfl ?_
          refine jr.i2l rfl (by omega) ?_
          refine jr.lor rfl ?_
          have b5 : -9223372036854775808 ≤ jl_or v1 v4 ∧ jl_or v1 v4 ≤ 9223372036854775807 := jbl_any _
          generalize jl_or v1 v4 = v5 at b5 ⊢
          refine jr.lstore_n (ls' := [_, _, _, _, _]) rfl (nlt rfl) rfl ?_
          refine jr.iinc (ls' := [_, _, _, _, _]) rfl rfl (nlt rfl) rfl ?_
          refine jr.goto rfl rfl ?_
          refine jr.pick (ls := [_, _, _, _, _]) [2, 3, 1, 0, 4] rfl rfl ?_
          exact ih (nM - 1) (by omega) v5 (i + 1) (by omega) (by omega) (by omega) (by omega)  (by omega)
theorem c_PacketWall_numberAt_p {A : Nat → Option (Nat × (Nat → Int32))} {Q : Option Value → jm → Prop} {M : jm} (hC_M : CI M) {x : Nat} (k_x : kd x = 34) {y : Int} (h_y : (-100000) ≤ y ∧ y ≤ 100000) {z : Int} (h_z : 0 ≤ z ∧ z ≤ 8) (q : ∀ (r : Int), (-9223372036854775808) ≤ r ∧ r ≤ 9223372036854775807 → Q (some (.long (Int64.ofInt r))) M) : jc A 1 52 [.ref (x), .int (Int32.ofInt (y)), .int (Int32.ofInt (z))] M Q := by
  refine jc_of (m := xm_52) rfl (Nat.le_of_ble_eq_true rfl) rfl ?_
  refine jr.lconst (x := 0) rfl (by decide) ?_
  refine jr.lstore_n (ls' := [_, _, _, _]) rfl (nlt rfl) rfl ?_
  refine jr.iload_n rfl rfl ?_
  refine jr.istore (ls' := [_, _, _, _, _]) rfl (nlt rfl) rfl ?_
  refine jr.pick (ls := [_, _, _, _, _]) [3, 4, 1, 0, 2] rfl rfl ?_
  exact c_PacketWall_numberAt_p_L5 hC_M k_x q 8 0 y (by omega) (by omega) (by omega) (by omega)  (by omega)
theorem c_Packet_numberFrom {A : Nat → Option (Nat × (Nat → Int32))} {Q : Option Value → jm → Prop} {M : jm} (hC_M : CI M) {t : Nat} (k_t : kd t = 33) {x : Int} (h_x : (-100000) ≤ x ∧ x ≤ 100000) {y : Int} (h_y : 0 ≤ y ∧ y ≤ 8) (q : ∀ (r : Int), (-9223372036854775808) ≤ r ∧ r ≤ 9223372036854775807 → Q (some (.long (Int64.ofInt r))) M) : jc A 2 193 [.ref (t), .int (Int32.ofInt (x)), .int (Int32.ofInt (y))] M Q := by
  refine jc_of (m := xm_193) rfl (Nat.le_of_ble_eq_true rfl) rfl ?_
  refine jr.aload_n rfl rfl ?_
  have k1 := kf_33_0 k_t
  refine jr.getf (i := 0) (v := .ref (t + 1)) rfl rfl (Nat.lt_trans (kx_33 k_t).1 (by decide)) (kx_33 k_t).2 (by decide) rfl rfl rfl (jval_ref rfl k1.1) ?_
  refine jr.iload_n rfl rfl ?_
  refine jr.iload_n rfl rfl ?_
  refine jr_s rfl rfl (Or.inr rfl) ⟨Nat.le_of_ble_eq_true rfl, Nat.le_of_ble_eq_true rfl⟩ rfl rfl (jc.deep (c_PacketWall_numberAt_p hC_M k1.2 (by omega) (by omega) (fun r2 z2  => ?_)) (Nat.le_of_ble_eq_true rfl))
  exact jr.lreturn rfl rfl (q _ (by omega) )
theorem c_Headers_fieldCount {A : Nat → Option (Nat × (Nat → Int32))} {Q : Option Value → jm → Prop} {M : jm} (hC_M : CI M) {x : Int} (h_x : (-2147483648) ≤ x ∧ x ≤ 2147483647) (q : ∀ (r : Int), 0 ≤ r ∧ r ≤ 11 → (r = 0 ∨ ((0 ≤ x ∧ x ≤ 11) ∧ r = xcv_2 x)) → ((x < 0 ∨ 11 < x) ∨ r = xcv_2 x) → Q (some (.int (Int32.ofInt r))) M) : jc A 1 109 [.int (Int32.ofInt (x))] M Q := by
  refine jc_of (m := xm_109) rfl (Nat.le_of_ble_eq_true rfl) rfl ?_
  refine jr.iload_n rfl rfl ?_
  refine jr.if_lt rfl rfl (by first | (refine rgb (by assumption) ?_; exact rfl) | omega) (fun h1 => ?_) (fun h1 => ?_)
  · refine jr.iconst rfl ?_
    exact jr.ireturn rfl rfl rfl (q _ (by first | exact rgq rfl | omega) (by omega) (by omega))
  · refine jr.iload_n rfl rfl ?_
    refine jr.gst (v := .ref 1000002) rfl rfl ?_
    refine jr.alens (x := 12) rfl (by decide) rfl rfl ?_
    refine jr.icmp_ge rfl rfl (by first | (refine rgb (by assumption) ?_; exact rfl) | omega) (by first | (refine rgb (by assumption) ?_; exact rfl) | omega) (fun h9 => ?_) (fun h9 => ?_)
    · refine jr.iconst rfl ?_
      exact jr.ireturn rfl rfl rfl (q _ (by first | exact rgq rfl | omega) (by omega) (by omega))
    · refine jr.gst (v := .ref 1000002) rfl rfl ?_
      refine jr.iload_n rfl rfl ?_
      obtain ⟨v1, e1⟩ : ∃ z_, xcv_2 x = z_ := ⟨_, rfl⟩
      have b1 : 1 ≤ v1 ∧ v1 ≤ 11 := by rw [← e1]; exact xcr_2 (by omega) (by omega)
      refine jr.ials (i := x) v1 rfl (by decide) rfl (by decide) (by omega) (by omega) (by rw [← e1]; exact (Int32.ofInt_toInt _).symm) ?_
      refine jr.goto rfl rfl ?_
      exact jr.ireturn rfl rfl rfl (q _ (by omega) (by omega) (by omega))
theorem c_Headers_valueOf {A : Nat → Option (Nat × (Nat → Int32))} {Q : Option Value → jm → Prop} {M : jm} (hC_M : CI M) {t : Nat} (k_t : kd t = 18) {x : Int} (h_x : (-2147483648) ≤ x ∧ x ≤ 2147483647) {y : Int} (h_y : (-2147483648) ≤ y ∧ y ≤ 2147483647) (q : ∀ (r : Int), (-9223372036854775808) ≤ r ∧ r ≤ 9223372036854775807 → Q (some (.long (Int64.ofInt r))) M) : jc A 2 110 [.ref (t), .int (Int32.ofInt (x)), .int (Int32.ofInt (y))] M Q := by
  refine jc_of (m := xm_110) rfl (Nat.le_of_ble_eq_true rfl) rfl ?_
  refine jr.aload_n rfl rfl ?_
  refine jr.iload_n rfl rfl ?_
  refine jr_v rfl rfl (Or.inl rfl) rfl rfl (Nat.lt_trans (kx_18 k_t).1 (by decide)) (kx_18 k_t).2 ⟨rfl, Nat.le_of_ble_eq_true rfl, Nat.le_of_ble_eq_true rfl⟩ rfl (jc.deep (c_Headers_kindAt hC_M k_t (by omega) (fun r1 z1 w1_0 w1_1 => ?_)) (Nat.le_of_ble_eq_true rfl))
  refine jr.istore_n (ls' := [_, _, _, _]) rfl (nlt rfl) rfl ?_
  refine jr.iload_n rfl rfl ?_
  refine jr.if_lt rfl rfl (by first | (refine rgb (by assumption) ?_; exact rfl) | omega) (fun h7 => ?_) (fun h7 => ?_)
  · refine jr.ldc2 (x := (-1)) rfl rfl (by decide) ?_
    exact jr.lreturn rfl rfl (q _ (by omega) )
  · refine jr.iload_n rfl rfl ?_
    refine jr.iload_n rfl rfl ?_
    refine jr_s rfl rfl (Or.inl rfl) ⟨Nat.le_of_ble_eq_true rfl, Nat.le_of_ble_eq_true rfl⟩ rfl rfl (jc.deep (c_Headers_fieldCount hC_M (by omega) (fun r2 z2 w2_0 w2_1 => ?_)) (Nat.le_of_ble_eq_true rfl))
    refine jr.icmp_lt rfl rfl (by first | (refine rgb (by assumption) ?_; exact rfl) | omega) (by first | (refine rgb (by assumption) ?_; exact rfl) | omega) (fun h15 => ?_) (fun h15 => ?_)
    · refine jr.iload_n rfl rfl ?_
      refine jr.bipush rfl (jbp _ (nlt rfl)) ?_
      refine jr.icmp_ne rfl rfl (by first | (refine rgb (by assumption) ?_; exact rfl) | omega) (rgl rfl) (fun h25 => ?_) (fun h25 => ?_)
      · have sx25 : r1 ≤ (10 : Int) := by omega
        clear h25
        refine jr.iconst rfl ?_
        refine jr.gst (v := .ref 1000003) rfl rfl ?_
        refine jr.iload_n rfl rfl ?_
        obtain ⟨v3, e3⟩ : ∃ z_, xcv_3 r1 = z_ := ⟨_, rfl⟩
        have b3 : 0 ≤ v3 ∧ v3 ≤ 51 := by rw [← e3]; exact xcr_3 (by omega) (by omega)
        refine jr.ials (i := r1) v3 rfl (by decide) rfl (by decide) (by omega) (by omega) (by rw [← e3]; exact (Int32.ofInt_toInt _).symm) ?_
        have hff := xff (i := r1) (by omega) (by omega)
        refine jr.iload_n rfl rfl ?_
        refine jr.iadd rfl ?_
        refine jr.imul rfl ?_
        refine jr.istore (ls' := [_, _, _, _, _]) rfl (nlt rfl) rfl ?_
        refine jr.aload_n rfl rfl ?_
        obtain ⟨v4, e4⟩ : ∃ z_, M t 7 = z_ := ⟨_, rfl⟩
        have b4 : 0 ≤ v4 ∧ v4 ≤ 597 := by rw [← e4]; exact (CI.r hC_M k_t (by decide) 7)
        have k5 : kd (v4).toNat = 33 := ((congrArg (fun z : Int => kd z.toNat) (show M t 7 = v4 from e4)).symm.trans (CI.x hC_M k_t 7 rfl (by decide)))
        refine jr.getf (i := 7) (x := v4) (v := .ref (v4.toNat)) rfl rfl (Nat.lt_trans (kx_18 k_t).1 (by decide)) (kx_18 k_t).2 (by decide) rfl rfl e4 (jval_mut rfl (kn_18_7 k_t)) ?_
        have k6 := kf_33_0 k5
        refine jr.getf (i := 0) (v := .ref ((v4.toNat) + 1)) rfl rfl (Nat.lt_trans (kx_33 k5).1 (by decide)) (kx_33 k5).2 (by decide) rfl rfl rfl (jval_ref rfl k6.1) ?_
        refine jr.aload_n rfl rfl ?_
        have k7 := kf_18_1 k_t
        refine jr.getf (i := 1) (v := .ref (t + 2)) rfl rfl (Nat.lt_trans (kx_18 k_t).1 (by decide)) (kx_18 k_t).2 (by decide) rfl rfl rfl (jval_ref rfl k7.1) ?_
        refine jr.iload_n rfl rfl ?_
        obtain ⟨v8, e8⟩ : ∃ z_, M ((t + 2)) x = z_ := ⟨_, rfl⟩
        have b8 : 0 ≤ v8 ∧ v8 ≤ 400 := by rw [← e8]; exact (CI.r hC_M k7.2 (by decide) x)
        refine jr.iald (i := x) (x := v8) rfl (Nat.lt_trans (kx_20 k7.2).1 (by decide)) (kx_20 k7.2).2 (by decide) (by omega) (by omega) e8 ?_
        refine jr.gst (v := .ref 1000004) rfl rfl ?_
        refine jr.iload rfl rfl ?_
        obtain ⟨v9, e9⟩ : ∃ z_, xcv_4 (4 * (v3 + y)) = z_ := ⟨_, rfl⟩
        have b9 : 0 ≤ v9 ∧ v9 ≤ 64 := by rw [← e9]; exact xcr_4 (by omega) (by omega)
        refine jr.ials (i := (4 * (v3 + y))) v9 rfl (by decide) rfl (by decide) (by omega) (by omega) (by rw [← e9]; exact (Int32.ofInt_toInt _).symm) ?_
        refine jr.iadd rfl ?_
        refine jr.gst (v := .ref 1000004) rfl rfl ?_
        refine jr.iload rfl rfl ?_
        refine jr.iconst rfl ?_
        refine jr.iadd rfl ?_
        obtain ⟨v10, e10⟩ : ∃ z_, xcv_4 ((4 * (v3 + y)) + 1) = z_ := ⟨_, rfl⟩
        have b10 : 0 ≤ v10 ∧ v10 ≤ 64 := by rw [← e10]; exact xcr_4 (by omega) (by omega)
        refine jr.ials (i := ((4 * (v3 + y)) + 1)) v10 rfl (by decide) rfl (by decide) (by omega) (by omega) (by rw [← e10]; exact (Int32.ofInt_toInt _).symm) ?_
        have hf1 := xf1 (i := ((4 * (v3 + y)) + 1)) (by omega) (by omega) (by omega)
        refine jr_s rfl rfl (Or.inr rfl) ⟨Nat.le_of_ble_eq_true rfl, Nat.le_of_ble_eq_true rfl⟩ rfl rfl (jc.deep (c_PacketWall_numberAt_p hC_M k6.2 (by omega) (by omega) (fun r11 z11  => ?_)) (Nat.le_of_ble_eq_true rfl))
        refine jr.lstore (ls' := [_, _, _, _, _, _]) rfl (nlt rfl) rfl ?_
        refine jr.gst (v := .ref 1000004) rfl rfl ?_
        refine jr.iload rfl rfl ?_
        refine jr.iconst rfl ?_
        refine jr.iadd rfl ?_
        obtain ⟨v12, e12⟩ : ∃ z_, xcv_4 ((4 * (v3 + y)) + 3) = z_ := ⟨_, rfl⟩
        have b12 : 0 ≤ v12 ∧ v12 ≤ 64 := by rw [← e12]; exact xcr_4 (by omega) (by omega)
        refine jr.ials (i := ((4 * (v3 + y)) + 3)) v12 rfl (by decide) rfl (by decide) (by omega) (by omega) (by rw [← e12]; exact (Int32.ofInt_toInt _).symm) ?_
        refine jr.istore (ls' := [_, _, _, _, _, _, _]) rfl (nlt rfl) rfl ?_
        refine jr.iload rfl rfl ?_
        refine jr.bipush rfl (jbp _ (nlt rfl)) ?_
        refine jr.icmp_lt rfl rfl (by first | (refine rgb (by assumption) ?_; exact rfl) | omega) (rgl rfl) (fun h94 => ?_) (fun h94 => ?_)
        · refine jr.lload rfl rfl ?_
          refine jr.gst (v := .ref 1000004) rfl rfl ?_
          refine jr.iload rfl rfl ?_
          refine jr.iconst rfl ?_
          refine jr.iadd rfl ?_
          obtain ⟨v13, e13⟩ : ∃ z_, xcv_4 ((4 * (v3 + y)) + 2) = z_ := ⟨_, rfl⟩
          have b13 : 0 ≤ v13 ∧ v13 ≤ 64 := by rw [← e13]; exact xcr_4 (by omega) (by omega)
          refine jr.ials (i := ((4 * (v3 + y)) + 2)) v13 rfl (by decide) rfl (by decide) (by omega) (by omega) (by rw [← e13]; exact (Int32.ofInt_toInt _).symm) ?_
          refine jr.lushr rfl ?_
          have b14 : -9223372036854775808 ≤ jl_ushr r11 v13 ∧ jl_ushr r11 v13 ≤ 9223372036854775807 := jbl_any _
          generalize jl_ushr r11 v13 = v14 at b14 ⊢
          refine jr.lconst (x := 1) rfl (by decide) ?_
          refine jr.iload rfl rfl ?_
          refine jr.lshl rfl ?_
          have b15 : -9223372036854775808 ≤ jl_shl 1 v12 ∧ jl_shl 1 v12 ≤ 9223372036854775807 := jbl_any _
          generalize jl_shl 1 v12 = v15 at b15 ⊢
          refine jr.lconst (x := 1) rfl (by decide) ?_
          refine jr.lsub rfl ?_
          refine jr.lw (jl_w (v15 - 1)) (jl_w_eq _) ?_
          have b16 : -9223372036854775808 ≤ jl_w (v15 - 1) ∧ jl_w (v15 - 1) ≤ 9223372036854775807 := jbl_any _
          generalize jl_w (v15 - 1) = v16 at b16 ⊢
          refine jr.land rfl ?_
          have b17 : -9223372036854775808 ≤ jl_and v14 v16 ∧ jl_and v14 v16 ≤ 9223372036854775807 := jbl_any _
          generalize jl_and v14 v16 = v17 at b17 ⊢
          exact jr.lreturn rfl rfl (q _ (by omega) )
        · refine jr.lload rfl rfl ?_
          refine jr.goto rfl rfl ?_
          exact jr.lreturn rfl rfl (q _ (by omega) )
      · refine jr.aload_n rfl rfl ?_
        have k18 := kf_18_2 k_t
        refine jr.getf (i := 2) (v := .ref (t + 3)) rfl rfl (Nat.lt_trans (kx_18 k_t).1 (by decide)) (kx_18 k_t).2 (by decide) rfl rfl rfl (jval_ref rfl k18.1) ?_
        refine jr.iload_n rfl rfl ?_
        obtain ⟨v19, e19⟩ : ∃ z_, M ((t + 3)) x = z_ := ⟨_, rfl⟩
        have b19 : (-400) ≤ v19 ∧ v19 ≤ 2048 := by rw [← e19]; exact (CI.r hC_M k18.2 (by decide) x)
        refine jr.iald (i := x) (x := v19) rfl (Nat.lt_trans (kx_21 k18.2).1 (by decide)) (kx_21 k18.2).2 (by decide) (by omega) (by omega) e19 ?_
        refine jr.i2l rfl (by omega) ?_
        exact jr.lreturn rfl rfl (q _ (by omega) )
    · refine jr.ldc2 (x := (-1)) rfl rfl (by decide) ?_
      exact jr.lreturn rfl rfl (q _ (by omega) )
theorem c_Headers_valueOf_o2 {A : Nat → Option (Nat × (Nat → Int32))} {Q : Option Value → jm → Prop} {M : jm} (hC_M : CI M) {t : Nat} (k_t : kd t = 18) {x : Int} (h_x : (-2147483648) ≤ x ∧ x ≤ 2147483647) (p0 : 0 ≤ x ∧ x < M t 3) (p1 : M (t + 1) x = 2) (q : ∀ (r : Int), 0 ≤ r ∧ r ≤ 8191 → Q (some (.long (Int64.ofInt r))) M) : jc A 2 110 [.ref (t), .int (Int32.ofInt (x)), .int (Int32.ofInt (5))] M Q := by
  refine jc_of (m := xm_110) rfl (Nat.le_of_ble_eq_true rfl) rfl ?_
  refine jr.aload_n rfl rfl ?_
  refine jr.iload_n rfl rfl ?_
  refine jr_v rfl rfl (Or.inl rfl) rfl rfl (Nat.lt_trans (kx_18 k_t).1 (by decide)) (kx_18 k_t).2 ⟨rfl, Nat.le_of_ble_eq_true rfl, Nat.le_of_ble_eq_true rfl⟩ rfl (jc.deep (c_Headers_kindAt hC_M k_t (by omega) (fun r1 z1 w1_0 w1_1 => ?_)) (Nat.le_of_ble_eq_true rfl))
  refine jr.istore_n (ls' := [_, _, _, _]) rfl (nlt rfl) rfl ?_
  refine jr.iload_n rfl rfl ?_
  refine jr.if_lt rfl rfl (by first | exact rgl rfl | omega) (fun h => absurd h (by decide)) (fun _ => ?_)
  refine jr.iload_n rfl rfl ?_
  refine jr.iload_n rfl rfl ?_
  refine jr_s rfl rfl (Or.inl rfl) ⟨Nat.le_of_ble_eq_true rfl, Nat.le_of_ble_eq_true rfl⟩ rfl rfl (jc.deep (c_Headers_fieldCount hC_M (by omega) (fun r2 z2 w2_0 w2_1 => ?_)) (Nat.le_of_ble_eq_true rfl))
  have hx2 := xt_2_2 r1
  refine jr.icmp_lt rfl rfl (by first | (refine rgb (by assumption) ?_; exact rfl) | omega) (by first | (refine rgb (by assumption) ?_; exact rfl) | omega) (fun h15 => ?_) (fun h => absurd h (by omega))
  refine jr.iload_n rfl rfl ?_
  refine jr.bipush rfl (jbp _ (nlt rfl)) ?_
  refine jr.icmp_ne rfl rfl (by first | (refine rgb (by assumption) ?_; exact rfl) | omega) (rgl rfl) (fun h25 => ?_) (fun h => absurd h (by omega))
  refine jr.iconst rfl ?_
  refine jr.gst (v := .ref 1000003) rfl rfl ?_
  refine jr.iload_n rfl rfl ?_
  obtain ⟨v3, e3⟩ : ∃ z_, xcv_3 r1 = z_ := ⟨_, rfl⟩
  have b3 : 0 ≤ v3 ∧ v3 ≤ 51 := by rw [← e3]; exact xcr_3 (by omega) (by omega)
  refine jr.ials (i := r1) v3 rfl (by decide) rfl (by decide) (by omega) (by omega) (by rw [← e3]; exact (Int32.ofInt_toInt _).symm) ?_
  have hx3 := xt_3_2 r1
  refine jr.iload_n rfl rfl ?_
  refine jr.iadd rfl ?_
  refine jr.imul rfl ?_
  refine jr.istore (ls' := [_, _, _, _, _]) rfl (nlt rfl) rfl ?_
  refine jr.aload_n rfl rfl ?_
  obtain ⟨v4, e4⟩ : ∃ z_, M t 7 = z_ := ⟨_, rfl⟩
  have b4 : 0 ≤ v4 ∧ v4 ≤ 597 := by rw [← e4]; exact (CI.r hC_M k_t (by decide) 7)
  have k5 : kd (v4).toNat = 33 := ((congrArg (fun z : Int => kd z.toNat) (show M t 7 = v4 from e4)).symm.trans (CI.x hC_M k_t 7 rfl (by decide)))
  refine jr.getf (i := 7) (x := v4) (v := .ref (v4.toNat)) rfl rfl (Nat.lt_trans (kx_18 k_t).1 (by decide)) (kx_18 k_t).2 (by decide) rfl rfl e4 (jval_mut rfl (kn_18_7 k_t)) ?_
  have k6 := kf_33_0 k5
  refine jr.getf (i := 0) (v := .ref ((v4.toNat) + 1)) rfl rfl (Nat.lt_trans (kx_33 k5).1 (by decide)) (kx_33 k5).2 (by decide) rfl rfl rfl (jval_ref rfl k6.1) ?_
  refine jr.aload_n rfl rfl ?_
  have k7 := kf_18_1 k_t
  refine jr.getf (i := 1) (v := .ref (t + 2)) rfl rfl (Nat.lt_trans (kx_18 k_t).1 (by decide)) (kx_18 k_t).2 (by decide) rfl rfl rfl (jval_ref rfl k7.1) ?_
  refine jr.iload_n rfl rfl ?_
  obtain ⟨v8, e8⟩ : ∃ z_, M ((t + 2)) x = z_ := ⟨_, rfl⟩
  have b8 : 0 ≤ v8 ∧ v8 ≤ 400 := by rw [← e8]; exact (CI.r hC_M k7.2 (by decide) x)
  refine jr.iald (i := x) (x := v8) rfl (Nat.lt_trans (kx_20 k7.2).1 (by decide)) (kx_20 k7.2).2 (by decide) (by omega) (by omega) e8 ?_
  refine jr.gst (v := .ref 1000004) rfl rfl ?_
  refine jr.iload rfl rfl ?_
  obtain ⟨v9, e9⟩ : ∃ z_, xcv_4 (4 * (v3 + 5)) = z_ := ⟨_, rfl⟩
  have b9 : 0 ≤ v9 ∧ v9 ≤ 64 := by rw [← e9]; exact xcr_4 (by omega) (by omega)
  refine jr.ials (i := (4 * (v3 + 5))) v9 rfl (by decide) rfl (by decide) (by omega) (by omega) (by rw [← e9]; exact (Int32.ofInt_toInt _).symm) ?_
  refine jr.iadd rfl ?_
  refine jr.gst (v := .ref 1000004) rfl rfl ?_
  refine jr.iload rfl rfl ?_
  refine jr.iconst rfl ?_
  refine jr.iadd rfl ?_
  obtain ⟨v10, e10⟩ : ∃ z_, xcv_4 ((4 * (v3 + 5)) + 1) = z_ := ⟨_, rfl⟩
  have b10 : 0 ≤ v10 ∧ v10 ≤ 64 := by rw [← e10]; exact xcr_4 (by omega) (by omega)
  refine jr.ials (i := ((4 * (v3 + 5)) + 1)) v10 rfl (by decide) rfl (by decide) (by omega) (by omega) (by rw [← e10]; exact (Int32.ofInt_toInt _).symm) ?_
  have hf1 := xf1 (i := ((4 * (v3 + 5)) + 1)) (by omega) (by omega) (by omega)
  refine jr_s rfl rfl (Or.inr rfl) ⟨Nat.le_of_ble_eq_true rfl, Nat.le_of_ble_eq_true rfl⟩ rfl rfl (jc.deep (c_PacketWall_numberAt_p hC_M k6.2 (by omega) (by omega) (fun r11 z11  => ?_)) (Nat.le_of_ble_eq_true rfl))
  refine jr.lstore (ls' := [_, _, _, _, _, _]) rfl (nlt rfl) rfl ?_
  refine jr.gst (v := .ref 1000004) rfl rfl ?_
  refine jr.iload rfl rfl ?_
  refine jr.iconst rfl ?_
  refine jr.iadd rfl ?_
  obtain ⟨v12, e12⟩ : ∃ z_, xcv_4 ((4 * (v3 + 5)) + 3) = z_ := ⟨_, rfl⟩
  have b12 : 0 ≤ v12 ∧ v12 ≤ 64 := by rw [← e12]; exact xcr_4 (by omega) (by omega)
  refine jr.ials (i := ((4 * (v3 + 5)) + 3)) v12 rfl (by decide) rfl (by decide) (by omega) (by omega) (by rw [← e12]; exact (Int32.ofInt_toInt _).symm) ?_
  have hx4 := xt_4_47 ((4 * (v3 + 5)) + 3)
  refine jr.istore (ls' := [_, _, _, _, _, _, _]) rfl (nlt rfl) rfl ?_
  refine jr.iload rfl rfl ?_
  refine jr.bipush rfl (jbp _ (nlt rfl)) ?_
  refine jr.icmp_lt rfl rfl (by first | (refine rgb (by assumption) ?_; exact rfl) | omega) (rgl rfl) (fun h94 => ?_) (fun h => absurd h (by omega))
  refine jr.lload rfl rfl ?_
  refine jr.gst (v := .ref 1000004) rfl rfl ?_
  refine jr.iload rfl rfl ?_
  refine jr.iconst rfl ?_
  refine jr.iadd rfl ?_
  obtain ⟨v13, e13⟩ : ∃ z_, xcv_4 ((4 * (v3 + 5)) + 2) = z_ := ⟨_, rfl⟩
  have b13 : 0 ≤ v13 ∧ v13 ≤ 64 := by rw [← e13]; exact xcr_4 (by omega) (by omega)
  refine jr.ials (i := ((4 * (v3 + 5)) + 2)) v13 rfl (by decide) rfl (by decide) (by omega) (by omega) (by rw [← e13]; exact (Int32.ofInt_toInt _).symm) ?_
  refine jr.lushr rfl ?_
  have b14 : -9223372036854775808 ≤ jl_ushr r11 v13 ∧ jl_ushr r11 v13 ≤ 9223372036854775807 := jbl_any _
  generalize jl_ushr r11 v13 = v14 at b14 ⊢
  refine jr.lconst (x := 1) rfl (by decide) ?_
  refine jr.iload rfl rfl ?_
  refine jr.lshl rfl ?_
  have b15 : jl_shl 1 v12 = 8192 := (by rw [show v12 = 13 from by omega]; decide)
  generalize jl_shl 1 v12 = v15 at b15 ⊢
  refine jr.lconst (x := 1) rfl (by decide) ?_
  refine jr.lsub rfl ?_
  refine jr.land rfl ?_
  have b16 : 0 ≤ jl_and v14 (v15 - 1) ∧ jl_and v14 (v15 - 1) ≤ 8191 := (by have hq := jl_and_le (x := v14) (m := v15 - 1) (by omega); omega)
  generalize jl_and v14 (v15 - 1) = v16 at b16 ⊢
  exact jr.lreturn rfl rfl (q _ (by omega) )
theorem c_Headers_valueOf_o6 {A : Nat → Option (Nat × (Nat → Int32))} {Q : Option Value → jm → Prop} {M : jm} (hC_M : CI M) {t : Nat} (k_t : kd t = 18) {x : Int} (h_x : (-2147483648) ≤ x ∧ x ≤ 2147483647) (p0 : 0 ≤ x ∧ x < M t 3) (p1 : M (t + 1) x = 6) (q : ∀ (r : Int), 0 ≤ r ∧ r ≤ 8191 → Q (some (.long (Int64.ofInt r))) M) : jc A 2 110 [.ref (t), .int (Int32.ofInt (x)), .int (Int32.ofInt (1))] M Q := by
  refine jc_of (m := xm_110) rfl (Nat.le_of_ble_eq_true rfl) rfl ?_
  refine jr.aload_n rfl rfl ?_
  refine jr.iload_n rfl rfl ?_
  refine jr_v rfl rfl (Or.inl rfl) rfl rfl (Nat.lt_trans (kx_18 k_t).1 (by decide)) (kx_18 k_t).2 ⟨rfl, Nat.le_of_ble_eq_true rfl, Nat.le_of_ble_eq_true rfl⟩ rfl (jc.deep (c_Headers_kindAt hC_M k_t (by omega) (fun r1 z1 w1_0 w1_1 => ?_)) (Nat.le_of_ble_eq_true rfl))
  refine jr.istore_n (ls' := [_, _, _, _]) rfl (nlt rfl) rfl ?_
  refine jr.iload_n rfl rfl ?_
  refine jr.if_lt rfl rfl (by first | exact rgl rfl | omega) (fun h => absurd h (by decide)) (fun _ => ?_)
  refine jr.iload_n rfl rfl ?_
  refine jr.iload_n rfl rfl ?_
  refine jr_s rfl rfl (Or.inl rfl) ⟨Nat.le_of_ble_eq_true rfl, Nat.le_of_ble_eq_true rfl⟩ rfl rfl (jc.deep (c_Headers_fieldCount hC_M (by omega) (fun r2 z2 w2_0 w2_1 => ?_)) (Nat.le_of_ble_eq_true rfl))
  have hx2 := xt_2_6 r1
  refine jr.icmp_lt rfl rfl (by first | (refine rgb (by assumption) ?_; exact rfl) | omega) (by first | (refine rgb (by assumption) ?_; exact rfl) | omega) (fun h15 => ?_) (fun h => absurd h (by omega))
  refine jr.iload_n rfl rfl ?_
  refine jr.bipush rfl (jbp _ (nlt rfl)) ?_
  refine jr.icmp_ne rfl rfl (by first | (refine rgb (by assumption) ?_; exact rfl) | omega) (rgl rfl) (fun h25 => ?_) (fun h => absurd h (by omega))
  refine jr.iconst rfl ?_
  refine jr.gst (v := .ref 1000003) rfl rfl ?_
  refine jr.iload_n rfl rfl ?_
  obtain ⟨v3, e3⟩ : ∃ z_, xcv_3 r1 = z_ := ⟨_, rfl⟩
  have b3 : 0 ≤ v3 ∧ v3 ≤ 51 := by rw [← e3]; exact xcr_3 (by omega) (by omega)
  refine jr.ials (i := r1) v3 rfl (by decide) rfl (by decide) (by omega) (by omega) (by rw [← e3]; exact (Int32.ofInt_toInt _).symm) ?_
  have hx3 := xt_3_6 r1
  refine jr.iload_n rfl rfl ?_
  refine jr.iadd rfl ?_
  refine jr.imul rfl ?_
  refine jr.istore (ls' := [_, _, _, _, _]) rfl (nlt rfl) rfl ?_
  refine jr.aload_n rfl rfl ?_
  obtain ⟨v4, e4⟩ : ∃ z_, M t 7 = z_ := ⟨_, rfl⟩
  have b4 : 0 ≤ v4 ∧ v4 ≤ 597 := by rw [← e4]; exact (CI.r hC_M k_t (by decide) 7)
  have k5 : kd (v4).toNat = 33 := ((congrArg (fun z : Int => kd z.toNat) (show M t 7 = v4 from e4)).symm.trans (CI.x hC_M k_t 7 rfl (by decide)))
  refine jr.getf (i := 7) (x := v4) (v := .ref (v4.toNat)) rfl rfl (Nat.lt_trans (kx_18 k_t).1 (by decide)) (kx_18 k_t).2 (by decide) rfl rfl e4 (jval_mut rfl (kn_18_7 k_t)) ?_
  have k6 := kf_33_0 k5
  refine jr.getf (i := 0) (v := .ref ((v4.toNat) + 1)) rfl rfl (Nat.lt_trans (kx_33 k5).1 (by decide)) (kx_33 k5).2 (by decide) rfl rfl rfl (jval_ref rfl k6.1) ?_
  refine jr.aload_n rfl rfl ?_
  have k7 := kf_18_1 k_t
  refine jr.getf (i := 1) (v := .ref (t + 2)) rfl rfl (Nat.lt_trans (kx_18 k_t).1 (by decide)) (kx_18 k_t).2 (by decide) rfl rfl rfl (jval_ref rfl k7.1) ?_
  refine jr.iload_n rfl rfl ?_
  obtain ⟨v8, e8⟩ : ∃ z_, M ((t + 2)) x = z_ := ⟨_, rfl⟩
  have b8 : 0 ≤ v8 ∧ v8 ≤ 400 := by rw [← e8]; exact (CI.r hC_M k7.2 (by decide) x)
  refine jr.iald (i := x) (x := v8) rfl (Nat.lt_trans (kx_20 k7.2).1 (by decide)) (kx_20 k7.2).2 (by decide) (by omega) (by omega) e8 ?_
  refine jr.gst (v := .ref 1000004) rfl rfl ?_
  refine jr.iload rfl rfl ?_
  obtain ⟨v9, e9⟩ : ∃ z_, xcv_4 (4 * (v3 + 1)) = z_ := ⟨_, rfl⟩
  have b9 : 0 ≤ v9 ∧ v9 ≤ 64 := by rw [← e9]; exact xcr_4 (by omega) (by omega)
  refine jr.ials (i := (4 * (v3 + 1))) v9 rfl (by decide) rfl (by decide) (by omega) (by omega) (by rw [← e9]; exact (Int32.ofInt_toInt _).symm) ?_
  refine jr.iadd rfl ?_
  refine jr.gst (v := .ref 1000004) rfl rfl ?_
  refine jr.iload rfl rfl ?_
  refine jr.iconst rfl ?_
  refine jr.iadd rfl ?_
  obtain ⟨v10, e10⟩ : ∃ z_, xcv_4 ((4 * (v3 + 1)) + 1) = z_ := ⟨_, rfl⟩
  have b10 : 0 ≤ v10 ∧ v10 ≤ 64 := by rw [← e10]; exact xcr_4 (by omega) (by omega)
  refine jr.ials (i := ((4 * (v3 + 1)) + 1)) v10 rfl (by decide) rfl (by decide) (by omega) (by omega) (by rw [← e10]; exact (Int32.ofInt_toInt _).symm) ?_
  have hf1 := xf1 (i := ((4 * (v3 + 1)) + 1)) (by omega) (by omega) (by omega)
  refine jr_s rfl rfl (Or.inr rfl) ⟨Nat.le_of_ble_eq_true rfl, Nat.le_of_ble_eq_true rfl⟩ rfl rfl (jc.deep (c_PacketWall_numberAt_p hC_M k6.2 (by omega) (by omega) (fun r11 z11  => ?_)) (Nat.le_of_ble_eq_true rfl))
  refine jr.lstore (ls' := [_, _, _, _, _, _]) rfl (nlt rfl) rfl ?_
  refine jr.gst (v := .ref 1000004) rfl rfl ?_
  refine jr.iload rfl rfl ?_
  refine jr.iconst rfl ?_
  refine jr.iadd rfl ?_
  obtain ⟨v12, e12⟩ : ∃ z_, xcv_4 ((4 * (v3 + 1)) + 3) = z_ := ⟨_, rfl⟩
  have b12 : 0 ≤ v12 ∧ v12 ≤ 64 := by rw [← e12]; exact xcr_4 (by omega) (by omega)
  refine jr.ials (i := ((4 * (v3 + 1)) + 3)) v12 rfl (by decide) rfl (by decide) (by omega) (by omega) (by rw [← e12]; exact (Int32.ofInt_toInt _).symm) ?_
  have hx4 := xt_4_123 ((4 * (v3 + 1)) + 3)
  refine jr.istore (ls' := [_, _, _, _, _, _, _]) rfl (nlt rfl) rfl ?_
  refine jr.iload rfl rfl ?_
  refine jr.bipush rfl (jbp _ (nlt rfl)) ?_
  refine jr.icmp_lt rfl rfl (by first | (refine rgb (by assumption) ?_; exact rfl) | omega) (rgl rfl) (fun h94 => ?_) (fun h => absurd h (by omega))
  refine jr.lload rfl rfl ?_
  refine jr.gst (v := .ref 1000004) rfl rfl ?_
  refine jr.iload rfl rfl ?_
  refine jr.iconst rfl ?_
  refine jr.iadd rfl ?_
  obtain ⟨v13, e13⟩ : ∃ z_, xcv_4 ((4 * (v3 + 1)) + 2) = z_ := ⟨_, rfl⟩
  have b13 : 0 ≤ v13 ∧ v13 ≤ 64 := by rw [← e13]; exact xcr_4 (by omega) (by omega)
  refine jr.ials (i := ((4 * (v3 + 1)) + 2)) v13 rfl (by decide) rfl (by decide) (by omega) (by omega) (by rw [← e13]; exact (Int32.ofInt_toInt _).symm) ?_
  refine jr.lushr rfl ?_
  have b14 : -9223372036854775808 ≤ jl_ushr r11 v13 ∧ jl_ushr r11 v13 ≤ 9223372036854775807 := jbl_any _
  generalize jl_ushr r11 v13 = v14 at b14 ⊢
  refine jr.lconst (x := 1) rfl (by decide) ?_
  refine jr.iload rfl rfl ?_
  refine jr.lshl rfl ?_
  have b15 : jl_shl 1 v12 = 8192 := (by rw [show v12 = 13 from by omega]; decide)
  generalize jl_shl 1 v12 = v15 at b15 ⊢
  refine jr.lconst (x := 1) rfl (by decide) ?_
  refine jr.lsub rfl ?_
  refine jr.land rfl ?_
  have b16 : 0 ≤ jl_and v14 (v15 - 1) ∧ jl_and v14 (v15 - 1) ≤ 8191 := (by have hq := jl_and_le (x := v14) (m := v15 - 1) (by omega); omega)
  generalize jl_and v14 (v15 - 1) = v16 at b16 ⊢
  exact jr.lreturn rfl rfl (q _ (by omega) )
theorem c_Headers_offsetOf {A : Nat → Option (Nat × (Nat → Int32))} {Q : Option Value → jm → Prop} {M : jm} (hC_M : CI M) {t : Nat} (k_t : kd t = 18) {x : Int} (h_x : (-2147483648) ≤ x ∧ x ≤ 2147483647) (p0 : 0 ≤ x ∧ x < M t 3) (p1 : M (t + 1) x = 2 ∨ M (t + 1) x = 6) (q : ∀ (r : Int), 0 ≤ r ∧ r ≤ 65528 → Q (some (.int (Int32.ofInt r))) M) : jc A 3 117 [.ref (t), .int (Int32.ofInt (x))] M Q := by
  refine jc_of (m := xm_117) rfl (Nat.le_of_ble_eq_true rfl) rfl ?_
  refine jr.bipush rfl (jbp _ (nlt rfl)) ?_
  refine jr.aload_n rfl rfl ?_
  refine jr.iload_n rfl rfl ?_
  refine jr.aload_n rfl rfl ?_
  refine jr.iload_n rfl rfl ?_
  refine jr_v rfl rfl (Or.inl rfl) rfl rfl (Nat.lt_trans (kx_18 k_t).1 (by decide)) (kx_18 k_t).2 ⟨rfl, Nat.le_of_ble_eq_true rfl, Nat.le_of_ble_eq_true rfl⟩ rfl (jc.deep (c_Headers_kindAt hC_M k_t (by omega) (fun r1 z1 w1_0 w1_1 => ?_)) (Nat.le_of_ble_eq_true rfl))
  refine jr.iconst rfl ?_
  refine jr.icmp_ne rfl rfl (by first | (refine rgb (by assumption) ?_; exact rfl) | omega) (rgl rfl) (fun h10 => ?_) (fun h10 => ?_)
  · refine jr.iconst rfl ?_
    refine jr_v rfl rfl (Or.inl rfl) rfl rfl (Nat.lt_trans (kx_18 k_t).1 (by decide)) (kx_18 k_t).2 ⟨rfl, Nat.le_of_ble_eq_true rfl, Nat.le_of_ble_eq_true rfl⟩ rfl (jc.deep (c_Headers_valueOf_o6 hC_M k_t (by omega) (by omega) (by omega) (fun r2 z2  => ?_)) (Nat.le_of_ble_eq_true rfl))
    refine jr.l2i rfl ?_
    refine jr.imul rfl ?_
    exact jr.ireturn rfl rfl rfl (q _ (by omega) )
  · refine jr.iconst rfl ?_
    refine jr.goto rfl rfl ?_
    refine jr_v rfl rfl (Or.inl rfl) rfl rfl (Nat.lt_trans (kx_18 k_t).1 (by decide)) (kx_18 k_t).2 ⟨rfl, Nat.le_of_ble_eq_true rfl, Nat.le_of_ble_eq_true rfl⟩ rfl (jc.deep (c_Headers_valueOf_o2 hC_M k_t (by omega) (by omega) (by omega) (fun r3 z3  => ?_)) (Nat.le_of_ble_eq_true rfl))
    refine jr.l2i rfl ?_
    refine jr.imul rfl ?_
    exact jr.ireturn rfl rfl rfl (q _ (by omega) )
theorem c_Headers_isMoreToCome {A : Nat → Option (Nat × (Nat → Int32))} {Q : Option Value → jm → Prop} {M : jm} (hC_M : CI M) {t : Nat} (k_t : kd t = 18) {x : Int} (h_x : (-2147483648) ≤ x ∧ x ≤ 2147483647) (q : ∀ (r : Int), 0 ≤ r ∧ r ≤ 1 → Q (some (.int (Int32.ofInt r))) M) : jc A 3 116 [.ref (t), .int (Int32.ofInt (x))] M Q := by
  refine jc_of (m := xm_116) rfl (Nat.le_of_ble_eq_true rfl) rfl ?_
  refine jr.aload_n rfl rfl ?_
  refine jr.iload_n rfl rfl ?_
  refine jr_v rfl rfl (Or.inl rfl) rfl rfl (Nat.lt_trans (kx_18 k_t).1 (by decide)) (kx_18 k_t).2 ⟨rfl, Nat.le_of_ble_eq_true rfl, Nat.le_of_ble_eq_true rfl⟩ rfl (jc.deep (c_Headers_kindAt hC_M k_t (by omega) (fun r1 z1 w1_0 w1_1 => ?_)) (Nat.le_of_ble_eq_true rfl))
  refine jr.iconst rfl ?_
  refine jr.icmp_ne rfl rfl (by first | (refine rgb (by assumption) ?_; exact rfl) | omega) (rgl rfl) (fun h6 => ?_) (fun h6 => ?_)
  · refine jr.aload_n rfl rfl ?_
    refine jr.iload_n rfl rfl ?_
    refine jr.iconst rfl ?_
    refine jr_v rfl rfl (Or.inl rfl) rfl rfl (Nat.lt_trans (kx_18 k_t).1 (by decide)) (kx_18 k_t).2 ⟨rfl, Nat.le_of_ble_eq_true rfl, Nat.le_of_ble_eq_true rfl⟩ rfl (jc.deep (c_Headers_valueOf hC_M k_t (by omega) (by omega) (fun r2 z2  => ?_)) (Nat.le_of_ble_eq_true rfl))
    refine jr.lstore_n (ls' := [_, _, _]) rfl (nlt rfl) rfl ?_
    refine jr.lload_n rfl rfl ?_
    refine jr.lconst (x := 1) rfl (by decide) ?_
    refine jr.land rfl ?_
    have b3 : 0 ≤ jl_and r2 1 ∧ jl_and r2 1 ≤ 1 := jl_and_le (by decide)
    generalize jl_and r2 1 = v3 at b3 ⊢
    refine jr.lconst (x := 0) rfl (by decide) ?_
    refine jr.lcmp_eq rfl rfl rfl (by omega) (by omega) (fun h29 => ?_) (fun h29 => ?_)
    · refine jr.iconst rfl ?_
      exact jr.ireturn rfl rfl rfl (q _ (by first | exact rgq rfl | omega) )
    · refine jr.iconst rfl ?_
      refine jr.goto rfl rfl ?_
      exact jr.ireturn rfl rfl rfl (q _ (by first | exact rgq rfl | omega) )
  · refine jr.aload_n rfl rfl ?_
    refine jr.iload_n rfl rfl ?_
    refine jr.iconst rfl ?_
    refine jr_v rfl rfl (Or.inl rfl) rfl rfl (Nat.lt_trans (kx_18 k_t).1 (by decide)) (kx_18 k_t).2 ⟨rfl, Nat.le_of_ble_eq_true rfl, Nat.le_of_ble_eq_true rfl⟩ rfl (jc.deep (c_Headers_valueOf hC_M k_t (by omega) (by omega) (fun r4 z4  => ?_)) (Nat.le_of_ble_eq_true rfl))
    refine jr.goto rfl rfl ?_
    refine jr.lstore_n (ls' := [_, _, _]) rfl (nlt rfl) rfl ?_
    refine jr.lload_n rfl rfl ?_
    refine jr.lconst (x := 1) rfl (by decide) ?_
    refine jr.land rfl ?_
    have b5 : 0 ≤ jl_and r4 1 ∧ jl_and r4 1 ≤ 1 := jl_and_le (by decide)
    generalize jl_and r4 1 = v5 at b5 ⊢
    refine jr.lconst (x := 0) rfl (by decide) ?_
    refine jr.lcmp_eq rfl rfl rfl (by omega) (by omega) (fun h29 => ?_) (fun h29 => ?_)
    · refine jr.iconst rfl ?_
      exact jr.ireturn rfl rfl rfl (q _ (by first | exact rgq rfl | omega) )
    · refine jr.iconst rfl ?_
      refine jr.goto rfl rfl ?_
      exact jr.ireturn rfl rfl rfl (q _ (by first | exact rgq rfl | omega) )
theorem c_Headers_pieceHeader {A : Nat → Option (Nat × (Nat → Int32))} {Q : Option Value → jm → Prop} {M : jm} (hC_M : CI M) {t : Nat} (k_t : kd t = 18) (q : ∀ (r : Int), (-1) ≤ r ∧ r ≤ 11 → (r = (-1) ∨ ((0 ≤ r ∧ r < M t 3) ∧ (M (t + 1) r = 2 ∨ M (t + 1) r = 6))) → Q (some (.int (Int32.ofInt r))) M) : jc A 4 115 [.ref (t)] M Q := by
  refine jc_of (m := xm_115) rfl (Nat.le_of_ble_eq_true rfl) rfl ?_
  refine jr.aload_n rfl rfl ?_
  refine jr.bipush rfl (jbp _ (nlt rfl)) ?_
  refine jr_v rfl rfl (Or.inl rfl) rfl rfl (Nat.lt_trans (kx_18 k_t).1 (by decide)) (kx_18 k_t).2 ⟨rfl, Nat.le_of_ble_eq_true rfl, Nat.le_of_ble_eq_true rfl⟩ rfl (jc.deep (c_Headers_firstOf hC_M k_t (by omega) (fun r1 z1 w1_0 => ?_)) (Nat.le_of_ble_eq_true rfl))
  refine jr.istore_n (ls' := [_, _]) rfl (nlt rfl) rfl ?_
  refine jr.aload_n rfl rfl ?_
  obtain ⟨v2, e2⟩ : ∃ z_, M t 4 = z_ := ⟨_, rfl⟩
  have b2 : (-2147483648) ≤ v2 ∧ v2 ≤ 2147483647 := by rw [← e2]; exact (CI.r hC_M k_t (by decide) 4)
  refine jr.getf (i := 4) (x := v2) (v := .int (Int32.ofInt (v2))) rfl rfl (Nat.lt_trans (kx_18 k_t).1 (by decide)) (kx_18 k_t).2 (by decide) rfl rfl e2 rfl ?_
  refine jr.if_ne rfl rfl (by first | (refine rgb (by assumption) ?_; exact rfl) | omega) (fun h11 => ?_) (fun h11 => ?_)
  · refine jr.iconst rfl ?_
    exact jr.ireturn rfl rfl rfl (q _ (by first | exact rgq rfl | omega) (by omega))
  · refine jr.iload_n rfl rfl ?_
    refine jr.iconst rfl ?_
    refine jr.icmp_ne rfl rfl (by first | (refine rgb (by assumption) ?_; exact rfl) | omega) (rgl rfl) (fun h16 => ?_) (fun h16 => ?_)
    · have sx16 : (0 : Int) ≤ r1 := by omega
      clear h16
      refine jr.aload_n rfl rfl ?_
      have k3 := kf_18_0 k_t
      refine jr.getf (i := 0) (v := .ref (t + 1)) rfl rfl (Nat.lt_trans (kx_18 k_t).1 (by decide)) (kx_18 k_t).2 (by decide) rfl rfl rfl (jval_ref rfl k3.1) ?_
      refine jr.iload_n rfl rfl ?_
      obtain ⟨v4, e4⟩ : ∃ z_, M ((t + 1)) r1 = z_ := ⟨_, rfl⟩
      have b4 : 0 ≤ v4 ∧ v4 ≤ 11 := by rw [← e4]; exact (CI.r hC_M k3.2 (by decide) r1)
      refine jr.iald (i := r1) (x := v4) rfl (Nat.lt_trans (kx_19 k3.2).1 (by decide)) (kx_19 k3.2).2 (by decide) (by omega) (by omega) e4 ?_
      refine jr.iconst rfl ?_
      refine jr.icmp_ne rfl rfl (by first | (refine rgb (by assumption) ?_; exact rfl) | omega) (rgl rfl) (fun h28 => ?_) (fun h28 => ?_)
      · refine jr.aload_n rfl rfl ?_
        refine jr.iload_n rfl rfl ?_
        refine jr_v rfl rfl (Or.inl rfl) rfl rfl (Nat.lt_trans (kx_18 k_t).1 (by decide)) (kx_18 k_t).2 ⟨rfl, Nat.le_of_ble_eq_true rfl, Nat.le_of_ble_eq_true rfl⟩ rfl (jc.deep (c_Headers_innerOf hC_M k_t (by omega) (fun r5 z5 w5_0 => ?_)) (Nat.le_of_ble_eq_true rfl))
        refine jr.istore_n (ls' := [_, _, _]) rfl (nlt rfl) rfl ?_
        refine jr.aload_n rfl rfl ?_
        refine jr.iload_n rfl rfl ?_
        refine jr_v rfl rfl (Or.inl rfl) rfl rfl (Nat.lt_trans (kx_18 k_t).1 (by decide)) (kx_18 k_t).2 ⟨rfl, Nat.le_of_ble_eq_true rfl, Nat.le_of_ble_eq_true rfl⟩ rfl (jc.deep (c_Headers_kindAt hC_M k_t (by omega) (fun r6 z6 w6_0 w6_1 => ?_)) (Nat.le_of_ble_eq_true rfl))
        refine jr.bipush rfl (jbp _ (nlt rfl)) ?_
        refine jr.icmp_ne rfl rfl (by first | (refine rgb (by assumption) ?_; exact rfl) | omega) (rgl rfl) (fun h66 => ?_) (fun h66 => ?_)
        · refine jr.iconst rfl ?_
          exact jr.ireturn rfl rfl rfl (q _ (by first | exact rgq rfl | omega) (by omega))
        · refine jr.iload_n rfl rfl ?_
          refine jr.goto rfl rfl ?_
          exact jr.ireturn rfl rfl rfl (q _ (by omega) (by omega))
      · refine jr.aload_n rfl rfl ?_
        refine jr.iload_n rfl rfl ?_
        refine jr_v rfl rfl (Or.inl rfl) rfl rfl (Nat.lt_trans (kx_18 k_t).1 (by decide)) (kx_18 k_t).2 ⟨rfl, Nat.le_of_ble_eq_true rfl, Nat.le_of_ble_eq_true rfl⟩ rfl (jc.deep (c_Headers_isMoreToCome hC_M k_t (by omega) (fun r7 z7  => ?_)) (Nat.le_of_ble_eq_true rfl))
        refine jr.if_ne rfl rfl (by first | (refine rgb (by assumption) ?_; exact rfl) | omega) (fun h36 => ?_) (fun h36 => ?_)
        · have sx36 : (1 : Int) ≤ r7 := by omega
          clear h36
          refine jr.iload_n rfl rfl ?_
          refine jr.goto rfl rfl ?_
          exact jr.ireturn rfl rfl rfl (q _ (by omega) (by omega))
        · refine jr.aload_n rfl rfl ?_
          refine jr.iload_n rfl rfl ?_
          refine jr_v rfl rfl (Or.inl rfl) rfl rfl (Nat.lt_trans (kx_18 k_t).1 (by decide)) (kx_18 k_t).2 ⟨rfl, Nat.le_of_ble_eq_true rfl, Nat.le_of_ble_eq_true rfl⟩ rfl (jc.deep (c_Headers_offsetOf hC_M k_t (by omega) (by omega) (by omega) (fun r8 z8  => ?_)) (Nat.le_of_ble_eq_true rfl))
          refine jr.if_le rfl rfl (by first | (refine rgb (by assumption) ?_; exact rfl) | omega) (fun h44 => ?_) (fun h44 => ?_)
          · refine jr.iconst rfl ?_
            exact jr.ireturn rfl rfl rfl (q _ (by first | exact rgq rfl | omega) (by omega))
          · refine jr.iload_n rfl rfl ?_
            refine jr.goto rfl rfl ?_
            exact jr.ireturn rfl rfl rfl (q _ (by omega) (by omega))
    · refine jr.iconst rfl ?_
      exact jr.ireturn rfl rfl rfl (q _ (by first | exact rgq rfl | omega) (by omega))
theorem c_Headers_isMisplaced {A : Nat → Option (Nat × (Nat → Int32))} {Q : Option Value → jm → Prop} {M : jm} (hC_M : CI M) {t : Nat} (k_t : kd t = 18) {x : Int} (h_x : (-2147483648) ≤ x ∧ x ≤ 2147483647) (q : ∀ (r : Int), 0 ≤ r ∧ r ≤ 1 → Q (some (.int (Int32.ofInt r))) M) : jc A 2 128 [.ref (t), .int (Int32.ofInt (x))] M Q := by
  refine jc_of (m := xm_128) rfl (Nat.le_of_ble_eq_true rfl) rfl ?_
  refine jr.aload_n rfl rfl ?_
  refine jr.aload_n rfl rfl ?_
  obtain ⟨v1, e1⟩ : ∃ z_, M t 3 = z_ := ⟨_, rfl⟩
  have b1 : 0 ≤ v1 ∧ v1 ≤ 12 := by rw [← e1]; exact (CI.r hC_M k_t (by decide) 3)
  refine jr.getf (i := 3) (x := v1) (v := .int (Int32.ofInt (v1))) rfl rfl (Nat.lt_trans (kx_18 k_t).1 (by decide)) (kx_18 k_t).2 (by decide) rfl rfl e1 rfl ?_
  refine jr.iconst rfl ?_
  refine jr.isub rfl ?_
  refine jr_v rfl rfl (Or.inl rfl) rfl rfl (Nat.lt_trans (kx_18 k_t).1 (by decide)) (kx_18 k_t).2 ⟨rfl, Nat.le_of_ble_eq_true rfl, Nat.le_of_ble_eq_true rfl⟩ rfl (jc.deep (c_Headers_kindAt hC_M k_t (by omega) (fun r2 z2 w2_0 w2_1 => ?_)) (Nat.le_of_ble_eq_true rfl))
  refine jr.istore_n (ls' := [_, _, _]) rfl (nlt rfl) rfl ?_
  refine jr.iload_n rfl rfl ?_
  refine jr.iconst rfl ?_
  refine jr.icmp_ne rfl rfl (by first | (refine rgb (by assumption) ?_; exact rfl) | omega) (rgl rfl) (fun h13 => ?_) (fun h13 => ?_)
  · refine jr.iload_n rfl rfl ?_
    refine jr.bipush rfl (jbp _ (nlt rfl)) ?_
    refine jr.icmp_eq rfl rfl (by first | (refine rgb (by assumption) ?_; exact rfl) | omega) (rgl rfl) (fun h30 => ?_) (fun h30 => ?_)
    · refine jr.iload_n rfl rfl ?_
      refine jr.iconst rfl ?_
      refine jr.icmp_eq rfl rfl (by first | (refine rgb (by assumption) ?_; exact rfl) | omega) (rgl rfl) (fun h40 => ?_) (fun h40 => ?_)
      · refine jr.iconst rfl ?_
        exact jr.ireturn rfl rfl rfl (q _ (by first | exact rgq rfl | omega) )
      · refine jr.iload_n rfl rfl ?_
        refine jr.iconst rfl ?_
        refine jr.icmp_eq rfl rfl (by first | (refine rgb (by assumption) ?_; exact rfl) | omega) (rgl rfl) (fun h45 => ?_) (fun h45 => ?_)
        · refine jr.iconst rfl ?_
          exact jr.ireturn rfl rfl rfl (q _ (by first | exact rgq rfl | omega) )
        · refine jr.iload_n rfl rfl ?_
          refine jr.iconst rfl ?_
          refine jr.icmp_eq rfl rfl (by first | (refine rgb (by assumption) ?_; exact rfl) | omega) (rgl rfl) (fun h50 => ?_) (fun h50 => ?_)
          · refine jr.iconst rfl ?_
            exact jr.ireturn rfl rfl rfl (q _ (by first | exact rgq rfl | omega) )
          · refine jr.iconst rfl ?_
            refine jr.goto rfl rfl ?_
            exact jr.ireturn rfl rfl rfl (q _ (by first | exact rgq rfl | omega) )
    · refine jr.iload_n rfl rfl ?_
      refine jr.iconst rfl ?_
      refine jr.icmp_ne rfl rfl (by first | (refine rgb (by assumption) ?_; exact rfl) | omega) (rgl rfl) (fun h35 => ?_) (fun h35 => ?_)
      · refine jr.iconst rfl ?_
        exact jr.ireturn rfl rfl rfl (q _ (by first | exact rgq rfl | omega) )
      · refine jr.iload_n rfl rfl ?_
        refine jr.iconst rfl ?_
        refine jr.icmp_eq rfl rfl (by first | (refine rgb (by assumption) ?_; exact rfl) | omega) (rgl rfl) (fun h40 => ?_) (fun h40 => ?_)
        · refine jr.iconst rfl ?_
          exact jr.ireturn rfl rfl rfl (q _ (by first | exact rgq rfl | omega) )
        · refine jr.iload_n rfl rfl ?_
          refine jr.iconst rfl ?_
          refine jr.icmp_eq rfl rfl (by first | (refine rgb (by assumption) ?_; exact rfl) | omega) (rgl rfl) (fun h45 => ?_) (fun h45 => ?_)
          · refine jr.iconst rfl ?_
            exact jr.ireturn rfl rfl rfl (q _ (by first | exact rgq rfl | omega) )
          · refine jr.iload_n rfl rfl ?_
            refine jr.iconst rfl ?_
            refine jr.icmp_eq rfl rfl (by first | (refine rgb (by assumption) ?_; exact rfl) | omega) (rgl rfl) (fun h50 => ?_) (fun h50 => ?_)
            · refine jr.iconst rfl ?_
              exact jr.ireturn rfl rfl rfl (q _ (by first | exact rgq rfl | omega) )
            · refine jr.iconst rfl ?_
              refine jr.goto rfl rfl ?_
              exact jr.ireturn rfl rfl rfl (q _ (by first | exact rgq rfl | omega) )
  · refine jr.iload_n rfl rfl ?_
    refine jr.iconst rfl ?_
    refine jr.icmp_eq rfl rfl (by first | (refine rgb (by assumption) ?_; exact rfl) | omega) (rgl rfl) (fun h18 => ?_) (fun h18 => ?_)
    · refine jr.iconst rfl ?_
      exact jr.ireturn rfl rfl rfl (q _ (by first | exact rgq rfl | omega) )
    · refine jr.iconst rfl ?_
      refine jr.goto rfl rfl ?_
      exact jr.ireturn rfl rfl rfl (q _ (by first | exact rgq rfl | omega) )
noncomputable def W_c_Headers_isOtherVersion : List (Nat × Nat) := [(18, 4), (18, 5), (18, 6)]
theorem c_Headers_isOtherVersion {A : Nat → Option (Nat × (Nat → Int32))} {Q : Option Value → jm → Prop} {T : jm} {M : jm} (hC_M : CI M) (ht_M : FR W_c_Headers_isOtherVersion T M) {t : Nat} (k_t : kd t = 18) {x : Int} (h_x : (-2147483648) ≤ x ∧ x ≤ 2147483647) {y : Int} (h_y : 0 ≤ y ∧ y ≤ 400) (q : ∀ (r : Int) (M' : jm), CI M' → FR W_c_Headers_isOtherVersion T M' → 0 ≤ r ∧ r ≤ 1 → ((r = 1 ∧ M' t 4 ≠ 0) ∨ (r = 0 ∧ M' t 4 = 0)) → Q (some (.int (Int32.ofInt r))) M') : jc A 3 129 [.ref (t), .int (Int32.ofInt (x)), .int (Int32.ofInt (y))] M Q := by
  refine jc_of (m := xm_129) rfl (Nat.le_of_ble_eq_true rfl) rfl ?_
  refine jr.aload_n rfl rfl ?_
  refine jr.iload_n rfl rfl ?_
  refine jr.iload_n rfl rfl ?_
  refine jr.iconst rfl ?_
  refine jr.iadd rfl ?_
  refine jr_v rfl rfl (Or.inl rfl) rfl rfl (Nat.lt_trans (kx_18 k_t).1 (by decide)) (kx_18 k_t).2 ⟨rfl, Nat.le_of_ble_eq_true rfl, Nat.le_of_ble_eq_true rfl⟩ rfl (jc.deep (c_Headers_isCut hC_M (FR.rfl _ M) k_t (by omega) (by omega) (fun r1 M1 hC_M1 hf_M1 z1 w1_0 => ?_)) (Nat.le_of_ble_eq_true rfl))
  have ht_M1 : FR W_c_Headers_isOtherVersion T M1 := FR.t ht_M hf_M1 (kw_sub rfl)
  obtain ⟨v2, e2⟩ : ∃ z_, M1 t 4 = z_ := ⟨_, rfl⟩
  have b2 : (-2147483648) ≤ v2 ∧ v2 ≤ 2147483647 := by rw [← e2]; exact (CI.r hC_M1 k_t (by decide) 4)
  refine jr.if_eq rfl rfl (by first | (refine rgb (by assumption) ?_; exact rfl) | omega) (fun h8 => ?_) (fun h8 => ?_)
  · refine jr.aload_n rfl rfl ?_
    obtain ⟨v3, e3⟩ : ∃ z_, M t 7 = z_ := ⟨_, rfl⟩
    have b3 : 0 ≤ v3 ∧ v3 ≤ 597 := by rw [← e3]; exact (CI.r hC_M k_t (by decide) 7)
    have e4 : M1 t 7 = v3 := (hf_M1.g k_t rfl).trans e3
    have k5 : kd (v3).toNat = 33 := ((congrArg (fun z : Int => kd z.toNat) (show M1 t 7 = v3 from e4)).symm.trans (CI.x hC_M1 k_t 7 rfl (by decide)))
    refine jr.getf (i := 7) (x := v3) (v := .ref (v3.toNat)) rfl rfl (Nat.lt_trans (kx_18 k_t).1 (by decide)) (kx_18 k_t).2 (by decide) rfl rfl e4 (jval_mut rfl (kn_18_7 k_t)) ?_
    refine jr.iload_n rfl rfl ?_
    refine jr_v rfl rfl (Or.inl rfl) rfl rfl (Nat.lt_trans (kx_33 k5).1 (by decide)) (kx_33 k5).2 ⟨rfl, Nat.le_of_ble_eq_true rfl, Nat.le_of_ble_eq_true rfl⟩ rfl (jc.deep (c_Packet_byteAt hC_M1 k5 (by omega) (fun r6 z6  => ?_)) (Nat.le_of_ble_eq_true rfl))
    refine jr.iconst rfl ?_
    refine jr.ishr rfl ?_
    have b7 : j_shr r6 4 = r6 / 16 := j_shr_ex 4 (by decide) (by omega) (by omega)
    generalize j_shr r6 4 = v7 at b7 ⊢
    refine jr.iload_n rfl rfl ?_
    refine jr.iconst rfl ?_
    refine jr.icmp_ne rfl rfl (by first | (refine rgb (by assumption) ?_; exact rfl) | omega) (rgl rfl) (fun h25 => ?_) (fun h25 => ?_)
    · refine jr.bipush rfl (jbp _ (nlt rfl)) ?_
      refine jr.icmp_eq rfl rfl (by first | (refine rgb (by assumption) ?_; exact rfl) | omega) (rgl rfl) (fun h34 => ?_) (fun h34 => ?_)
      · refine jr.aload_n rfl rfl ?_
        refine jr.getf (i := 4) (x := v2) (v := .int (Int32.ofInt (v2))) rfl rfl (Nat.lt_trans (kx_18 k_t).1 (by decide)) (kx_18 k_t).2 (by decide) rfl rfl e2 rfl ?_
        refine jr.if_eq rfl rfl (by first | (refine rgb (by assumption) ?_; exact rfl) | omega) (fun h48 => ?_) (fun h48 => ?_)
        · refine jr.iconst rfl ?_
          exact jr.ireturn rfl rfl rfl (q _ _ hC_M1 ht_M1 (by first | exact rgq rfl | omega) (by have hq0 : M1 t 4 = v2 := e2; omega))
        · refine jr.iconst rfl ?_
          refine jr.goto rfl rfl ?_
          exact jr.ireturn rfl rfl rfl (q _ _ hC_M1 ht_M1 (by first | exact rgq rfl | omega) (by have hq0 : M1 t 4 = v2 := e2; omega))
      · refine jr.aload_n rfl rfl ?_
        refine jr.iconst rfl ?_
        refine jr.iload_n rfl rfl ?_
        refine jr.iload_n rfl rfl ?_
        refine jr_v rfl rfl (Or.inl rfl) rfl rfl (Nat.lt_trans (kx_18 k_t).1 (by decide)) (kx_18 k_t).2 ⟨rfl, Nat.le_of_ble_eq_true rfl, Nat.le_of_ble_eq_true rfl⟩ rfl (jc.deep (c_Headers_find hC_M1 (FR.rfl _ M1) k_t (by omega) (by omega) (by omega) (fun M8 hC_M8 hf_M8 w8_0 => ?_)) (Nat.le_of_ble_eq_true rfl))
        have ht_M8 : FR W_c_Headers_isOtherVersion T M8 := FR.t ht_M1 hf_M8 (kw_sub rfl)
        obtain ⟨v9, e9⟩ : ∃ z_, M8 t 4 = z_ := ⟨_, rfl⟩
        have b9 : (-2147483648) ≤ v9 ∧ v9 ≤ 2147483647 := by rw [← e9]; exact (CI.r hC_M8 k_t (by decide) 4)
        refine jr.aload_n rfl rfl ?_
        refine jr.getf (i := 4) (x := v9) (v := .int (Int32.ofInt (v9))) rfl rfl (Nat.lt_trans (kx_18 k_t).1 (by decide)) (kx_18 k_t).2 (by decide) rfl rfl e9 rfl ?_
        refine jr.if_eq rfl rfl (by first | (refine rgb (by assumption) ?_; exact rfl) | omega) (fun h48 => ?_) (fun h48 => ?_)
        · refine jr.iconst rfl ?_
          exact jr.ireturn rfl rfl rfl (q _ _ hC_M8 ht_M8 (by first | exact rgq rfl | omega) (by have hq0 : M8 t 4 = v9 := e9; omega))
        · refine jr.iconst rfl ?_
          refine jr.goto rfl rfl ?_
          exact jr.ireturn rfl rfl rfl (q _ _ hC_M8 ht_M8 (by first | exact rgq rfl | omega) (by have hq0 : M8 t 4 = v9 := e9; omega))
    · refine jr.iconst rfl ?_
      refine jr.goto rfl rfl ?_
      refine jr.icmp_eq rfl rfl (by first | (refine rgb (by assumption) ?_; exact rfl) | omega) (by first | (refine rgb (by assumption) ?_; exact rfl) | omega) (fun h34 => ?_) (fun h34 => ?_)
      · refine jr.aload_n rfl rfl ?_
        refine jr.getf (i := 4) (x := v2) (v := .int (Int32.ofInt (v2))) rfl rfl (Nat.lt_trans (kx_18 k_t).1 (by decide)) (kx_18 k_t).2 (by decide) rfl rfl e2 rfl ?_
        refine jr.if_eq rfl rfl (by first | (refine rgb (by assumption) ?_; exact rfl) | omega) (fun h48 => ?_) (fun h48 => ?_)
        · refine jr.iconst rfl ?_
          exact jr.ireturn rfl rfl rfl (q _ _ hC_M1 ht_M1 (by first | exact rgq rfl | omega) (by have hq0 : M1 t 4 = v2 := e2; omega))
        · refine jr.iconst rfl ?_
          refine jr.goto rfl rfl ?_
          exact jr.ireturn rfl rfl rfl (q _ _ hC_M1 ht_M1 (by first | exact rgq rfl | omega) (by have hq0 : M1 t 4 = v2 := e2; omega))
      · refine jr.aload_n rfl rfl ?_
        refine jr.iconst rfl ?_
        refine jr.iload_n rfl rfl ?_
        refine jr.iload_n rfl rfl ?_
        refine jr_v rfl rfl (Or.inl rfl) rfl rfl (Nat.lt_trans (kx_18 k_t).1 (by decide)) (kx_18 k_t).2 ⟨rfl, Nat.le_of_ble_eq_true rfl, Nat.le_of_ble_eq_true rfl⟩ rfl (jc.deep (c_Headers_find hC_M1 (FR.rfl _ M1) k_t (by omega) (by omega) (by omega) (fun M10 hC_M10 hf_M10 w10_0 => ?_)) (Nat.le_of_ble_eq_true rfl))
        have ht_M10 : FR W_c_Headers_isOtherVersion T M10 := FR.t ht_M1 hf_M10 (kw_sub rfl)
        obtain ⟨v11, e11⟩ : ∃ z_, M10 t 4 = z_ := ⟨_, rfl⟩
        have b11 : (-2147483648) ≤ v11 ∧ v11 ≤ 2147483647 := by rw [← e11]; exact (CI.r hC_M10 k_t (by decide) 4)
        refine jr.aload_n rfl rfl ?_
        refine jr.getf (i := 4) (x := v11) (v := .int (Int32.ofInt (v11))) rfl rfl (Nat.lt_trans (kx_18 k_t).1 (by decide)) (kx_18 k_t).2 (by decide) rfl rfl e11 rfl ?_
        refine jr.if_eq rfl rfl (by first | (refine rgb (by assumption) ?_; exact rfl) | omega) (fun h48 => ?_) (fun h48 => ?_)
        · refine jr.iconst rfl ?_
          exact jr.ireturn rfl rfl rfl (q _ _ hC_M10 ht_M10 (by first | exact rgq rfl | omega) (by have hq0 : M10 t 4 = v11 := e11; omega))
        · refine jr.iconst rfl ?_
          refine jr.goto rfl rfl ?_
          exact jr.ireturn rfl rfl rfl (q _ _ hC_M10 ht_M10 (by first | exact rgq rfl | omega) (by have hq0 : M10 t 4 = v11 := e11; omega))
  · have sx8 : (1 : Int) ≤ r1 := by omega
    clear h8
    refine jr.iconst rfl ?_
    exact jr.ireturn rfl rfl rfl (q _ _ hC_M1 ht_M1 (by first | exact rgq rfl | omega) (by have hq0 : M1 t 4 = v2 := e2; omega))
theorem c_Headers_fullSize {A : Nat → Option (Nat × (Nat → Int32))} {Q : Option Value → jm → Prop} {M : jm} (hC_M : CI M) {t : Nat} (k_t : kd t = 18) {x : Int} (h_x : 0 ≤ x ∧ x ≤ 11) {y : Int} (h_y : 0 ≤ y ∧ y ≤ 400) {S : Int} (g_S : M t 7 = S) (q : ∀ (r : Int), (-401) ≤ r ∧ r ≤ 2048 → (x = 8 ∨ x = 11 ∨ 0 ≤ r) → (x ≠ 6 ∨ r = 8) → (x ≠ 11 ∨ y + r = M S.toNat 1) → Q (some (.int (Int32.ofInt r))) M) : jc A 2 130 [.ref (t), .int (Int32.ofInt (x)), .int (Int32.ofInt (y))] M Q := by
  refine jc_of (m := xm_130) rfl (Nat.le_of_ble_eq_true rfl) rfl ?_
  have k_S : kd S.toNat = 33 := (congrArg (fun z : Int => kd z.toNat) g_S).symm.trans (CI.x hC_M k_t 7 rfl (by decide))
  refine jr.iload_n rfl rfl ?_
  rcases (show x = 2 ∨ x = 3 ∨ x = 4 ∨ x = 5 ∨ x = 6 ∨ x = 7 ∨ x = 8 ∨ x = 9 ∨ x = 10 ∨ x = 11 ∨ (x ≠ 2 ∧ x ≠ 3 ∧ x ≠ 4 ∧ x ≠ 5 ∧ x ≠ 6 ∧ x ≠ 7 ∧ x ≠ 8 ∧ x ≠ 9 ∧ x ≠ 10 ∧ x ≠ 11) by omega) with h1 | h1 | h1 | h1 | h1 | h1 | h1 | h1 | h1 | h1 | h1
  · refine jr.tsw_k 2 rfl h1 rfl ?_
    refine jr.iconst rfl ?_
    refine jr.aload_n rfl rfl ?_
    refine jr.getf (i := 7) (x := S) (v := .ref (S.toNat)) rfl rfl (Nat.lt_trans (kx_18 k_t).1 (by decide)) (kx_18 k_t).2 (by decide) rfl rfl g_S (jval_mut rfl (kn_18_7 k_t)) ?_
    refine jr.iload_n rfl rfl ?_
    refine jr_v rfl rfl (Or.inl rfl) rfl rfl (Nat.lt_trans (kx_33 k_S).1 (by decide)) (kx_33 k_S).2 ⟨rfl, Nat.le_of_ble_eq_true rfl, Nat.le_of_ble_eq_true rfl⟩ rfl (jc.deep (c_Packet_byteAt hC_M k_S (by omega) (fun r2 z2  => ?_)) (Nat.le_of_ble_eq_true rfl))
    refine jr.bipush rfl (jbp _ (nlt rfl)) ?_
    refine jr.iand rfl ?_
    have b3 : 0 ≤ j_and r2 15 ∧ j_and r2 15 ≤ 15 := j_and_le (by decide)
    generalize j_and r2 15 = v3 at b3 ⊢
    refine jr.imul rfl ?_
    obtain ⟨v4, e4⟩ : ∃ z_, M ((S.toNat)) 1 = z_ := ⟨_, rfl⟩
    have b4 : (-1) ≤ v4 ∧ v4 ≤ 400 := by rw [← e4]; exact (CI.r hC_M k_S (by decide) 1)
    exact jr.ireturn rfl rfl rfl (q _ (by omega) (by omega) (by omega) (by have hq0 : M ((S.toNat)) 1 = v4 := e4; omega))
  · refine jr.tsw_k 3 rfl h1 rfl ?_
    refine jr.gst (v := .ref 1000001) rfl rfl ?_
    refine jr.iload_n rfl rfl ?_
    obtain ⟨v5, e5⟩ : ∃ z_, xcv_1 x = z_ := ⟨_, rfl⟩
    have b5 : 1 ≤ v5 ∧ v5 ≤ 24 := by rw [← e5]; exact xcr_1 (by omega) (by omega)
    refine jr.ials (i := x) v5 rfl (by decide) rfl (by decide) (by omega) (by omega) (by rw [← e5]; exact (Int32.ofInt_toInt _).symm) ?_
    have hl6 := xl6 x
    obtain ⟨v6, e6⟩ : ∃ z_, M ((S.toNat)) 1 = z_ := ⟨_, rfl⟩
    have b6 : (-1) ≤ v6 ∧ v6 ≤ 400 := by rw [← e6]; exact (CI.r hC_M k_S (by decide) 1)
    exact jr.ireturn rfl rfl rfl (q _ (by omega) (by omega) (by omega) (by have hq0 : M ((S.toNat)) 1 = v6 := e6; omega))
  · refine jr.tsw_k 4 rfl h1 rfl ?_
    refine jr.bipush rfl (jbp _ (nlt rfl)) ?_
    refine jr.aload_n rfl rfl ?_
    refine jr.getf (i := 7) (x := S) (v := .ref (S.toNat)) rfl rfl (Nat.lt_trans (kx_18 k_t).1 (by decide)) (kx_18 k_t).2 (by decide) rfl rfl g_S (jval_mut rfl (kn_18_7 k_t)) ?_
    refine jr.iload_n rfl rfl ?_
    refine jr.iconst rfl ?_
    refine jr.iadd rfl ?_
    refine jr_v rfl rfl (Or.inl rfl) rfl rfl (Nat.lt_trans (kx_33 k_S).1 (by decide)) (kx_33 k_S).2 ⟨rfl, Nat.le_of_ble_eq_true rfl, Nat.le_of_ble_eq_true rfl⟩ rfl (jc.deep (c_Packet_byteAt hC_M k_S (by omega) (fun r8 z8  => ?_)) (Nat.le_of_ble_eq_true rfl))
    refine jr.imul rfl ?_
    refine jr.bipush rfl (jbp _ (nlt rfl)) ?_
    refine jr.iadd rfl ?_
    obtain ⟨v9, e9⟩ : ∃ z_, M ((S.toNat)) 1 = z_ := ⟨_, rfl⟩
    have b9 : (-1) ≤ v9 ∧ v9 ≤ 400 := by rw [← e9]; exact (CI.r hC_M k_S (by decide) 1)
    exact jr.ireturn rfl rfl rfl (q _ (by omega) (by omega) (by omega) (by have hq0 : M ((S.toNat)) 1 = v9 := e9; omega))
  · refine jr.tsw_k 5 rfl h1 rfl ?_
    refine jr.bipush rfl (jbp _ (nlt rfl)) ?_
    refine jr.aload_n rfl rfl ?_
    refine jr.getf (i := 7) (x := S) (v := .ref (S.toNat)) rfl rfl (Nat.lt_trans (kx_18 k_t).1 (by decide)) (kx_18 k_t).2 (by decide) rfl rfl g_S (jval_mut rfl (kn_18_7 k_t)) ?_
    refine jr.iload_n rfl rfl ?_
    refine jr.iconst rfl ?_
    refine jr.iadd rfl ?_
    refine jr_v rfl rfl (Or.inl rfl) rfl rfl (Nat.lt_trans (kx_33 k_S).1 (by decide)) (kx_33 k_S).2 ⟨rfl, Nat.le_of_ble_eq_true rfl, Nat.le_of_ble_eq_true rfl⟩ rfl (jc.deep (c_Packet_byteAt hC_M k_S (by omega) (fun r11 z11  => ?_)) (Nat.le_of_ble_eq_true rfl))
    refine jr.imul rfl ?_
    refine jr.bipush rfl (jbp _ (nlt rfl)) ?_
    refine jr.iadd rfl ?_
    obtain ⟨v12, e12⟩ : ∃ z_, M ((S.toNat)) 1 = z_ := ⟨_, rfl⟩
    have b12 : (-1) ≤ v12 ∧ v12 ≤ 400 := by rw [← e12]; exact (CI.r hC_M k_S (by decide) 1)
    exact jr.ireturn rfl rfl rfl (q _ (by omega) (by omega) (by omega) (by have hq0 : M ((S.toNat)) 1 = v12 := e12; omega))
  · refine jr.tsw_k 6 rfl h1 rfl ?_
    refine jr.gst (v := .ref 1000001) rfl rfl ?_
    refine jr.iload_n rfl rfl ?_
    obtain ⟨v13, e13⟩ : ∃ z_, xcv_1 x = z_ := ⟨_, rfl⟩
    have b13 : 1 ≤ v13 ∧ v13 ≤ 24 := by rw [← e13]; exact xcr_1 (by omega) (by omega)
    refine jr.ials (i := x) v13 rfl (by decide) rfl (by decide) (by omega) (by omega) (by rw [← e13]; exact (Int32.ofInt_toInt _).symm) ?_
    have hl6 := xl6 x
    obtain ⟨v14, e14⟩ : ∃ z_, M ((S.toNat)) 1 = z_ := ⟨_, rfl⟩
    have b14 : (-1) ≤ v14 ∧ v14 ≤ 400 := by rw [← e14]; exact (CI.r hC_M k_S (by decide) 1)
    exact jr.ireturn rfl rfl rfl (q _ (by omega) (by omega) (by omega) (by have hq0 : M ((S.toNat)) 1 = v14 := e14; omega))
  · refine jr.tsw_k 7 rfl h1 rfl ?_
    refine jr.gst (v := .ref 1000001) rfl rfl ?_
    refine jr.iload_n rfl rfl ?_
    obtain ⟨v15, e15⟩ : ∃ z_, xcv_1 x = z_ := ⟨_, rfl⟩
    have b15 : 1 ≤ v15 ∧ v15 ≤ 24 := by rw [← e15]; exact xcr_1 (by omega) (by omega)
    refine jr.ials (i := x) v15 rfl (by decide) rfl (by decide) (by omega) (by omega) (by rw [← e15]; exact (Int32.ofInt_toInt _).symm) ?_
    have hl6 := xl6 x
    obtain ⟨v16, e16⟩ : ∃ z_, M ((S.toNat)) 1 = z_ := ⟨_, rfl⟩
    have b16 : (-1) ≤ v16 ∧ v16 ≤ 400 := by rw [← e16]; exact (CI.r hC_M k_S (by decide) 1)
    exact jr.ireturn rfl rfl rfl (q _ (by omega) (by omega) (by omega) (by have hq0 : M ((S.toNat)) 1 = v16 := e16; omega))
  · refine jr.tsw_k 8 rfl h1 rfl ?_
    refine jr.iconst rfl ?_
    refine jr.aload_n rfl rfl ?_
    refine jr.getf (i := 7) (x := S) (v := .ref (S.toNat)) rfl rfl (Nat.lt_trans (kx_18 k_t).1 (by decide)) (kx_18 k_t).2 (by decide) rfl rfl g_S (jval_mut rfl (kn_18_7 k_t)) ?_
    refine jr.iload_n rfl rfl ?_
    refine jr.bipush rfl (jbp _ (nlt rfl)) ?_
    refine jr.iadd rfl ?_
    refine jr_v rfl rfl (Or.inl rfl) rfl rfl (Nat.lt_trans (kx_33 k_S).1 (by decide)) (kx_33 k_S).2 ⟨rfl, Nat.le_of_ble_eq_true rfl, Nat.le_of_ble_eq_true rfl⟩ rfl (jc.deep (c_Packet_byteAt hC_M k_S (by omega) (fun r18 z18  => ?_)) (Nat.le_of_ble_eq_true rfl))
    refine jr.iconst rfl ?_
    refine jr.ishr rfl ?_
    have b19 : j_shr r18 4 = r18 / 16 := j_shr_ex 4 (by decide) (by omega) (by omega)
    generalize j_shr r18 4 = v19 at b19 ⊢
    refine jr.imul rfl ?_
    obtain ⟨v20, e20⟩ : ∃ z_, M ((S.toNat)) 1 = z_ := ⟨_, rfl⟩
    have b20 : (-1) ≤ v20 ∧ v20 ≤ 400 := by rw [← e20]; exact (CI.r hC_M k_S (by decide) 1)
    exact jr.ireturn rfl rfl rfl (q _ (by omega) (by omega) (by omega) (by have hq0 : M ((S.toNat)) 1 = v20 := e20; omega))
  · refine jr.tsw_k 9 rfl h1 rfl ?_
    refine jr.gst (v := .ref 1000001) rfl rfl ?_
    refine jr.iload_n rfl rfl ?_
    obtain ⟨v21, e21⟩ : ∃ z_, xcv_1 x = z_ := ⟨_, rfl⟩
    have b21 : 1 ≤ v21 ∧ v21 ≤ 24 := by rw [← e21]; exact xcr_1 (by omega) (by omega)
    refine jr.ials (i := x) v21 rfl (by decide) rfl (by decide) (by omega) (by omega) (by rw [← e21]; exact (Int32.ofInt_toInt _).symm) ?_
    have hl6 := xl6 x
    obtain ⟨v22, e22⟩ : ∃ z_, M ((S.toNat)) 1 = z_ := ⟨_, rfl⟩
    have b22 : (-1) ≤ v22 ∧ v22 ≤ 400 := by rw [← e22]; exact (CI.r hC_M k_S (by decide) 1)
    exact jr.ireturn rfl rfl rfl (q _ (by omega) (by omega) (by omega) (by have hq0 : M ((S.toNat)) 1 = v22 := e22; omega))
  · refine jr.tsw_k 10 rfl h1 rfl ?_
    refine jr.gst (v := .ref 1000001) rfl rfl ?_
    refine jr.iload_n rfl rfl ?_
    obtain ⟨v23, e23⟩ : ∃ z_, xcv_1 x = z_ := ⟨_, rfl⟩
    have b23 : 1 ≤ v23 ∧ v23 ≤ 24 := by rw [← e23]; exact xcr_1 (by omega) (by omega)
    refine jr.ials (i := x) v23 rfl (by decide) rfl (by decide) (by omega) (by omega) (by rw [← e23]; exact (Int32.ofInt_toInt _).symm) ?_
    have hl6 := xl6 x
    obtain ⟨v24, e24⟩ : ∃ z_, M ((S.toNat)) 1 = z_ := ⟨_, rfl⟩
    have b24 : (-1) ≤ v24 ∧ v24 ≤ 400 := by rw [← e24]; exact (CI.r hC_M k_S (by decide) 1)
    exact jr.ireturn rfl rfl rfl (q _ (by omega) (by omega) (by omega) (by have hq0 : M ((S.toNat)) 1 = v24 := e24; omega))
  · refine jr.tsw_k 11 rfl h1 rfl ?_
    refine jr.aload_n rfl rfl ?_
    refine jr.getf (i := 7) (x := S) (v := .ref (S.toNat)) rfl rfl (Nat.lt_trans (kx_18 k_t).1 (by decide)) (kx_18 k_t).2 (by decide) rfl rfl g_S (jval_mut rfl (kn_18_7 k_t)) ?_
    obtain ⟨v26, e26⟩ : ∃ z_, M ((S.toNat)) 1 = z_ := ⟨_, rfl⟩
    have b26 : (-1) ≤ v26 ∧ v26 ≤ 400 := by rw [← e26]; exact (CI.r hC_M k_S (by decide) 1)
    refine jr.getf (i := 1) (x := v26) (v := .int (Int32.ofInt (v26))) rfl rfl (Nat.lt_trans (kx_33 k_S).1 (by decide)) (kx_33 k_S).2 (by decide) rfl rfl e26 rfl ?_
    refine jr.iload_n rfl rfl ?_
    refine jr.isub rfl ?_
    exact jr.ireturn rfl rfl rfl (q _ (by omega) (by omega) (by omega) (by have hq0 : M ((S.toNat)) 1 = v26 := e26; omega))
  · refine jr.tsw_d rfl (by omega) (by omega) rfl ?_
    refine jr.gst (v := .ref 1000001) rfl rfl ?_
    refine jr.iload_n rfl rfl ?_
    obtain ⟨v27, e27⟩ : ∃ z_, xcv_1 x = z_ := ⟨_, rfl⟩
    have b27 : 1 ≤ v27 ∧ v27 ≤ 24 := by rw [← e27]; exact xcr_1 (by omega) (by omega)
    refine jr.ials (i := x) v27 rfl (by decide) rfl (by decide) (by omega) (by omega) (by rw [← e27]; exact (Int32.ofInt_toInt _).symm) ?_
    have hl6 := xl6 x
    obtain ⟨v28, e28⟩ : ∃ z_, M ((S.toNat)) 1 = z_ := ⟨_, rfl⟩
    have b28 : (-1) ≤ v28 ∧ v28 ≤ 400 := by rw [← e28]; exact (CI.r hC_M k_S (by decide) 1)
    exact jr.ireturn rfl rfl rfl (q _ (by omega) (by omega) (by omega) (by have hq0 : M ((S.toNat)) 1 = v28 := e28; omega))
noncomputable def W_c_Headers_checkTold : List (Nat × Nat) := [(18, 4), (18, 5), (18, 6)]
theorem c_Headers_checkTold {A : Nat → Option (Nat × (Nat → Int32))} {Q : Option Value → jm → Prop} {T : jm} {M : jm} (hC_M : CI M) (ht_M : FR W_c_Headers_checkTold T M) {t : Nat} (k_t : kd t = 18) {x : Int} (h_x : 0 ≤ x ∧ x ≤ 11) {y : Int} (h_y : 0 ≤ y ∧ y ≤ 400) (q : ∀ (M' : jm), CI M' → FR W_c_Headers_checkTold T M' → Q none M') : jc A 3 131 [.ref (t), .int (Int32.ofInt (x)), .int (Int32.ofInt (y))] M Q := by
  refine jc_of (m := xm_131) rfl (Nat.le_of_ble_eq_true rfl) rfl ?_
  refine jr.aload_n rfl rfl ?_
  obtain ⟨v1, e1⟩ : ∃ z_, M t 7 = z_ := ⟨_, rfl⟩
  have b1 : 0 ≤ v1 ∧ v1 ≤ 597 := by rw [← e1]; exact (CI.r hC_M k_t (by decide) 7)
  have k2 : kd (v1).toNat = 33 := ((congrArg (fun z : Int => kd z.toNat) (show M t 7 = v1 from e1)).symm.trans (CI.x hC_M k_t 7 rfl (by decide)))
  refine jr.getf (i := 7) (x := v1) (v := .ref (v1.toNat)) rfl rfl (Nat.lt_trans (kx_18 k_t).1 (by decide)) (kx_18 k_t).2 (by decide) rfl rfl e1 (jval_mut rfl (kn_18_7 k_t)) ?_
  obtain ⟨v3, e3⟩ : ∃ z_, M ((v1.toNat)) 1 = z_ := ⟨_, rfl⟩
  have b3 : (-1) ≤ v3 ∧ v3 ≤ 400 := by rw [← e3]; exact (CI.r hC_M k2 (by decide) 1)
  refine jr.getf (i := 1) (x := v3) (v := .int (Int32.ofInt (v3))) rfl rfl (Nat.lt_trans (kx_33 k2).1 (by decide)) (kx_33 k2).2 (by decide) rfl rfl e3 rfl ?_
  refine jr.iload_n rfl rfl ?_
  refine jr.isub rfl ?_
  refine jr.istore_n (ls' := [_, _, _, _]) rfl (nlt rfl) rfl ?_
  refine jr.iload_n rfl rfl ?_
  refine jr.iconst rfl ?_
  refine jr.icmp_ne rfl rfl (by first | (refine rgb (by assumption) ?_; exact rfl) | omega) (rgl rfl) (fun h12 => ?_) (fun h12 => ?_)
  · refine jr.iload_n rfl rfl ?_
    refine jr.iconst rfl ?_
    refine jr.icmp_ne rfl rfl (by first | (refine rgb (by assumption) ?_; exact rfl) | omega) (rgl rfl) (fun h46 => ?_) (fun h46 => ?_)
    · refine jr.iload_n rfl rfl ?_
      refine jr.bipush rfl (jbp _ (nlt rfl)) ?_
      refine jr.icmp_ne rfl rfl (by first | (refine rgb (by assumption) ?_; exact rfl) | omega) (rgl rfl) (fun h84 => ?_) (fun h84 => ?_)
      · exact jr.vreturn rfl rfl (q _ hC_M ht_M  )
      · refine jr.aload_n rfl rfl ?_
        have k4 : kd (v1).toNat = 33 := ((congrArg (fun z : Int => kd z.toNat) (show M t 7 = v1 from e1)).symm.trans (CI.x hC_M k_t 7 rfl (by decide)))
        refine jr.getf (i := 7) (x := v1) (v := .ref (v1.toNat)) rfl rfl (Nat.lt_trans (kx_18 k_t).1 (by decide)) (kx_18 k_t).2 (by decide) rfl rfl e1 (jval_mut rfl (kn_18_7 k_t)) ?_
        refine jr.iload_n rfl rfl ?_
        refine jr.iconst rfl ?_
        refine jr.iadd rfl ?_
        refine jr.iconst rfl ?_
        refine jr_v rfl rfl (Or.inl rfl) rfl rfl (Nat.lt_trans (kx_33 k4).1 (by decide)) (kx_33 k4).2 ⟨rfl, Nat.le_of_ble_eq_true rfl, Nat.le_of_ble_eq_true rfl⟩ rfl (jc.deep (c_Packet_numberFrom hC_M k4 (by omega) (by omega) (fun r5 z5  => ?_)) (Nat.le_of_ble_eq_true rfl))
        refine jr.iload_n rfl rfl ?_
        refine jr.i2l rfl (by omega) ?_
        refine jr.lcmp_eq rfl rfl rfl (by omega) (by omega) (fun h100 => ?_) (fun h100 => ?_)
        · exact jr.vreturn rfl rfl (q _ hC_M ht_M  )
        · refine jr.aload_n rfl rfl ?_
          refine jr.iconst rfl ?_
          refine jr.iload_n rfl rfl ?_
          refine jr.iconst rfl ?_
          refine jr.iadd rfl ?_
          refine jr.iload_n rfl rfl ?_
          refine jr_v rfl rfl (Or.inl rfl) rfl rfl (Nat.lt_trans (kx_18 k_t).1 (by decide)) (kx_18 k_t).2 ⟨rfl, Nat.le_of_ble_eq_true rfl, Nat.le_of_ble_eq_true rfl⟩ rfl (jc.deep (c_Headers_find hC_M (FR.rfl _ M) k_t (by omega) (by omega) (by omega) (fun M6 hC_M6 hf_M6 w6_0 => ?_)) (Nat.le_of_ble_eq_true rfl))
          have ht_M6 : FR W_c_Headers_checkTold T M6 := FR.t ht_M hf_M6 (kw_sub rfl)
          obtain ⟨v7, e7⟩ : ∃ z_, M6 t 4 = z_ := ⟨_, rfl⟩
          have b7 : (-2147483648) ≤ v7 ∧ v7 ≤ 2147483647 := by rw [← e7]; exact (CI.r hC_M6 k_t (by decide) 4)
          exact jr.vreturn rfl rfl (q _ hC_M6 ht_M6  )
    · refine jr.aload_n rfl rfl ?_
      have k8 : kd (v1).toNat = 33 := ((congrArg (fun z : Int => kd z.toNat) (show M t 7 = v1 from e1)).symm.trans (CI.x hC_M k_t 7 rfl (by decide)))
      refine jr.getf (i := 7) (x := v1) (v := .ref (v1.toNat)) rfl rfl (Nat.lt_trans (kx_18 k_t).1 (by decide)) (kx_18 k_t).2 (by decide) rfl rfl e1 (jval_mut rfl (kn_18_7 k_t)) ?_
      refine jr.iload_n rfl rfl ?_
      refine jr.iconst rfl ?_
      refine jr.iadd rfl ?_
      refine jr.iconst rfl ?_
      refine jr_v rfl rfl (Or.inl rfl) rfl rfl (Nat.lt_trans (kx_33 k8).1 (by decide)) (kx_33 k8).2 ⟨rfl, Nat.le_of_ble_eq_true rfl, Nat.le_of_ble_eq_true rfl⟩ rfl (jc.deep (c_Packet_numberFrom hC_M k8 (by omega) (by omega) (fun r9 z9  => ?_)) (Nat.le_of_ble_eq_true rfl))
      refine jr.iload_n rfl rfl ?_
      refine jr.bipush rfl (jbp _ (nlt rfl)) ?_
      refine jr.isub rfl ?_
      refine jr.i2l rfl (by omega) ?_
      refine jr.lcmp_eq rfl rfl rfl (by omega) (by omega) (fun h65 => ?_) (fun h65 => ?_)
      · refine jr.iload_n rfl rfl ?_
        refine jr.bipush rfl (jbp _ (nlt rfl)) ?_
        refine jr.icmp_ne rfl rfl (by first | (refine rgb (by assumption) ?_; exact rfl) | omega) (rgl rfl) (fun h84 => ?_) (fun h84 => ?_)
        · exact jr.vreturn rfl rfl (q _ hC_M ht_M  )
        · exact absurd (by omega) h84
      · refine jr.aload_n rfl rfl ?_
        refine jr.iconst rfl ?_
        refine jr.iload_n rfl rfl ?_
        refine jr.iconst rfl ?_
        refine jr.iadd rfl ?_
        refine jr.iload_n rfl rfl ?_
        refine jr_v rfl rfl (Or.inl rfl) rfl rfl (Nat.lt_trans (kx_18 k_t).1 (by decide)) (kx_18 k_t).2 ⟨rfl, Nat.le_of_ble_eq_true rfl, Nat.le_of_ble_eq_true rfl⟩ rfl (jc.deep (c_Headers_find hC_M (FR.rfl _ M) k_t (by omega) (by omega) (by omega) (fun M10 hC_M10 hf_M10 w10_0 => ?_)) (Nat.le_of_ble_eq_true rfl))
        have ht_M10 : FR W_c_Headers_checkTold T M10 := FR.t ht_M hf_M10 (kw_sub rfl)
        obtain ⟨v11, e11⟩ : ∃ z_, M10 t 4 = z_ := ⟨_, rfl⟩
        have b11 : (-2147483648) ≤ v11 ∧ v11 ≤ 2147483647 := by rw [← e11]; exact (CI.r hC_M10 k_t (by decide) 4)
        refine jr.goto rfl rfl ?_
        exact jr.vreturn rfl rfl (q _ hC_M10 ht_M10  )
  · refine jr.aload_n rfl rfl ?_
    have k12 : kd (v1).toNat = 33 := ((congrArg (fun z : Int => kd z.toNat) (show M t 7 = v1 from e1)).symm.trans (CI.x hC_M k_t 7 rfl (by decide)))
    refine jr.getf (i := 7) (x := v1) (v := .ref (v1.toNat)) rfl rfl (Nat.lt_trans (kx_18 k_t).1 (by decide)) (kx_18 k_t).2 (by decide) rfl rfl e1 (jval_mut rfl (kn_18_7 k_t)) ?_
    refine jr.iload_n rfl rfl ?_
    refine jr.iconst rfl ?_
    refine jr.iadd rfl ?_
    refine jr.iconst rfl ?_
    refine jr_v rfl rfl (Or.inl rfl) rfl rfl (Nat.lt_trans (kx_33 k12).1 (by decide)) (kx_33 k12).2 ⟨rfl, Nat.le_of_ble_eq_true rfl, Nat.le_of_ble_eq_true rfl⟩ rfl (jc.deep (c_Packet_numberFrom hC_M k12 (by omega) (by omega) (fun r13 z13  => ?_)) (Nat.le_of_ble_eq_true rfl))
    refine jr.iload_n rfl rfl ?_
    refine jr.i2l rfl (by omega) ?_
    refine jr.lcmp_eq rfl rfl rfl (by omega) (by omega) (fun h28 => ?_) (fun h28 => ?_)
    · refine jr.iload_n rfl rfl ?_
      refine jr.iconst rfl ?_
      refine jr.icmp_ne rfl rfl (by first | (refine rgb (by assumption) ?_; exact rfl) | omega) (rgl rfl) (fun h46 => ?_) (fun h46 => ?_)
      · refine jr.iload_n rfl rfl ?_
        refine jr.bipush rfl (jbp _ (nlt rfl)) ?_
        refine jr.icmp_ne rfl rfl (by first | (refine rgb (by assumption) ?_; exact rfl) | omega) (rgl rfl) (fun h84 => ?_) (fun h84 => ?_)
        · exact jr.vreturn rfl rfl (q _ hC_M ht_M  )
        · exact absurd (by omega) h84
      · exact absurd (by omega) h46
    · refine jr.aload_n rfl rfl ?_
      refine jr.iconst rfl ?_
      refine jr.iload_n rfl rfl ?_
      refine jr.iconst rfl ?_
      refine jr.iadd rfl ?_
      refine jr.iload_n rfl rfl ?_
      refine jr_v rfl rfl (Or.inl rfl) rfl rfl (Nat.lt_trans (kx_18 k_t).1 (by decide)) (kx_18 k_t).2 ⟨rfl, Nat.le_of_ble_eq_true rfl, Nat.le_of_ble_eq_true rfl⟩ rfl (jc.deep (c_Headers_find hC_M (FR.rfl _ M) k_t (by omega) (by omega) (by omega) (fun M14 hC_M14 hf_M14 w14_0 => ?_)) (Nat.le_of_ble_eq_true rfl))
      have ht_M14 : FR W_c_Headers_checkTold T M14 := FR.t ht_M hf_M14 (kw_sub rfl)
      obtain ⟨v15, e15⟩ : ∃ z_, M14 t 4 = z_ := ⟨_, rfl⟩
      have b15 : (-2147483648) ≤ v15 ∧ v15 ≤ 2147483647 := by rw [← e15]; exact (CI.r hC_M14 k_t (by decide) 4)
      refine jr.goto rfl rfl ?_
      exact jr.vreturn rfl rfl (q _ hC_M14 ht_M14  )
noncomputable def W_c_Headers_sizeIfRight : List (Nat × Nat) := [(18, 4), (18, 5), (18, 6)]
theorem c_Headers_sizeIfRight {A : Nat → Option (Nat × (Nat → Int32))} {Q : Option Value → jm → Prop} {T : jm} {M : jm} (hC_M : CI M) (ht_M : FR W_c_Headers_sizeIfRight T M) {t : Nat} (k_t : kd t = 18) {x : Int} (h_x : 0 ≤ x ∧ x ≤ 11) {y : Int} (h_y : 0 ≤ y ∧ y ≤ 400) {S : Int} (g_S : M t 7 = S) (p0 : 0 ≤ M ((S.toNat)) 1 ∧ M ((S.toNat)) 1 ≤ 400) (q : ∀ (r : Int) (M' : jm), CI M' → FR W_c_Headers_sizeIfRight T M' → (-401) ≤ r ∧ r ≤ 2048 → (M' t 4 ≠ 0 ∨ ((0 ≤ y + r ∧ y + r ≤ 400) ∧ (x ≠ 6 ∨ r = 8) ∧ (x ≠ 2 ∨ 20 ≤ r) ∧ M' t 3 ≤ 11)) → Q (some (.int (Int32.ofInt r))) M') : jc A 4 127 [.ref (t), .int (Int32.ofInt (x)), .int (Int32.ofInt (y))] M Q := by
  refine jc_of (m := xm_127) rfl (Nat.le_of_ble_eq_true rfl) rfl ?_
  have k_S : kd S.toNat = 33 := (congrArg (fun z : Int => kd z.toNat) g_S).symm.trans (CI.x hC_M k_t 7 rfl (by decide))
  obtain ⟨v1, e1⟩ : ∃ z_, M ((S.toNat)) 1 = z_ := ⟨_, rfl⟩
  have b1 : (-1) ≤ v1 ∧ v1 ≤ 400 := by rw [← e1]; exact (CI.r hC_M k_S (by decide) 1)
  have b2 : 0 ≤ v1 ∧ v1 ≤ 400 := by rw [← e1]; exact p0
  refine jr.aload_n rfl rfl ?_
  obtain ⟨v3, e3⟩ : ∃ z_, M t 3 = z_ := ⟨_, rfl⟩
  have b3 : 0 ≤ v3 ∧ v3 ≤ 12 := by rw [← e3]; exact (CI.r hC_M k_t (by decide) 3)
  refine jr.getf (i := 3) (x := v3) (v := .int (Int32.ofInt (v3))) rfl rfl (Nat.lt_trans (kx_18 k_t).1 (by decide)) (kx_18 k_t).2 (by decide) rfl rfl e3 rfl ?_
  refine jr.bipush rfl (jbp _ (nlt rfl)) ?_
  refine jr.icmp_lt rfl rfl (by first | (refine rgb (by assumption) ?_; exact rfl) | omega) (rgl rfl) (fun h6 => ?_) (fun h6 => ?_)
  · refine jr.aload_n rfl rfl ?_
    refine jr.iload_n rfl rfl ?_
    refine jr_v rfl rfl (Or.inl rfl) rfl rfl (Nat.lt_trans (kx_18 k_t).1 (by decide)) (kx_18 k_t).2 ⟨rfl, Nat.le_of_ble_eq_true rfl, Nat.le_of_ble_eq_true rfl⟩ rfl (jc.deep (c_Headers_isMisplaced hC_M k_t (by omega) (fun r4 z4  => ?_)) (Nat.le_of_ble_eq_true rfl))
    refine jr.if_eq rfl rfl (by first | (refine rgb (by assumption) ?_; exact rfl) | omega) (fun h24 => ?_) (fun h24 => ?_)
    · refine jr.iload_n rfl rfl ?_
      refine jr_s rfl rfl (Or.inr rfl) ⟨Nat.le_of_ble_eq_true rfl, Nat.le_of_ble_eq_true rfl⟩ rfl rfl (jc.deep (c_PacketWall_isNetKind hC_M (by omega) (fun r5 z5 w5_0 => ?_)) (Nat.le_of_ble_eq_true rfl))
      refine jr.if_eq rfl rfl (by first | (refine rgb (by assumption) ?_; exact rfl) | omega) (fun h40 => ?_) (fun h40 => ?_)
      · refine jr.aload_n rfl rfl ?_
        refine jr.iload_n rfl rfl ?_
        refine jr.iload_n rfl rfl ?_
        refine jr.gst (v := .ref 1000001) rfl rfl ?_
        refine jr.iload_n rfl rfl ?_
        obtain ⟨v6, e6⟩ : ∃ z_, xcv_1 x = z_ := ⟨_, rfl⟩
        have b6 : 1 ≤ v6 ∧ v6 ≤ 24 := by rw [← e6]; exact xcr_1 (by omega) (by omega)
        refine jr.ials (i := x) v6 rfl (by decide) rfl (by decide) (by omega) (by omega) (by rw [← e6]; exact (Int32.ofInt_toInt _).symm) ?_
        refine jr.iadd rfl ?_
        refine jr_v rfl rfl (Or.inl rfl) rfl rfl (Nat.lt_trans (kx_18 k_t).1 (by decide)) (kx_18 k_t).2 ⟨rfl, Nat.le_of_ble_eq_true rfl, Nat.le_of_ble_eq_true rfl⟩ rfl (jc.deep (c_Headers_isCut hC_M (FR.rfl _ M) k_t (by omega) (by omega) (fun r7 M7 hC_M7 hf_M7 z7 w7_0 => ?_)) (Nat.le_of_ble_eq_true rfl))
        have ht_M7 : FR W_c_Headers_sizeIfRight T M7 := FR.t ht_M hf_M7 (kw_sub rfl)
        obtain ⟨v8, e8⟩ : ∃ z_, M7 t 4 = z_ := ⟨_, rfl⟩
        have b8 : (-2147483648) ≤ v8 ∧ v8 ≤ 2147483647 := by rw [← e8]; exact (CI.r hC_M7 k_t (by decide) 4)
        refine jr.if_eq rfl rfl (by first | (refine rgb (by assumption) ?_; exact rfl) | omega) (fun h66 => ?_) (fun h66 => ?_)
        · refine jr.aload_n rfl rfl ?_
          refine jr.iload_n rfl rfl ?_
          refine jr.iload_n rfl rfl ?_
          have e10 : M7 t 7 = S := (hf_M7.g k_t rfl).trans g_S
          have k9_S : kd (S).toNat = 33 := (congrArg (fun z : Int => kd z.toNat) e10).symm.trans (CI.x hC_M7 k_t 7 rfl (by decide))
          refine jr_v rfl rfl (Or.inl rfl) rfl rfl (Nat.lt_trans (kx_18 k_t).1 (by decide)) (kx_18 k_t).2 ⟨rfl, Nat.le_of_ble_eq_true rfl, Nat.le_of_ble_eq_true rfl⟩ rfl (jc.deep (c_Headers_fullSize hC_M7 k_t (by omega) (by omega) e10 (fun r9 z9 w9_0 w9_1 w9_2 => ?_)) (Nat.le_of_ble_eq_true rfl))
          have e11 : M7 ((S.toNat)) 1 = v1 := (hf_M7.g k9_S rfl).trans e1
          refine jr.istore_n (ls' := [_, _, _, _]) rfl (nlt rfl) rfl ?_
          refine jr.iload_n rfl rfl ?_
          refine jr.iconst rfl ?_
          refine jr.icmp_eq rfl rfl (by first | (refine rgb (by assumption) ?_; exact rfl) | omega) (rgl rfl) (fun h80 => ?_) (fun h80 => ?_)
          · refine jr.iload_n rfl rfl ?_
            refine jr.bipush rfl (jbp _ (nlt rfl)) ?_
            refine jr.icmp_ge rfl rfl (by first | (refine rgb (by assumption) ?_; exact rfl) | omega) (rgl rfl) (fun h92 => ?_) (fun h92 => ?_)
            · refine jr.aload_n rfl rfl ?_
              refine jr.iload_n rfl rfl ?_
              refine jr.iload_n rfl rfl ?_
              refine jr.iload_n rfl rfl ?_
              refine jr.iadd rfl ?_
              refine jr_v rfl rfl (Or.inl rfl) rfl rfl (Nat.lt_trans (kx_18 k_t).1 (by decide)) (kx_18 k_t).2 ⟨rfl, Nat.le_of_ble_eq_true rfl, Nat.le_of_ble_eq_true rfl⟩ rfl (jc.deep (c_Headers_isCut hC_M7 (FR.rfl _ M7) k_t (by omega) (by omega) (fun r12 M12 hC_M12 hf_M12 z12 w12_0 => ?_)) (Nat.le_of_ble_eq_true rfl))
              have ht_M12 : FR W_c_Headers_sizeIfRight T M12 := FR.t ht_M7 hf_M12 (kw_sub rfl)
              obtain ⟨v13, e13⟩ : ∃ z_, M12 t 4 = z_ := ⟨_, rfl⟩
              have b13 : (-2147483648) ≤ v13 ∧ v13 ≤ 2147483647 := by rw [← e13]; exact (CI.r hC_M12 k_t (by decide) 4)
              refine jr.if_eq rfl rfl (by first | (refine rgb (by assumption) ?_; exact rfl) | omega) (fun h124 => ?_) (fun h124 => ?_)
              · refine jr.aload_n rfl rfl ?_
                refine jr.iload_n rfl rfl ?_
                refine jr.iload_n rfl rfl ?_
                refine jr_v rfl rfl (Or.inl rfl) rfl rfl (Nat.lt_trans (kx_18 k_t).1 (by decide)) (kx_18 k_t).2 ⟨rfl, Nat.le_of_ble_eq_true rfl, Nat.le_of_ble_eq_true rfl⟩ rfl (jc.deep (c_Headers_checkTold hC_M12 (FR.rfl _ M12) k_t (by omega) (by omega) (fun M14 hC_M14 hf_M14  => ?_)) (Nat.le_of_ble_eq_true rfl))
                have ht_M14 : FR W_c_Headers_sizeIfRight T M14 := FR.t ht_M12 hf_M14 (kw_sub rfl)
                refine jr.iload_n rfl rfl ?_
                obtain ⟨v15, e15⟩ : ∃ z_, M14 t 4 = z_ := ⟨_, rfl⟩
                have b15 : (-2147483648) ≤ v15 ∧ v15 ≤ 2147483647 := by rw [← e15]; exact (CI.r hC_M14 k_t (by decide) 4)
                have e16 : M7 t 3 = v3 := (hf_M7.g k_t rfl).trans e3
                have e17 : M12 t 3 = v3 := (hf_M12.g k_t rfl).trans e16
                have e18 : M14 t 3 = v3 := (hf_M14.g k_t rfl).trans e17
                exact jr.ireturn rfl rfl rfl (q _ _ hC_M14 ht_M14 (by omega) (by have hq0 : M14 t 4 = v15 := e15; have hq1 : M14 t 3 = v3 := e18; omega))
              · have sx124 : (1 : Int) ≤ r12 := by omega
                clear h124
                refine jr.iconst rfl ?_
                have e19 : M7 t 3 = v3 := (hf_M7.g k_t rfl).trans e3
                have e20 : M12 t 3 = v3 := (hf_M12.g k_t rfl).trans e19
                exact jr.ireturn rfl rfl rfl (q _ _ hC_M12 ht_M12 (by omega) (by have hq0 : M12 t 4 = v13 := e13; have hq1 : M12 t 3 = v3 := e20; omega))
            · refine jr.aload_n rfl rfl ?_
              refine jr.iconst rfl ?_
              refine jr.iload_n rfl rfl ?_
              refine jr.iconst rfl ?_
              refine jr.icmp_ne rfl rfl (by first | (refine rgb (by assumption) ?_; exact rfl) | omega) (rgl rfl) (fun h99 => ?_) (fun h99 => ?_)
              · exact absurd h99 (by omega)
              · refine jr.iload_n rfl rfl ?_
                refine jr.goto rfl rfl ?_
                refine jr.iload_n rfl rfl ?_
                refine jr_v rfl rfl (Or.inl rfl) rfl rfl (Nat.lt_trans (kx_18 k_t).1 (by decide)) (kx_18 k_t).2 ⟨rfl, Nat.le_of_ble_eq_true rfl, Nat.le_of_ble_eq_true rfl⟩ rfl (jc.deep (c_Headers_find hC_M7 (FR.rfl _ M7) k_t (by omega) (by omega) (by omega) (fun M21 hC_M21 hf_M21 w21_0 => ?_)) (Nat.le_of_ble_eq_true rfl))
                have ht_M21 : FR W_c_Headers_sizeIfRight T M21 := FR.t ht_M7 hf_M21 (kw_sub rfl)
                obtain ⟨v22, e22⟩ : ∃ z_, M21 t 4 = z_ := ⟨_, rfl⟩
                have b22 : (-2147483648) ≤ v22 ∧ v22 ≤ 2147483647 := by rw [← e22]; exact (CI.r hC_M21 k_t (by decide) 4)
                refine jr.iconst rfl ?_
                have e23 : M7 t 3 = v3 := (hf_M7.g k_t rfl).trans e3
                have e24 : M21 t 3 = v3 := (hf_M21.g k_t rfl).trans e23
                exact jr.ireturn rfl rfl rfl (q _ _ hC_M21 ht_M21 (by omega) (by have hq0 : M21 t 4 = v22 := e22; have hq1 : M21 t 3 = v3 := e24; omega))
          · refine jr.iload_n rfl rfl ?_
            refine jr.bipush rfl (jbp _ (nlt rfl)) ?_
            refine jr.icmp_ne rfl rfl (by first | (refine rgb (by assumption) ?_; exact rfl) | omega) (rgl rfl) (fun h86 => ?_) (fun h86 => ?_)
            · refine jr.aload_n rfl rfl ?_
              refine jr.iload_n rfl rfl ?_
              refine jr.iload_n rfl rfl ?_
              refine jr.iload_n rfl rfl ?_
              refine jr.iadd rfl ?_
              refine jr_v rfl rfl (Or.inl rfl) rfl rfl (Nat.lt_trans (kx_18 k_t).1 (by decide)) (kx_18 k_t).2 ⟨rfl, Nat.le_of_ble_eq_true rfl, Nat.le_of_ble_eq_true rfl⟩ rfl (jc.deep (c_Headers_isCut hC_M7 (FR.rfl _ M7) k_t (by omega) (by omega) (fun r25 M25 hC_M25 hf_M25 z25 w25_0 => ?_)) (Nat.le_of_ble_eq_true rfl))
              have ht_M25 : FR W_c_Headers_sizeIfRight T M25 := FR.t ht_M7 hf_M25 (kw_sub rfl)
              obtain ⟨v26, e26⟩ : ∃ z_, M25 t 4 = z_ := ⟨_, rfl⟩
              have b26 : (-2147483648) ≤ v26 ∧ v26 ≤ 2147483647 := by rw [← e26]; exact (CI.r hC_M25 k_t (by decide) 4)
              refine jr.if_eq rfl rfl (by first | (refine rgb (by assumption) ?_; exact rfl) | omega) (fun h124 => ?_) (fun h124 => ?_)
              · refine jr.aload_n rfl rfl ?_
                refine jr.iload_n rfl rfl ?_
                refine jr.iload_n rfl rfl ?_
                refine jr_v rfl rfl (Or.inl rfl) rfl rfl (Nat.lt_trans (kx_18 k_t).1 (by decide)) (kx_18 k_t).2 ⟨rfl, Nat.le_of_ble_eq_true rfl, Nat.le_of_ble_eq_true rfl⟩ rfl (jc.deep (c_Headers_checkTold hC_M25 (FR.rfl _ M25) k_t (by omega) (by omega) (fun M27 hC_M27 hf_M27  => ?_)) (Nat.le_of_ble_eq_true rfl))
                have ht_M27 : FR W_c_Headers_sizeIfRight T M27 := FR.t ht_M25 hf_M27 (kw_sub rfl)
                refine jr.iload_n rfl rfl ?_
                obtain ⟨v28, e28⟩ : ∃ z_, M27 t 4 = z_ := ⟨_, rfl⟩
                have b28 : (-2147483648) ≤ v28 ∧ v28 ≤ 2147483647 := by rw [← e28]; exact (CI.r hC_M27 k_t (by decide) 4)
                have e29 : M7 t 3 = v3 := (hf_M7.g k_t rfl).trans e3
                have e30 : M25 t 3 = v3 := (hf_M25.g k_t rfl).trans e29
                have e31 : M27 t 3 = v3 := (hf_M27.g k_t rfl).trans e30
                exact jr.ireturn rfl rfl rfl (q _ _ hC_M27 ht_M27 (by omega) (by have hq0 : M27 t 4 = v28 := e28; have hq1 : M27 t 3 = v3 := e31; omega))
              · have sx124 : (1 : Int) ≤ r25 := by omega
                clear h124
                refine jr.iconst rfl ?_
                have e32 : M7 t 3 = v3 := (hf_M7.g k_t rfl).trans e3
                have e33 : M25 t 3 = v3 := (hf_M25.g k_t rfl).trans e32
                exact jr.ireturn rfl rfl rfl (q _ _ hC_M25 ht_M25 (by omega) (by have hq0 : M25 t 4 = v26 := e26; have hq1 : M25 t 3 = v3 := e33; omega))
            · refine jr.iload_n rfl rfl ?_
              refine jr.bipush rfl (jbp _ (nlt rfl)) ?_
              refine jr.icmp_ge rfl rfl (by first | (refine rgb (by assumption) ?_; exact rfl) | omega) (rgl rfl) (fun h92 => ?_) (fun h92 => ?_)
              · refine jr.aload_n rfl rfl ?_
                refine jr.iload_n rfl rfl ?_
                refine jr.iload_n rfl rfl ?_
                refine jr.iload_n rfl rfl ?_
                refine jr.iadd rfl ?_
                refine jr_v rfl rfl (Or.inl rfl) rfl rfl (Nat.lt_trans (kx_18 k_t).1 (by decide)) (kx_18 k_t).2 ⟨rfl, Nat.le_of_ble_eq_true rfl, Nat.le_of_ble_eq_true rfl⟩ rfl (jc.deep (c_Headers_isCut hC_M7 (FR.rfl _ M7) k_t (by omega) (by omega) (fun r34 M34 hC_M34 hf_M34 z34 w34_0 => ?_)) (Nat.le_of_ble_eq_true rfl))
                have ht_M34 : FR W_c_Headers_sizeIfRight T M34 := FR.t ht_M7 hf_M34 (kw_sub rfl)
                obtain ⟨v35, e35⟩ : ∃ z_, M34 t 4 = z_ := ⟨_, rfl⟩
                have b35 : (-2147483648) ≤ v35 ∧ v35 ≤ 2147483647 := by rw [← e35]; exact (CI.r hC_M34 k_t (by decide) 4)
                refine jr.if_eq rfl rfl (by first | (refine rgb (by assumption) ?_; exact rfl) | omega) (fun h124 => ?_) (fun h124 => ?_)
                · refine jr.aload_n rfl rfl ?_
                  refine jr.iload_n rfl rfl ?_
                  refine jr.iload_n rfl rfl ?_
                  refine jr_v rfl rfl (Or.inl rfl) rfl rfl (Nat.lt_trans (kx_18 k_t).1 (by decide)) (kx_18 k_t).2 ⟨rfl, Nat.le_of_ble_eq_true rfl, Nat.le_of_ble_eq_true rfl⟩ rfl (jc.deep (c_Headers_checkTold hC_M34 (FR.rfl _ M34) k_t (by omega) (by omega) (fun M36 hC_M36 hf_M36  => ?_)) (Nat.le_of_ble_eq_true rfl))
                  have ht_M36 : FR W_c_Headers_sizeIfRight T M36 := FR.t ht_M34 hf_M36 (kw_sub rfl)
                  refine jr.iload_n rfl rfl ?_
                  obtain ⟨v37, e37⟩ : ∃ z_, M36 t 4 = z_ := ⟨_, rfl⟩
                  have b37 : (-2147483648) ≤ v37 ∧ v37 ≤ 2147483647 := by rw [← e37]; exact (CI.r hC_M36 k_t (by decide) 4)
                  have e38 : M7 t 3 = v3 := (hf_M7.g k_t rfl).trans e3
                  have e39 : M34 t 3 = v3 := (hf_M34.g k_t rfl).trans e38
                  have e40 : M36 t 3 = v3 := (hf_M36.g k_t rfl).trans e39
                  exact jr.ireturn rfl rfl rfl (q _ _ hC_M36 ht_M36 (by omega) (by have hq0 : M36 t 4 = v37 := e37; have hq1 : M36 t 3 = v3 := e40; omega))
                · have sx124 : (1 : Int) ≤ r34 := by omega
                  clear h124
                  refine jr.iconst rfl ?_
                  have e41 : M7 t 3 = v3 := (hf_M7.g k_t rfl).trans e3
                  have e42 : M34 t 3 = v3 := (hf_M34.g k_t rfl).trans e41
                  exact jr.ireturn rfl rfl rfl (q _ _ hC_M34 ht_M34 (by omega) (by have hq0 : M34 t 4 = v35 := e35; have hq1 : M34 t 3 = v3 := e42; omega))
              · refine jr.aload_n rfl rfl ?_
                refine jr.iconst rfl ?_
                refine jr.iload_n rfl rfl ?_
                refine jr.iconst rfl ?_
                refine jr.icmp_ne rfl rfl (by first | (refine rgb (by assumption) ?_; exact rfl) | omega) (rgl rfl) (fun h99 => ?_) (fun h99 => ?_)
                · refine jr.iload_n rfl rfl ?_
                  refine jr.bipush rfl (jbp _ (nlt rfl)) ?_
                  refine jr.iadd rfl ?_
                  refine jr.iload_n rfl rfl ?_
                  refine jr_v rfl rfl (Or.inl rfl) rfl rfl (Nat.lt_trans (kx_18 k_t).1 (by decide)) (kx_18 k_t).2 ⟨rfl, Nat.le_of_ble_eq_true rfl, Nat.le_of_ble_eq_true rfl⟩ rfl (jc.deep (c_Headers_find hC_M7 (FR.rfl _ M7) k_t (by omega) (by omega) (by omega) (fun M43 hC_M43 hf_M43 w43_0 => ?_)) (Nat.le_of_ble_eq_true rfl))
                  have ht_M43 : FR W_c_Headers_sizeIfRight T M43 := FR.t ht_M7 hf_M43 (kw_sub rfl)
                  obtain ⟨v44, e44⟩ : ∃ z_, M43 t 4 = z_ := ⟨_, rfl⟩
                  have b44 : (-2147483648) ≤ v44 ∧ v44 ≤ 2147483647 := by rw [← e44]; exact (CI.r hC_M43 k_t (by decide) 4)
                  refine jr.iconst rfl ?_
                  have e45 : M7 t 3 = v3 := (hf_M7.g k_t rfl).trans e3
                  have e46 : M43 t 3 = v3 := (hf_M43.g k_t rfl).trans e45
                  exact jr.ireturn rfl rfl rfl (q _ _ hC_M43 ht_M43 (by omega) (by have hq0 : M43 t 4 = v44 := e44; have hq1 : M43 t 3 = v3 := e46; omega))
                · exact absurd (by omega) h99
        · have sx66 : (1 : Int) ≤ r7 := by omega
          clear h66
          refine jr.iconst rfl ?_
          have e47 : M7 t 3 = v3 := (hf_M7.g k_t rfl).trans e3
          exact jr.ireturn rfl rfl rfl (q _ _ hC_M7 ht_M7 (by omega) (by have hq0 : M7 t 4 = v8 := e8; have hq1 : M7 t 3 = v3 := e47; omega))
      · have sx40 : (1 : Int) ≤ r5 := by omega
        clear h40
        refine jr.aload_n rfl rfl ?_
        refine jr.iload_n rfl rfl ?_
        refine jr.iload_n rfl rfl ?_
        refine jr_v rfl rfl (Or.inl rfl) rfl rfl (Nat.lt_trans (kx_18 k_t).1 (by decide)) (kx_18 k_t).2 ⟨rfl, Nat.le_of_ble_eq_true rfl, Nat.le_of_ble_eq_true rfl⟩ rfl (jc.deep (c_Headers_isOtherVersion hC_M (FR.rfl _ M) k_t (by omega) (by omega) (fun r48 M48 hC_M48 hf_M48 z48 w48_0 => ?_)) (Nat.le_of_ble_eq_true rfl))
        have ht_M48 : FR W_c_Headers_sizeIfRight T M48 := FR.t ht_M hf_M48 (kw_sub rfl)
        obtain ⟨v49, e49⟩ : ∃ z_, M48 t 4 = z_ := ⟨_, rfl⟩
        have b49 : (-2147483648) ≤ v49 ∧ v49 ≤ 2147483647 := by rw [← e49]; exact (CI.r hC_M48 k_t (by decide) 4)
        refine jr.if_eq rfl rfl (by first | (refine rgb (by assumption) ?_; exact rfl) | omega) (fun h49 => ?_) (fun h49 => ?_)
        · refine jr.aload_n rfl rfl ?_
          refine jr.iload_n rfl rfl ?_
          refine jr.iload_n rfl rfl ?_
          refine jr.gst (v := .ref 1000001) rfl rfl ?_
          refine jr.iload_n rfl rfl ?_
          obtain ⟨v50, e50⟩ : ∃ z_, xcv_1 x = z_ := ⟨_, rfl⟩
          have b50 : 1 ≤ v50 ∧ v50 ≤ 24 := by rw [← e50]; exact xcr_1 (by omega) (by omega)
          refine jr.ials (i := x) v50 rfl (by decide) rfl (by decide) (by omega) (by omega) (by rw [← e50]; exact (Int32.ofInt_toInt _).symm) ?_
          refine jr.iadd rfl ?_
          refine jr_v rfl rfl (Or.inl rfl) rfl rfl (Nat.lt_trans (kx_18 k_t).1 (by decide)) (kx_18 k_t).2 ⟨rfl, Nat.le_of_ble_eq_true rfl, Nat.le_of_ble_eq_true rfl⟩ rfl (jc.deep (c_Headers_isCut hC_M48 (FR.rfl _ M48) k_t (by omega) (by omega) (fun r51 M51 hC_M51 hf_M51 z51 w51_0 => ?_)) (Nat.le_of_ble_eq_true rfl))
          have ht_M51 : FR W_c_Headers_sizeIfRight T M51 := FR.t ht_M48 hf_M51 (kw_sub rfl)
          obtain ⟨v52, e52⟩ : ∃ z_, M51 t 4 = z_ := ⟨_, rfl⟩
          have b52 : (-2147483648) ≤ v52 ∧ v52 ≤ 2147483647 := by rw [← e52]; exact (CI.r hC_M51 k_t (by decide) 4)
          refine jr.if_eq rfl rfl (by first | (refine rgb (by assumption) ?_; exact rfl) | omega) (fun h66 => ?_) (fun h66 => ?_)
          · refine jr.aload_n rfl rfl ?_
            refine jr.iload_n rfl rfl ?_
            refine jr.iload_n rfl rfl ?_
            have e54 : M48 t 7 = S := (hf_M48.g k_t rfl).trans g_S
            have e55 : M51 t 7 = S := (hf_M51.g k_t rfl).trans e54
            have k53_S : kd (S).toNat = 33 := (congrArg (fun z : Int => kd z.toNat) e55).symm.trans (CI.x hC_M51 k_t 7 rfl (by decide))
            refine jr_v rfl rfl (Or.inl rfl) rfl rfl (Nat.lt_trans (kx_18 k_t).1 (by decide)) (kx_18 k_t).2 ⟨rfl, Nat.le_of_ble_eq_true rfl, Nat.le_of_ble_eq_true rfl⟩ rfl (jc.deep (c_Headers_fullSize hC_M51 k_t (by omega) (by omega) e55 (fun r53 z53 w53_0 w53_1 w53_2 => ?_)) (Nat.le_of_ble_eq_true rfl))
            have e56 : M48 ((S.toNat)) 1 = v1 := (hf_M48.g k53_S rfl).trans e1
            have e57 : M51 ((S.toNat)) 1 = v1 := (hf_M51.g k53_S rfl).trans e56
            refine jr.istore_n (ls' := [_, _, _, _]) rfl (nlt rfl) rfl ?_
            refine jr.iload_n rfl rfl ?_
            refine jr.iconst rfl ?_
            refine jr.icmp_eq rfl rfl (by first | (refine rgb (by assumption) ?_; exact rfl) | omega) (rgl rfl) (fun h80 => ?_) (fun h80 => ?_)
            · refine jr.iload_n rfl rfl ?_
              refine jr.bipush rfl (jbp _ (nlt rfl)) ?_
              refine jr.icmp_ge rfl rfl (by first | (refine rgb (by assumption) ?_; exact rfl) | omega) (rgl rfl) (fun h92 => ?_) (fun h92 => ?_)
              · refine jr.aload_n rfl rfl ?_
                refine jr.iload_n rfl rfl ?_
                refine jr.iload_n rfl rfl ?_
                refine jr.iload_n rfl rfl ?_
                refine jr.iadd rfl ?_
                refine jr_v rfl rfl (Or.inl rfl) rfl rfl (Nat.lt_trans (kx_18 k_t).1 (by decide)) (kx_18 k_t).2 ⟨rfl, Nat.le_of_ble_eq_true rfl, Nat.le_of_ble_eq_true rfl⟩ rfl (jc.deep (c_Headers_isCut hC_M51 (FR.rfl _ M51) k_t (by omega) (by omega) (fun r58 M58 hC_M58 hf_M58 z58 w58_0 => ?_)) (Nat.le_of_ble_eq_true rfl))
                have ht_M58 : FR W_c_Headers_sizeIfRight T M58 := FR.t ht_M51 hf_M58 (kw_sub rfl)
                obtain ⟨v59, e59⟩ : ∃ z_, M58 t 4 = z_ := ⟨_, rfl⟩
                have b59 : (-2147483648) ≤ v59 ∧ v59 ≤ 2147483647 := by rw [← e59]; exact (CI.r hC_M58 k_t (by decide) 4)
                refine jr.if_eq rfl rfl (by first | (refine rgb (by assumption) ?_; exact rfl) | omega) (fun h124 => ?_) (fun h124 => ?_)
                · refine jr.aload_n rfl rfl ?_
                  refine jr.iload_n rfl rfl ?_
                  refine jr.iload_n rfl rfl ?_
                  refine jr_v rfl rfl (Or.inl rfl) rfl rfl (Nat.lt_trans (kx_18 k_t).1 (by decide)) (kx_18 k_t).2 ⟨rfl, Nat.le_of_ble_eq_true rfl, Nat.le_of_ble_eq_true rfl⟩ rfl (jc.deep (c_Headers_checkTold hC_M58 (FR.rfl _ M58) k_t (by omega) (by omega) (fun M60 hC_M60 hf_M60  => ?_)) (Nat.le_of_ble_eq_true rfl))
                  have ht_M60 : FR W_c_Headers_sizeIfRight T M60 := FR.t ht_M58 hf_M60 (kw_sub rfl)
                  refine jr.iload_n rfl rfl ?_
                  obtain ⟨v61, e61⟩ : ∃ z_, M60 t 4 = z_ := ⟨_, rfl⟩
                  have b61 : (-2147483648) ≤ v61 ∧ v61 ≤ 2147483647 := by rw [← e61]; exact (CI.r hC_M60 k_t (by decide) 4)
                  have e62 : M48 t 3 = v3 := (hf_M48.g k_t rfl).trans e3
                  have e63 : M51 t 3 = v3 := (hf_M51.g k_t rfl).trans e62
                  have e64 : M58 t 3 = v3 := (hf_M58.g k_t rfl).trans e63
                  have e65 : M60 t 3 = v3 := (hf_M60.g k_t rfl).trans e64
                  exact jr.ireturn rfl rfl rfl (q _ _ hC_M60 ht_M60 (by omega) (by have hq0 : M60 t 4 = v61 := e61; have hq1 : M60 t 3 = v3 := e65; omega))
                · have sx124 : (1 : Int) ≤ r58 := by omega
                  clear h124
                  refine jr.iconst rfl ?_
                  have e66 : M48 t 3 = v3 := (hf_M48.g k_t rfl).trans e3
                  have e67 : M51 t 3 = v3 := (hf_M51.g k_t rfl).trans e66
                  have e68 : M58 t 3 = v3 := (hf_M58.g k_t rfl).trans e67
                  exact jr.ireturn rfl rfl rfl (q _ _ hC_M58 ht_M58 (by omega) (by have hq0 : M58 t 4 = v59 := e59; have hq1 : M58 t 3 = v3 := e68; omega))
              · refine jr.aload_n rfl rfl ?_
                refine jr.iconst rfl ?_
                refine jr.iload_n rfl rfl ?_
                refine jr.iconst rfl ?_
                refine jr.icmp_ne rfl rfl (by first | (refine rgb (by assumption) ?_; exact rfl) | omega) (rgl rfl) (fun h99 => ?_) (fun h99 => ?_)
                · exact absurd h99 (by omega)
                · refine jr.iload_n rfl rfl ?_
                  refine jr.goto rfl rfl ?_
                  refine jr.iload_n rfl rfl ?_
                  refine jr_v rfl rfl (Or.inl rfl) rfl rfl (Nat.lt_trans (kx_18 k_t).1 (by decide)) (kx_18 k_t).2 ⟨rfl, Nat.le_of_ble_eq_true rfl, Nat.le_of_ble_eq_true rfl⟩ rfl (jc.deep (c_Headers_find hC_M51 (FR.rfl _ M51) k_t (by omega) (by omega) (by omega) (fun M69 hC_M69 hf_M69 w69_0 => ?_)) (Nat.le_of_ble_eq_true rfl))
                  have ht_M69 : FR W_c_Headers_sizeIfRight T M69 := FR.t ht_M51 hf_M69 (kw_sub rfl)
                  obtain ⟨v70, e70⟩ : ∃ z_, M69 t 4 = z_ := ⟨_, rfl⟩
                  have b70 : (-2147483648) ≤ v70 ∧ v70 ≤ 2147483647 := by rw [← e70]; exact (CI.r hC_M69 k_t (by decide) 4)
                  refine jr.iconst rfl ?_
                  have e71 : M48 t 3 = v3 := (hf_M48.g k_t rfl).trans e3
                  have e72 : M51 t 3 = v3 := (hf_M51.g k_t rfl).trans e71
                  have e73 : M69 t 3 = v3 := (hf_M69.g k_t rfl).trans e72
                  exact jr.ireturn rfl rfl rfl (q _ _ hC_M69 ht_M69 (by omega) (by have hq0 : M69 t 4 = v70 := e70; have hq1 : M69 t 3 = v3 := e73; omega))
            · have sx80 : (3 : Int) ≤ x := by omega
              clear h80
              refine jr.iload_n rfl rfl ?_
              refine jr.bipush rfl (jbp _ (nlt rfl)) ?_
              refine jr.icmp_ne rfl rfl (by first | (refine rgb (by assumption) ?_; exact rfl) | omega) (rgl rfl) (fun h86 => ?_) (fun h86 => ?_)
              · refine jr.aload_n rfl rfl ?_
                refine jr.iload_n rfl rfl ?_
                refine jr.iload_n rfl rfl ?_
                refine jr.iload_n rfl rfl ?_
                refine jr.iadd rfl ?_
                refine jr_v rfl rfl (Or.inl rfl) rfl rfl (Nat.lt_trans (kx_18 k_t).1 (by decide)) (kx_18 k_t).2 ⟨rfl, Nat.le_of_ble_eq_true rfl, Nat.le_of_ble_eq_true rfl⟩ rfl (jc.deep (c_Headers_isCut hC_M51 (FR.rfl _ M51) k_t (by omega) (by omega) (fun r74 M74 hC_M74 hf_M74 z74 w74_0 => ?_)) (Nat.le_of_ble_eq_true rfl))
                have ht_M74 : FR W_c_Headers_sizeIfRight T M74 := FR.t ht_M51 hf_M74 (kw_sub rfl)
                obtain ⟨v75, e75⟩ : ∃ z_, M74 t 4 = z_ := ⟨_, rfl⟩
                have b75 : (-2147483648) ≤ v75 ∧ v75 ≤ 2147483647 := by rw [← e75]; exact (CI.r hC_M74 k_t (by decide) 4)
                refine jr.if_eq rfl rfl (by first | (refine rgb (by assumption) ?_; exact rfl) | omega) (fun h124 => ?_) (fun h124 => ?_)
                · refine jr.aload_n rfl rfl ?_
                  refine jr.iload_n rfl rfl ?_
                  refine jr.iload_n rfl rfl ?_
                  refine jr_v rfl rfl (Or.inl rfl) rfl rfl (Nat.lt_trans (kx_18 k_t).1 (by decide)) (kx_18 k_t).2 ⟨rfl, Nat.le_of_ble_eq_true rfl, Nat.le_of_ble_eq_true rfl⟩ rfl (jc.deep (c_Headers_checkTold hC_M74 (FR.rfl _ M74) k_t (by omega) (by omega) (fun M76 hC_M76 hf_M76  => ?_)) (Nat.le_of_ble_eq_true rfl))
                  have ht_M76 : FR W_c_Headers_sizeIfRight T M76 := FR.t ht_M74 hf_M76 (kw_sub rfl)
                  refine jr.iload_n rfl rfl ?_
                  obtain ⟨v77, e77⟩ : ∃ z_, M76 t 4 = z_ := ⟨_, rfl⟩
                  have b77 : (-2147483648) ≤ v77 ∧ v77 ≤ 2147483647 := by rw [← e77]; exact (CI.r hC_M76 k_t (by decide) 4)
                  have e78 : M48 t 3 = v3 := (hf_M48.g k_t rfl).trans e3
                  have e79 : M51 t 3 = v3 := (hf_M51.g k_t rfl).trans e78
                  have e80 : M74 t 3 = v3 := (hf_M74.g k_t rfl).trans e79
                  have e81 : M76 t 3 = v3 := (hf_M76.g k_t rfl).trans e80
                  exact jr.ireturn rfl rfl rfl (q _ _ hC_M76 ht_M76 (by omega) (by have hq0 : M76 t 4 = v77 := e77; have hq1 : M76 t 3 = v3 := e81; omega))
                · have sx124 : (1 : Int) ≤ r74 := by omega
                  clear h124
                  refine jr.iconst rfl ?_
                  have e82 : M48 t 3 = v3 := (hf_M48.g k_t rfl).trans e3
                  have e83 : M51 t 3 = v3 := (hf_M51.g k_t rfl).trans e82
                  have e84 : M74 t 3 = v3 := (hf_M74.g k_t rfl).trans e83
                  exact jr.ireturn rfl rfl rfl (q _ _ hC_M74 ht_M74 (by omega) (by have hq0 : M74 t 4 = v75 := e75; have hq1 : M74 t 3 = v3 := e84; omega))
              · exact absurd (by omega) h86
          · have sx66 : (1 : Int) ≤ r51 := by omega
            clear h66
            refine jr.iconst rfl ?_
            have e85 : M48 t 3 = v3 := (hf_M48.g k_t rfl).trans e3
            have e86 : M51 t 3 = v3 := (hf_M51.g k_t rfl).trans e85
            exact jr.ireturn rfl rfl rfl (q _ _ hC_M51 ht_M51 (by omega) (by have hq0 : M51 t 4 = v52 := e52; have hq1 : M51 t 3 = v3 := e86; omega))
        · have sx49 : (1 : Int) ≤ r48 := by omega
          clear h49
          refine jr.iconst rfl ?_
          have e87 : M48 t 3 = v3 := (hf_M48.g k_t rfl).trans e3
          exact jr.ireturn rfl rfl rfl (q _ _ hC_M48 ht_M48 (by omega) (by have hq0 : M48 t 4 = v49 := e49; have hq1 : M48 t 3 = v3 := e87; omega))
    · have sx24 : (1 : Int) ≤ r4 := by omega
      clear h24
      refine jr.aload_n rfl rfl ?_
      refine jr.iconst rfl ?_
      refine jr.iload_n rfl rfl ?_
      refine jr.iload_n rfl rfl ?_
      refine jr_v rfl rfl (Or.inl rfl) rfl rfl (Nat.lt_trans (kx_18 k_t).1 (by decide)) (kx_18 k_t).2 ⟨rfl, Nat.le_of_ble_eq_true rfl, Nat.le_of_ble_eq_true rfl⟩ rfl (jc.deep (c_Headers_find hC_M (FR.rfl _ M) k_t (by omega) (by omega) (by omega) (fun M88 hC_M88 hf_M88 w88_0 => ?_)) (Nat.le_of_ble_eq_true rfl))
      have ht_M88 : FR W_c_Headers_sizeIfRight T M88 := FR.t ht_M hf_M88 (kw_sub rfl)
      obtain ⟨v89, e89⟩ : ∃ z_, M88 t 4 = z_ := ⟨_, rfl⟩
      have b89 : (-2147483648) ≤ v89 ∧ v89 ≤ 2147483647 := by rw [← e89]; exact (CI.r hC_M88 k_t (by decide) 4)
      refine jr.iconst rfl ?_
      have e90 : M88 t 3 = v3 := (hf_M88.g k_t rfl).trans e3
      exact jr.ireturn rfl rfl rfl (q _ _ hC_M88 ht_M88 (by omega) (by have hq0 : M88 t 4 = v89 := e89; have hq1 : M88 t 3 = v3 := e90; omega))
  · refine jr.aload_n rfl rfl ?_
    refine jr.bipush rfl (jbp _ (nlt rfl)) ?_
    refine jr.iload_n rfl rfl ?_
    refine jr.iload_n rfl rfl ?_
    refine jr_v rfl rfl (Or.inl rfl) rfl rfl (Nat.lt_trans (kx_18 k_t).1 (by decide)) (kx_18 k_t).2 ⟨rfl, Nat.le_of_ble_eq_true rfl, Nat.le_of_ble_eq_true rfl⟩ rfl (jc.deep (c_Headers_find hC_M (FR.rfl _ M) k_t (by omega) (by omega) (by omega) (fun M91 hC_M91 hf_M91 w91_0 => ?_)) (Nat.le_of_ble_eq_true rfl))
    have ht_M91 : FR W_c_Headers_sizeIfRight T M91 := FR.t ht_M hf_M91 (kw_sub rfl)
    obtain ⟨v92, e92⟩ : ∃ z_, M91 t 4 = z_ := ⟨_, rfl⟩
    have b92 : (-2147483648) ≤ v92 ∧ v92 ≤ 2147483647 := by rw [← e92]; exact (CI.r hC_M91 k_t (by decide) 4)
    refine jr.iconst rfl ?_
    have e93 : M91 t 3 = v3 := (hf_M91.g k_t rfl).trans e3
    exact jr.ireturn rfl rfl rfl (q _ _ hC_M91 ht_M91 (by omega) (by have hq0 : M91 t 4 = v92 := e92; have hq1 : M91 t 3 = v3 := e93; omega))
theorem c_Headers_quotedKind {A : Nat → Option (Nat × (Nat → Int32))} {Q : Option Value → jm → Prop} {M : jm} (hC_M : CI M) {t : Nat} (k_t : kd t = 18) {x : Int} (h_x : (-2147483648) ≤ x ∧ x ≤ 2147483647) {y : Int} (h_y : 0 ≤ y ∧ y ≤ 400) (q : ∀ (r : Int), 0 ≤ r ∧ r ≤ 11 → Q (some (.int (Int32.ofInt r))) M) : jc A 2 136 [.ref (t), .int (Int32.ofInt (x)), .int (Int32.ofInt (y))] M Q := by
  refine jc_of (m := xm_136) rfl (Nat.le_of_ble_eq_true rfl) rfl ?_
  refine jr.iload_n rfl rfl ?_
  refine jr.iconst rfl ?_
  refine jr.icmp_eq rfl rfl (by first | (refine rgb (by assumption) ?_; exact rfl) | omega) (rgl rfl) (fun h2 => ?_) (fun h2 => ?_)
  · refine jr.aload_n rfl rfl ?_
    obtain ⟨v1, e1⟩ : ∃ z_, M t 7 = z_ := ⟨_, rfl⟩
    have b1 : 0 ≤ v1 ∧ v1 ≤ 597 := by rw [← e1]; exact (CI.r hC_M k_t (by decide) 7)
    have k2 : kd (v1).toNat = 33 := ((congrArg (fun z : Int => kd z.toNat) (show M t 7 = v1 from e1)).symm.trans (CI.x hC_M k_t 7 rfl (by decide)))
    refine jr.getf (i := 7) (x := v1) (v := .ref (v1.toNat)) rfl rfl (Nat.lt_trans (kx_18 k_t).1 (by decide)) (kx_18 k_t).2 (by decide) rfl rfl e1 (jval_mut rfl (kn_18_7 k_t)) ?_
    refine jr.iload_n rfl rfl ?_
    refine jr_v rfl rfl (Or.inl rfl) rfl rfl (Nat.lt_trans (kx_33 k2).1 (by decide)) (kx_33 k2).2 ⟨rfl, Nat.le_of_ble_eq_true rfl, Nat.le_of_ble_eq_true rfl⟩ rfl (jc.deep (c_Packet_byteAt hC_M k2 (by omega) (fun r3 z3  => ?_)) (Nat.le_of_ble_eq_true rfl))
    refine jr.iconst rfl ?_
    refine jr.ishr rfl ?_
    have b4 : j_shr r3 4 = r3 / 16 := j_shr_ex 4 (by decide) (by omega) (by omega)
    generalize j_shr r3 4 = v4 at b4 ⊢
    refine jr.istore_n (ls' := [_, _, _, _]) rfl (nlt rfl) rfl ?_
    refine jr.iload_n rfl rfl ?_
    refine jr.iconst rfl ?_
    refine jr.icmp_ne rfl rfl (by first | (refine rgb (by assumption) ?_; exact rfl) | omega) (rgl rfl) (fun h27 => ?_) (fun h27 => ?_)
    · refine jr.iload_n rfl rfl ?_
      refine jr.bipush rfl (jbp _ (nlt rfl)) ?_
      refine jr.icmp_ne rfl rfl (by first | (refine rgb (by assumption) ?_; exact rfl) | omega) (rgl rfl) (fun h37 => ?_) (fun h37 => ?_)
      · refine jr.bipush rfl (jbp _ (nlt rfl)) ?_
        exact jr.ireturn rfl rfl rfl (q _ (by first | exact rgq rfl | omega) )
      · refine jr.iconst rfl ?_
        refine jr.goto rfl rfl ?_
        exact jr.ireturn rfl rfl rfl (q _ (by first | exact rgq rfl | omega) )
    · refine jr.iconst rfl ?_
      refine jr.goto rfl rfl ?_
      exact jr.ireturn rfl rfl rfl (q _ (by first | exact rgq rfl | omega) )
  · refine jr.iload_n rfl rfl ?_
    refine jr.bipush rfl (jbp _ (nlt rfl)) ?_
    refine jr.icmp_eq rfl rfl (by first | (refine rgb (by assumption) ?_; exact rfl) | omega) (rgl rfl) (fun h8 => ?_) (fun h8 => ?_)
    · refine jr.aload_n rfl rfl ?_
      obtain ⟨v5, e5⟩ : ∃ z_, M t 7 = z_ := ⟨_, rfl⟩
      have b5 : 0 ≤ v5 ∧ v5 ≤ 597 := by rw [← e5]; exact (CI.r hC_M k_t (by decide) 7)
      have k6 : kd (v5).toNat = 33 := ((congrArg (fun z : Int => kd z.toNat) (show M t 7 = v5 from e5)).symm.trans (CI.x hC_M k_t 7 rfl (by decide)))
      refine jr.getf (i := 7) (x := v5) (v := .ref (v5.toNat)) rfl rfl (Nat.lt_trans (kx_18 k_t).1 (by decide)) (kx_18 k_t).2 (by decide) rfl rfl e5 (jval_mut rfl (kn_18_7 k_t)) ?_
      refine jr.iload_n rfl rfl ?_
      refine jr_v rfl rfl (Or.inl rfl) rfl rfl (Nat.lt_trans (kx_33 k6).1 (by decide)) (kx_33 k6).2 ⟨rfl, Nat.le_of_ble_eq_true rfl, Nat.le_of_ble_eq_true rfl⟩ rfl (jc.deep (c_Packet_byteAt hC_M k6 (by omega) (fun r7 z7  => ?_)) (Nat.le_of_ble_eq_true rfl))
      refine jr.iconst rfl ?_
      refine jr.ishr rfl ?_
      have b8 : j_shr r7 4 = r7 / 16 := j_shr_ex 4 (by decide) (by omega) (by omega)
      generalize j_shr r7 4 = v8 at b8 ⊢
      refine jr.istore_n (ls' := [_, _, _, _]) rfl (nlt rfl) rfl ?_
      refine jr.iload_n rfl rfl ?_
      refine jr.iconst rfl ?_
      refine jr.icmp_ne rfl rfl (by first | (refine rgb (by assumption) ?_; exact rfl) | omega) (rgl rfl) (fun h27 => ?_) (fun h27 => ?_)
      · refine jr.iload_n rfl rfl ?_
        refine jr.bipush rfl (jbp _ (nlt rfl)) ?_
        refine jr.icmp_ne rfl rfl (by first | (refine rgb (by assumption) ?_; exact rfl) | omega) (rgl rfl) (fun h37 => ?_) (fun h37 => ?_)
        · refine jr.bipush rfl (jbp _ (nlt rfl)) ?_
          exact jr.ireturn rfl rfl rfl (q _ (by first | exact rgq rfl | omega) )
        · refine jr.iconst rfl ?_
          refine jr.goto rfl rfl ?_
          exact jr.ireturn rfl rfl rfl (q _ (by first | exact rgq rfl | omega) )
      · refine jr.iconst rfl ?_
        refine jr.goto rfl rfl ?_
        exact jr.ireturn rfl rfl rfl (q _ (by first | exact rgq rfl | omega) )
    · refine jr.bipush rfl (jbp _ (nlt rfl)) ?_
      exact jr.ireturn rfl rfl rfl (q _ (by first | exact rgq rfl | omega) )
theorem c_Headers_toldKind {A : Nat → Option (Nat × (Nat → Int32))} {Q : Option Value → jm → Prop} {M : jm} (hC_M : CI M) {t : Nat} (k_t : kd t = 18) {x : Int} (h_x : 0 ≤ x ∧ x ≤ 11) {y : Int} (h_y : 0 ≤ y ∧ y ≤ 400) {z : Int} (h_z : 0 ≤ z ∧ z ≤ 400) (q : ∀ (r : Int), 0 ≤ r ∧ r ≤ 11 → Q (some (.int (Int32.ofInt r))) M) : jc A 3 133 [.ref (t), .int (Int32.ofInt (x)), .int (Int32.ofInt (y)), .int (Int32.ofInt (z))] M Q := by
  refine jc_of (m := xm_133) rfl (Nat.le_of_ble_eq_true rfl) rfl ?_
  refine jr.iload_n rfl rfl ?_
  rcases (show x = 0 ∨ x = 1 ∨ x = 2 ∨ x = 3 ∨ x = 4 ∨ x = 5 ∨ x = 6 ∨ x = 7 ∨ x = 8 ∨ x = 9 ∨ x = 10 ∨ (x ≠ 0 ∧ x ≠ 1 ∧ x ≠ 2 ∧ x ≠ 3 ∧ x ≠ 4 ∧ x ≠ 5 ∧ x ≠ 6 ∧ x ≠ 7 ∧ x ≠ 8 ∧ x ≠ 9 ∧ x ≠ 10) by omega) with h1 | h1 | h1 | h1 | h1 | h1 | h1 | h1 | h1 | h1 | h1 | h1
  · refine jr.tsw_k 0 rfl h1 rfl ?_
    refine jr.aload_n rfl rfl ?_
    obtain ⟨v1, e1⟩ : ∃ z_, M t 7 = z_ := ⟨_, rfl⟩
    have b1 : 0 ≤ v1 ∧ v1 ≤ 597 := by rw [← e1]; exact (CI.r hC_M k_t (by decide) 7)
    have k2 : kd (v1).toNat = 33 := ((congrArg (fun z : Int => kd z.toNat) (show M t 7 = v1 from e1)).symm.trans (CI.x hC_M k_t 7 rfl (by decide)))
    refine jr.getf (i := 7) (x := v1) (v := .ref (v1.toNat)) rfl rfl (Nat.lt_trans (kx_18 k_t).1 (by decide)) (kx_18 k_t).2 (by decide) rfl rfl e1 (jval_mut rfl (kn_18_7 k_t)) ?_
    refine jr.iload_n rfl rfl ?_
    refine jr.iconst rfl ?_
    refine jr.iadd rfl ?_
    refine jr.iconst rfl ?_
    refine jr_v rfl rfl (Or.inl rfl) rfl rfl (Nat.lt_trans (kx_33 k2).1 (by decide)) (kx_33 k2).2 ⟨rfl, Nat.le_of_ble_eq_true rfl, Nat.le_of_ble_eq_true rfl⟩ rfl (jc.deep (c_Packet_numberFrom hC_M k2 (by omega) (by omega) (fun r3 z3  => ?_)) (Nat.le_of_ble_eq_true rfl))
    refine jr.l2i rfl ?_
    refine jr.iw (j_w r3) (j_w_eq _) ?_
    have b4 : -2147483648 ≤ j_w r3 ∧ j_w r3 ≤ 2147483647 := jb_any _
    generalize j_w r3 = v4 at b4 ⊢
    refine jr_s rfl rfl (Or.inl rfl) ⟨Nat.le_of_ble_eq_true rfl, Nat.le_of_ble_eq_true rfl⟩ rfl rfl (jc.deep (c_Headers_kindOfLink hC_M (by omega) (fun r5 z5  => ?_)) (Nat.le_of_ble_eq_true rfl))
    exact jr.ireturn rfl rfl rfl (q _ (by omega) )
  · refine jr.tsw_k 1 rfl h1 rfl ?_
    refine jr.aload_n rfl rfl ?_
    obtain ⟨v6, e6⟩ : ∃ z_, M t 7 = z_ := ⟨_, rfl⟩
    have b6 : 0 ≤ v6 ∧ v6 ≤ 597 := by rw [← e6]; exact (CI.r hC_M k_t (by decide) 7)
    have k7 : kd (v6).toNat = 33 := ((congrArg (fun z : Int => kd z.toNat) (show M t 7 = v6 from e6)).symm.trans (CI.x hC_M k_t 7 rfl (by decide)))
    refine jr.getf (i := 7) (x := v6) (v := .ref (v6.toNat)) rfl rfl (Nat.lt_trans (kx_18 k_t).1 (by decide)) (kx_18 k_t).2 (by decide) rfl rfl e6 (jval_mut rfl (kn_18_7 k_t)) ?_
    refine jr.iload_n rfl rfl ?_
    refine jr.iconst rfl ?_
    refine jr.iadd rfl ?_
    refine jr.iconst rfl ?_
    refine jr_v rfl rfl (Or.inl rfl) rfl rfl (Nat.lt_trans (kx_33 k7).1 (by decide)) (kx_33 k7).2 ⟨rfl, Nat.le_of_ble_eq_true rfl, Nat.le_of_ble_eq_true rfl⟩ rfl (jc.deep (c_Packet_numberFrom hC_M k7 (by omega) (by omega) (fun r8 z8  => ?_)) (Nat.le_of_ble_eq_true rfl))
    refine jr.l2i rfl ?_
    refine jr.iw (j_w r8) (j_w_eq _) ?_
    have b9 : -2147483648 ≤ j_w r8 ∧ j_w r8 ≤ 2147483647 := jb_any _
    generalize j_w r8 = v9 at b9 ⊢
    refine jr_s rfl rfl (Or.inl rfl) ⟨Nat.le_of_ble_eq_true rfl, Nat.le_of_ble_eq_true rfl⟩ rfl rfl (jc.deep (c_Headers_kindOfLink hC_M (by omega) (fun r10 z10  => ?_)) (Nat.le_of_ble_eq_true rfl))
    exact jr.ireturn rfl rfl rfl (q _ (by omega) )
  · refine jr.tsw_k 2 rfl h1 rfl ?_
    refine jr.aload_n rfl rfl ?_
    obtain ⟨v11, e11⟩ : ∃ z_, M t 7 = z_ := ⟨_, rfl⟩
    have b11 : 0 ≤ v11 ∧ v11 ≤ 597 := by rw [← e11]; exact (CI.r hC_M k_t (by decide) 7)
    have k12 : kd (v11).toNat = 33 := ((congrArg (fun z : Int => kd z.toNat) (show M t 7 = v11 from e11)).symm.trans (CI.x hC_M k_t 7 rfl (by decide)))
    refine jr.getf (i := 7) (x := v11) (v := .ref (v11.toNat)) rfl rfl (Nat.lt_trans (kx_18 k_t).1 (by decide)) (kx_18 k_t).2 (by decide) rfl rfl e11 (jval_mut rfl (kn_18_7 k_t)) ?_
    refine jr.iload_n rfl rfl ?_
    refine jr.bipush rfl (jbp _ (nlt rfl)) ?_
    refine jr.iadd rfl ?_
    refine jr.iconst rfl ?_
    refine jr_v rfl rfl (Or.inl rfl) rfl rfl (Nat.lt_trans (kx_33 k12).1 (by decide)) (kx_33 k12).2 ⟨rfl, Nat.le_of_ble_eq_true rfl, Nat.le_of_ble_eq_true rfl⟩ rfl (jc.deep (c_Packet_numberFrom hC_M k12 (by omega) (by omega) (fun r13 z13  => ?_)) (Nat.le_of_ble_eq_true rfl))
    refine jr.ldc2 (x := 8191) rfl rfl (by decide) ?_
    refine jr.land rfl ?_
    have b14 : 0 ≤ jl_and r13 8191 ∧ jl_and r13 8191 ≤ 8191 := jl_and_le (by decide)
    generalize jl_and r13 8191 = v14 at b14 ⊢
    refine jr.lconst (x := 0) rfl (by decide) ?_
    refine jr.lcmp_eq rfl rfl rfl (by omega) (by omega) (fun h93 => ?_) (fun h93 => ?_)
    · refine jr.aload_n rfl rfl ?_
      have k15 : kd (v11).toNat = 33 := ((congrArg (fun z : Int => kd z.toNat) (show M t 7 = v11 from e11)).symm.trans (CI.x hC_M k_t 7 rfl (by decide)))
      refine jr.getf (i := 7) (x := v11) (v := .ref (v11.toNat)) rfl rfl (Nat.lt_trans (kx_18 k_t).1 (by decide)) (kx_18 k_t).2 (by decide) rfl rfl e11 (jval_mut rfl (kn_18_7 k_t)) ?_
      refine jr.iload_n rfl rfl ?_
      refine jr.bipush rfl (jbp _ (nlt rfl)) ?_
      refine jr.iadd rfl ?_
      refine jr_v rfl rfl (Or.inl rfl) rfl rfl (Nat.lt_trans (kx_33 k15).1 (by decide)) (kx_33 k15).2 ⟨rfl, Nat.le_of_ble_eq_true rfl, Nat.le_of_ble_eq_true rfl⟩ rfl (jc.deep (c_Packet_byteAt hC_M k15 (by omega) (fun r16 z16  => ?_)) (Nat.le_of_ble_eq_true rfl))
      refine jr.iconst rfl ?_
      refine jr_s rfl rfl (Or.inl rfl) ⟨Nat.le_of_ble_eq_true rfl, Nat.le_of_ble_eq_true rfl⟩ rfl rfl (jc.deep (c_Headers_kindOfNext hC_M (by omega) (by omega) (fun r17 z17  => ?_)) (Nat.le_of_ble_eq_true rfl))
      exact jr.ireturn rfl rfl rfl (q _ (by omega) )
    · refine jr.bipush rfl (jbp _ (nlt rfl)) ?_
      refine jr.goto rfl rfl ?_
      exact jr.ireturn rfl rfl rfl (q _ (by first | exact rgq rfl | omega) )
  · refine jr.tsw_k 3 rfl h1 rfl ?_
    refine jr.aload_n rfl rfl ?_
    obtain ⟨v18, e18⟩ : ∃ z_, M t 7 = z_ := ⟨_, rfl⟩
    have b18 : 0 ≤ v18 ∧ v18 ≤ 597 := by rw [← e18]; exact (CI.r hC_M k_t (by decide) 7)
    have k19 : kd (v18).toNat = 33 := ((congrArg (fun z : Int => kd z.toNat) (show M t 7 = v18 from e18)).symm.trans (CI.x hC_M k_t 7 rfl (by decide)))
    refine jr.getf (i := 7) (x := v18) (v := .ref (v18.toNat)) rfl rfl (Nat.lt_trans (kx_18 k_t).1 (by decide)) (kx_18 k_t).2 (by decide) rfl rfl e18 (jval_mut rfl (kn_18_7 k_t)) ?_
    refine jr.iload_n rfl rfl ?_
    refine jr.iconst rfl ?_
    refine jr.iadd rfl ?_
    refine jr_v rfl rfl (Or.inl rfl) rfl rfl (Nat.lt_trans (kx_33 k19).1 (by decide)) (kx_33 k19).2 ⟨rfl, Nat.le_of_ble_eq_true rfl, Nat.le_of_ble_eq_true rfl⟩ rfl (jc.deep (c_Packet_byteAt hC_M k19 (by omega) (fun r20 z20  => ?_)) (Nat.le_of_ble_eq_true rfl))
    refine jr.iconst rfl ?_
    refine jr_s rfl rfl (Or.inl rfl) ⟨Nat.le_of_ble_eq_true rfl, Nat.le_of_ble_eq_true rfl⟩ rfl rfl (jc.deep (c_Headers_kindOfNext hC_M (by omega) (by omega) (fun r21 z21  => ?_)) (Nat.le_of_ble_eq_true rfl))
    exact jr.ireturn rfl rfl rfl (q _ (by omega) )
  · refine jr.tsw_k 4 rfl h1 rfl ?_
    refine jr.aload_n rfl rfl ?_
    obtain ⟨v22, e22⟩ : ∃ z_, M t 7 = z_ := ⟨_, rfl⟩
    have b22 : 0 ≤ v22 ∧ v22 ≤ 597 := by rw [← e22]; exact (CI.r hC_M k_t (by decide) 7)
    have k23 : kd (v22).toNat = 33 := ((congrArg (fun z : Int => kd z.toNat) (show M t 7 = v22 from e22)).symm.trans (CI.x hC_M k_t 7 rfl (by decide)))
    refine jr.getf (i := 7) (x := v22) (v := .ref (v22.toNat)) rfl rfl (Nat.lt_trans (kx_18 k_t).1 (by decide)) (kx_18 k_t).2 (by decide) rfl rfl e22 (jval_mut rfl (kn_18_7 k_t)) ?_
    refine jr.iload_n rfl rfl ?_
    refine jr_v rfl rfl (Or.inl rfl) rfl rfl (Nat.lt_trans (kx_33 k23).1 (by decide)) (kx_33 k23).2 ⟨rfl, Nat.le_of_ble_eq_true rfl, Nat.le_of_ble_eq_true rfl⟩ rfl (jc.deep (c_Packet_byteAt hC_M k23 (by omega) (fun r24 z24  => ?_)) (Nat.le_of_ble_eq_true rfl))
    refine jr.iconst rfl ?_
    refine jr_s rfl rfl (Or.inl rfl) ⟨Nat.le_of_ble_eq_true rfl, Nat.le_of_ble_eq_true rfl⟩ rfl rfl (jc.deep (c_Headers_kindOfNext hC_M (by omega) (by omega) (fun r25 z25  => ?_)) (Nat.le_of_ble_eq_true rfl))
    exact jr.ireturn rfl rfl rfl (q _ (by omega) )
  · refine jr.tsw_k 5 rfl h1 rfl ?_
    refine jr.aload_n rfl rfl ?_
    obtain ⟨v26, e26⟩ : ∃ z_, M t 7 = z_ := ⟨_, rfl⟩
    have b26 : 0 ≤ v26 ∧ v26 ≤ 597 := by rw [← e26]; exact (CI.r hC_M k_t (by decide) 7)
    have k27 : kd (v26).toNat = 33 := ((congrArg (fun z : Int => kd z.toNat) (show M t 7 = v26 from e26)).symm.trans (CI.x hC_M k_t 7 rfl (by decide)))
    refine jr.getf (i := 7) (x := v26) (v := .ref (v26.toNat)) rfl rfl (Nat.lt_trans (kx_18 k_t).1 (by decide)) (kx_18 k_t).2 (by decide) rfl rfl e26 (jval_mut rfl (kn_18_7 k_t)) ?_
    refine jr.iload_n rfl rfl ?_
    refine jr_v rfl rfl (Or.inl rfl) rfl rfl (Nat.lt_trans (kx_33 k27).1 (by decide)) (kx_33 k27).2 ⟨rfl, Nat.le_of_ble_eq_true rfl, Nat.le_of_ble_eq_true rfl⟩ rfl (jc.deep (c_Packet_byteAt hC_M k27 (by omega) (fun r28 z28  => ?_)) (Nat.le_of_ble_eq_true rfl))
    refine jr.iconst rfl ?_
    refine jr_s rfl rfl (Or.inl rfl) ⟨Nat.le_of_ble_eq_true rfl, Nat.le_of_ble_eq_true rfl⟩ rfl rfl (jc.deep (c_Headers_kindOfNext hC_M (by omega) (by omega) (fun r29 z29  => ?_)) (Nat.le_of_ble_eq_true rfl))
    exact jr.ireturn rfl rfl rfl (q _ (by omega) )
  · refine jr.tsw_k 6 rfl h1 rfl ?_
    refine jr.aload_n rfl rfl ?_
    obtain ⟨v30, e30⟩ : ∃ z_, M t 7 = z_ := ⟨_, rfl⟩
    have b30 : 0 ≤ v30 ∧ v30 ≤ 597 := by rw [← e30]; exact (CI.r hC_M k_t (by decide) 7)
    have k31 : kd (v30).toNat = 33 := ((congrArg (fun z : Int => kd z.toNat) (show M t 7 = v30 from e30)).symm.trans (CI.x hC_M k_t 7 rfl (by decide)))
    refine jr.getf (i := 7) (x := v30) (v := .ref (v30.toNat)) rfl rfl (Nat.lt_trans (kx_18 k_t).1 (by decide)) (kx_18 k_t).2 (by decide) rfl rfl e30 (jval_mut rfl (kn_18_7 k_t)) ?_
    refine jr.iload_n rfl rfl ?_
    refine jr.iconst rfl ?_
    refine jr.iadd rfl ?_
    refine jr.iconst rfl ?_
    refine jr_v rfl rfl (Or.inl rfl) rfl rfl (Nat.lt_trans (kx_33 k31).1 (by decide)) (kx_33 k31).2 ⟨rfl, Nat.le_of_ble_eq_true rfl, Nat.le_of_ble_eq_true rfl⟩ rfl (jc.deep (c_Packet_numberFrom hC_M k31 (by omega) (by omega) (fun r32 z32  => ?_)) (Nat.le_of_ble_eq_true rfl))
    refine jr.iconst rfl ?_
    refine jr.lshr rfl ?_
    have b33 : jl_shr r32 3 = r32 / 8 := jl_shr_ex 3 (by decide) (by omega) (by omega)
    generalize jl_shr r32 3 = v33 at b33 ⊢
    refine jr.lconst (x := 0) rfl (by decide) ?_
    refine jr.lcmp_eq rfl rfl rfl (by omega) (by omega) (fun h160 => ?_) (fun h160 => ?_)
    · refine jr.aload_n rfl rfl ?_
      have k34 : kd (v30).toNat = 33 := ((congrArg (fun z : Int => kd z.toNat) (show M t 7 = v30 from e30)).symm.trans (CI.x hC_M k_t 7 rfl (by decide)))
      refine jr.getf (i := 7) (x := v30) (v := .ref (v30.toNat)) rfl rfl (Nat.lt_trans (kx_18 k_t).1 (by decide)) (kx_18 k_t).2 (by decide) rfl rfl e30 (jval_mut rfl (kn_18_7 k_t)) ?_
      refine jr.iload_n rfl rfl ?_
      refine jr_v rfl rfl (Or.inl rfl) rfl rfl (Nat.lt_trans (kx_33 k34).1 (by decide)) (kx_33 k34).2 ⟨rfl, Nat.le_of_ble_eq_true rfl, Nat.le_of_ble_eq_true rfl⟩ rfl (jc.deep (c_Packet_byteAt hC_M k34 (by omega) (fun r35 z35  => ?_)) (Nat.le_of_ble_eq_true rfl))
      refine jr.iconst rfl ?_
      refine jr_s rfl rfl (Or.inl rfl) ⟨Nat.le_of_ble_eq_true rfl, Nat.le_of_ble_eq_true rfl⟩ rfl rfl (jc.deep (c_Headers_kindOfNext hC_M (by omega) (by omega) (fun r36 z36  => ?_)) (Nat.le_of_ble_eq_true rfl))
      exact jr.ireturn rfl rfl rfl (q _ (by omega) )
    · refine jr.bipush rfl (jbp _ (nlt rfl)) ?_
      refine jr.goto rfl rfl ?_
      exact jr.ireturn rfl rfl rfl (q _ (by first | exact rgq rfl | omega) )
  · refine jr.tsw_k 7 rfl h1 rfl ?_
    refine jr.aload_n rfl rfl ?_
    refine jr.aload_n rfl rfl ?_
    obtain ⟨v37, e37⟩ : ∃ z_, M t 7 = z_ := ⟨_, rfl⟩
    have b37 : 0 ≤ v37 ∧ v37 ≤ 597 := by rw [← e37]; exact (CI.r hC_M k_t (by decide) 7)
    have k38 : kd (v37).toNat = 33 := ((congrArg (fun z : Int => kd z.toNat) (show M t 7 = v37 from e37)).symm.trans (CI.x hC_M k_t 7 rfl (by decide)))
    refine jr.getf (i := 7) (x := v37) (v := .ref (v37.toNat)) rfl rfl (Nat.lt_trans (kx_18 k_t).1 (by decide)) (kx_18 k_t).2 (by decide) rfl rfl e37 (jval_mut rfl (kn_18_7 k_t)) ?_
    refine jr.iload_n rfl rfl ?_
    refine jr_v rfl rfl (Or.inl rfl) rfl rfl (Nat.lt_trans (kx_33 k38).1 (by decide)) (kx_33 k38).2 ⟨rfl, Nat.le_of_ble_eq_true rfl, Nat.le_of_ble_eq_true rfl⟩ rfl (jc.deep (c_Packet_byteAt hC_M k38 (by omega) (fun r39 z39  => ?_)) (Nat.le_of_ble_eq_true rfl))
    refine jr.iload_n rfl rfl ?_
    refine jr_v rfl rfl (Or.inl rfl) rfl rfl (Nat.lt_trans (kx_18 k_t).1 (by decide)) (kx_18 k_t).2 ⟨rfl, Nat.le_of_ble_eq_true rfl, Nat.le_of_ble_eq_true rfl⟩ rfl (jc.deep (c_Headers_quotedKind hC_M k_t (by omega) (by omega) (fun r40 z40  => ?_)) (Nat.le_of_ble_eq_true rfl))
    exact jr.ireturn rfl rfl rfl (q _ (by omega) )
  · refine jr.tsw_k 8 rfl h1 rfl ?_
    refine jr.bipush rfl (jbp _ (nlt rfl)) ?_
    exact jr.ireturn rfl rfl rfl (q _ (by first | exact rgq rfl | omega) )
  · refine jr.tsw_k 9 rfl h1 rfl ?_
    refine jr.bipush rfl (jbp _ (nlt rfl)) ?_
    exact jr.ireturn rfl rfl rfl (q _ (by first | exact rgq rfl | omega) )
  · refine jr.tsw_k 10 rfl h1 rfl ?_
    refine jr.aload_n rfl rfl ?_
    obtain ⟨v41, e41⟩ : ∃ z_, M t 7 = z_ := ⟨_, rfl⟩
    have b41 : 0 ≤ v41 ∧ v41 ≤ 597 := by rw [← e41]; exact (CI.r hC_M k_t (by decide) 7)
    have k42 : kd (v41).toNat = 33 := ((congrArg (fun z : Int => kd z.toNat) (show M t 7 = v41 from e41)).symm.trans (CI.x hC_M k_t 7 rfl (by decide)))
    refine jr.getf (i := 7) (x := v41) (v := .ref (v41.toNat)) rfl rfl (Nat.lt_trans (kx_18 k_t).1 (by decide)) (kx_18 k_t).2 (by decide) rfl rfl e41 (jval_mut rfl (kn_18_7 k_t)) ?_
    refine jr.iload_n rfl rfl ?_
    refine jr.iconst rfl ?_
    refine jr.iadd rfl ?_
    refine jr.iconst rfl ?_
    refine jr_v rfl rfl (Or.inl rfl) rfl rfl (Nat.lt_trans (kx_33 k42).1 (by decide)) (kx_33 k42).2 ⟨rfl, Nat.le_of_ble_eq_true rfl, Nat.le_of_ble_eq_true rfl⟩ rfl (jc.deep (c_Packet_numberFrom hC_M k42 (by omega) (by omega) (fun r43 z43  => ?_)) (Nat.le_of_ble_eq_true rfl))
    refine jr.l2i rfl ?_
    refine jr.iw (j_w r43) (j_w_eq _) ?_
    have b44 : -2147483648 ≤ j_w r43 ∧ j_w r43 ≤ 2147483647 := jb_any _
    generalize j_w r43 = v44 at b44 ⊢
    refine jr_s rfl rfl (Or.inl rfl) ⟨Nat.le_of_ble_eq_true rfl, Nat.le_of_ble_eq_true rfl⟩ rfl rfl (jc.deep (c_Headers_kindOfLink hC_M (by omega) (fun r45 z45  => ?_)) (Nat.le_of_ble_eq_true rfl))
    exact jr.ireturn rfl rfl rfl (q _ (by omega) )
  · refine jr.tsw_d rfl (by omega) (by omega) rfl ?_
    refine jr.bipush rfl (jbp _ (nlt rfl)) ?_
    exact jr.ireturn rfl rfl rfl (q _ (by first | exact rgq rfl | omega) )
theorem c_Headers_kindBehind {A : Nat → Option (Nat × (Nat → Int32))} {Q : Option Value → jm → Prop} {M : jm} (hC_M : CI M) {t : Nat} (k_t : kd t = 18) {x : Int} (h_x : 0 ≤ x ∧ x ≤ 11) {y : Int} (h_y : 0 ≤ y ∧ y ≤ 400) {z : Int} (h_z : 0 ≤ z ∧ z ≤ 400) (q : ∀ (r : Int), (-1) ≤ r ∧ r ≤ 11 → Q (some (.int (Int32.ofInt r))) M) : jc A 4 132 [.ref (t), .int (Int32.ofInt (x)), .int (Int32.ofInt (y)), .int (Int32.ofInt (z))] M Q := by
  refine jc_of (m := xm_132) rfl (Nat.le_of_ble_eq_true rfl) rfl ?_
  refine jr.aload_n rfl rfl ?_
  refine jr.iload_n rfl rfl ?_
  refine jr.iload_n rfl rfl ?_
  refine jr.iload_n rfl rfl ?_
  refine jr_v rfl rfl (Or.inl rfl) rfl rfl (Nat.lt_trans (kx_18 k_t).1 (by decide)) (kx_18 k_t).2 ⟨rfl, Nat.le_of_ble_eq_true rfl, Nat.le_of_ble_eq_true rfl⟩ rfl (jc.deep (c_Headers_toldKind hC_M k_t (by omega) (by omega) (by omega) (fun r1 z1  => ?_)) (Nat.le_of_ble_eq_true rfl))
  refine jr.istore (ls' := [_, _, _, _, _]) rfl (nlt rfl) rfl ?_
  refine jr.iload rfl rfl ?_
  refine jr.bipush rfl (jbp _ (nlt rfl)) ?_
  refine jr.icmp_ne rfl rfl (by first | (refine rgb (by assumption) ?_; exact rfl) | omega) (rgl rfl) (fun h13 => ?_) (fun h13 => ?_)
  · have sx13 : r1 ≤ (10 : Int) := by omega
    clear h13
    refine jr.iload rfl rfl ?_
    exact jr.ireturn rfl rfl rfl (q _ (by omega) )
  · refine jr.iload_n rfl rfl ?_
    refine jr.aload_n rfl rfl ?_
    obtain ⟨v2, e2⟩ : ∃ z_, M t 7 = z_ := ⟨_, rfl⟩
    have b2 : 0 ≤ v2 ∧ v2 ≤ 597 := by rw [← e2]; exact (CI.r hC_M k_t (by decide) 7)
    have k3 : kd (v2).toNat = 33 := ((congrArg (fun z : Int => kd z.toNat) (show M t 7 = v2 from e2)).symm.trans (CI.x hC_M k_t 7 rfl (by decide)))
    refine jr.getf (i := 7) (x := v2) (v := .ref (v2.toNat)) rfl rfl (Nat.lt_trans (kx_18 k_t).1 (by decide)) (kx_18 k_t).2 (by decide) rfl rfl e2 (jval_mut rfl (kn_18_7 k_t)) ?_
    obtain ⟨v4, e4⟩ : ∃ z_, M ((v2.toNat)) 1 = z_ := ⟨_, rfl⟩
    have b4 : (-1) ≤ v4 ∧ v4 ≤ 400 := by rw [← e4]; exact (CI.r hC_M k3 (by decide) 1)
    refine jr.getf (i := 1) (x := v4) (v := .int (Int32.ofInt (v4))) rfl rfl (Nat.lt_trans (kx_33 k3).1 (by decide)) (kx_33 k3).2 (by decide) rfl rfl e4 rfl ?_
    refine jr.icmp_lt rfl rfl (by first | (refine rgb (by assumption) ?_; exact rfl) | omega) (by first | (refine rgb (by assumption) ?_; exact rfl) | omega) (fun h24 => ?_) (fun h24 => ?_)
    · refine jr.iload rfl rfl ?_
      exact jr.ireturn rfl rfl rfl (q _ (by omega) )
    · refine jr.iconst rfl ?_
      refine jr.goto rfl rfl ?_
      exact jr.ireturn rfl rfl rfl (q _ (by first | exact rgq rfl | omega) )
noncomputable def W_c_Headers_readAll : List (Nat × Nat) := [(18, 3), (18, 4), (18, 5), (18, 6), (18, 7), (19, 1000), (20, 1000), (21, 1000)]
theorem c_Headers_readAll_L45 {A : Nat → Option (Nat × (Nat → Int32))} {Q : Option Value → jm → Prop} {T : jm} {t : Nat} (k_t : kd t = 18) {x : Nat} (k_x : kd x = 33) {S : Int} (q : ∀ (M' : jm), CI M' → FR W_c_Headers_readAll T M' → (HC M' t) → Q none M') : ∀ (nM : Nat) (M : jm) (k : Int) (a : Int) (n : Int), CI M → FR W_c_Headers_readAll T M → (-1) ≤ k ∧ k ≤ 11 → 0 ≤ a ∧ a ≤ 400 → 0 ≤ n ∧ n ≤ 13 → M t 7 = S → (0 ≤ M ((S.toNat)) 1 ∧ M ((S.toNat)) 1 ≤ 400) → (HC M t) → 13 - n ≤ nM → jr A 4 xm_105 45 [(2, .int (Int32.ofInt (k))), (3, .int (Int32.ofInt (a))), (4, .int (Int32.ofInt (n))), (0, .ref (t)), (1, .ref (x))] [] M Q := by
  intro nM
  induction nM using Nat.strongRecOn with
  | ind nM ih =>
    intro M k a n hC_M ht_M h_k h_a h_n g_S hy0 hy1 hm
    have k_S : kd S.toNat = 33 := (congrArg (fun z : Int => kd z.toNat) g_S).symm.trans (CI.x hC_M k_t 7 rfl (by decide))
    obtain ⟨v1, e1⟩ : ∃ z_, M ((S.toNat)) 1 = z_ := ⟨_, rfl⟩
    have b1 : (-1) ≤ v1 ∧ v1 ≤ 400 := by rw [← e1]; exact (CI.r hC_M k_S (by decide) 1)
    have b2 : 0 ≤ v1 ∧ v1 ≤ 400 := by rw [← e1]; exact hy0
    refine jr.iload rfl rfl ?_
    refine jr.bipush rfl (jbp _ (nlt rfl)) ?_
    refine jr.icmp_gt rfl rfl (by first | (refine rgb (by assumption) ?_; exact rfl) | omega) (rgl rfl) (fun h49 => ?_) (fun h49 => ?_)
    · exact jr.vreturn rfl rfl (q _ hC_M ht_M  hy1)
    · refine jr.aload_n rfl rfl ?_
      obtain ⟨v3, e3⟩ : ∃ z_, M t 4 = z_ := ⟨_, rfl⟩
      have b3 : (-2147483648) ≤ v3 ∧ v3 ≤ 2147483647 := by rw [← e3]; exact (CI.r hC_M k_t (by decide) 4)
      refine jr.getf (i := 4) (x := v3) (v := .int (Int32.ofInt (v3))) rfl rfl (Nat.lt_trans (kx_18 k_t).1 (by decide)) (kx_18 k_t).2 (by decide) rfl rfl e3 rfl ?_
      refine jr.if_ne rfl rfl (by first | (refine rgb (by assumption) ?_; exact rfl) | omega) (fun h56 => ?_) (fun h56 => ?_)
      · exact jr.vreturn rfl rfl (q _ hC_M ht_M  hy1)
      · refine jr.iload_n rfl rfl ?_
        refine jr.iconst rfl ?_
        refine jr.icmp_eq rfl rfl (by first | (refine rgb (by assumption) ?_; exact rfl) | omega) (rgl rfl) (fun h61 => ?_) (fun h61 => ?_)
        · exact jr.vreturn rfl rfl (q _ hC_M ht_M  hy1)
        · have sx61 : (0 : Int) ≤ k := by omega
          clear h61
          refine jr.aload_n rfl rfl ?_
          refine jr.iload_n rfl rfl ?_
          refine jr.iload_n rfl rfl ?_
          have k4_S : kd (S).toNat = 33 := (congrArg (fun z : Int => kd z.toNat) g_S).symm.trans (CI.x hC_M k_t 7 rfl (by decide))
          refine jr_v rfl rfl (Or.inl rfl) rfl rfl (Nat.lt_trans (kx_18 k_t).1 (by decide)) (kx_18 k_t).2 ⟨rfl, Nat.le_of_ble_eq_true rfl, Nat.le_of_ble_eq_true rfl⟩ rfl (jc.deep (c_Headers_sizeIfRight hC_M (FR.rfl _ M) k_t (by omega) (by omega) g_S (by have hq0 : M ((S.toNat)) 1 = v1 := e1; omega) (fun r4 M4 hC_M4 hf_M4 z4 w4_0 => ?_)) (Nat.le_of_ble_eq_true rfl))
          have ht_M4 : FR W_c_Headers_readAll T M4 := FR.t ht_M hf_M4 (kw_sub rfl)
          obtain ⟨v5, e5⟩ : ∃ z_, M4 t 4 = z_ := ⟨_, rfl⟩
          have b5 : (-2147483648) ≤ v5 ∧ v5 ≤ 2147483647 := by rw [← e5]; exact (CI.r hC_M4 k_t (by decide) 4)
          obtain ⟨v6, e6⟩ : ∃ z_, M t 3 = z_ := ⟨_, rfl⟩
          have b6 : 0 ≤ v6 ∧ v6 ≤ 12 := by rw [← e6]; exact (CI.r hC_M k_t (by decide) 3)
          have e7 : M4 t 3 = v6 := (hf_M4.g k_t rfl).trans e6
          refine jr.istore (ls' := [_, _, _, _, _, _]) rfl (nlt rfl) rfl ?_
          refine jr.aload_n rfl rfl ?_
          refine jr.getf (i := 4) (x := v5) (v := .int (Int32.ofInt (v5))) rfl rfl (Nat.lt_trans (kx_18 k_t).1 (by decide)) (kx_18 k_t).2 (by decide) rfl rfl e5 rfl ?_
          refine jr.if_ne rfl rfl (by first | (refine rgb (by assumption) ?_; exact rfl) | omega) (fun h76 => ?_) (fun h76 => ?_)
          · refine jr.iinc (ls' := [_, _, _, _, _, _]) rfl rfl (nlt rfl) rfl ?_
            refine jr.goto rfl rfl ?_
            have e8 : M4 t 7 = S := (hf_M4.g k_t rfl).trans g_S
            have e9 : M4 ((S.toNat)) 1 = v1 := (hf_M4.g k4_S rfl).trans e1
            refine jr.pick (ls := [_, _, _, _, _]) [2, 3, 0, 4, 5] rfl rfl ?_
            exact ih (nM - 1) (by omega) M4 k a (n + 1) hC_M4 ht_M4 (by omega) (by omega) (by omega) e8 (by have hq0 : M4 ((S.toNat)) 1 = v1 := e9; omega) (HC.fr hy1 hf_M4 k_t rfl) (by omega)
          · refine jr.aload_n rfl rfl ?_
            have k10 := kf_18_0 k_t
            refine jr.getf (i := 0) (v := .ref (t + 1)) rfl rfl (Nat.lt_trans (kx_18 k_t).1 (by decide)) (kx_18 k_t).2 (by decide) rfl rfl rfl (jval_ref rfl k10.1) ?_
            refine jr.aload_n rfl rfl ?_
            refine jr.getf (i := 3) (x := v6) (v := .int (Int32.ofInt (v6))) rfl rfl (Nat.lt_trans (kx_18 k_t).1 (by decide)) (kx_18 k_t).2 (by decide) rfl rfl e7 rfl ?_
            refine jr.iload_n rfl rfl ?_
            refine jr.iast (i := v6) (x := k) rfl (Nat.lt_trans (kx_19 k10.2).1 (by decide)) (kx_19 k10.2).2 (by decide) (by omega) (by omega) ?_
            refine jr.aload_n rfl rfl ?_
            have k11 := kf_18_1 k_t
            refine jr.getf (i := 1) (v := .ref (t + 2)) rfl rfl (Nat.lt_trans (kx_18 k_t).1 (by decide)) (kx_18 k_t).2 (by decide) rfl rfl rfl (jval_ref rfl k11.1) ?_
            refine jr.aload_n rfl rfl ?_
            refine jr.getf (i := 3) (x := v6) (v := .int (Int32.ofInt (v6))) rfl rfl (Nat.lt_trans (kx_18 k_t).1 (by decide)) (kx_18 k_t).2 (by decide) rfl rfl ((ju_c _ _ (kd_ne (by rw [k_t, k10.2]; decide))).trans e7) rfl ?_
            refine jr.iload_n rfl rfl ?_
            refine jr.iast (i := v6) (x := a) rfl (Nat.lt_trans (kx_20 k11.2).1 (by decide)) (kx_20 k11.2).2 (by decide) (by omega) (by omega) ?_
            refine jr.aload_n rfl rfl ?_
            have k12 := kf_18_2 k_t
            refine jr.getf (i := 2) (v := .ref (t + 3)) rfl rfl (Nat.lt_trans (kx_18 k_t).1 (by decide)) (kx_18 k_t).2 (by decide) rfl rfl rfl (jval_ref rfl k12.1) ?_
            refine jr.aload_n rfl rfl ?_
            refine jr.getf (i := 3) (x := v6) (v := .int (Int32.ofInt (v6))) rfl rfl (Nat.lt_trans (kx_18 k_t).1 (by decide)) (kx_18 k_t).2 (by decide) rfl rfl ((ju_c _ _ (kd_ne (by rw [k_t, k11.2]; decide))).trans ((ju_c _ _ (kd_ne (by rw [k_t, k10.2]; decide))).trans e7)) rfl ?_
            refine jr.iload rfl rfl ?_
            refine jr.iast (i := v6) (x := r4) rfl (Nat.lt_trans (kx_21 k12.2).1 (by decide)) (kx_21 k12.2).2 (by decide) (by omega) (by omega) ?_
            refine jr.aload_n rfl rfl ?_
            refine jr.dup rfl rfl ?_
            refine jr.getf (i := 3) (x := v6) (v := .int (Int32.ofInt (v6))) rfl rfl (Nat.lt_trans (kx_18 k_t).1 (by decide)) (kx_18 k_t).2 (by decide) rfl rfl ((ju_c _ _ (kd_ne (by rw [k_t, k12.2]; decide))).trans ((ju_c _ _ (kd_ne (by rw [k_t, k11.2]; decide))).trans ((ju_c _ _ (kd_ne (by rw [k_t, k10.2]; decide))).trans e7))) rfl ?_
            refine jr.iconst rfl ?_
            refine jr.iadd rfl ?_
            refine jr.putf (i := 3) (x := (v6 + 1)) rfl rfl (Nat.lt_trans (kx_18 k_t).1 (by decide)) (kx_18 k_t).2 (by decide) rfl rfl rfl rfl rfl ?_
            refine jr.aload_n rfl rfl ?_
            refine jr.iload_n rfl rfl ?_
            refine jr.iload_n rfl rfl ?_
            refine jr.iload_n rfl rfl ?_
            refine jr.iload rfl rfl ?_
            refine jr.iadd rfl ?_
            refine jr_v rfl rfl (Or.inl rfl) rfl rfl (Nat.lt_trans (kx_18 k_t).1 (by decide)) (kx_18 k_t).2 ⟨rfl, Nat.le_of_ble_eq_true rfl, Nat.le_of_ble_eq_true rfl⟩ rfl (jc.deep (c_Headers_kindBehind (CI.u (CI.u (CI.u (CI.u hC_M4 (i := v6) k10.2 (show (0 : Int) ≤ _ ∧ _ ≤ (11 : Int) from by omega) rfl) (i := v6) k11.2 (show (0 : Int) ≤ _ ∧ _ ≤ (400 : Int) from by omega) rfl) (i := v6) k12.2 (show (-400 : Int) ≤ _ ∧ _ ≤ (2048 : Int) from by omega) rfl) (i := 3) k_t (show (0 : Int) ≤ _ ∧ _ ≤ (12 : Int) from by omega) rfl) k_t (by omega) (by omega) (by omega) (fun r13 z13  => ?_)) (Nat.le_of_ble_eq_true rfl))
            refine jr.istore_n (ls' := [_, _, _, _, _, _]) rfl (nlt rfl) rfl ?_
            refine jr.iload_n rfl rfl ?_
            refine jr.iload rfl rfl ?_
            refine jr.iadd rfl ?_
            refine jr.istore_n (ls' := [_, _, _, _, _, _]) rfl (nlt rfl) rfl ?_
            refine jr.iinc (ls' := [_, _, _, _, _, _]) rfl rfl (nlt rfl) rfl ?_
            refine jr.goto rfl rfl ?_
            have e14 : M4 t 7 = S := (hf_M4.g k_t rfl).trans g_S
            have e15 : M4 ((S.toNat)) 1 = v1 := (hf_M4.g k4_S rfl).trans e1
            refine jr.pick (ls := [_, _, _, _, _]) [2, 1, 0, 4, 5] rfl rfl ?_
            exact ih (nM - 1) (by omega) ((ju (ju (ju (ju M4 ((t + 1)) v6 k) ((t + 2)) v6 a) ((t + 3)) v6 r4) t 3 (v6 + 1))) r13 (a + r4) (n + 1) (CI.u (CI.u (CI.u (CI.u hC_M4 (i := v6) k10.2 (show (0 : Int) ≤ _ ∧ _ ≤ (11 : Int) from by omega) rfl) (i := v6) k11.2 (show (0 : Int) ≤ _ ∧ _ ≤ (400 : Int) from by omega) rfl) (i := v6) k12.2 (show (-400 : Int) ≤ _ ∧ _ ≤ (2048 : Int) from by omega) rfl) (i := 3) k_t (show (0 : Int) ≤ _ ∧ _ ≤ (12 : Int) from by omega) rfl) (FR.o (FR.o (FR.o (FR.o ht_M4 k10.2 rfl) k11.2 rfl) k12.2 rfl) k_t rfl) (by omega) (by omega) (by omega) ((ju_i _ _ (zne (by decide))).trans ((ju_c _ _ (kd_ne (by rw [k_t, k12.2]; decide))).trans ((ju_c _ _ (kd_ne (by rw [k_t, k11.2]; decide))).trans ((ju_c _ _ (kd_ne (by rw [k_t, k10.2]; decide))).trans e14)))) (by have hq0 : (ju (ju (ju (ju M4 ((t + 1)) v6 k) ((t + 2)) v6 a) ((t + 3)) v6 r4) t 3 (v6 + 1)) ((S.toNat)) 1 = v1 := ((ju_i _ _ (zne (by decide))).trans ((ju_c _ _ (kd_ne (by rw [k4_S, k12.2]; decide))).trans ((ju_c _ _ (kd_ne (by rw [k4_S, k11.2]; decide))).trans ((ju_c _ _ (kd_ne (by rw [k4_S, k10.2]; decide))).trans e15)))); omega) (HC.st (HC.fr hy1 hf_M4 k_t rfl) k_t e7 (by omega) (by omega) (by omega)) (by omega)
theorem c_Headers_readAll {A : Nat → Option (Nat × (Nat → Int32))} {Q : Option Value → jm → Prop} {T : jm} {M : jm} (hC_M : CI M) (ht_M : FR W_c_Headers_readAll T M) {t : Nat} (k_t : kd t = 18) {x : Nat} (k_x : kd x = 33) (q : ∀ (M' : jm), CI M' → FR W_c_Headers_readAll T M' → (HC M' t) → Q none M') : jc A 5 105 [.ref (t), .ref (x)] M Q := by
  refine jc_of (m := xm_105) rfl (Nat.le_of_ble_eq_true rfl) rfl ?_
  refine jr.aload_n rfl rfl ?_
  refine jr.aload_n rfl rfl ?_
  refine jr.putf (i := 7) (x := (((x : Nat) : Int))) rfl rfl (Nat.lt_trans (kx_18 k_t).1 (by decide)) (kx_18 k_t).2 (by decide) rfl rfl (jval_mut rfl (kn_18_7 k_t)) rfl rfl ?_
  refine jr.aload_n rfl rfl ?_
  refine jr.iconst rfl ?_
  refine jr.putf (i := 3) (x := 0) rfl rfl (Nat.lt_trans (kx_18 k_t).1 (by decide)) (kx_18 k_t).2 (by decide) rfl rfl rfl rfl rfl ?_
  refine jr.aload_n rfl rfl ?_
  refine jr.iconst rfl ?_
  refine jr.putf (i := 4) (x := 0) rfl rfl (Nat.lt_trans (kx_18 k_t).1 (by decide)) (kx_18 k_t).2 (by decide) rfl rfl rfl rfl rfl ?_
  refine jr.aload_n rfl rfl ?_
  refine jr.iconst rfl ?_
  refine jr.putf (i := 5) (x := (-1)) rfl rfl (Nat.lt_trans (kx_18 k_t).1 (by decide)) (kx_18 k_t).2 (by decide) rfl rfl rfl rfl rfl ?_
  refine jr.aload_n rfl rfl ?_
  refine jr.iconst rfl ?_
  refine jr.putf (i := 6) (x := (-1)) rfl rfl (Nat.lt_trans (kx_18 k_t).1 (by decide)) (kx_18 k_t).2 (by decide) rfl rfl rfl rfl rfl ?_
  refine jr.aload_n rfl rfl ?_
  refine jr_v rfl rfl (Or.inl rfl) rfl rfl (Nat.lt_trans (kx_33 k_x).1 (by decide)) (kx_33 k_x).2 ⟨rfl, Nat.le_of_ble_eq_true rfl, Nat.le_of_ble_eq_true rfl⟩ rfl (jc.deep (c_Packet_isThere (CI.u (CI.u (CI.u (CI.u (CI.w (v := ((x : Nat) : Int)) hC_M (i := 7) k_t (show (0 : Int) ≤ _ ∧ _ ≤ (597 : Int) from by have hk := kd_lt (a := (((x : Nat) : Int)).toNat) (by rw [(show kd (((x : Nat) : Int)).toNat = 33 from k_x)]; decide); omega) (show kd (((x : Nat) : Int)).toNat = 33 from k_x)) (i := 3) k_t (show (0 : Int) ≤ _ ∧ _ ≤ (12 : Int) from by omega) rfl) (i := 4) k_t (show (-2147483648 : Int) ≤ _ ∧ _ ≤ (2147483647 : Int) from by omega) rfl) (i := 5) k_t (show (-2147483648 : Int) ≤ _ ∧ _ ≤ (2147483647 : Int) from by omega) rfl) (i := 6) k_t (show (-2147483648 : Int) ≤ _ ∧ _ ≤ (2147483647 : Int) from by omega) rfl) k_x (fun r1 z1 w1_0 => ?_)) (Nat.le_of_ble_eq_true rfl))
  obtain ⟨v2, e2⟩ : ∃ z_, M x 1 = z_ := ⟨_, rfl⟩
  have b2 : (-1) ≤ v2 ∧ v2 ≤ 400 := by rw [← e2]; exact (CI.r hC_M k_x (by decide) 1)
  have e3 : (ju (ju (ju (ju (ju M t 7 (((x : Nat) : Int))) t 3 0) t 4 0) t 5 (-1)) t 6 (-1)) x 1 = v2 := ((ju_i _ _ (zne (by decide))).trans ((ju_i _ _ (zne (by decide))).trans ((ju_i _ _ (zne (by decide))).trans ((ju_i _ _ (zne (by decide))).trans ((ju_i _ _ (zne (by decide))).trans e2)))))
  refine jr.if_ne rfl rfl (by first | (refine rgb (by assumption) ?_; exact rfl) | omega) (fun h29 => ?_) (fun h29 => ?_)
  · have sx29 : (1 : Int) ≤ r1 := by omega
    clear h29
    refine jr.iconst rfl ?_
    refine jr.istore_n (ls' := [_, _, _]) rfl (nlt rfl) rfl ?_
    refine jr.iconst rfl ?_
    refine jr.istore_n (ls' := [_, _, _, _]) rfl (nlt rfl) rfl ?_
    refine jr.iconst rfl ?_
    refine jr.istore (ls' := [_, _, _, _, _]) rfl (nlt rfl) rfl ?_
    refine jr.pick (ls := [_, _, _, _, _]) [2, 1, 0, 3, 4] rfl rfl ?_
    exact c_Headers_readAll_L45 k_t k_x q 13 ((ju (ju (ju (ju (ju M t 7 (((x : Nat) : Int))) t 3 0) t 4 0) t 5 (-1)) t 6 (-1))) 0 0 0 (CI.u (CI.u (CI.u (CI.u (CI.w (v := ((x : Nat) : Int)) hC_M (i := 7) k_t (show (0 : Int) ≤ _ ∧ _ ≤ (597 : Int) from by have hk := kd_lt (a := (((x : Nat) : Int)).toNat) (by rw [(show kd (((x : Nat) : Int)).toNat = 33 from k_x)]; decide); omega) (show kd (((x : Nat) : Int)).toNat = 33 from k_x)) (i := 3) k_t (show (0 : Int) ≤ _ ∧ _ ≤ (12 : Int) from by omega) rfl) (i := 4) k_t (show (-2147483648 : Int) ≤ _ ∧ _ ≤ (2147483647 : Int) from by omega) rfl) (i := 5) k_t (show (-2147483648 : Int) ≤ _ ∧ _ ≤ (2147483647 : Int) from by omega) rfl) (i := 6) k_t (show (-2147483648 : Int) ≤ _ ∧ _ ≤ (2147483647 : Int) from by omega) rfl) (FR.o (FR.o (FR.o (FR.o (FR.o ht_M k_t rfl) k_t rfl) k_t rfl) k_t rfl) k_t rfl) (by omega) (by omega) (by omega) ((ju_i _ _ (zne (by decide))).trans ((ju_i _ _ (zne (by decide))).trans ((ju_i _ _ (zne (by decide))).trans ((ju_i _ _ (zne (by decide))).trans (ju_same _ _ _ _))))) (show 0 ≤ (ju (ju (ju (ju (ju M t 7 (((x : Nat) : Int))) t 3 0) t 4 0) t 5 (-1)) t 6 (-1)) x 1 ∧ (ju (ju (ju (ju (ju M t 7 (((x : Nat) : Int))) t 3 0) t 4 0) t 5 (-1)) t 6 (-1)) x 1 ≤ 400 from by have hq : (ju (ju (ju (ju (ju M t 7 (((x : Nat) : Int))) t 3 0) t 4 0) t 5 (-1)) t 6 (-1)) x 1 = v2 := ((ju_i _ _ (zne (by decide))).trans ((ju_i _ _ (zne (by decide))).trans ((ju_i _ _ (zne (by decide))).trans ((ju_i _ _ (zne (by decide))).trans ((ju_i _ _ (zne (by decide))).trans e2))))); omega) (HC.z ((ju_i _ _ (zne (by decide))).trans ((ju_i _ _ (zne (by decide))).trans ((ju_i _ _ (zne (by decide))).trans (ju_same _ _ _ _))))) (by omega)
  · refine jr.aload_n rfl rfl ?_
    refine jr.iconst rfl ?_
    refine jr.putf (i := 4) (x := 2) rfl rfl (Nat.lt_trans (kx_18 k_t).1 (by decide)) (kx_18 k_t).2 (by decide) rfl rfl rfl rfl rfl ?_
    exact jr.vreturn rfl rfl (q _ (CI.u (CI.u (CI.u (CI.u (CI.u (CI.w (v := ((x : Nat) : Int)) hC_M (i := 7) k_t (show (0 : Int) ≤ _ ∧ _ ≤ (597 : Int) from by have hk := kd_lt (a := (((x : Nat) : Int)).toNat) (by rw [(show kd (((x : Nat) : Int)).toNat = 33 from k_x)]; decide); omega) (show kd (((x : Nat) : Int)).toNat = 33 from k_x)) (i := 3) k_t (show (0 : Int) ≤ _ ∧ _ ≤ (12 : Int) from by omega) rfl) (i := 4) k_t (show (-2147483648 : Int) ≤ _ ∧ _ ≤ (2147483647 : Int) from by omega) rfl) (i := 5) k_t (show (-2147483648 : Int) ≤ _ ∧ _ ≤ (2147483647 : Int) from by omega) rfl) (i := 6) k_t (show (-2147483648 : Int) ≤ _ ∧ _ ≤ (2147483647 : Int) from by omega) rfl) (i := 4) k_t (show (-2147483648 : Int) ≤ _ ∧ _ ≤ (2147483647 : Int) from by omega) rfl) (FR.o (FR.o (FR.o (FR.o (FR.o (FR.o ht_M k_t rfl) k_t rfl) k_t rfl) k_t rfl) k_t rfl) k_t rfl)  (HC.z ((ju_i _ _ (zne (by decide))).trans ((ju_i _ _ (zne (by decide))).trans ((ju_i _ _ (zne (by decide))).trans ((ju_i _ _ (zne (by decide))).trans (ju_same _ _ _ _)))))))
