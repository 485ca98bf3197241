theorem c_Machine_makeFresh {A : Nat → Option (Nat × (Nat → Int32))} {Q : Option Value → jm → Prop} {T : jm} {M : jm} (hC_M : CI M) (ht_M : FR W_c_Machine_makeFresh T M) (q : ∀ (M' : jm), CI M' → FR W_c_Machine_makeFresh T M' → Q none M') : jc A 3 180 [.ref (421)] M Q := by
  refine jc_of (m := xm_180) rfl (Nat.le_of_ble_eq_true rfl) rfl ?_
  refine jr.aload_n rfl rfl ?_
  refine jr.getf (i := 8) (v := .ref 435) rfl rfl (by decide) rfl (by decide) rfl rfl rfl rfl ?_
  refine jr.iconst rfl ?_
  obtain ⟨v1, e1⟩ : ∃ z_, M 435 0 = z_ := ⟨_, rfl⟩
  have b1 : (-9223372036854775808) ≤ v1 ∧ v1 ≤ 9223372036854775807 := by rw [← e1]; exact (CI.r hC_M (show kd 435 = 26 from rfl) (by decide) 0)
  refine jr.lald (i := 0) (x := v1) rfl (by decide) rfl (by decide) (by omega) (by omega) e1 ?_
  refine jr.lstore_n (ls' := [_, _]) rfl (by decide) rfl ?_
  refine jr.aload_n rfl rfl ?_
  refine jr.getf (i := 8) (v := .ref 435) rfl rfl (by decide) rfl (by decide) rfl rfl rfl rfl ?_
  refine jr.iconst rfl ?_
  obtain ⟨v2, e2⟩ : ∃ z_, M 435 1 = z_ := ⟨_, rfl⟩
  have b2 : (-9223372036854775808) ≤ v2 ∧ v2 ≤ 9223372036854775807 := by rw [← e2]; exact (CI.r hC_M (show kd 435 = 26 from rfl) (by decide) 1)
  refine jr.lald (i := 1) (x := v2) rfl (by decide) rfl (by decide) (by omega) (by omega) e2 ?_
  refine jr.lstore_n (ls' := [_, _, _]) rfl (by decide) rfl ?_
  refine jr.aload_n rfl rfl ?_
  refine jr.getf (i := 8) (v := .ref 435) rfl rfl (by decide) rfl (by decide) rfl rfl rfl rfl ?_
  refine jr.iconst rfl ?_
  obtain ⟨v3, e3⟩ : ∃ z_, M 435 2 = z_ := ⟨_, rfl⟩
  have b3 : (-9223372036854775808) ≤ v3 ∧ v3 ≤ 9223372036854775807 := by rw [← e3]; exact (CI.r hC_M (show kd 435 = 26 from rfl) (by decide) 2)
  refine jr.lald (i := 2) (x := v3) rfl (by decide) rfl (by decide) (by omega) (by omega) e3 ?_
  refine jr.lstore (ls' := [_, _, _, _]) rfl (by decide) rfl ?_
  refine jr.lload_n rfl rfl ?_
  refine jr.bipush rfl (by decide) ?_
  refine jr_s rfl rfl (Or.inl rfl) ⟨Nat.le_of_ble_eq_true rfl, Nat.le_of_ble_eq_true rfl⟩ rfl rfl (jc.deep (c_Machine_isNot hC_M (by omega) (by omega) (fun r4 z4 w4_0 => ?_)) (by decide))
  refine jr.if_eq rfl rfl (by omega) (fun h28 => ?_) (fun h28 => ?_)
  · refine jr.lload_n rfl rfl ?_
    refine jr.bipush rfl (by decide) ?_
    refine jr_s rfl rfl (Or.inl rfl) ⟨Nat.le_of_ble_eq_true rfl, Nat.le_of_ble_eq_true rfl⟩ rfl rfl (jc.deep (c_Machine_isNot hC_M (by omega) (by omega) (fun r5 z5 w5_0 => ?_)) (by decide))
    refine jr.if_eq rfl rfl (by omega) (fun h45 => ?_) (fun h45 => ?_)
    · refine jr.lload rfl rfl ?_
      refine jr.lconst (x := 0) rfl (by decide) ?_
      refine jr.lcmp_ge rfl rfl rfl (by omega) (by omega) (fun h60 => ?_) (fun h60 => ?_)
      · refine jr.lload rfl rfl ?_
        refine jr.ldc2 (x := 40) rfl rfl (by decide) ?_
        refine jr.lcmp_gt rfl rfl rfl (by omega) (by omega) (fun h77 => ?_) (fun h77 => ?_)
        · refine jr.aload_n rfl rfl ?_
          refine jr.bipush rfl (by decide) ?_
          refine jr_v rfl rfl (Or.inl rfl) rfl rfl (by decide) rfl ⟨rfl, Nat.le_of_ble_eq_true rfl, Nat.le_of_ble_eq_true rfl⟩ rfl (jc.deep (c_Machine_fail hC_M (FR.rfl _ M) (by omega) (fun M6 hC_M6 hf_M6  => ?_)) (by decide))
          have ht_M6 : FR W_c_Machine_makeFresh T M6 := FR.t ht_M hf_M6 (kw_sub rfl)
          refine jr.goto rfl rfl ?_
          exact jr.vreturn rfl rfl (q _ hC_M6 ht_M6  )
        · refine jr.aload_n rfl rfl ?_
          obtain ⟨v7, e7⟩ : ∃ z_, M 421 5 = z_ := ⟨_, rfl⟩
          have b7 : (-2147483648) ≤ v7 ∧ v7 ≤ 2147483647 := by rw [← e7]; exact (CI.r hC_M (show kd 421 = 22 from rfl) (by decide) 5)
          refine jr.getf (i := 5) (x := v7) (v := .int (Int32.ofInt (v7))) rfl rfl (by decide) rfl (by decide) rfl rfl e7 rfl ?_
          refine jr.sipush rfl (by decide) ?_
          refine jr.icmp_lt rfl rfl (by omega) (by omega) (fun h88 => ?_) (fun h88 => ?_)
          · refine jr.aload_n rfl rfl ?_
            refine jr.dup rfl rfl ?_
            refine jr.getf (i := 5) (x := v7) (v := .int (Int32.ofInt (v7))) rfl rfl (by decide) rfl (by decide) rfl rfl e7 rfl ?_
            refine jr.iconst rfl ?_
            refine jr.iadd rfl ?_
            refine jr.putf (i := 5) (x := (v7 + 1)) rfl rfl (by decide) rfl (by decide) rfl rfl rfl rfl rfl ?_
            refine jr.aload_n rfl rfl ?_
            refine jr.getf (i := 0) (v := .ref 422) rfl rfl (by decide) rfl (by decide) rfl rfl rfl rfl ?_
            refine jr.lload_n rfl rfl ?_
            refine jr.l2i rfl ?_
            have k8 := kxe_25 (a := 422) rfl (i := v1) (by omega) (by omega)
            refine jr.aald (c := (xe 422 v1)) rfl (by decide) rfl (by decide) (by decide) rfl (by decide) (by omega) (by omega) k8.1 ?_
            refine jr.lload_n rfl rfl ?_
            refine jr.l2i rfl ?_
            refine jr.lload rfl rfl ?_
            refine jr.l2i rfl ?_
            refine jr_v rfl rfl (Or.inl rfl) rfl rfl (Nat.lt_trans (kx_52 k8.2).1 (by decide)) (kx_52 k8.2).2 ⟨rfl, Nat.le_of_ble_eq_true rfl, Nat.le_of_ble_eq_true rfl⟩ rfl (jc.deep (c_Row_renew (CI.u hC_M (i := 5) (show kd 421 = 22 from rfl) (show (-2147483648 : Int) ≤ _ ∧ _ ≤ (2147483647 : Int) from by omega) rfl) (FR.rfl _ ((ju M 421 5 (v7 + 1)))) k8.2 (by omega) (by omega) (fun M9 hC_M9 hf_M9  => ?_)) (by decide))
            have ht_M9 : FR W_c_Machine_makeFresh T M9 := FR.t (FR.o ht_M (show kd 421 = 22 from rfl) rfl) hf_M9 (kw_sub rfl)
            exact jr.vreturn rfl rfl (q _ hC_M9 ht_M9  )
          · refine jr.aload_n rfl rfl ?_
            refine jr.bipush rfl (by decide) ?_
            refine jr_v rfl rfl (Or.inl rfl) rfl rfl (by decide) rfl ⟨rfl, Nat.le_of_ble_eq_true rfl, Nat.le_of_ble_eq_true rfl⟩ rfl (jc.deep (c_Machine_fail hC_M (FR.rfl _ M) (by omega) (fun M10 hC_M10 hf_M10  => ?_)) (by decide))
            have ht_M10 : FR W_c_Machine_makeFresh T M10 := FR.t ht_M hf_M10 (kw_sub rfl)
            refine jr.goto rfl rfl ?_
            exact jr.vreturn rfl rfl (q _ hC_M10 ht_M10  )
      · refine jr.aload_n rfl rfl ?_
        refine jr.iconst rfl ?_
        refine jr_v rfl rfl (Or.inl rfl) rfl rfl (by decide) rfl ⟨rfl, Nat.le_of_ble_eq_true rfl, Nat.le_of_ble_eq_true rfl⟩ rfl (jc.deep (c_Machine_fail hC_M (FR.rfl _ M) (by omega) (fun M11 hC_M11 hf_M11  => ?_)) (by decide))
        have ht_M11 : FR W_c_Machine_makeFresh T M11 := FR.t ht_M hf_M11 (kw_sub rfl)
        refine jr.goto rfl rfl ?_
        exact jr.vreturn rfl rfl (q _ hC_M11 ht_M11  )
    · refine jr.aload_n rfl rfl ?_
      refine jr.bipush rfl (by decide) ?_
      refine jr_v rfl rfl (Or.inl rfl) rfl rfl (by decide) rfl ⟨rfl, Nat.le_of_ble_eq_true rfl, Nat.le_of_ble_eq_true rfl⟩ rfl (jc.deep (c_Machine_fail hC_M (FR.rfl _ M) (by omega) (fun M12 hC_M12 hf_M12  => ?_)) (by decide))
      have ht_M12 : FR W_c_Machine_makeFresh T M12 := FR.t ht_M hf_M12 (kw_sub rfl)
      refine jr.goto rfl rfl ?_
      exact jr.vreturn rfl rfl (q _ hC_M12 ht_M12  )
  · refine jr.aload_n rfl rfl ?_
    refine jr.iconst rfl ?_
    refine jr_v rfl rfl (Or.inl rfl) rfl rfl (by decide) rfl ⟨rfl, Nat.le_of_ble_eq_true rfl, Nat.le_of_ble_eq_true rfl⟩ rfl (jc.deep (c_Machine_fail hC_M (FR.rfl _ M) (by omega) (fun M13 hC_M13 hf_M13  => ?_)) (by decide))
    have ht_M13 : FR W_c_Machine_makeFresh T M13 := FR.t ht_M hf_M13 (kw_sub rfl)
    refine jr.goto rfl rfl ?_
    exact jr.vreturn rfl rfl (q _ hC_M13 ht_M13  )
