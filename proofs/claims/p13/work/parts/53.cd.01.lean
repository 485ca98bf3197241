theorem c_Machine_learn {A : Nat → Option (Nat × (Nat → Int32))} {Q : Option Value → jm → Prop} {T : jm} {M : jm} (hC_M : CI M) (ht_M : FR W_c_Machine_learn T M) (q : ∀ (M' : jm), CI M' → FR W_c_Machine_learn T M' → Q none M') : jc A 3 176 [.ref (421)] M Q := by
  refine jc_of (m := xm_176) rfl (Nat.le_of_ble_eq_true rfl) rfl ?_
  refine jr.aload_n rfl rfl ?_
  refine jr.getf (i := 8) (v := .ref 435) rfl rfl (by decide) rfl (by decide) rfl rfl rfl rfl ?_
  refine jr.iconst rfl ?_
  obtain ⟨v1, e1⟩ : ∃ z_, M 435 0 = z_ := ⟨_, rfl⟩
  have b1 : (-9223372036854775808) ≤ v1 ∧ v1 ≤ 9223372036854775807 := by rw [← e1]; exact (CI.r hC_M (show kd 435 = 26 from rfl) (by decide) 0)
  refine jr.lald (i := 0) (x := v1) rfl (by decide) rfl (by decide) (by omega) (by omega) e1 ?_
  refine jr.iconst rfl ?_
  refine jr_s rfl rfl (Or.inl rfl) ⟨Nat.le_of_ble_eq_true rfl, Nat.le_of_ble_eq_true rfl⟩ rfl rfl (jc.deep (c_Machine_isNot hC_M (by omega) (by omega) (fun r2 z2 w2_0 => ?_)) (by decide))
  refine jr.if_eq rfl rfl (by omega) (fun h10 => ?_) (fun h10 => ?_)
  · refine jr.aload_n rfl rfl ?_
    refine jr.getf (i := 1) (v := .ref 423) rfl rfl (by decide) rfl (by decide) rfl rfl rfl rfl ?_
    refine jr.aload_n rfl rfl ?_
    refine jr.getf (i := 8) (v := .ref 435) rfl rfl (by decide) rfl (by decide) rfl rfl rfl rfl ?_
    refine jr.iconst rfl ?_
    refine jr.lald (i := 0) (x := v1) rfl (by decide) rfl (by decide) (by omega) (by omega) e1 ?_
    refine jr.l2i rfl ?_
    refine jr.aload_n rfl rfl ?_
    refine jr.getf (i := 8) (v := .ref 435) rfl rfl (by decide) rfl (by decide) rfl rfl rfl rfl ?_
    refine jr.iconst rfl ?_
    obtain ⟨v3, e3⟩ : ∃ z_, M 435 1 = z_ := ⟨_, rfl⟩
    have b3 : (-9223372036854775808) ≤ v3 ∧ v3 ≤ 9223372036854775807 := by rw [← e3]; exact (CI.r hC_M (show kd 435 = 26 from rfl) (by decide) 1)
    refine jr.lald (i := 1) (x := v3) rfl (by decide) rfl (by decide) (by omega) (by omega) e3 ?_
    refine jr_v rfl rfl (Or.inl rfl) rfl rfl (by decide) rfl ⟨rfl, Nat.le_of_ble_eq_true rfl, Nat.le_of_ble_eq_true rfl⟩ rfl (jc.deep (c_Memory_learn hC_M (FR.rfl _ M) (show kd 423 = 27 from rfl) (by omega) (by omega) (fun M4 hC_M4 hf_M4  => ?_)) (by decide))
    have ht_M4 : FR W_c_Machine_learn T M4 := FR.t ht_M hf_M4 (kw_sub rfl)
    exact jr.vreturn rfl rfl (q _ hC_M4 ht_M4  )
  · have sx10 : (1 : Int) ≤ r2 := by omega
    clear h10
    refine jr.aload_n rfl rfl ?_
    refine jr.iconst rfl ?_
    refine jr_v rfl rfl (Or.inl rfl) rfl rfl (by decide) rfl ⟨rfl, Nat.le_of_ble_eq_true rfl, Nat.le_of_ble_eq_true rfl⟩ rfl (jc.deep (c_Machine_fail hC_M (FR.rfl _ M) (by omega) (fun M5 hC_M5 hf_M5  => ?_)) (by decide))
    have ht_M5 : FR W_c_Machine_learn T M5 := FR.t ht_M hf_M5 (kw_sub rfl)
    refine jr.goto rfl rfl ?_
    exact jr.vreturn rfl rfl (q _ hC_M5 ht_M5  )
noncomputable def W_c_Machine_makeFresh : List (Nat × Nat) := [(22, 4), (22, 5), (24, 1000), (52, 0), (52, 1), (54, 1000)]
