theorem c_Headers_isOtherVersion {A : Nat → Option (Nat × (Nat → Int32))} {Q : Option Value → jm → Prop} {T : jm} {M : jm} (hC_M : CI M) (ht_M : FR W_c_Headers_isOtherVersion T M) {t : Nat} (k_t : kd t = 18) {x : Int} (h_x : (-2147483648) ≤ x ∧ x ≤ 2147483647) {y : Int} (h_y : 0 ≤ y ∧ y ≤ 400) (q : ∀ (r : Int) (M' : jm), CI M' → FR W_c_Headers_isOtherVersion T M' → 0 ≤ r ∧ r ≤ 1 → ((r = 1 ∧ M' t 4 ≠ 0) ∨ (r = 0 ∧ M' t 4 = 0)) → Q (some (.int (Int32.ofInt r))) M') : jc A 3 129 [.ref (t), .int (Int32.ofInt (x)), .int (Int32.ofInt (y))] M Q := by
  refine jc_of (m := xm_129) rfl (Nat.le_of_ble_eq_true rfl) rfl ?_
  refine jr.aload_n rfl rfl ?_
  refine jr.iload_n rfl rfl ?_
  refine jr.iload_n rfl rfl ?_
  refine jr.iconst rfl ?_
  refine jr.iadd rfl ?_
  refine jr_v rfl rfl (Or.inl rfl) rfl rfl (Nat.lt_trans (kx_18 k_t).1 (by decide)) (kx_18 k_t).2 ⟨rfl, Nat.le_of_ble_eq_true rfl, Nat.le_of_ble_eq_true rfl⟩ rfl (jc.deep (c_Headers_isCut hC_M (FR.rfl _ M) k_t (by omega) (by omega) (fun r1 M1 hC_M1 hf_M1 z1 w1_0 => ?_)) (by decide))
  have ht_M1 : FR W_c_Headers_isOtherVersion T M1 := FR.t ht_M hf_M1 (kw_sub rfl)
  obtain ⟨v2, e2⟩ : ∃ z_, M1 t 4 = z_ := ⟨_, rfl⟩
  have b2 : (-2147483648) ≤ v2 ∧ v2 ≤ 2147483647 := by rw [← e2]; exact (CI.r hC_M1 k_t (by decide) 4)
  refine jr.if_eq rfl rfl (by omega) (fun h8 => ?_) (fun h8 => ?_)
  · refine jr.aload_n rfl rfl ?_
    obtain ⟨v3, e3⟩ : ∃ z_, M t 7 = z_ := ⟨_, rfl⟩
    have b3 : 0 ≤ v3 ∧ v3 ≤ 597 := by rw [← e3]; exact (CI.r hC_M k_t (by decide) 7)
    have e4 : M1 t 7 = v3 := (hf_M1.g k_t rfl).trans e3
    have k5 : kd (v3).toNat = 33 := ((congrArg (fun z : Int => kd z.toNat) (show M1 t 7 = v3 from e4)).symm.trans (CI.x hC_M1 k_t 7 rfl (by decide)))
    refine jr.getf (i := 7) (x := v3) (v := .ref (v3.toNat)) rfl rfl (Nat.lt_trans (kx_18 k_t).1 (by decide)) (kx_18 k_t).2 (by decide) rfl rfl e4 (jval_mut rfl (kn_18_7 k_t)) ?_
    refine jr.iload_n rfl rfl ?_
    refine jr_v rfl rfl (Or.inl rfl) rfl rfl (Nat.lt_trans (kx_33 k5).1 (by decide)) (kx_33 k5).2 ⟨rfl, Nat.le_of_ble_eq_true rfl, Nat.le_of_ble_eq_true rfl⟩ rfl (jc.deep (c_Packet_byteAt hC_M1 k5 (by omega) (fun r6 z6  => ?_)) (by decide))
    refine jr.iconst rfl ?_
    refine jr.ishr rfl ?_
    have b7 : j_shr r6 4 = r6 / 16 := j_shr_ex 4 (by decide) (by omega) (by omega)
    generalize j_shr r6 4 = v7 at b7 ⊢
    refine jr.iload_n rfl rfl ?_
    refine jr.iconst rfl ?_
    refine jr.icmp_ne rfl rfl (by omega) (by omega) (fun h25 => ?_) (fun h25 => ?_)
    · refine jr.bipush rfl (by decide) ?_
      refine jr.icmp_eq rfl rfl (by omega) (by omega) (fun h34 => ?_) (fun h34 => ?_)
      · refine jr.aload_n rfl rfl ?_
        refine jr.getf (i := 4) (x := v2) (v := .int (Int32.ofInt (v2))) rfl rfl (Nat.lt_trans (kx_18 k_t).1 (by decide)) (kx_18 k_t).2 (by decide) rfl rfl e2 rfl ?_
        refine jr.if_eq rfl rfl (by omega) (fun h48 => ?_) (fun h48 => ?_)
        · refine jr.iconst rfl ?_
          exact jr.ireturn rfl rfl rfl (q _ _ hC_M1 ht_M1 (by omega) (by have hq0 : M1 t 4 = v2 := e2; omega))
        · refine jr.iconst rfl ?_
          refine jr.goto rfl rfl ?_
          exact jr.ireturn rfl rfl rfl (q _ _ hC_M1 ht_M1 (by omega) (by have hq0 : M1 t 4 = v2 := e2; omega))
      · refine jr.aload_n rfl rfl ?_
        refine jr.iconst rfl ?_
        refine jr.iload_n rfl rfl ?_
        refine jr.iload_n rfl rfl ?_
        refine jr_v rfl rfl (Or.inl rfl) rfl rfl (Nat.lt_trans (kx_18 k_t).1 (by decide)) (kx_18 k_t).2 ⟨rfl, Nat.le_of_ble_eq_true rfl, Nat.le_of_ble_eq_true rfl⟩ rfl (jc.deep (c_Headers_find hC_M1 (FR.rfl _ M1) k_t (by omega) (by omega) (by omega) (fun M8 hC_M8 hf_M8 w8_0 => ?_)) (by decide))
        have ht_M8 : FR W_c_Headers_isOtherVersion T M8 := FR.t ht_M1 hf_M8 (kw_sub rfl)
        obtain ⟨v9, e9⟩ : ∃ z_, M8 t 4 = z_ := ⟨_, rfl⟩
        have b9 : (-2147483648) ≤ v9 ∧ v9 ≤ 2147483647 := by rw [← e9]; exact (CI.r hC_M8 k_t (by decide) 4)
        refine jr.aload_n rfl rfl ?_
        refine jr.getf (i := 4) (x := v9) (v := .int (Int32.ofInt (v9))) rfl rfl (Nat.lt_trans (kx_18 k_t).1 (by decide)) (kx_18 k_t).2 (by decide) rfl rfl e9 rfl ?_
        refine jr.if_eq rfl rfl (by omega) (fun h48 => ?_) (fun h48 => ?_)
        · refine jr.iconst rfl ?_
          exact jr.ireturn rfl rfl rfl (q _ _ hC_M8 ht_M8 (by omega) (by have hq0 : M8 t 4 = v9 := e9; omega))
        · refine jr.iconst rfl ?_
          refine jr.goto rfl rfl ?_
          exact jr.ireturn rfl rfl rfl (q _ _ hC_M8 ht_M8 (by omega) (by have hq0 : M8 t 4 = v9 := e9; omega))
    · refine jr.iconst rfl ?_
      refine jr.goto rfl rfl ?_
      refine jr.icmp_eq rfl rfl (by omega) (by omega) (fun h34 => ?_) (fun h34 => ?_)
      · refine jr.aload_n rfl rfl ?_
        refine jr.getf (i := 4) (x := v2) (v := .int (Int32.ofInt (v2))) rfl rfl (Nat.lt_trans (kx_18 k_t).1 (by decide)) (kx_18 k_t).2 (by decide) rfl rfl e2 rfl ?_
        refine jr.if_eq rfl rfl (by omega) (fun h48 => ?_) (fun h48 => ?_)
        · refine jr.iconst rfl ?_
          exact jr.ireturn rfl rfl rfl (q _ _ hC_M1 ht_M1 (by omega) (by have hq0 : M1 t 4 = v2 := e2; omega))
        · refine jr.iconst rfl ?_
          refine jr.goto rfl rfl ?_
          exact jr.ireturn rfl rfl rfl (q _ _ hC_M1 ht_M1 (by omega) (by have hq0 : M1 t 4 = v2 := e2; omega))
      · refine jr.aload_n rfl rfl ?_
        refine jr.iconst rfl ?_
        refine jr.iload_n rfl rfl ?_
        refine jr.iload_n rfl rfl ?_
        refine jr_v rfl rfl (Or.inl rfl) rfl rfl (Nat.lt_trans (kx_18 k_t).1 (by decide)) (kx_18 k_t).2 ⟨rfl, Nat.le_of_ble_eq_true rfl, Nat.le_of_ble_eq_true rfl⟩ rfl (jc.deep (c_Headers_find hC_M1 (FR.rfl _ M1) k_t (by omega) (by omega) (by omega) (fun M10 hC_M10 hf_M10 w10_0 => ?_)) (by decide))
        have ht_M10 : FR W_c_Headers_isOtherVersion T M10 := FR.t ht_M1 hf_M10 (kw_sub rfl)
        obtain ⟨v11, e11⟩ : ∃ z_, M10 t 4 = z_ := ⟨_, rfl⟩
        have b11 : (-2147483648) ≤ v11 ∧ v11 ≤ 2147483647 := by rw [← e11]; exact (CI.r hC_M10 k_t (by decide) 4)
        refine jr.aload_n rfl rfl ?_
        refine jr.getf (i := 4) (x := v11) (v := .int (Int32.ofInt (v11))) rfl rfl (Nat.lt_trans (kx_18 k_t).1 (by decide)) (kx_18 k_t).2 (by decide) rfl rfl e11 rfl ?_
        refine jr.if_eq rfl rfl (by omega) (fun h48 => ?_) (fun h48 => ?_)
        · refine jr.iconst rfl ?_
          exact jr.ireturn rfl rfl rfl (q _ _ hC_M10 ht_M10 (by omega) (by have hq0 : M10 t 4 = v11 := e11; omega))
        · refine jr.iconst rfl ?_
          refine jr.goto rfl rfl ?_
          exact jr.ireturn rfl rfl rfl (q _ _ hC_M10 ht_M10 (by omega) (by have hq0 : M10 t 4 = v11 := e11; omega))
  · have sx8 : (1 : Int) ≤ r1 := by omega
    clear h8
    refine jr.iconst rfl ?_
    exact jr.ireturn rfl rfl rfl (q _ _ hC_M1 ht_M1 (by omega) (by have hq0 : M1 t 4 = v2 := e2; omega))
