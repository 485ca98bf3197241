theorem c_Headers_sizeIfRight {A : Nat → Option (Nat × (Nat → Int32))} {Q : Option Value → jm → Prop} {T : jm} {M : jm} (hC_M : CI M) (ht_M : FR W_c_Headers_sizeIfRight T M) {t : Nat} (k_t : kd t = 18) {x : Int} (h_x : 0 ≤ x ∧ x ≤ 11) {y : Int} (h_y : 0 ≤ y ∧ y ≤ 400) {S : Int} (g_S : M t 7 = S) (p0 : 0 ≤ M ((S.toNat)) 1 ∧ M ((S.toNat)) 1 ≤ 400) (q : ∀ (r : Int) (M' : jm), CI M' → FR W_c_Headers_sizeIfRight T M' → (-401) ≤ r ∧ r ≤ 2048 → (M' t 4 ≠ 0 ∨ ((0 ≤ y + r ∧ y + r ≤ 400) ∧ (x ≠ 6 ∨ r = 8) ∧ (x ≠ 2 ∨ 20 ≤ r) ∧ M' t 3 ≤ 11)) → Q (some (.int (Int32.ofInt r))) M') : jc A 4 127 [.ref (t), .int (Int32.ofInt (x)), .int (Int32.ofInt (y))] M Q := by
  refine jc_of (m := xm_127) rfl (Nat.le_of_ble_eq_true rfl) rfl ?_
  have k_S : kd S.toNat = 33 := (congrArg (fun z : Int => kd z.toNat) g_S).symm.trans (CI.x hC_M k_t 7 rfl (by decide))
  obtain ⟨v1, e1⟩ : ∃ z_, M ((S.toNat)) 1 = z_ := ⟨_, rfl⟩
  have b1 : (-1) ≤ v1 ∧ v1 ≤ 400 := by rw [← e1]; exact (CI.r hC_M k_S (by decide) 1)
  have b2 : 0 ≤ v1 ∧ v1 ≤ 400 := by rw [← e1]; exact p0
  refine jr.aload_n rfl rfl ?_
  obtain ⟨v3, e3⟩ : ∃ z_, M t 3 = z_ := ⟨_, rfl⟩
  have b3 : 0 ≤ v3 ∧ v3 ≤ 12 := by rw [← e3]; exact (CI.r hC_M k_t (by decide) 3)
  refine jr.getf (i := 3) (x := v3) (v := .int (Int32.ofInt (v3))) rfl rfl (Nat.lt_trans (kx_18 k_t).1 (by decide)) (kx_18 k_t).2 (by decide) rfl rfl e3 rfl ?_
  refine jr.bipush rfl (by decide) ?_
  refine jr.icmp_lt rfl rfl (by omega) (by omega) (fun h6 => ?_) (fun h6 => ?_)
  · refine jr.aload_n rfl rfl ?_
    refine jr.iload_n rfl rfl ?_
    refine jr_v rfl rfl (Or.inl rfl) rfl rfl (Nat.lt_trans (kx_18 k_t).1 (by decide)) (kx_18 k_t).2 ⟨rfl, Nat.le_of_ble_eq_true rfl, Nat.le_of_ble_eq_true rfl⟩ rfl (jc.deep (c_Headers_isMisplaced hC_M k_t (by omega) (fun r4 z4  => ?_)) (by decide))
    refine jr.if_eq rfl rfl (by omega) (fun h24 => ?_) (fun h24 => ?_)
    · refine jr.iload_n rfl rfl ?_
      refine jr_s rfl rfl (Or.inr rfl) ⟨Nat.le_of_ble_eq_true rfl, Nat.le_of_ble_eq_true rfl⟩ rfl rfl (jc.deep (c_PacketWall_isNetKind hC_M (by omega) (fun r5 z5 w5_0 => ?_)) (by decide))
      refine jr.if_eq rfl rfl (by omega) (fun h40 => ?_) (fun h40 => ?_)
      · refine jr.aload_n rfl rfl ?_
        refine jr.iload_n rfl rfl ?_
        refine jr.iload_n rfl rfl ?_
        refine jr.gst (v := .ref 1000001) rfl rfl ?_
        refine jr.iload_n rfl rfl ?_
        obtain ⟨v6, e6⟩ : ∃ z_, xcv_1 x = z_ := ⟨_, rfl⟩
        have b6 : 1 ≤ v6 ∧ v6 ≤ 24 := by rw [← e6]; exact xcr_1 (by omega) (by omega)
        refine jr.ials (i := x) v6 rfl (by decide) rfl (by decide) (by omega) (by omega) (by rw [← e6]; exact (Int32.ofInt_toInt _).symm) ?_
        refine jr.iadd rfl ?_
        refine jr_v rfl rfl (Or.inl rfl) rfl rfl (Nat.lt_trans (kx_18 k_t).1 (by decide)) (kx_18 k_t).2 ⟨rfl, Nat.le_of_ble_eq_true rfl, Nat.le_of_ble_eq_true rfl⟩ rfl (jc.deep (c_Headers_isCut hC_M (FR.rfl _ M) k_t (by omega) (by omega) (fun r7 M7 hC_M7 hf_M7 z7 w7_0 => ?_)) (by decide))
        have ht_M7 : FR W_c_Headers_sizeIfRight T M7 := FR.t ht_M hf_M7 (kw_sub rfl)
        obtain ⟨v8, e8⟩ : ∃ z_, M7 t 4 = z_ := ⟨_, rfl⟩
        have b8 : (-2147483648) ≤ v8 ∧ v8 ≤ 2147483647 := by rw [← e8]; exact (CI.r hC_M7 k_t (by decide) 4)
        refine jr.if_eq rfl rfl (by omega) (fun h66 => ?_) (fun h66 => ?_)
        · refine jr.aload_n rfl rfl ?_
          refine jr.iload_n rfl rfl ?_
          refine jr.iload_n rfl rfl ?_
          have e10 : M7 t 7 = S := (hf_M7.g k_t rfl).trans g_S
          have k9_S : kd (S).toNat = 33 := (congrArg (fun z : Int => kd z.toNat) e10).symm.trans (CI.x hC_M7 k_t 7 rfl (by decide))
          refine jr_v rfl rfl (Or.inl rfl) rfl rfl (Nat.lt_trans (kx_18 k_t).1 (by decide)) (kx_18 k_t).2 ⟨rfl, Nat.le_of_ble_eq_true rfl, Nat.le_of_ble_eq_true rfl⟩ rfl (jc.deep (c_Headers_fullSize hC_M7 k_t (by omega) (by omega) e10 (fun r9 z9 w9_0 w9_1 w9_2 => ?_)) (by decide))
          have e11 : M7 ((S.toNat)) 1 = v1 := (hf_M7.g k9_S rfl).trans e1
          refine jr.istore_n (ls' := [_, _, _, _]) rfl (by decide) rfl ?_
          refine jr.iload_n rfl rfl ?_
          refine jr.iconst rfl ?_
          refine jr.icmp_eq rfl rfl (by omega) (by omega) (fun h80 => ?_) (fun h80 => ?_)
          · refine jr.iload_n rfl rfl ?_
            refine jr.bipush rfl (by decide) ?_
            refine jr.icmp_ge rfl rfl (by omega) (by omega) (fun h92 => ?_) (fun h92 => ?_)
            · refine jr.aload_n rfl rfl ?_
              refine jr.iload_n rfl rfl ?_
              refine jr.iload_n rfl rfl ?_
              refine jr.iload_n rfl rfl ?_
              refine jr.iadd rfl ?_
              refine jr_v rfl rfl (Or.inl rfl) rfl rfl (Nat.lt_trans (kx_18 k_t).1 (by decide)) (kx_18 k_t).2 ⟨rfl, Nat.le_of_ble_eq_true rfl, Nat.le_of_ble_eq_true rfl⟩ rfl (jc.deep (c_Headers_isCut hC_M7 (FR.rfl _ M7) k_t (by omega) (by omega) (fun r12 M12 hC_M12 hf_M12 z12 w12_0 => ?_)) (by decide))
              have ht_M12 : FR W_c_Headers_sizeIfRight T M12 := FR.t ht_M7 hf_M12 (kw_sub rfl)
              obtain ⟨v13, e13⟩ : ∃ z_, M12 t 4 = z_ := ⟨_, rfl⟩
              have b13 : (-2147483648) ≤ v13 ∧ v13 ≤ 2147483647 := by rw [← e13]; exact (CI.r hC_M12 k_t (by decide) 4)
              refine jr.if_eq rfl rfl (by omega) (fun h124 => ?_) (fun h124 => ?_)
              · refine jr.aload_n rfl rfl ?_
                refine jr.iload_n rfl rfl ?_
                refine jr.iload_n rfl rfl ?_
                refine jr_v rfl rfl (Or.inl rfl) rfl rfl (Nat.lt_trans (kx_18 k_t).1 (by decide)) (kx_18 k_t).2 ⟨rfl, Nat.le_of_ble_eq_true rfl, Nat.le_of_ble_eq_true rfl⟩ rfl (jc.deep (c_Headers_checkTold hC_M12 (FR.rfl _ M12) k_t (by omega) (by omega) (fun M14 hC_M14 hf_M14  => ?_)) (by decide))
                have ht_M14 : FR W_c_Headers_sizeIfRight T M14 := FR.t ht_M12 hf_M14 (kw_sub rfl)
                refine jr.iload_n rfl rfl ?_
                obtain ⟨v15, e15⟩ : ∃ z_, M14 t 4 = z_ := ⟨_, rfl⟩
                have b15 : (-2147483648) ≤ v15 ∧ v15 ≤ 2147483647 := by rw [← e15]; exact (CI.r hC_M14 k_t (by decide) 4)
                have e16 : M7 t 3 = v3 := (hf_M7.g k_t rfl).trans e3
                have e17 : M12 t 3 = v3 := (hf_M12.g k_t rfl).trans e16
                have e18 : M14 t 3 = v3 := (hf_M14.g k_t rfl).trans e17
                exact jr.ireturn rfl rfl rfl (q _ _ hC_M14 ht_M14 (by omega) (by have hq0 : M14 t 4 = v15 := e15; have hq1 : M14 t 3 = v3 := e18; omega))
              · have sx124 : (1 : Int) ≤ r12 := by omega
                clear h124
                refine jr.iconst rfl ?_
                have e19 : M7 t 3 = v3 := (hf_M7.g k_t rfl).trans e3
                have e20 : M12 t 3 = v3 := (hf_M12.g k_t rfl).trans e19
                exact jr.ireturn rfl rfl rfl (q _ _ hC_M12 ht_M12 (by omega) (by have hq0 : M12 t 4 = v13 := e13; have hq1 : M12 t 3 = v3 := e20; omega))
            · refine jr.aload_n rfl rfl ?_
              refine jr.iconst rfl ?_
              refine jr.iload_n rfl rfl ?_
              refine jr.iconst rfl ?_
              refine jr.icmp_ne rfl rfl (by omega) (by omega) (fun h99 => ?_) (fun h99 => ?_)
              · exact absurd h99 (by omega)
              · refine jr.iload_n rfl rfl ?_
                refine jr.goto rfl rfl ?_
                refine jr.iload_n rfl rfl ?_
                refine jr_v rfl rfl (Or.inl rfl) rfl rfl (Nat.lt_trans (kx_18 k_t).1 (by decide)) (kx_18 k_t).2 ⟨rfl, Nat.le_of_ble_eq_true rfl, Nat.le_of_ble_eq_true rfl⟩ rfl (jc.deep (c_Headers_find hC_M7 (FR.rfl _ M7) k_t (by omega) (by omega) (by omega) (fun M21 hC_M21 hf_M21 w21_0 => ?_)) (by decide))
                have ht_M21 : FR W_c_Headers_sizeIfRight T M21 := FR.t ht_M7 hf_M21 (kw_sub rfl)
                obtain ⟨v22, e22⟩ : ∃ z_, M21 t 4 = z_ := ⟨_, rfl⟩
                have b22 : (-2147483648) ≤ v22 ∧ v22 ≤ 2147483647 := by rw [← e22]; exact (CI.r hC_M21 k_t (by decide) 4)
                refine jr.iconst rfl ?_
                have e23 : M7 t 3 = v3 := (hf_M7.g k_t rfl).trans e3
                have e24 : M21 t 3 = v3 := (hf_M21.g k_t rfl).trans e23
                exact jr.ireturn rfl rfl rfl (q _ _ hC_M21 ht_M21 (by omega) (by have hq0 : M21 t 4 = v22 := e22; have hq1 : M21 t 3 = v3 := e24; omega))
          · refine jr.iload_n rfl rfl ?_
            refine jr.bipush rfl (by decide) ?_
            refine jr.icmp_ne rfl rfl (by omega) (by omega) (fun h86 => ?_) (fun h86 => ?_)
            · refine jr.aload_n rfl rfl ?_
              refine jr.iload_n rfl rfl ?_
              refine jr.iload_n rfl rfl ?_
              refine jr.iload_n rfl rfl ?_
              refine jr.iadd rfl ?_
              refine jr_v rfl rfl (Or.inl rfl) rfl rfl (Nat.lt_trans (kx_18 k_t).1 (by decide)) (kx_18 k_t).2 ⟨rfl, Nat.le_of_ble_eq_true rfl, Nat.le_of_ble_eq_true rfl⟩ rfl (jc.deep (c_Headers_isCut hC_M7 (FR.rfl _ M7) k_t (by omega) (by omega) (fun r25 M25 hC_M25 hf_M25 z25 w25_0 => ?_)) (by decide))
              have ht_M25 : FR W_c_Headers_sizeIfRight T M25 := FR.t ht_M7 hf_M25 (kw_sub rfl)
              obtain ⟨v26, e26⟩ : ∃ z_, M25 t 4 = z_ := ⟨_, rfl⟩
              have b26 : (-2147483648) ≤ v26 ∧ v26 ≤ 2147483647 := by rw [← e26]; exact (CI.r hC_M25 k_t (by decide) 4)
              refine jr.if_eq rfl rfl (by omega) (fun h124 => ?_) (fun h124 => ?_)
              · refine jr.aload_n rfl rfl ?_
                refine jr.iload_n rfl rfl ?_
                refine jr.iload_n rfl rfl ?_
                refine jr_v rfl rfl (Or.inl rfl) rfl rfl (Nat.lt_trans (kx_18 k_t).1 (by decide)) (kx_18 k_t).2 ⟨rfl, Nat.le_of_ble_eq_true rfl, Nat.le_of_ble_eq_true rfl⟩ rfl (jc.deep (c_Headers_checkTold hC_M25 (FR.rfl _ M25) k_t (by omega) (by omega) (fun M27 hC_M27 hf_M27  => ?_)) (by decide))
                have ht_M27 : FR W_c_Headers_sizeIfRight T M27 := FR.t ht_M25 hf_M27 (kw_sub rfl)
                refine jr.iload_n rfl rfl ?_
                obtain ⟨v28, e28⟩ : ∃ z_, M27 t 4 = z_ := ⟨_, rfl⟩
                have b28 : (-2147483648) ≤ v28 ∧ v28 ≤ 2147483647 := by rw [← e28]; exact (CI.r hC_M27 k_t (by decide) 4)
                have e29 : M7 t 3 = v3 := (hf_M7.g k_t rfl).trans e3
                have e30 : M25 t 3 = v3 := (hf_M25.g k_t rfl).trans e29
                have e31 : M27 t 3 = v3 := (hf_M27.g k_t rfl).trans e30
                exact jr.ireturn rfl rfl rfl (q _ _ hC_M27 ht_M27 (by omega) (by have hq0 : M27 t 4 = v28 := e28; have hq1 : M27 t 3 = v3 := e31; omega))
              · have sx124 : (1 : Int) ≤ r25 := by omega
                clear h124
                refine jr.iconst rfl ?_
                have e32 : M7 t 3 = v3 := (hf_M7.g k_t rfl).trans e3
                have e33 : M25 t 3 = v3 := (hf_M25.g k_t rfl).trans e32
                exact jr.ireturn rfl rfl rfl (q _ _ hC_M25 ht_M25 (by omega) (by have hq0 : M25 t 4 = v26 := e26; have hq1 : M25 t 3 = v3 := e33; omega))
            · refine jr.iload_n rfl rfl ?_
              refine jr.bipush rfl (by decide) ?_
              refine jr.icmp_ge rfl rfl (by omega) (by omega) (fun h92 => ?_) (fun h92 => ?_)
              · refine jr.aload_n rfl rfl ?_
                refine jr.iload_n rfl rfl ?_
                refine jr.iload_n rfl rfl ?_
                refine jr.iload_n rfl rfl ?_
                refine jr.iadd rfl ?_
                refine jr_v rfl rfl (Or.inl rfl) rfl rfl (Nat.lt_trans (kx_18 k_t).1 (by decide)) (kx_18 k_t).2 ⟨rfl, Nat.le_of_ble_eq_true rfl, Nat.le_of_ble_eq_true rfl⟩ rfl (jc.deep (c_Headers_isCut hC_M7 (FR.rfl _ M7) k_t (by omega) (by omega) (fun r34 M34 hC_M34 hf_M34 z34 w34_0 => ?_)) (by decide))
                have ht_M34 : FR W_c_Headers_sizeIfRight T M34 := FR.t ht_M7 hf_M34 (kw_sub rfl)
                obtain ⟨v35, e35⟩ : ∃ z_, M34 t 4 = z_ := ⟨_, rfl⟩
                have b35 : (-2147483648) ≤ v35 ∧ v35 ≤ 2147483647 := by rw [← e35]; exact (CI.r hC_M34 k_t (by decide) 4)
                refine jr.if_eq rfl rfl (by omega) (fun h124 => ?_) (fun h124 => ?_)
                · refine jr.aload_n rfl rfl ?_
                  refine jr.iload_n rfl rfl ?_
                  refine jr.iload_n rfl rfl ?_
                  refine jr_v rfl rfl (Or.inl rfl) rfl rfl (Nat.lt_trans (kx_18 k_t).1 (by decide)) (kx_18 k_t).2 ⟨rfl, Nat.le_of_ble_eq_true rfl, Nat.le_of_ble_eq_true rfl⟩ rfl (jc.deep (c_Headers_checkTold hC_M34 (FR.rfl _ M34) k_t (by omega) (by omega) (fun M36 hC_M36 hf_M36  => ?_)) (by decide))
                  have ht_M36 : FR W_c_Headers_sizeIfRight T M36 := FR.t ht_M34 hf_M36 (kw_sub rfl)
                  refine jr.iload_n rfl rfl ?_
                  obtain ⟨v37, e37⟩ : ∃ z_, M36 t 4 = z_ := ⟨_, rfl⟩
                  have b37 : (-2147483648) ≤ v37 ∧ v37 ≤ 2147483647 := by rw [← e37]; exact (CI.r hC_M36 k_t (by decide) 4)
                  have e38 : M7 t 3 = v3 := (hf_M7.g k_t rfl).trans e3
                  have e39 : M34 t 3 = v3 := (hf_M34.g k_t rfl).trans e38
                  have e40 : M36 t 3 = v3 := (hf_M36.g k_t rfl).trans e39
                  exact jr.ireturn rfl rfl rfl (q _ _ hC_M36 ht_M36 (by omega) (by have hq0 : M36 t 4 = v37 := e37; have hq1 : M36 t 3 = v3 := e40; omega))
                · have sx124 : (1 : Int) ≤ r34 := by omega
                  clear h124
                  refine jr.iconst rfl ?_
                  have e41 : M7 t 3 = v3 := (hf_M7.g k_t rfl).trans e3
                  have e42 : M34 t 3 = v3 := (hf_M34.g k_t rfl).trans e41
                  exact jr.ireturn rfl rfl rfl (q _ _ hC_M34 ht_M34 (by omega) (by have hq0 : M34 t 4 = v35 := e35; have hq1 : M34 t 3 = v3 := e42; omega))
              · refine jr.aload_n rfl rfl ?_
                refine jr.iconst rfl ?_
                refine jr.iload_n rfl rfl ?_
                refine jr.iconst rfl ?_
                refine jr.icmp_ne rfl rfl (by omega) (by omega) (fun h99 => ?_) (fun h99 => ?_)
                · refine jr.iload_n rfl rfl ?_
                  refine jr.bipush rfl (by decide) ?_
                  refine jr.iadd rfl ?_
                  refine jr.iload_n rfl rfl ?_
                  refine jr_v rfl rfl (Or.inl rfl) rfl rfl (Nat.lt_trans (kx_18 k_t).1 (by decide)) (kx_18 k_t).2 ⟨rfl, Nat.le_of_ble_eq_true rfl, Nat.le_of_ble_eq_true rfl⟩ rfl (jc.deep (c_Headers_find hC_M7 (FR.rfl _ M7) k_t (by omega) (by omega) (by omega) (fun M43 hC_M43 hf_M43 w43_0 => ?_)) (by decide))
                  have ht_M43 : FR W_c_Headers_sizeIfRight T M43 := FR.t ht_M7 hf_M43 (kw_sub rfl)
                  obtain ⟨v44, e44⟩ : ∃ z_, M43 t 4 = z_ := ⟨_, rfl⟩
                  have b44 : (-2147483648) ≤ v44 ∧ v44 ≤ 2147483647 := by rw [← e44]; exact (CI.r hC_M43 k_t (by decide) 4)
                  refine jr.iconst rfl ?_
                  have e45 : M7 t 3 = v3 := (hf_M7.g k_t rfl).trans e3
                  have e46 : M43 t 3 = v3 := (hf_M43.g k_t rfl).trans e45
                  exact jr.ireturn rfl rfl rfl (q _ _ hC_M43 ht_M43 (by omega) (by have hq0 : M43 t 4 = v44 := e44; have hq1 : M43 t 3 = v3 := e46; omega))
                · exact absurd (by omega) h99
        · have sx66 : (1 : Int) ≤ r7 := by omega
          clear h66
          refine jr.iconst rfl ?_
          have e47 : M7 t 3 = v3 := (hf_M7.g k_t rfl).trans e3
          exact jr.ireturn rfl rfl rfl (q _ _ hC_M7 ht_M7 (by omega) (by have hq0 : M7 t 4 = v8 := e8; have hq1 : M7 t 3 = v3 := e47; omega))
      · have sx40 : (1 : Int) ≤ r5 := by omega
        clear h40
        refine jr.aload_n rfl rfl ?_
        refine jr.iload_n rfl rfl ?_
        refine jr.iload_n rfl rfl ?_
        refine jr_v rfl rfl (Or.inl rfl) rfl rfl (Nat.lt_trans (kx_18 k_t).1 (by decide)) (kx_18 k_t).2 ⟨rfl, Nat.le_of_ble_eq_true rfl, Nat.le_of_ble_eq_true rfl⟩ rfl (jc.deep (c_Headers_isOtherVersion hC_M (FR.rfl _ M) k_t (by omega) (by omega) (fun r48 M48 hC_M48 hf_M48 z48 w48_0 => ?_)) (by decide))
        have ht_M48 : FR W_c_Headers_sizeIfRight T M48 := FR.t ht_M hf_M48 (kw_sub rfl)
        obtain ⟨v49, e49⟩ : ∃ z_, M48 t 4 = z_ := ⟨_, rfl⟩
        have b49 : (-2147483648) ≤ v49 ∧ v49 ≤ 2147483647 := by rw [← e49]; exact (CI.r hC_M48 k_t (by decide) 4)
        refine jr.if_eq rfl rfl (by omega) (fun h49 => ?_) (fun h49 => ?_)
        · refine jr.aload_n rfl rfl ?_
          refine jr.iload_n rfl rfl ?_
          refine jr.iload_n rfl rfl ?_
          refine jr.gst (v := .ref 1000001) rfl rfl ?_
          refine jr.iload_n rfl rfl ?_
          obtain ⟨v50, e50⟩ : ∃ z_, xcv_1 x = z_ := ⟨_, rfl⟩
          have b50 : 1 ≤ v50 ∧ v50 ≤ 24 := by rw [← e50]; exact xcr_1 (by omega) (by omega)
          refine jr.ials (i := x) v50 rfl (by decide) rfl (by decide) (by omega) (by omega) (by rw [← e50]; exact (Int32.ofInt_toInt _).symm) ?_
          refine jr.iadd rfl ?_
          refine jr_v rfl rfl (Or.inl rfl) rfl rfl (Nat.lt_trans (kx_18 k_t).1 (by decide)) (kx_18 k_t).2 ⟨rfl, Nat.le_of_ble_eq_true rfl, Nat.le_of_ble_eq_true rfl⟩ rfl (jc.deep (c_Headers_isCut hC_M48 (FR.rfl _ M48) k_t (by omega) (by omega) (fun r51 M51 hC_M51 hf_M51 z51 w51_0 => ?_)) (by decide))
          have ht_M51 : FR W_c_Headers_sizeIfRight T M51 := FR.t ht_M48 hf_M51 (kw_sub rfl)
          obtain ⟨v52, e52⟩ : ∃ z_, M51 t 4 = z_ := ⟨_, rfl⟩
          have b52 : (-2147483648) ≤ v52 ∧ v52 ≤ 2147483647 := by rw [← e52]; exact (CI.r hC_M51 k_t (by decide) 4)
          refine jr.if_eq rfl rfl (by omega) (fun h66 => ?_) (fun h66 => ?_)
          · refine jr.aload_n rfl rfl ?_
            refine jr.iload_n rfl rfl ?_
            refine jr.iload_n rfl rfl ?_
            have e54 : M48 t 7 = S := (hf_M48.g k_t rfl).trans g_S
            have e55 : M51 t 7 = S := (hf_M51.g k_t rfl).trans e54
            have k53_S : kd (S).toNat = 33 := (congrArg (fun z : Int => kd z.toNat) e55).symm.trans (CI.x hC_M51 k_t 7 rfl (by decide))
            refine jr_v rfl rfl (Or.inl rfl) rfl rfl (Nat.lt_trans (kx_18 k_t).1 (by decide)) (kx_18 k_t).2 ⟨rfl, Nat.le_of_ble_eq_true rfl, Nat.le_of_ble_eq_true rfl⟩ rfl (jc.deep (c_Headers_fullSize hC_M51 k_t (by omega) (by omega) e55 (fun r53 z53 w53_0 w53_1 w53_2 => ?_)) (by decide))
            have e56 : M48 ((S.toNat)) 1 = v1 := (hf_M48.g k53_S rfl).trans e1
            have e57 : M51 ((S.toNat)) 1 = v1 := (hf_M51.g k53_S rfl).trans e56
            refine jr.istore_n (ls' := [_, _, _, _]) rfl (by decide) rfl ?_
            refine jr.iload_n rfl rfl ?_
            refine jr.iconst rfl ?_
            refine jr.icmp_eq rfl rfl (by omega) (by omega) (fun h80 => ?_) (fun h80 => ?_)
            · refine jr.iload_n rfl rfl ?_
              refine jr.bipush rfl (by decide) ?_
              refine jr.icmp_ge rfl rfl (by omega) (by omega) (fun h92 => ?_) (fun h92 => ?_)
              · refine jr.aload_n rfl rfl ?_
                refine jr.iload_n rfl rfl ?_
                refine jr.iload_n rfl rfl ?_
                refine jr.iload_n rfl rfl ?_
                refine jr.iadd rfl ?_
                refine jr_v rfl rfl (Or.inl rfl) rfl rfl (Nat.lt_trans (kx_18 k_t).1 (by decide)) (kx_18 k_t).2 ⟨rfl, Nat.le_of_ble_eq_true rfl, Nat.le_of_ble_eq_true rfl⟩ rfl (jc.deep (c_Headers_isCut hC_M51 (FR.rfl _ M51) k_t (by omega) (by omega) (fun r58 M58 hC_M58 hf_M58 z58 w58_0 => ?_)) (by decide))
                have ht_M58 : FR W_c_Headers_sizeIfRight T M58 := FR.t ht_M51 hf_M58 (kw_sub rfl)
                obtain ⟨v59, e59⟩ : ∃ z_, M58 t 4 = z_ := ⟨_, rfl⟩
                have b59 : (-2147483648) ≤ v59 ∧ v59 ≤ 2147483647 := by rw [← e59]; exact (CI.r hC_M58 k_t (by decide) 4)
                refine jr.if_eq rfl rfl (by omega) (fun h124 => ?_) (fun h124 => ?_)
                · refine jr.aload_n rfl rfl ?_
                  refine jr.iload_n rfl rfl ?_
                  refine jr.iload_n rfl rfl ?_
                  refine jr_v rfl rfl (Or.inl rfl) rfl rfl (Nat.lt_trans (kx_18 k_t).1 (by decide)) (kx_18 k_t).2 ⟨rfl, Nat.le_of_ble_eq_true rfl, Nat.le_of_ble_eq_true rfl⟩ rfl (jc.deep (c_Headers_checkTold hC_M58 (FR.rfl _ M58) k_t (by omega) (by omega) (fun M60 hC_M60 hf_M60  => ?_)) (by decide))
                  have ht_M60 : FR W_c_Headers_sizeIfRight T M60 := FR.t ht_M58 hf_M60 (kw_sub rfl)
                  refine jr.iload_n rfl rfl ?_
                  obtain ⟨v61, e61⟩ : ∃ z_, M60 t 4 = z_ := ⟨_, rfl⟩
                  have b61 : (-2147483648) ≤ v61 ∧ v61 ≤ 2147483647 := by rw [← e61]; exact (CI.r hC_M60 k_t (by decide) 4)
                  have e62 : M48 t 3 = v3 := (hf_M48.g k_t rfl).trans e3
                  have e63 : M51 t 3 = v3 := (hf_M51.g k_t rfl).trans e62
                  have e64 : M58 t 3 = v3 := (hf_M58.g k_t rfl).trans e63
                  have e65 : M60 t 3 = v3 := (hf_M60.g k_t rfl).trans e64
                  exact jr.ireturn rfl rfl rfl (q _ _ hC_M60 ht_M60 (by omega) (by have hq0 : M60 t 4 = v61 := e61; have hq1 : M60 t 3 = v3 := e65; omega))
                · have sx124 : (1 : Int) ≤ r58 := by omega
                  clear h124
                  refine jr.iconst rfl ?_
                  have e66 : M48 t 3 = v3 := (hf_M48.g k_t rfl).trans e3
                  have e67 : M51 t 3 = v3 := (hf_M51.g k_t rfl).trans e66
                  have e68 : M58 t 3 = v3 := (hf_M58.g k_t rfl).trans e67
                  exact jr.ireturn rfl rfl rfl (q _ _ hC_M58 ht_M58 (by omega) (by have hq0 : M58 t 4 = v59 := e59; have hq1 : M58 t 3 = v3 := e68; omega))
              · refine jr.aload_n rfl rfl ?_
                refine jr.iconst rfl ?_
                refine jr.iload_n rfl rfl ?_
                refine jr.iconst rfl ?_
                refine jr.icmp_ne rfl rfl (by omega) (by omega) (fun h99 => ?_) (fun h99 => ?_)
                · exact absurd h99 (by omega)
                · refine jr.iload_n rfl rfl ?_
                  refine jr.goto rfl rfl ?_
                  refine jr.iload_n rfl rfl ?_
                  refine jr_v rfl rfl (Or.inl rfl) rfl rfl (Nat.lt_trans (kx_18 k_t).1 (by decide)) (kx_18 k_t).2 ⟨rfl, Nat.le_of_ble_eq_true rfl, Nat.le_of_ble_eq_true rfl⟩ rfl (jc.deep (c_Headers_find hC_M51 (FR.rfl _ M51) k_t (by omega) (by omega) (by omega) (fun M69 hC_M69 hf_M69 w69_0 => ?_)) (by decide))
                  have ht_M69 : FR W_c_Headers_sizeIfRight T M69 := FR.t ht_M51 hf_M69 (kw_sub rfl)
                  obtain ⟨v70, e70⟩ : ∃ z_, M69 t 4 = z_ := ⟨_, rfl⟩
                  have b70 : (-2147483648) ≤ v70 ∧ v70 ≤ 2147483647 := by rw [← e70]; exact (CI.r hC_M69 k_t (by decide) 4)
                  refine jr.iconst rfl ?_
                  have e71 : M48 t 3 = v3 := (hf_M48.g k_t rfl).trans e3
                  have e72 : M51 t 3 = v3 := (hf_M51.g k_t rfl).trans e71
                  have e73 : M69 t 3 = v3 := (hf_M69.g k_t rfl).trans e72
                  exact jr.ireturn rfl rfl rfl (q _ _ hC_M69 ht_M69 (by omega) (by have hq0 : M69 t 4 = v70 := e70; have hq1 : M69 t 3 = v3 := e73; omega))
            · have sx80 : (3 : Int) ≤ x := by omega
              clear h80
              refine jr.iload_n rfl rfl ?_
              refine jr.bipush rfl (by decide) ?_
              refine jr.icmp_ne rfl rfl (by omega) (by omega) (fun h86 => ?_) (fun h86 => ?_)
              · refine jr.aload_n rfl rfl ?_
                refine jr.iload_n rfl rfl ?_
                refine jr.iload_n rfl rfl ?_
                refine jr.iload_n rfl rfl ?_
                refine jr.iadd rfl ?_
                refine jr_v rfl rfl (Or.inl rfl) rfl rfl (Nat.lt_trans (kx_18 k_t).1 (by decide)) (kx_18 k_t).2 ⟨rfl, Nat.le_of_ble_eq_true rfl, Nat.le_of_ble_eq_true rfl⟩ rfl (jc.deep (c_Headers_isCut hC_M51 (FR.rfl _ M51) k_t (by omega) (by omega) (fun r74 M74 hC_M74 hf_M74 z74 w74_0 => ?_)) (by decide))
                have ht_M74 : FR W_c_Headers_sizeIfRight T M74 := FR.t ht_M51 hf_M74 (kw_sub rfl)
                obtain ⟨v75, e75⟩ : ∃ z_, M74 t 4 = z_ := ⟨_, rfl⟩
                have b75 : (-2147483648) ≤ v75 ∧ v75 ≤ 2147483647 := by rw [← e75]; exact (CI.r hC_M74 k_t (by decide) 4)
                refine jr.if_eq rfl rfl (by omega) (fun h124 => ?_) (fun h124 => ?_)
                · refine jr.aload_n rfl rfl ?_
                  refine jr.iload_n rfl rfl ?_
                  refine jr.iload_n rfl rfl ?_
                  refine jr_v rfl rfl (Or.inl rfl) rfl rfl (Nat.lt_trans (kx_18 k_t).1 (by decide)) (kx_18 k_t).2 ⟨rfl, Nat.le_of_ble_eq_true rfl, Nat.le_of_ble_eq_true rfl⟩ rfl (jc.deep (c_Headers_checkTold hC_M74 (FR.rfl _ M74) k_t (by omega) (by omega) (fun M76 hC_M76 hf_M76  => ?_)) (by decide))
                  have ht_M76 : FR W_c_Headers_sizeIfRight T M76 := FR.t ht_M74 hf_M76 (kw_sub rfl)
                  refine jr.iload_n rfl rfl ?_
                  obtain ⟨v77, e77⟩ : ∃ z_, M76 t 4 = z_ := ⟨_, rfl⟩
                  have b77 : (-2147483648) ≤ v77 ∧ v77 ≤ 2147483647 := by rw [← e77]; exact (CI.r hC_M76 k_t (by decide) 4)
                  have e78 : M48 t 3 = v3 := (hf_M48.g k_t rfl).trans e3
                  have e79 : M51 t 3 = v3 := (hf_M51.g k_t rfl).trans e78
                  have e80 : M74 t 3 = v3 := (hf_M74.g k_t rfl).trans e79
                  have e81 : M76 t 3 = v3 := (hf_M76.g k_t rfl).trans e80
                  exact jr.ireturn rfl rfl rfl (q _ _ hC_M76 ht_M76 (by omega) (by have hq0 : M76 t 4 = v77 := e77; have hq1 : M76 t 3 = v3 := e81; omega))
                · have sx124 : (1 : Int) ≤ r74 := by omega
                  clear h124
                  refine jr.iconst rfl ?_
                  have e82 : M48 t 3 = v3 := (hf_M48.g k_t rfl).trans e3
                  have e83 : M51 t 3 = v3 := (hf_M51.g k_t rfl).trans e82
                  have e84 : M74 t 3 = v3 := (hf_M74.g k_t rfl).trans e83
                  exact jr.ireturn rfl rfl rfl (q _ _ hC_M74 ht_M74 (by omega) (by have hq0 : M74 t 4 = v75 := e75; have hq1 : M74 t 3 = v3 := e84; omega))
              · exact absurd (by omega) h86
          · have sx66 : (1 : Int) ≤ r51 := by omega
            clear h66
            refine jr.iconst rfl ?_
            have e85 : M48 t 3 = v3 := (hf_M48.g k_t rfl).trans e3
            have e86 : M51 t 3 = v3 := (hf_M51.g k_t rfl).trans e85
            exact jr.ireturn rfl rfl rfl (q _ _ hC_M51 ht_M51 (by omega) (by have hq0 : M51 t 4 = v52 := e52; have hq1 : M51 t 3 = v3 := e86; omega))
        · have sx49 : (1 : Int) ≤ r48 := by omega
          clear h49
          refine jr.iconst rfl ?_
          have e87 : M48 t 3 = v3 := (hf_M48.g k_t rfl).trans e3
          exact jr.ireturn rfl rfl rfl (q _ _ hC_M48 ht_M48 (by omega) (by have hq0 : M48 t 4 = v49 := e49; have hq1 : M48 t 3 = v3 := e87; omega))
    · have sx24 : (1 : Int) ≤ r4 := by omega
      clear h24
      refine jr.aload_n rfl rfl ?_
      refine jr.iconst rfl ?_
      refine jr.iload_n rfl rfl ?_
      refine jr.iload_n rfl rfl ?_
      refine jr_v rfl rfl (Or.inl rfl) rfl rfl (Nat.lt_trans (kx_18 k_t).1 (by decide)) (kx_18 k_t).2 ⟨rfl, Nat.le_of_ble_eq_true rfl, Nat.le_of_ble_eq_true rfl⟩ rfl (jc.deep (c_Headers_find hC_M (FR.rfl _ M) k_t (by omega) (by omega) (by omega) (fun M88 hC_M88 hf_M88 w88_0 => ?_)) (by decide))
      have ht_M88 : FR W_c_Headers_sizeIfRight T M88 := FR.t ht_M hf_M88 (kw_sub rfl)
      obtain ⟨v89, e89⟩ : ∃ z_, M88 t 4 = z_ := ⟨_, rfl⟩
      have b89 : (-2147483648) ≤ v89 ∧ v89 ≤ 2147483647 := by rw [← e89]; exact (CI.r hC_M88 k_t (by decide) 4)
      refine jr.iconst rfl ?_
      have e90 : M88 t 3 = v3 := (hf_M88.g k_t rfl).trans e3
      exact jr.ireturn rfl rfl rfl (q _ _ hC_M88 ht_M88 (by omega) (by have hq0 : M88 t 4 = v89 := e89; have hq1 : M88 t 3 = v3 := e90; omega))
  · refine jr.aload_n rfl rfl ?_
    refine jr.bipush rfl (by decide) ?_
    refine jr.iload_n rfl rfl ?_
    refine jr.iload_n rfl rfl ?_
    refine jr_v rfl rfl (Or.inl rfl) rfl rfl (Nat.lt_trans (kx_18 k_t).1 (by decide)) (kx_18 k_t).2 ⟨rfl, Nat.le_of_ble_eq_true rfl, Nat.le_of_ble_eq_true rfl⟩ rfl (jc.deep (c_Headers_find hC_M (FR.rfl _ M) k_t (by omega) (by omega) (by omega) (fun M91 hC_M91 hf_M91 w91_0 => ?_)) (by decide))
    have ht_M91 : FR W_c_Headers_sizeIfRight T M91 := FR.t ht_M hf_M91 (kw_sub rfl)
    obtain ⟨v92, e92⟩ : ∃ z_, M91 t 4 = z_ := ⟨_, rfl⟩
    have b92 : (-2147483648) ≤ v92 ∧ v92 ≤ 2147483647 := by rw [← e92]; exact (CI.r hC_M91 k_t (by decide) 4)
    refine jr.iconst rfl ?_
    have e93 : M91 t 3 = v3 := (hf_M91.g k_t rfl).trans e3
    exact jr.ireturn rfl rfl rfl (q _ _ hC_M91 ht_M91 (by omega) (by have hq0 : M91 t 4 = v92 := e92; have hq1 : M91 t 3 = v3 := e93; omega))
