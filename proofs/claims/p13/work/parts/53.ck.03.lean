theorem c_Parser_kindField {A : Nat → Option (Nat × (Nat → Int32))} [HA A] {Q : Option Value → jm → Prop} {G : Nat → Int → Int} {T : jm} {M : jm} (hC_M : CI M) (ht_M : FR W_c_Parser_kindField T M) (p0 : 1 ≤ M 413 3 ∧ M 413 3 ≤ 1) (p1 : MP M G) (q : ∀ (M' : jm), CI M' → FR W_c_Parser_kindField T M' → (MP M' G) → Q none M') : jc A 7 206 [.ref (413)] M Q := by
  refine jc_of (m := xm_206) rfl (Nat.le_of_ble_eq_true rfl) rfl ?_
  obtain ⟨v1, e1⟩ : ∃ z_, M 413 3 = z_ := ⟨_, rfl⟩
  have b1 : 1 ≤ v1 ∧ v1 ≤ 419 := by rw [← e1]; exact (CI.r hC_M (show kd 413 = 44 from rfl) (by decide) 3)
  have b2 : 1 ≤ v1 ∧ v1 ≤ 1 := by rw [← e1]; exact p0
  refine jr.aload_n rfl rfl ?_
  obtain ⟨v3, e3⟩ : ∃ z_, M 413 10 = z_ := ⟨_, rfl⟩
  have b3 : (-2147483648) ≤ v3 ∧ v3 ≤ 2147483647 := by rw [← e3]; exact (CI.r hC_M (show kd 413 = 44 from rfl) (by decide) 10)
  refine jr.getf (i := 10) (x := v3) (v := .int (Int32.ofInt (v3))) rfl rfl (by decide) rfl (by decide) rfl rfl e3 rfl ?_
  refine jr.bipush rfl (by decide) ?_
  refine jr.isub rfl ?_
  refine jr.iw (j_w (v3 - 31)) (j_w_eq _) ?_
  have b4 : -2147483648 ≤ j_w (v3 - 31) ∧ j_w (v3 - 31) ≤ 2147483647 := jb_any _
  generalize j_w (v3 - 31) = v4 at b4 ⊢
  refine jr.istore_n (ls' := [_, _]) rfl (by decide) rfl ?_
  refine jr.aload_n rfl rfl ?_
  refine jr_v rfl rfl (Or.inl rfl) rfl rfl (by decide) rfl ⟨rfl, Nat.le_of_ble_eq_true rfl, Nat.le_of_ble_eq_true rfl⟩ rfl (jc.deep (c_Parser_countNode hC_M (FR.rfl _ M)  p1 (fun M5 hC_M5 hf_M5 w5_0 => ?_)) (by decide))
  have ht_M5 : FR W_c_Parser_kindField T M5 := FR.t ht_M hf_M5 (kw_sub rfl)
  refine jr.aload_n rfl rfl ?_
  have e7 : M5 413 3 = v1 := (hf_M5.g (show kd 413 = 44 from rfl) rfl).trans e1
  refine jr_v rfl rfl (Or.inl rfl) rfl rfl (by decide) rfl ⟨rfl, Nat.le_of_ble_eq_true rfl, Nat.le_of_ble_eq_true rfl⟩ rfl (jc.deep (c_Parser_advance hC_M5 (FR.rfl _ M5)  (by have hq0 : M5 413 3 = v1 := e7; omega) (fun M6 hC_M6 hf_M6  => ?_)) (by decide))
  have ht_M6 : FR W_c_Parser_kindField T M6 := FR.t ht_M5 hf_M6 (kw_sub rfl)
  refine jr.aload_n rfl rfl ?_
  refine jr.bipush rfl (by decide) ?_
  refine jr_v rfl rfl (Or.inl rfl) rfl rfl (by decide) rfl ⟨rfl, Nat.le_of_ble_eq_true rfl, Nat.le_of_ble_eq_true rfl⟩ rfl (jc.deep (c_Parser_isSign hC_M6 (by omega) (fun r8 z8  => ?_)) (by decide))
  refine jr.if_ne rfl rfl (by omega) (fun h22 => ?_) (fun h22 => ?_)
  · have sx22 : (1 : Int) ≤ r8 := by omega
    clear h22
    refine jr.aload_n rfl rfl ?_
    have e10 : M6 413 3 = v1 := (hf_M6.g (show kd 413 = 44 from rfl) rfl).trans e7
    refine jr_v rfl rfl (Or.inl rfl) rfl rfl (by decide) rfl ⟨rfl, Nat.le_of_ble_eq_true rfl, Nat.le_of_ble_eq_true rfl⟩ rfl (jc.deep (c_Parser_advance hC_M6 (FR.rfl _ M6)  (by have hq0 : M6 413 3 = v1 := e10; omega) (fun M9 hC_M9 hf_M9  => ?_)) (by decide))
    have ht_M9 : FR W_c_Parser_kindField T M9 := FR.t ht_M6 hf_M9 (kw_sub rfl)
    refine jr.aload_n rfl rfl ?_
    obtain ⟨v11, e11⟩ : ∃ z_, M9 413 6 = z_ := ⟨_, rfl⟩
    have b11 : (-2147483648) ≤ v11 ∧ v11 ≤ 2147483647 := by rw [← e11]; exact (CI.r hC_M9 (show kd 413 = 44 from rfl) (by decide) 6)
    refine jr.getf (i := 6) (x := v11) (v := .int (Int32.ofInt (v11))) rfl rfl (by decide) rfl (by decide) rfl rfl e11 rfl ?_
    refine jr.iconst rfl ?_
    refine jr.icmp_eq rfl rfl (by omega) (by omega) (fun h38 => ?_) (fun h38 => ?_)
    · refine jr.aload_n rfl rfl ?_
      refine jr.iload_n rfl rfl ?_
      refine jr_s rfl rfl (Or.inl rfl) ⟨Nat.le_of_ble_eq_true rfl, Nat.le_of_ble_eq_true rfl⟩ rfl rfl (jc.deep (c_Parser_fieldWords hC_M9 (by omega) (fun r12 z12  => ?_)) (by decide))
      have e14 : M9 413 3 = v1 := (hf_M9.g (show kd 413 = 44 from rfl) rfl).trans e10
      refine jr_v rfl rfl (Or.inl rfl) rfl rfl (by decide) rfl ⟨rfl, Nat.le_of_ble_eq_true rfl, Nat.le_of_ble_eq_true rfl⟩ rfl (jc.deep (c_Parser_wordIn hC_M9 z12 (by have hq0 : M9 413 3 = v1 := e14; omega) (fun r13 z13  => ?_)) (by decide))
      refine jr.istore_n (ls' := [_, _, _]) rfl (by decide) rfl ?_
      refine jr.iload_n rfl rfl ?_
      refine jr.iconst rfl ?_
      refine jr.icmp_ne rfl rfl (by omega) (by omega) (fun h57 => ?_) (fun h57 => ?_)
      · have sx57 : (0 : Int) ≤ r13 := by omega
        clear h57
        refine jr.aload_n rfl rfl ?_
        obtain ⟨v15, e15⟩ : ∃ z_, M 413 2 = z_ := ⟨_, rfl⟩
        have b15 : 0 ≤ v15 ∧ v15 ≤ 597 := by rw [← e15]; exact (CI.r hC_M (show kd 413 = 44 from rfl) (by decide) 2)
        have e16 : M5 413 2 = v15 := (hf_M5.g (show kd 413 = 44 from rfl) rfl).trans e15
        have e17 : M6 413 2 = v15 := (hf_M6.g (show kd 413 = 44 from rfl) rfl).trans e16
        have e18 : M9 413 2 = v15 := (hf_M9.g (show kd 413 = 44 from rfl) rfl).trans e17
        have k19 : kd (v15).toNat = 47 := ((congrArg (fun z : Int => kd z.toNat) (show M9 413 2 = v15 from e18)).symm.trans (CI.x hC_M9 (show kd 413 = 44 from rfl) 2 rfl (by decide)))
        refine jr.getf (i := 2) (x := v15) (v := .ref (v15.toNat)) rfl rfl (by decide) rfl (by decide) rfl rfl e18 rfl ?_
        refine jr.bipush rfl (by decide) ?_
        refine jr.iload_n rfl rfl ?_
        refine jr.bipush rfl (by decide) ?_
        refine jr.imul rfl ?_
        refine jr.iw (j_w (v4 * 16)) (j_w_eq _) ?_
        have b20 : -2147483648 ≤ j_w (v4 * 16) ∧ j_w (v4 * 16) ≤ 2147483647 := jb_any _
        generalize j_w (v4 * 16) = v20 at b20 ⊢
        refine jr.iload_n rfl rfl ?_
        refine jr.iadd rfl ?_
        refine jr.iw (j_w (v20 + r13)) (j_w_eq _) ?_
        have b21 : -2147483648 ≤ j_w (v20 + r13) ∧ j_w (v20 + r13) ≤ 2147483647 := jb_any _
        generalize j_w (v20 + r13) = v21 at b21 ⊢
        refine jr_v rfl rfl (Or.inl rfl) rfl rfl (Nat.lt_trans (kx_47 k19).1 (by decide)) (kx_47 k19).2 ⟨rfl, Nat.le_of_ble_eq_true rfl, Nat.le_of_ble_eq_true rfl⟩ rfl (jc.deep (c_Program_emit_m hC_M9 (FR.rfl _ M9) k19 (by omega) (by omega) (by have hq0 : M9 413 2 = v15 := e18; omega) (MP.fr (MP.fr w5_0 hC_M5 hf_M6 rfl) hC_M6 hf_M9 rfl) (fun r22 M22 hC_M22 hf_M22 z22 w22_0 => ?_)) (by decide))
        have ht_M22 : FR W_c_Parser_kindField T M22 := FR.t ht_M9 hf_M22 (kw_sub rfl)
        refine jr.pop rfl rfl ?_
        refine jr.aload_n rfl rfl ?_
        have e24 : M22 413 3 = v1 := (hf_M22.g (show kd 413 = 44 from rfl) rfl).trans e14
        refine jr_v rfl rfl (Or.inl rfl) rfl rfl (by decide) rfl ⟨rfl, Nat.le_of_ble_eq_true rfl, Nat.le_of_ble_eq_true rfl⟩ rfl (jc.deep (c_Parser_advance hC_M22 (FR.rfl _ M22)  (by have hq0 : M22 413 3 = v1 := e24; omega) (fun M23 hC_M23 hf_M23  => ?_)) (by decide))
        have ht_M23 : FR W_c_Parser_kindField T M23 := FR.t ht_M22 hf_M23 (kw_sub rfl)
        exact jr.vreturn rfl rfl (q _ hC_M23 ht_M23  (MP.fr w22_0 hC_M22 hf_M23 rfl))
      · refine jr.aload_n rfl rfl ?_
        refine jr.iconst rfl ?_
        refine jr_v rfl rfl (Or.inl rfl) rfl rfl (by decide) rfl ⟨rfl, Nat.le_of_ble_eq_true rfl, Nat.le_of_ble_eq_true rfl⟩ rfl (jc.deep (c_Parser_fail hC_M9 (FR.rfl _ M9) (by omega) (fun M25 hC_M25 hf_M25 w25_0 => ?_)) (by decide))
        have ht_M25 : FR W_c_Parser_kindField T M25 := FR.t ht_M9 hf_M25 (kw_sub rfl)
        obtain ⟨v26, e26⟩ : ∃ z_, M25 413 0 = z_ := ⟨_, rfl⟩
        have b26 : (-2147483648) ≤ v26 ∧ v26 ≤ 2147483647 := by rw [← e26]; exact (CI.r hC_M25 (show kd 413 = 44 from rfl) (by decide) 0)
        refine jr.aload_n rfl rfl ?_
        obtain ⟨v27, e27⟩ : ∃ z_, M 413 2 = z_ := ⟨_, rfl⟩
        have b27 : 0 ≤ v27 ∧ v27 ≤ 597 := by rw [← e27]; exact (CI.r hC_M (show kd 413 = 44 from rfl) (by decide) 2)
        have e28 : M5 413 2 = v27 := (hf_M5.g (show kd 413 = 44 from rfl) rfl).trans e27
        have e29 : M6 413 2 = v27 := (hf_M6.g (show kd 413 = 44 from rfl) rfl).trans e28
        have e30 : M9 413 2 = v27 := (hf_M9.g (show kd 413 = 44 from rfl) rfl).trans e29
        have e31 : M25 413 2 = v27 := (hf_M25.g (show kd 413 = 44 from rfl) rfl).trans e30
        have k32 : kd (v27).toNat = 47 := ((congrArg (fun z : Int => kd z.toNat) (show M25 413 2 = v27 from e31)).symm.trans (CI.x hC_M25 (show kd 413 = 44 from rfl) 2 rfl (by decide)))
        refine jr.getf (i := 2) (x := v27) (v := .ref (v27.toNat)) rfl rfl (by decide) rfl (by decide) rfl rfl e31 rfl ?_
        refine jr.bipush rfl (by decide) ?_
        refine jr.iload_n rfl rfl ?_
        refine jr.bipush rfl (by decide) ?_
        refine jr.imul rfl ?_
        refine jr.iw (j_w (v4 * 16)) (j_w_eq _) ?_
        have b33 : -2147483648 ≤ j_w (v4 * 16) ∧ j_w (v4 * 16) ≤ 2147483647 := jb_any _
        generalize j_w (v4 * 16) = v33 at b33 ⊢
        refine jr.iload_n rfl rfl ?_
        refine jr.iadd rfl ?_
        refine jr.iw (j_w (v33 + r13)) (j_w_eq _) ?_
        have b34 : -2147483648 ≤ j_w (v33 + r13) ∧ j_w (v33 + r13) ≤ 2147483647 := jb_any _
        generalize j_w (v33 + r13) = v34 at b34 ⊢
        refine jr_v rfl rfl (Or.inl rfl) rfl rfl (Nat.lt_trans (kx_47 k32).1 (by decide)) (kx_47 k32).2 ⟨rfl, Nat.le_of_ble_eq_true rfl, Nat.le_of_ble_eq_true rfl⟩ rfl (jc.deep (c_Program_emit_m hC_M25 (FR.rfl _ M25) k32 (by omega) (by omega) (by have hq0 : M25 413 2 = v27 := e31; omega) (MP.fr (MP.fr (MP.fr w5_0 hC_M5 hf_M6 rfl) hC_M6 hf_M9 rfl) hC_M9 hf_M25 rfl) (fun r35 M35 hC_M35 hf_M35 z35 w35_0 => ?_)) (by decide))
        have ht_M35 : FR W_c_Parser_kindField T M35 := FR.t ht_M25 hf_M35 (kw_sub rfl)
        refine jr.pop rfl rfl ?_
        refine jr.aload_n rfl rfl ?_
        have e37 : M25 413 3 = v1 := (hf_M25.g (show kd 413 = 44 from rfl) rfl).trans e14
        have e38 : M35 413 3 = v1 := (hf_M35.g (show kd 413 = 44 from rfl) rfl).trans e37
        refine jr_v rfl rfl (Or.inl rfl) rfl rfl (by decide) rfl ⟨rfl, Nat.le_of_ble_eq_true rfl, Nat.le_of_ble_eq_true rfl⟩ rfl (jc.deep (c_Parser_advance hC_M35 (FR.rfl _ M35)  (by have hq0 : M35 413 3 = v1 := e38; omega) (fun M36 hC_M36 hf_M36  => ?_)) (by decide))
        have ht_M36 : FR W_c_Parser_kindField T M36 := FR.t ht_M35 hf_M36 (kw_sub rfl)
        exact jr.vreturn rfl rfl (q _ hC_M36 ht_M36  (MP.fr w35_0 hC_M35 hf_M36 rfl))
    · refine jr.aload_n rfl rfl ?_
      refine jr_v rfl rfl (Or.inl rfl) rfl rfl (by decide) rfl ⟨rfl, Nat.le_of_ble_eq_true rfl, Nat.le_of_ble_eq_true rfl⟩ rfl (jc.deep (c_Parser_refuse hC_M9 (FR.rfl _ M9)  (fun M39 hC_M39 hf_M39 w39_0 => ?_)) (by decide))
      have ht_M39 : FR W_c_Parser_kindField T M39 := FR.t ht_M9 hf_M39 (kw_sub rfl)
      obtain ⟨v40, e40⟩ : ∃ z_, M39 413 0 = z_ := ⟨_, rfl⟩
      have b40 : (-2147483648) ≤ v40 ∧ v40 ≤ 2147483647 := by rw [← e40]; exact (CI.r hC_M39 (show kd 413 = 44 from rfl) (by decide) 0)
      exact jr.vreturn rfl rfl (q _ hC_M39 ht_M39  (MP.fr (MP.fr (MP.fr w5_0 hC_M5 hf_M6 rfl) hC_M6 hf_M9 rfl) hC_M9 hf_M39 rfl))
  · refine jr.aload_n rfl rfl ?_
    refine jr_v rfl rfl (Or.inl rfl) rfl rfl (by decide) rfl ⟨rfl, Nat.le_of_ble_eq_true rfl, Nat.le_of_ble_eq_true rfl⟩ rfl (jc.deep (c_Parser_refuse hC_M6 (FR.rfl _ M6)  (fun M41 hC_M41 hf_M41 w41_0 => ?_)) (by decide))
    have ht_M41 : FR W_c_Parser_kindField T M41 := FR.t ht_M6 hf_M41 (kw_sub rfl)
    obtain ⟨v42, e42⟩ : ∃ z_, M41 413 0 = z_ := ⟨_, rfl⟩
    have b42 : (-2147483648) ≤ v42 ∧ v42 ≤ 2147483647 := by rw [← e42]; exact (CI.r hC_M41 (show kd 413 = 44 from rfl) (by decide) 0)
    refine jr.aload_n rfl rfl ?_
    have e44 : M6 413 3 = v1 := (hf_M6.g (show kd 413 = 44 from rfl) rfl).trans e7
    have e45 : M41 413 3 = v1 := (hf_M41.g (show kd 413 = 44 from rfl) rfl).trans e44
    refine jr_v rfl rfl (Or.inl rfl) rfl rfl (by decide) rfl ⟨rfl, Nat.le_of_ble_eq_true rfl, Nat.le_of_ble_eq_true rfl⟩ rfl (jc.deep (c_Parser_advance hC_M41 (FR.rfl _ M41)  (by have hq0 : M41 413 3 = v1 := e45; omega) (fun M43 hC_M43 hf_M43  => ?_)) (by decide))
    have ht_M43 : FR W_c_Parser_kindField T M43 := FR.t ht_M41 hf_M43 (kw_sub rfl)
    refine jr.aload_n rfl rfl ?_
    obtain ⟨v46, e46⟩ : ∃ z_, M43 413 6 = z_ := ⟨_, rfl⟩
    have b46 : (-2147483648) ≤ v46 ∧ v46 ≤ 2147483647 := by rw [← e46]; exact (CI.r hC_M43 (show kd 413 = 44 from rfl) (by decide) 6)
    refine jr.getf (i := 6) (x := v46) (v := .int (Int32.ofInt (v46))) rfl rfl (by decide) rfl (by decide) rfl rfl e46 rfl ?_
    refine jr.iconst rfl ?_
    refine jr.icmp_eq rfl rfl (by omega) (by omega) (fun h38 => ?_) (fun h38 => ?_)
    · refine jr.aload_n rfl rfl ?_
      refine jr.iload_n rfl rfl ?_
      refine jr_s rfl rfl (Or.inl rfl) ⟨Nat.le_of_ble_eq_true rfl, Nat.le_of_ble_eq_true rfl⟩ rfl rfl (jc.deep (c_Parser_fieldWords hC_M43 (by omega) (fun r47 z47  => ?_)) (by decide))
      have e49 : M43 413 3 = v1 := (hf_M43.g (show kd 413 = 44 from rfl) rfl).trans e45
      refine jr_v rfl rfl (Or.inl rfl) rfl rfl (by decide) rfl ⟨rfl, Nat.le_of_ble_eq_true rfl, Nat.le_of_ble_eq_true rfl⟩ rfl (jc.deep (c_Parser_wordIn hC_M43 z47 (by have hq0 : M43 413 3 = v1 := e49; omega) (fun r48 z48  => ?_)) (by decide))
      refine jr.istore_n (ls' := [_, _, _]) rfl (by decide) rfl ?_
      refine jr.iload_n rfl rfl ?_
      refine jr.iconst rfl ?_
      refine jr.icmp_ne rfl rfl (by omega) (by omega) (fun h57 => ?_) (fun h57 => ?_)
      · have sx57 : (0 : Int) ≤ r48 := by omega
        clear h57
        refine jr.aload_n rfl rfl ?_
        obtain ⟨v50, e50⟩ : ∃ z_, M 413 2 = z_ := ⟨_, rfl⟩
        have b50 : 0 ≤ v50 ∧ v50 ≤ 597 := by rw [← e50]; exact (CI.r hC_M (show kd 413 = 44 from rfl) (by decide) 2)
        have e51 : M5 413 2 = v50 := (hf_M5.g (show kd 413 = 44 from rfl) rfl).trans e50
        have e52 : M6 413 2 = v50 := (hf_M6.g (show kd 413 = 44 from rfl) rfl).trans e51
        have e53 : M41 413 2 = v50 := (hf_M41.g (show kd 413 = 44 from rfl) rfl).trans e52
        have e54 : M43 413 2 = v50 := (hf_M43.g (show kd 413 = 44 from rfl) rfl).trans e53
        have k55 : kd (v50).toNat = 47 := ((congrArg (fun z : Int => kd z.toNat) (show M43 413 2 = v50 from e54)).symm.trans (CI.x hC_M43 (show kd 413 = 44 from rfl) 2 rfl (by decide)))
        refine jr.getf (i := 2) (x := v50) (v := .ref (v50.toNat)) rfl rfl (by decide) rfl (by decide) rfl rfl e54 rfl ?_
        refine jr.bipush rfl (by decide) ?_
        refine jr.iload_n rfl rfl ?_
        refine jr.bipush rfl (by decide) ?_
        refine jr.imul rfl ?_
        refine jr.iw (j_w (v4 * 16)) (j_w_eq _) ?_
        have b56 : -2147483648 ≤ j_w (v4 * 16) ∧ j_w (v4 * 16) ≤ 2147483647 := jb_any _
        generalize j_w (v4 * 16) = v56 at b56 ⊢
        refine jr.iload_n rfl rfl ?_
        refine jr.iadd rfl ?_
        refine jr.iw (j_w (v56 + r48)) (j_w_eq _) ?_
        have b57 : -2147483648 ≤ j_w (v56 + r48) ∧ j_w (v56 + r48) ≤ 2147483647 := jb_any _
        generalize j_w (v56 + r48) = v57 at b57 ⊢
        refine jr_v rfl rfl (Or.inl rfl) rfl rfl (Nat.lt_trans (kx_47 k55).1 (by decide)) (kx_47 k55).2 ⟨rfl, Nat.le_of_ble_eq_true rfl, Nat.le_of_ble_eq_true rfl⟩ rfl (jc.deep (c_Program_emit_m hC_M43 (FR.rfl _ M43) k55 (by omega) (by omega) (by have hq0 : M43 413 2 = v50 := e54; omega) (MP.fr (MP.fr (MP.fr w5_0 hC_M5 hf_M6 rfl) hC_M6 hf_M41 rfl) hC_M41 hf_M43 rfl) (fun r58 M58 hC_M58 hf_M58 z58 w58_0 => ?_)) (by decide))
        have ht_M58 : FR W_c_Parser_kindField T M58 := FR.t ht_M43 hf_M58 (kw_sub rfl)
        refine jr.pop rfl rfl ?_
        refine jr.aload_n rfl rfl ?_
        have e60 : M58 413 3 = v1 := (hf_M58.g (show kd 413 = 44 from rfl) rfl).trans e49
        refine jr_v rfl rfl (Or.inl rfl) rfl rfl (by decide) rfl ⟨rfl, Nat.le_of_ble_eq_true rfl, Nat.le_of_ble_eq_true rfl⟩ rfl (jc.deep (c_Parser_advance hC_M58 (FR.rfl _ M58)  (by have hq0 : M58 413 3 = v1 := e60; omega) (fun M59 hC_M59 hf_M59  => ?_)) (by decide))
        have ht_M59 : FR W_c_Parser_kindField T M59 := FR.t ht_M58 hf_M59 (kw_sub rfl)
        exact jr.vreturn rfl rfl (q _ hC_M59 ht_M59  (MP.fr w58_0 hC_M58 hf_M59 rfl))
      · refine jr.aload_n rfl rfl ?_
        refine jr.iconst rfl ?_
        refine jr_v rfl rfl (Or.inl rfl) rfl rfl (by decide) rfl ⟨rfl, Nat.le_of_ble_eq_true rfl, Nat.le_of_ble_eq_true rfl⟩ rfl (jc.deep (c_Parser_fail hC_M43 (FR.rfl _ M43) (by omega) (fun M61 hC_M61 hf_M61 w61_0 => ?_)) (by decide))
        have ht_M61 : FR W_c_Parser_kindField T M61 := FR.t ht_M43 hf_M61 (kw_sub rfl)
        obtain ⟨v62, e62⟩ : ∃ z_, M61 413 0 = z_ := ⟨_, rfl⟩
        have b62 : (-2147483648) ≤ v62 ∧ v62 ≤ 2147483647 := by rw [← e62]; exact (CI.r hC_M61 (show kd 413 = 44 from rfl) (by decide) 0)
        refine jr.aload_n rfl rfl ?_
        obtain ⟨v63, e63⟩ : ∃ z_, M 413 2 = z_ := ⟨_, rfl⟩
        have b63 : 0 ≤ v63 ∧ v63 ≤ 597 := by rw [← e63]; exact (CI.r hC_M (show kd 413 = 44 from rfl) (by decide) 2)
        have e64 : M5 413 2 = v63 := (hf_M5.g (show kd 413 = 44 from rfl) rfl).trans e63
        have e65 : M6 413 2 = v63 := (hf_M6.g (show kd 413 = 44 from rfl) rfl).trans e64
        have e66 : M41 413 2 = v63 := (hf_M41.g (show kd 413 = 44 from rfl) rfl).trans e65
        have e67 : M43 413 2 = v63 := (hf_M43.g (show kd 413 = 44 from rfl) rfl).trans e66
        have e68 : M61 413 2 = v63 := (hf_M61.g (show kd 413 = 44 from rfl) rfl).trans e67
        have k69 : kd (v63).toNat = 47 := ((congrArg (fun z : Int => kd z.toNat) (show M61 413 2 = v63 from e68)).symm.trans (CI.x hC_M61 (show kd 413 = 44 from rfl) 2 rfl (by decide)))
        refine jr.getf (i := 2) (x := v63) (v := .ref (v63.toNat)) rfl rfl (by decide) rfl (by decide) rfl rfl e68 rfl ?_
        refine jr.bipush rfl (by decide) ?_
        refine jr.iload_n rfl rfl ?_
        refine jr.bipush rfl (by decide) ?_
        refine jr.imul rfl ?_
        refine jr.iw (j_w (v4 * 16)) (j_w_eq _) ?_
        have b70 : -2147483648 ≤ j_w (v4 * 16) ∧ j_w (v4 * 16) ≤ 2147483647 := jb_any _
        generalize j_w (v4 * 16) = v70 at b70 ⊢
        refine jr.iload_n rfl rfl ?_
        refine jr.iadd rfl ?_
        refine jr.iw (j_w (v70 + r48)) (j_w_eq _) ?_
        have b71 : -2147483648 ≤ j_w (v70 + r48) ∧ j_w (v70 + r48) ≤ 2147483647 := jb_any _
        generalize j_w (v70 + r48) = v71 at b71 ⊢
        refine jr_v rfl rfl (Or.inl rfl) rfl rfl (Nat.lt_trans (kx_47 k69).1 (by decide)) (kx_47 k69).2 ⟨rfl, Nat.le_of_ble_eq_true rfl, Nat.le_of_ble_eq_true rfl⟩ rfl (jc.deep (c_Program_emit_m hC_M61 (FR.rfl _ M61) k69 (by omega) (by omega) (by have hq0 : M61 413 2 = v63 := e68; omega) (MP.fr (MP.fr (MP.fr (MP.fr w5_0 hC_M5 hf_M6 rfl) hC_M6 hf_M41 rfl) hC_M41 hf_M43 rfl) hC_M43 hf_M61 rfl) (fun r72 M72 hC_M72 hf_M72 z72 w72_0 => ?_)) (by decide))
        have ht_M72 : FR W_c_Parser_kindField T M72 := FR.t ht_M61 hf_M72 (kw_sub rfl)
        refine jr.pop rfl rfl ?_
        refine jr.aload_n rfl rfl ?_
        have e74 : M61 413 3 = v1 := (hf_M61.g (show kd 413 = 44 from rfl) rfl).trans e49
        have e75 : M72 413 3 = v1 := (hf_M72.g (show kd 413 = 44 from rfl) rfl).trans e74
        refine jr_v rfl rfl (Or.inl rfl) rfl rfl (by decide) rfl ⟨rfl, Nat.le_of_ble_eq_true rfl, Nat.le_of_ble_eq_true rfl⟩ rfl (jc.deep (c_Parser_advance hC_M72 (FR.rfl _ M72)  (by have hq0 : M72 413 3 = v1 := e75; omega) (fun M73 hC_M73 hf_M73  => ?_)) (by decide))
        have ht_M73 : FR W_c_Parser_kindField T M73 := FR.t ht_M72 hf_M73 (kw_sub rfl)
        exact jr.vreturn rfl rfl (q _ hC_M73 ht_M73  (MP.fr w72_0 hC_M72 hf_M73 rfl))
    · refine jr.aload_n rfl rfl ?_
      refine jr_v rfl rfl (Or.inl rfl) rfl rfl (by decide) rfl ⟨rfl, Nat.le_of_ble_eq_true rfl, Nat.le_of_ble_eq_true rfl⟩ rfl (jc.deep (c_Parser_refuse hC_M43 (FR.rfl _ M43)  (fun M76 hC_M76 hf_M76 w76_0 => ?_)) (by decide))
      have ht_M76 : FR W_c_Parser_kindField T M76 := FR.t ht_M43 hf_M76 (kw_sub rfl)
      obtain ⟨v77, e77⟩ : ∃ z_, M76 413 0 = z_ := ⟨_, rfl⟩
      have b77 : (-2147483648) ≤ v77 ∧ v77 ≤ 2147483647 := by rw [← e77]; exact (CI.r hC_M76 (show kd 413 = 44 from rfl) (by decide) 0)
      exact jr.vreturn rfl rfl (q _ hC_M76 ht_M76  (MP.fr (MP.fr (MP.fr (MP.fr w5_0 hC_M5 hf_M6 rfl) hC_M6 hf_M41 rfl) hC_M41 hf_M43 rfl) hC_M43 hf_M76 rfl))
