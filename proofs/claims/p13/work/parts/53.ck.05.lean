theorem c_Parser_askingWord {A : Nat → Option (Nat × (Nat → Int32))} [HA A] {n : Nat} (ihP : PX A n) : PX_ask A (n + 1) := by
  intro Q G T M hC_M ht_M x h_x  p0 p1 p2 q
  refine jc_of (m := xm_207) rfl (Nat.le_of_ble_eq_true rfl) rfl ?_
  obtain ⟨v1, e1⟩ : ∃ z_, M 413 3 = z_ := ⟨_, rfl⟩
  have b1 : 1 ≤ v1 ∧ v1 ≤ 419 := by rw [← e1]; exact (CI.r hC_M (show kd 413 = 44 from rfl) (by decide) 3)
  have b2 : 1 ≤ v1 ∧ v1 ≤ 1 := by rw [← e1]; exact p0
  refine jr.aload_n rfl rfl ?_
  obtain ⟨v3, e3⟩ : ∃ z_, M 413 6 = z_ := ⟨_, rfl⟩
  have b3 : (-2147483648) ≤ v3 ∧ v3 ≤ 2147483647 := by rw [← e3]; exact (CI.r hC_M (show kd 413 = 44 from rfl) (by decide) 6)
  refine jr.getf (i := 6) (x := v3) (v := .int (Int32.ofInt (v3))) rfl rfl (by decide) rfl (by decide) rfl rfl e3 rfl ?_
  refine jr.iconst rfl ?_
  refine jr.icmp_ne rfl rfl (by omega) (by omega) (fun h5 => ?_) (fun h5 => ?_)
  · refine jr.iconst rfl ?_
    refine jr.istore_n (ls' := [_, _, _]) rfl (by decide) rfl ?_
    refine jr.iload_n rfl rfl ?_
    refine jr.bipush rfl (by decide) ?_
    refine jr.icmp_eq rfl rfl (by omega) (by omega) (fun h => absurd h (by decide)) (fun _ => ?_)
    refine jr.iload_n rfl rfl ?_
    refine jr.bipush rfl (by decide) ?_
    refine jr.icmp_lt rfl rfl (by omega) (by omega) (fun _ => ?_) (fun h => absurd (by decide) h)
    refine jr.aload_n rfl rfl ?_
    refine jr_v rfl rfl (Or.inl rfl) rfl rfl (by decide) rfl ⟨rfl, Nat.le_of_ble_eq_true rfl, Nat.le_of_ble_eq_true rfl⟩ rfl (jc.deep (c_Parser_refuse hC_M (FR.rfl _ M)  (fun M4 hC_M4 hf_M4 w4_0 => ?_)) (by omega))
    have ht_M4 : FR W_par T M4 := FR.t ht_M hf_M4 (kw_sub rfl)
    obtain ⟨v5, e5⟩ : ∃ z_, M4 413 0 = z_ := ⟨_, rfl⟩
    have b5 : (-2147483648) ≤ v5 ∧ v5 ≤ 2147483647 := by rw [← e5]; exact (CI.r hC_M4 (show kd 413 = 44 from rfl) (by decide) 0)
    exact jr.vreturn rfl rfl (q _ hC_M4 ht_M4  (MP.fr p1 hC_M hf_M4 rfl))
  · refine jr.aload_n rfl rfl ?_
    obtain ⟨v6, e6⟩ : ∃ z_, M 413 10 = z_ := ⟨_, rfl⟩
    have b6 : (-2147483648) ≤ v6 ∧ v6 ≤ 2147483647 := by rw [← e6]; exact (CI.r hC_M (show kd 413 = 44 from rfl) (by decide) 10)
    refine jr.getf (i := 10) (x := v6) (v := .int (Int32.ofInt (v6))) rfl rfl (by decide) rfl (by decide) rfl rfl e6 rfl ?_
    refine jr.goto rfl rfl ?_
    refine jr.istore_n (ls' := [_, _, _]) rfl (by decide) rfl ?_
    refine jr.iload_n rfl rfl ?_
    refine jr.bipush rfl (by decide) ?_
    refine jr.icmp_eq rfl rfl (by omega) (by omega) (fun h20 => ?_) (fun h20 => ?_)
    · refine jr.aload_n rfl rfl ?_
      refine jr_v rfl rfl (Or.inl rfl) rfl rfl (by decide) rfl ⟨rfl, Nat.le_of_ble_eq_true rfl, Nat.le_of_ble_eq_true rfl⟩ rfl (jc.deep (c_Parser_countNode hC_M (FR.rfl _ M)  p1 (fun M7 hC_M7 hf_M7 w7_0 => ?_)) (by omega))
      have ht_M7 : FR W_par T M7 := FR.t ht_M hf_M7 (kw_sub rfl)
      refine jr.aload_n rfl rfl ?_
      have e9 : M7 413 3 = v1 := (hf_M7.g (show kd 413 = 44 from rfl) rfl).trans e1
      refine jr_v rfl rfl (Or.inl rfl) rfl rfl (by decide) rfl ⟨rfl, Nat.le_of_ble_eq_true rfl, Nat.le_of_ble_eq_true rfl⟩ rfl (jc.deep (c_Parser_advance hC_M7 (FR.rfl _ M7)  (by have hq0 : M7 413 3 = v1 := e9; omega) (fun M8 hC_M8 hf_M8  => ?_)) (by omega))
      have ht_M8 : FR W_par T M8 := FR.t ht_M7 hf_M8 (kw_sub rfl)
      refine jr.iload_n rfl rfl ?_
      refine jr.bipush rfl (by decide) ?_
      refine jr.icmp_ne rfl rfl (by omega) (by omega) (fun h51 => ?_) (fun h51 => ?_)
      · refine jr.iload_n rfl rfl ?_
        refine jr.bipush rfl (by decide) ?_
        refine jr.icmp_le rfl rfl (by omega) (by omega) (fun h116 => ?_) (fun h116 => ?_)
        · refine jr.aload_n rfl rfl ?_
          obtain ⟨v10, e10⟩ : ∃ z_, M 413 2 = z_ := ⟨_, rfl⟩
          have b10 : 0 ≤ v10 ∧ v10 ≤ 597 := by rw [← e10]; exact (CI.r hC_M (show kd 413 = 44 from rfl) (by decide) 2)
          have e11 : M7 413 2 = v10 := (hf_M7.g (show kd 413 = 44 from rfl) rfl).trans e10
          have e12 : M8 413 2 = v10 := (hf_M8.g (show kd 413 = 44 from rfl) rfl).trans e11
          have k13 : kd (v10).toNat = 47 := ((congrArg (fun z : Int => kd z.toNat) (show M8 413 2 = v10 from e12)).symm.trans (CI.x hC_M8 (show kd 413 = 44 from rfl) 2 rfl (by decide)))
          refine jr.getf (i := 2) (x := v10) (v := .ref (v10.toNat)) rfl rfl (by decide) rfl (by decide) rfl rfl e12 rfl ?_
          refine jr.iload_n rfl rfl ?_
          refine jr.bipush rfl (by decide) ?_
          refine jr.icmp_ne rfl rfl (by omega) (by omega) (fun h163 => ?_) (fun h163 => ?_)
          · exact absurd h163 (by omega)
          · refine jr.bipush rfl (by decide) ?_
            refine jr.goto rfl rfl ?_
            refine jr.iconst rfl ?_
            refine jr_v rfl rfl (Or.inl rfl) rfl rfl (Nat.lt_trans (kx_47 k13).1 (by decide)) (kx_47 k13).2 ⟨rfl, Nat.le_of_ble_eq_true rfl, Nat.le_of_ble_eq_true rfl⟩ rfl (jc.deep (c_Program_emit_m hC_M8 (FR.rfl _ M8) k13 (by omega) (by omega) (by have hq0 : M8 413 2 = v10 := e12; omega) (MP.fr w7_0 hC_M7 hf_M8 rfl) (fun r14 M14 hC_M14 hf_M14 z14 w14_0 => ?_)) (by omega))
            have ht_M14 : FR W_par T M14 := FR.t ht_M8 hf_M14 (kw_sub rfl)
            refine jr.pop rfl rfl ?_
            exact jr.vreturn rfl rfl (q _ hC_M14 ht_M14  w14_0)
        · exact absurd (by omega) h116
      · exact absurd (by omega) h51
    · refine jr.iload_n rfl rfl ?_
      refine jr.bipush rfl (by decide) ?_
      refine jr.icmp_lt rfl rfl (by omega) (by omega) (fun h26 => ?_) (fun h26 => ?_)
      · refine jr.aload_n rfl rfl ?_
        refine jr_v rfl rfl (Or.inl rfl) rfl rfl (by decide) rfl ⟨rfl, Nat.le_of_ble_eq_true rfl, Nat.le_of_ble_eq_true rfl⟩ rfl (jc.deep (c_Parser_refuse hC_M (FR.rfl _ M)  (fun M15 hC_M15 hf_M15 w15_0 => ?_)) (by omega))
        have ht_M15 : FR W_par T M15 := FR.t ht_M hf_M15 (kw_sub rfl)
        obtain ⟨v16, e16⟩ : ∃ z_, M15 413 0 = z_ := ⟨_, rfl⟩
        have b16 : (-2147483648) ≤ v16 ∧ v16 ≤ 2147483647 := by rw [← e16]; exact (CI.r hC_M15 (show kd 413 = 44 from rfl) (by decide) 0)
        exact jr.vreturn rfl rfl (q _ hC_M15 ht_M15  (MP.fr p1 hC_M hf_M15 rfl))
      · refine jr.iload_n rfl rfl ?_
        refine jr.bipush rfl (by decide) ?_
        refine jr.icmp_le rfl rfl (by omega) (by omega) (fun h32 => ?_) (fun h32 => ?_)
        · refine jr.aload_n rfl rfl ?_
          refine jr_v rfl rfl (Or.inl rfl) rfl rfl (by decide) rfl ⟨rfl, Nat.le_of_ble_eq_true rfl, Nat.le_of_ble_eq_true rfl⟩ rfl (jc.deep (c_Parser_countNode hC_M (FR.rfl _ M)  p1 (fun M17 hC_M17 hf_M17 w17_0 => ?_)) (by omega))
          have ht_M17 : FR W_par T M17 := FR.t ht_M hf_M17 (kw_sub rfl)
          refine jr.aload_n rfl rfl ?_
          have e19 : M17 413 3 = v1 := (hf_M17.g (show kd 413 = 44 from rfl) rfl).trans e1
          refine jr_v rfl rfl (Or.inl rfl) rfl rfl (by decide) rfl ⟨rfl, Nat.le_of_ble_eq_true rfl, Nat.le_of_ble_eq_true rfl⟩ rfl (jc.deep (c_Parser_advance hC_M17 (FR.rfl _ M17)  (by have hq0 : M17 413 3 = v1 := e19; omega) (fun M18 hC_M18 hf_M18  => ?_)) (by omega))
          have ht_M18 : FR W_par T M18 := FR.t ht_M17 hf_M18 (kw_sub rfl)
          refine jr.iload_n rfl rfl ?_
          refine jr.bipush rfl (by decide) ?_
          refine jr.icmp_ne rfl rfl (by omega) (by omega) (fun h51 => ?_) (fun h51 => ?_)
          · refine jr.iload_n rfl rfl ?_
            refine jr.bipush rfl (by decide) ?_
            refine jr.icmp_le rfl rfl (by omega) (by omega) (fun h116 => ?_) (fun h116 => ?_)
            · refine jr.aload_n rfl rfl ?_
              obtain ⟨v20, e20⟩ : ∃ z_, M 413 2 = z_ := ⟨_, rfl⟩
              have b20 : 0 ≤ v20 ∧ v20 ≤ 597 := by rw [← e20]; exact (CI.r hC_M (show kd 413 = 44 from rfl) (by decide) 2)
              have e21 : M17 413 2 = v20 := (hf_M17.g (show kd 413 = 44 from rfl) rfl).trans e20
              have e22 : M18 413 2 = v20 := (hf_M18.g (show kd 413 = 44 from rfl) rfl).trans e21
              have k23 : kd (v20).toNat = 47 := ((congrArg (fun z : Int => kd z.toNat) (show M18 413 2 = v20 from e22)).symm.trans (CI.x hC_M18 (show kd 413 = 44 from rfl) 2 rfl (by decide)))
              refine jr.getf (i := 2) (x := v20) (v := .ref (v20.toNat)) rfl rfl (by decide) rfl (by decide) rfl rfl e22 rfl ?_
              refine jr.iload_n rfl rfl ?_
              refine jr.bipush rfl (by decide) ?_
              refine jr.icmp_ne rfl rfl (by omega) (by omega) (fun h163 => ?_) (fun h163 => ?_)
              · refine jr.iload_n rfl rfl ?_
                refine jr.iconst rfl ?_
                refine jr_v rfl rfl (Or.inl rfl) rfl rfl (Nat.lt_trans (kx_47 k23).1 (by decide)) (kx_47 k23).2 ⟨rfl, Nat.le_of_ble_eq_true rfl, Nat.le_of_ble_eq_true rfl⟩ rfl (jc.deep (c_Program_emit_m hC_M18 (FR.rfl _ M18) k23 (by omega) (by omega) (by have hq0 : M18 413 2 = v20 := e22; omega) (MP.fr w17_0 hC_M17 hf_M18 rfl) (fun r24 M24 hC_M24 hf_M24 z24 w24_0 => ?_)) (by omega))
                have ht_M24 : FR W_par T M24 := FR.t ht_M18 hf_M24 (kw_sub rfl)
                refine jr.pop rfl rfl ?_
                exact jr.vreturn rfl rfl (q _ hC_M24 ht_M24  w24_0)
              · exact absurd (by omega) h163
            · refine jr.aload_n rfl rfl ?_
              refine jr.bipush rfl (by decide) ?_
              refine jr.iload_n rfl rfl ?_
              have e26 : M18 413 3 = v1 := (hf_M18.g (show kd 413 = 44 from rfl) rfl).trans e19
              refine jr_v rfl rfl (Or.inl rfl) rfl rfl (by decide) rfl ⟨rfl, Nat.le_of_ble_eq_true rfl, Nat.le_of_ble_eq_true rfl⟩ rfl (jc.deep (c_Parser_open hC_M18 (FR.rfl _ M18) (by omega) (by omega) (by have hq0 : M18 413 3 = v1 := e26; omega) (fun M25 hC_M25 hf_M25 w25_0 => ?_)) (by omega))
              have ht_M25 : FR W_par T M25 := FR.t ht_M18 hf_M25 (kw_sub rfl)
              obtain ⟨v27, e27⟩ : ∃ z_, M25 413 0 = z_ := ⟨_, rfl⟩
              have b27 : (-2147483648) ≤ v27 ∧ v27 ≤ 2147483647 := by rw [← e27]; exact (CI.r hC_M25 (show kd 413 = 44 from rfl) (by decide) 0)
              refine jr.aload_n rfl rfl ?_
              refine jr.iload_n rfl rfl ?_
              refine jr_s rfl rfl (Or.inl rfl) ⟨Nat.le_of_ble_eq_true rfl, Nat.le_of_ble_eq_true rfl⟩ rfl rfl (jc.deep (c_Parser_expsOf hC_M25 (by omega) (fun r28 z28  => ?_)) (by omega))
              refine jr.iload_n rfl rfl ?_
              refine jr.iconst rfl ?_
              refine jr.iadd rfl ?_
              have e30 : M25 413 3 = v1 := (hf_M25.g (show kd 413 = 44 from rfl) rfl).trans e26
              refine jr_v rfl rfl (Or.inl rfl) rfl rfl (by decide) rfl ⟨rfl, Nat.le_of_ble_eq_true rfl, Nat.le_of_ble_eq_true rfl⟩ rfl (jc.deep (ihP.2.2.2.1 hC_M25 (FR.rfl _ M25) (by omega) (by omega) (by have hq0 : M25 413 3 = v1 := e30; omega) (by have hq0 : M25 413 0 = v27 := e27; omega) (MP.fr (MP.fr w17_0 hC_M17 hf_M18 rfl) hC_M18 hf_M25 rfl) (by omega) (fun M29 hC_M29 hf_M29 w29_0 => ?_)) (by omega))
              have ht_M29 : FR W_par T M29 := FR.t ht_M25 hf_M29 (kw_sub rfl)
              refine jr.aload_n rfl rfl ?_
              obtain ⟨v31, e31⟩ : ∃ z_, M 413 2 = z_ := ⟨_, rfl⟩
              have b31 : 0 ≤ v31 ∧ v31 ≤ 597 := by rw [← e31]; exact (CI.r hC_M (show kd 413 = 44 from rfl) (by decide) 2)
              have e32 : M17 413 2 = v31 := (hf_M17.g (show kd 413 = 44 from rfl) rfl).trans e31
              have e33 : M18 413 2 = v31 := (hf_M18.g (show kd 413 = 44 from rfl) rfl).trans e32
              have e34 : M25 413 2 = v31 := (hf_M25.g (show kd 413 = 44 from rfl) rfl).trans e33
              have e35 : M29 413 2 = v31 := (hf_M29.g (show kd 413 = 44 from rfl) rfl).trans e34
              have k36 : kd (v31).toNat = 47 := ((congrArg (fun z : Int => kd z.toNat) (show M29 413 2 = v31 from e35)).symm.trans (CI.x hC_M29 (show kd 413 = 44 from rfl) 2 rfl (by decide)))
              refine jr.getf (i := 2) (x := v31) (v := .ref (v31.toNat)) rfl rfl (by decide) rfl (by decide) rfl rfl e35 rfl ?_
              refine jr.iload_n rfl rfl ?_
              refine jr.iconst rfl ?_
              refine jr_v rfl rfl (Or.inl rfl) rfl rfl (Nat.lt_trans (kx_47 k36).1 (by decide)) (kx_47 k36).2 ⟨rfl, Nat.le_of_ble_eq_true rfl, Nat.le_of_ble_eq_true rfl⟩ rfl (jc.deep (c_Program_emit_m hC_M29 (FR.rfl _ M29) k36 (by omega) (by omega) (by have hq0 : M29 413 2 = v31 := e35; omega) w29_0 (fun r37 M37 hC_M37 hf_M37 z37 w37_0 => ?_)) (by omega))
              have ht_M37 : FR W_par T M37 := FR.t ht_M29 hf_M37 (kw_sub rfl)
              refine jr.pop rfl rfl ?_
              refine jr.aload_n rfl rfl ?_
              refine jr.bipush rfl (by decide) ?_
              have e39 : M29 413 3 = v1 := (hf_M29.g (show kd 413 = 44 from rfl) rfl).trans e30
              have e40 : M37 413 3 = v1 := (hf_M37.g (show kd 413 = 44 from rfl) rfl).trans e39
              refine jr_v rfl rfl (Or.inl rfl) rfl rfl (by decide) rfl ⟨rfl, Nat.le_of_ble_eq_true rfl, Nat.le_of_ble_eq_true rfl⟩ rfl (jc.deep (c_Parser_expect hC_M37 (FR.rfl _ M37) (by omega) (by have hq0 : M37 413 3 = v1 := e40; omega) (fun M38 hC_M38 hf_M38  => ?_)) (by omega))
              have ht_M38 : FR W_par T M38 := FR.t ht_M37 hf_M38 (kw_sub rfl)
              refine jr.goto rfl rfl ?_
              exact jr.vreturn rfl rfl (q _ hC_M38 ht_M38  (MP.fr w37_0 hC_M37 hf_M38 rfl))
          · refine jr.aload_n rfl rfl ?_
            refine jr.bipush rfl (by decide) ?_
            refine jr.iload_n rfl rfl ?_
            have e42 : M18 413 3 = v1 := (hf_M18.g (show kd 413 = 44 from rfl) rfl).trans e19
            refine jr_v rfl rfl (Or.inl rfl) rfl rfl (by decide) rfl ⟨rfl, Nat.le_of_ble_eq_true rfl, Nat.le_of_ble_eq_true rfl⟩ rfl (jc.deep (c_Parser_open hC_M18 (FR.rfl _ M18) (by omega) (by omega) (by have hq0 : M18 413 3 = v1 := e42; omega) (fun M41 hC_M41 hf_M41 w41_0 => ?_)) (by omega))
            have ht_M41 : FR W_par T M41 := FR.t ht_M18 hf_M41 (kw_sub rfl)
            obtain ⟨v43, e43⟩ : ∃ z_, M41 413 0 = z_ := ⟨_, rfl⟩
            have b43 : (-2147483648) ≤ v43 ∧ v43 ≤ 2147483647 := by rw [← e43]; exact (CI.r hC_M41 (show kd 413 = 44 from rfl) (by decide) 0)
            refine jr.aload_n rfl rfl ?_
            obtain ⟨v44, e44⟩ : ∃ z_, M41 413 6 = z_ := ⟨_, rfl⟩
            have b44 : (-2147483648) ≤ v44 ∧ v44 ≤ 2147483647 := by rw [← e44]; exact (CI.r hC_M41 (show kd 413 = 44 from rfl) (by decide) 6)
            refine jr.getf (i := 6) (x := v44) (v := .int (Int32.ofInt (v44))) rfl rfl (by decide) rfl (by decide) rfl rfl e44 rfl ?_
            refine jr.iconst rfl ?_
            refine jr.icmp_ne rfl rfl (by omega) (by omega) (fun h66 => ?_) (fun h66 => ?_)
            · refine jr.iconst rfl ?_
              refine jr.istore_n (ls' := [_, _, _, _]) rfl (by decide) rfl ?_
              refine jr.iload_n rfl rfl ?_
              refine jr.if_ge rfl rfl (by omega) (fun h => absurd h (by decide)) (fun _ => ?_)
              refine jr.aload_n rfl rfl ?_
              refine jr_v rfl rfl (Or.inl rfl) rfl rfl (by decide) rfl ⟨rfl, Nat.le_of_ble_eq_true rfl, Nat.le_of_ble_eq_true rfl⟩ rfl (jc.deep (c_Parser_refuse hC_M41 (FR.rfl _ M41)  (fun M45 hC_M45 hf_M45 w45_0 => ?_)) (by omega))
              have ht_M45 : FR W_par T M45 := FR.t ht_M41 hf_M45 (kw_sub rfl)
              obtain ⟨v46, e46⟩ : ∃ z_, M45 413 0 = z_ := ⟨_, rfl⟩
              have b46 : (-2147483648) ≤ v46 ∧ v46 ≤ 2147483647 := by rw [← e46]; exact (CI.r hC_M45 (show kd 413 = 44 from rfl) (by decide) 0)
              refine jr.aload_n rfl rfl ?_
              have e48 : M41 413 3 = v1 := (hf_M41.g (show kd 413 = 44 from rfl) rfl).trans e42
              have e49 : M45 413 3 = v1 := (hf_M45.g (show kd 413 = 44 from rfl) rfl).trans e48
              refine jr_v rfl rfl (Or.inl rfl) rfl rfl (by decide) rfl ⟨rfl, Nat.le_of_ble_eq_true rfl, Nat.le_of_ble_eq_true rfl⟩ rfl (jc.deep (c_Parser_advance hC_M45 (FR.rfl _ M45)  (by have hq0 : M45 413 3 = v1 := e49; omega) (fun M47 hC_M47 hf_M47  => ?_)) (by omega))
              have ht_M47 : FR W_par T M47 := FR.t ht_M45 hf_M47 (kw_sub rfl)
              refine jr.aload_n rfl rfl ?_
              obtain ⟨v50, e50⟩ : ∃ z_, M 413 2 = z_ := ⟨_, rfl⟩
              have b50 : 0 ≤ v50 ∧ v50 ≤ 597 := by rw [← e50]; exact (CI.r hC_M (show kd 413 = 44 from rfl) (by decide) 2)
              have e51 : M17 413 2 = v50 := (hf_M17.g (show kd 413 = 44 from rfl) rfl).trans e50
              have e52 : M18 413 2 = v50 := (hf_M18.g (show kd 413 = 44 from rfl) rfl).trans e51
              have e53 : M41 413 2 = v50 := (hf_M41.g (show kd 413 = 44 from rfl) rfl).trans e52
              have e54 : M45 413 2 = v50 := (hf_M45.g (show kd 413 = 44 from rfl) rfl).trans e53
              have e55 : M47 413 2 = v50 := (hf_M47.g (show kd 413 = 44 from rfl) rfl).trans e54
              have k56 : kd (v50).toNat = 47 := ((congrArg (fun z : Int => kd z.toNat) (show M47 413 2 = v50 from e55)).symm.trans (CI.x hC_M47 (show kd 413 = 44 from rfl) 2 rfl (by decide)))
              refine jr.getf (i := 2) (x := v50) (v := .ref (v50.toNat)) rfl rfl (by decide) rfl (by decide) rfl rfl e55 rfl ?_
              refine jr.bipush rfl (by decide) ?_
              refine jr.iload_n rfl rfl ?_
              refine jr_v rfl rfl (Or.inl rfl) rfl rfl (Nat.lt_trans (kx_47 k56).1 (by decide)) (kx_47 k56).2 ⟨rfl, Nat.le_of_ble_eq_true rfl, Nat.le_of_ble_eq_true rfl⟩ rfl (jc.deep (c_Program_emit_m hC_M47 (FR.rfl _ M47) k56 (by omega) (by omega) (by have hq0 : M47 413 2 = v50 := e55; omega) (MP.fr (MP.fr (MP.fr (MP.fr w17_0 hC_M17 hf_M18 rfl) hC_M18 hf_M41 rfl) hC_M41 hf_M45 rfl) hC_M45 hf_M47 rfl) (fun r57 M57 hC_M57 hf_M57 z57 w57_0 => ?_)) (by omega))
              have ht_M57 : FR W_par T M57 := FR.t ht_M47 hf_M57 (kw_sub rfl)
              refine jr.pop rfl rfl ?_
              refine jr.aload_n rfl rfl ?_
              refine jr.bipush rfl (by decide) ?_
              have e59 : M47 413 3 = v1 := (hf_M47.g (show kd 413 = 44 from rfl) rfl).trans e49
              have e60 : M57 413 3 = v1 := (hf_M57.g (show kd 413 = 44 from rfl) rfl).trans e59
              refine jr_v rfl rfl (Or.inl rfl) rfl rfl (by decide) rfl ⟨rfl, Nat.le_of_ble_eq_true rfl, Nat.le_of_ble_eq_true rfl⟩ rfl (jc.deep (c_Parser_expect hC_M57 (FR.rfl _ M57) (by omega) (by have hq0 : M57 413 3 = v1 := e60; omega) (fun M58 hC_M58 hf_M58  => ?_)) (by omega))
              have ht_M58 : FR W_par T M58 := FR.t ht_M57 hf_M58 (kw_sub rfl)
              refine jr.goto rfl rfl ?_
              exact jr.vreturn rfl rfl (q _ hC_M58 ht_M58  (MP.fr w57_0 hC_M57 hf_M58 rfl))
            · refine jr.aload_n rfl rfl ?_
              obtain ⟨v61, e61⟩ : ∃ z_, M41 413 10 = z_ := ⟨_, rfl⟩
              have b61 : (-2147483648) ≤ v61 ∧ v61 ≤ 2147483647 := by rw [← e61]; exact (CI.r hC_M41 (show kd 413 = 44 from rfl) (by decide) 10)
              refine jr.getf (i := 10) (x := v61) (v := .int (Int32.ofInt (v61))) rfl rfl (by decide) rfl (by decide) rfl rfl e61 rfl ?_
              refine jr.bipush rfl (by decide) ?_
              refine jr.isub rfl ?_
              refine jr.iw (j_w (v61 - 31)) (j_w_eq _) ?_
              have b62 : -2147483648 ≤ j_w (v61 - 31) ∧ j_w (v61 - 31) ≤ 2147483647 := jb_any _
              generalize j_w (v61 - 31) = v62 at b62 ⊢
              refine jr.goto rfl rfl ?_
              refine jr.istore_n (ls' := [_, _, _, _]) rfl (by decide) rfl ?_
              refine jr.iload_n rfl rfl ?_
              refine jr.if_ge rfl rfl (by omega) (fun h82 => ?_) (fun h82 => ?_)
              · refine jr.aload_n rfl rfl ?_
                have e64 : M41 413 3 = v1 := (hf_M41.g (show kd 413 = 44 from rfl) rfl).trans e42
                refine jr_v rfl rfl (Or.inl rfl) rfl rfl (by decide) rfl ⟨rfl, Nat.le_of_ble_eq_true rfl, Nat.le_of_ble_eq_true rfl⟩ rfl (jc.deep (c_Parser_advance hC_M41 (FR.rfl _ M41)  (by have hq0 : M41 413 3 = v1 := e64; omega) (fun M63 hC_M63 hf_M63  => ?_)) (by omega))
                have ht_M63 : FR W_par T M63 := FR.t ht_M41 hf_M63 (kw_sub rfl)
                refine jr.aload_n rfl rfl ?_
                obtain ⟨v65, e65⟩ : ∃ z_, M 413 2 = z_ := ⟨_, rfl⟩
                have b65 : 0 ≤ v65 ∧ v65 ≤ 597 := by rw [← e65]; exact (CI.r hC_M (show kd 413 = 44 from rfl) (by decide) 2)
                have e66 : M17 413 2 = v65 := (hf_M17.g (show kd 413 = 44 from rfl) rfl).trans e65
                have e67 : M18 413 2 = v65 := (hf_M18.g (show kd 413 = 44 from rfl) rfl).trans e66
                have e68 : M41 413 2 = v65 := (hf_M41.g (show kd 413 = 44 from rfl) rfl).trans e67
                have e69 : M63 413 2 = v65 := (hf_M63.g (show kd 413 = 44 from rfl) rfl).trans e68
                have k70 : kd (v65).toNat = 47 := ((congrArg (fun z : Int => kd z.toNat) (show M63 413 2 = v65 from e69)).symm.trans (CI.x hC_M63 (show kd 413 = 44 from rfl) 2 rfl (by decide)))
                refine jr.getf (i := 2) (x := v65) (v := .ref (v65.toNat)) rfl rfl (by decide) rfl (by decide) rfl rfl e69 rfl ?_
                refine jr.bipush rfl (by decide) ?_
                refine jr.iload_n rfl rfl ?_
                refine jr_v rfl rfl (Or.inl rfl) rfl rfl (Nat.lt_trans (kx_47 k70).1 (by decide)) (kx_47 k70).2 ⟨rfl, Nat.le_of_ble_eq_true rfl, Nat.le_of_ble_eq_true rfl⟩ rfl (jc.deep (c_Program_emit_m hC_M63 (FR.rfl _ M63) k70 (by omega) (by omega) (by have hq0 : M63 413 2 = v65 := e69; omega) (MP.fr (MP.fr (MP.fr w17_0 hC_M17 hf_M18 rfl) hC_M18 hf_M41 rfl) hC_M41 hf_M63 rfl) (fun r71 M71 hC_M71 hf_M71 z71 w71_0 => ?_)) (by omega))
                have ht_M71 : FR W_par T M71 := FR.t ht_M63 hf_M71 (kw_sub rfl)
                refine jr.pop rfl rfl ?_
                refine jr.aload_n rfl rfl ?_
                refine jr.bipush rfl (by decide) ?_
                have e73 : M63 413 3 = v1 := (hf_M63.g (show kd 413 = 44 from rfl) rfl).trans e64
                have e74 : M71 413 3 = v1 := (hf_M71.g (show kd 413 = 44 from rfl) rfl).trans e73
                refine jr_v rfl rfl (Or.inl rfl) rfl rfl (by decide) rfl ⟨rfl, Nat.le_of_ble_eq_true rfl, Nat.le_of_ble_eq_true rfl⟩ rfl (jc.deep (c_Parser_expect hC_M71 (FR.rfl _ M71) (by omega) (by have hq0 : M71 413 3 = v1 := e74; omega) (fun M72 hC_M72 hf_M72  => ?_)) (by omega))
                have ht_M72 : FR W_par T M72 := FR.t ht_M71 hf_M72 (kw_sub rfl)
                refine jr.goto rfl rfl ?_
                exact jr.vreturn rfl rfl (q _ hC_M72 ht_M72  (MP.fr w71_0 hC_M71 hf_M72 rfl))
              · refine jr.aload_n rfl rfl ?_
                refine jr_v rfl rfl (Or.inl rfl) rfl rfl (by decide) rfl ⟨rfl, Nat.le_of_ble_eq_true rfl, Nat.le_of_ble_eq_true rfl⟩ rfl (jc.deep (c_Parser_refuse hC_M41 (FR.rfl _ M41)  (fun M75 hC_M75 hf_M75 w75_0 => ?_)) (by omega))
                have ht_M75 : FR W_par T M75 := FR.t ht_M41 hf_M75 (kw_sub rfl)
                obtain ⟨v76, e76⟩ : ∃ z_, M75 413 0 = z_ := ⟨_, rfl⟩
                have b76 : (-2147483648) ≤ v76 ∧ v76 ≤ 2147483647 := by rw [← e76]; exact (CI.r hC_M75 (show kd 413 = 44 from rfl) (by decide) 0)
                refine jr.aload_n rfl rfl ?_
                have e78 : M41 413 3 = v1 := (hf_M41.g (show kd 413 = 44 from rfl) rfl).trans e42
                have e79 : M75 413 3 = v1 := (hf_M75.g (show kd 413 = 44 from rfl) rfl).trans e78
                refine jr_v rfl rfl (Or.inl rfl) rfl rfl (by decide) rfl ⟨rfl, Nat.le_of_ble_eq_true rfl, Nat.le_of_ble_eq_true rfl⟩ rfl (jc.deep (c_Parser_advance hC_M75 (FR.rfl _ M75)  (by have hq0 : M75 413 3 = v1 := e79; omega) (fun M77 hC_M77 hf_M77  => ?_)) (by omega))
                have ht_M77 : FR W_par T M77 := FR.t ht_M75 hf_M77 (kw_sub rfl)
                refine jr.aload_n rfl rfl ?_
                obtain ⟨v80, e80⟩ : ∃ z_, M 413 2 = z_ := ⟨_, rfl⟩
                have b80 : 0 ≤ v80 ∧ v80 ≤ 597 := by rw [← e80]; exact (CI.r hC_M (show kd 413 = 44 from rfl) (by decide) 2)
                have e81 : M17 413 2 = v80 := (hf_M17.g (show kd 413 = 44 from rfl) rfl).trans e80
                have e82 : M18 413 2 = v80 := (hf_M18.g (show kd 413 = 44 from rfl) rfl).trans e81
                have e83 : M41 413 2 = v80 := (hf_M41.g (show kd 413 = 44 from rfl) rfl).trans e82
                have e84 : M75 413 2 = v80 := (hf_M75.g (show kd 413 = 44 from rfl) rfl).trans e83
                have e85 : M77 413 2 = v80 := (hf_M77.g (show kd 413 = 44 from rfl) rfl).trans e84
                have k86 : kd (v80).toNat = 47 := ((congrArg (fun z : Int => kd z.toNat) (show M77 413 2 = v80 from e85)).symm.trans (CI.x hC_M77 (show kd 413 = 44 from rfl) 2 rfl (by decide)))
                refine jr.getf (i := 2) (x := v80) (v := .ref (v80.toNat)) rfl rfl (by decide) rfl (by decide) rfl rfl e85 rfl ?_
                refine jr.bipush rfl (by decide) ?_
                refine jr.iload_n rfl rfl ?_
                refine jr_v rfl rfl (Or.inl rfl) rfl rfl (Nat.lt_trans (kx_47 k86).1 (by decide)) (kx_47 k86).2 ⟨rfl, Nat.le_of_ble_eq_true rfl, Nat.le_of_ble_eq_true rfl⟩ rfl (jc.deep (c_Program_emit_m hC_M77 (FR.rfl _ M77) k86 (by omega) (by omega) (by have hq0 : M77 413 2 = v80 := e85; omega) (MP.fr (MP.fr (MP.fr (MP.fr w17_0 hC_M17 hf_M18 rfl) hC_M18 hf_M41 rfl) hC_M41 hf_M75 rfl) hC_M75 hf_M77 rfl) (fun r87 M87 hC_M87 hf_M87 z87 w87_0 => ?_)) (by omega))
                have ht_M87 : FR W_par T M87 := FR.t ht_M77 hf_M87 (kw_sub rfl)
                refine jr.pop rfl rfl ?_
                refine jr.aload_n rfl rfl ?_
                refine jr.bipush rfl (by decide) ?_
                have e89 : M77 413 3 = v1 := (hf_M77.g (show kd 413 = 44 from rfl) rfl).trans e79
                have e90 : M87 413 3 = v1 := (hf_M87.g (show kd 413 = 44 from rfl) rfl).trans e89
                refine jr_v rfl rfl (Or.inl rfl) rfl rfl (by decide) rfl ⟨rfl, Nat.le_of_ble_eq_true rfl, Nat.le_of_ble_eq_true rfl⟩ rfl (jc.deep (c_Parser_expect hC_M87 (FR.rfl _ M87) (by omega) (by have hq0 : M87 413 3 = v1 := e90; omega) (fun M88 hC_M88 hf_M88  => ?_)) (by omega))
                have ht_M88 : FR W_par T M88 := FR.t ht_M87 hf_M88 (kw_sub rfl)
                refine jr.goto rfl rfl ?_
                exact jr.vreturn rfl rfl (q _ hC_M88 ht_M88  (MP.fr w87_0 hC_M87 hf_M88 rfl))
        · refine jr.aload_n rfl rfl ?_
          refine jr_v rfl rfl (Or.inl rfl) rfl rfl (by decide) rfl ⟨rfl, Nat.le_of_ble_eq_true rfl, Nat.le_of_ble_eq_true rfl⟩ rfl (jc.deep (c_Parser_refuse hC_M (FR.rfl _ M)  (fun M91 hC_M91 hf_M91 w91_0 => ?_)) (by omega))
          have ht_M91 : FR W_par T M91 := FR.t ht_M hf_M91 (kw_sub rfl)
          obtain ⟨v92, e92⟩ : ∃ z_, M91 413 0 = z_ := ⟨_, rfl⟩
          have b92 : (-2147483648) ≤ v92 ∧ v92 ≤ 2147483647 := by rw [← e92]; exact (CI.r hC_M91 (show kd 413 = 44 from rfl) (by decide) 0)
          exact jr.vreturn rfl rfl (q _ hC_M91 ht_M91  (MP.fr p1 hC_M hf_M91 rfl))
