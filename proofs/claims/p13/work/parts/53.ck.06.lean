theorem c_Parser_one {A : Nat → Option (Nat × (Nat → Int32))} [HA A] {n : Nat} (ihP : PX A n) : PX_one A (n + 1) := by
  intro Q G T M hC_M ht_M x h_x F g_F p0 p1 p2 p3 q
  refine jc_of (m := xm_205) rfl (Nat.le_of_ble_eq_true rfl) rfl ?_
  have b_F : (-2147483648) ≤ F ∧ F ≤ 2147483647 := by rw [← g_F]; exact (CI.r hC_M (show kd 413 = 44 from rfl) (by decide) 0)
  obtain ⟨v1, e1⟩ : ∃ z_, M 413 3 = z_ := ⟨_, rfl⟩
  have b1 : 1 ≤ v1 ∧ v1 ≤ 419 := by rw [← e1]; exact (CI.r hC_M (show kd 413 = 44 from rfl) (by decide) 3)
  have b2 : 1 ≤ v1 ∧ v1 ≤ 1 := by rw [← e1]; exact p0
  have e3 : M 413 0 = F := g_F
  refine jr.aload_n rfl rfl ?_
  refine jr.getf (i := 0) (x := F) (v := .int (Int32.ofInt (F))) rfl rfl (by decide) rfl (by decide) rfl rfl g_F rfl ?_
  refine jr.if_eq rfl rfl (by omega) (fun h4 => ?_) (fun h4 => ?_)
  · refine jr.aload_n rfl rfl ?_
    refine jr.bipush rfl (by decide) ?_
    refine jr_v rfl rfl (Or.inl rfl) rfl rfl (by decide) rfl ⟨rfl, Nat.le_of_ble_eq_true rfl, Nat.le_of_ble_eq_true rfl⟩ rfl (jc.deep (c_Parser_isSign hC_M (by omega) (fun r4 z4  => ?_)) (by omega))
    refine jr.if_ne rfl rfl (by omega) (fun h14 => ?_) (fun h14 => ?_)
    · refine jr.aload_n rfl rfl ?_
      obtain ⟨v5, e5⟩ : ∃ z_, M 413 11 = z_ := ⟨_, rfl⟩
      have b5 : 0 ≤ v5 ∧ v5 ≤ 255 := by rw [← e5]; exact (CI.r hC_M (show kd 413 = 44 from rfl) (by decide) 11)
      refine jr.getf (i := 11) (x := v5) (v := .int (Int32.ofInt (v5))) rfl rfl (by decide) rfl (by decide) rfl rfl e5 rfl ?_
      refine jr.bipush rfl (by decide) ?_
      refine jr.icmp_ne rfl rfl (by omega) (by omega) (fun h32 => ?_) (fun h32 => ?_)
      · refine jr.sipush rfl (by decide) ?_
        refine jr.istore_n (ls' := [_, _, _]) rfl (by decide) rfl ?_
        refine jr.aload_n rfl rfl ?_
        refine jr_v rfl rfl (Or.inl rfl) rfl rfl (by decide) rfl ⟨rfl, Nat.le_of_ble_eq_true rfl, Nat.le_of_ble_eq_true rfl⟩ rfl (jc.deep (c_Parser_countNode hC_M (FR.rfl _ M)  p2 (fun M6 hC_M6 hf_M6 w6_0 => ?_)) (by omega))
        have ht_M6 : FR W_par T M6 := FR.t ht_M hf_M6 (kw_sub rfl)
        refine jr.aload_n rfl rfl ?_
        refine jr.aload_n rfl rfl ?_
        have e7 : M6 413 11 = v5 := (hf_M6.g (show kd 413 = 44 from rfl) rfl).trans e5
        refine jr.getf (i := 11) (x := v5) (v := .int (Int32.ofInt (v5))) rfl rfl (by decide) rfl (by decide) rfl rfl e7 rfl ?_
        refine jr.iload_n rfl rfl ?_
        have e9 : M6 413 3 = v1 := (hf_M6.g (show kd 413 = 44 from rfl) rfl).trans e1
        refine jr_v rfl rfl (Or.inl rfl) rfl rfl (by decide) rfl ⟨rfl, Nat.le_of_ble_eq_true rfl, Nat.le_of_ble_eq_true rfl⟩ rfl (jc.deep (c_Parser_open hC_M6 (FR.rfl _ M6) (by omega) (by omega) (by have hq0 : M6 413 3 = v1 := e9; omega) (fun M8 hC_M8 hf_M8 w8_0 => ?_)) (by omega))
        have ht_M8 : FR W_par T M8 := FR.t ht_M6 hf_M8 (kw_sub rfl)
        obtain ⟨v10, e10⟩ : ∃ z_, M8 413 0 = z_ := ⟨_, rfl⟩
        have b10 : (-2147483648) ≤ v10 ∧ v10 ≤ 2147483647 := by rw [← e10]; exact (CI.r hC_M8 (show kd 413 = 44 from rfl) (by decide) 0)
        refine jr.aload_n rfl rfl ?_
        refine jr.iload_n rfl rfl ?_
        refine jr.iconst rfl ?_
        refine jr.iadd rfl ?_
        have e12 : M8 413 3 = v1 := (hf_M8.g (show kd 413 = 44 from rfl) rfl).trans e9
        refine jr_v rfl rfl (Or.inl rfl) rfl rfl (by decide) rfl ⟨rfl, Nat.le_of_ble_eq_true rfl, Nat.le_of_ble_eq_true rfl⟩ rfl (jc.deep (ihP.2.1 hC_M8 (FR.rfl _ M8) (by omega) e10 (by have hq0 : M8 413 3 = v1 := e12; omega) (by have hq0 : M8 413 0 = v10 := e10; omega) (MP.fr w6_0 hC_M6 hf_M8 rfl) (by omega) (fun M11 hC_M11 hf_M11 w11_0 w11_1 => ?_)) (by omega))
        have ht_M11 : FR W_par T M11 := FR.t ht_M8 hf_M11 (kw_sub rfl)
        obtain ⟨v13, e13⟩ : ∃ z_, M11 413 0 = z_ := ⟨_, rfl⟩
        have b13 : (-2147483648) ≤ v13 ∧ v13 ≤ 2147483647 := by rw [← e13]; exact (CI.r hC_M11 (show kd 413 = 44 from rfl) (by decide) 0)
        refine jr.aload_n rfl rfl ?_
        obtain ⟨v14, e14⟩ : ∃ z_, M 413 2 = z_ := ⟨_, rfl⟩
        have b14 : 0 ≤ v14 ∧ v14 ≤ 597 := by rw [← e14]; exact (CI.r hC_M (show kd 413 = 44 from rfl) (by decide) 2)
        have e15 : M6 413 2 = v14 := (hf_M6.g (show kd 413 = 44 from rfl) rfl).trans e14
        have e16 : M8 413 2 = v14 := (hf_M8.g (show kd 413 = 44 from rfl) rfl).trans e15
        have e17 : M11 413 2 = v14 := (hf_M11.g (show kd 413 = 44 from rfl) rfl).trans e16
        have k18 : kd (v14).toNat = 47 := ((congrArg (fun z : Int => kd z.toNat) (show M11 413 2 = v14 from e17)).symm.trans (CI.x hC_M11 (show kd 413 = 44 from rfl) 2 rfl (by decide)))
        refine jr.getf (i := 2) (x := v14) (v := .ref (v14.toNat)) rfl rfl (by decide) rfl (by decide) rfl rfl e17 rfl ?_
        refine jr.iload_n rfl rfl ?_
        refine jr.iconst rfl ?_
        refine jr_v rfl rfl (Or.inl rfl) rfl rfl (Nat.lt_trans (kx_47 k18).1 (by decide)) (kx_47 k18).2 ⟨rfl, Nat.le_of_ble_eq_true rfl, Nat.le_of_ble_eq_true rfl⟩ rfl (jc.deep (c_Program_emit_m hC_M11 (FR.rfl _ M11) k18 (by omega) (by omega) (by have hq0 : M11 413 2 = v14 := e17; omega) w11_0 (fun r19 M19 hC_M19 hf_M19 z19 w19_0 => ?_)) (by omega))
        have ht_M19 : FR W_par T M19 := FR.t ht_M11 hf_M19 (kw_sub rfl)
        refine jr.pop rfl rfl ?_
        refine jr.goto rfl rfl ?_
        have e20 : M19 413 0 = v13 := (hf_M19.g (show kd 413 = 44 from rfl) rfl).trans e13
        exact jr.vreturn rfl rfl (q _ hC_M19 ht_M19  w19_0 (by have hq0 : M19 413 0 = v13 := e20; omega))
      · refine jr.sipush rfl (by decide) ?_
        refine jr.goto rfl rfl ?_
        refine jr.istore_n (ls' := [_, _, _]) rfl (by decide) rfl ?_
        refine jr.aload_n rfl rfl ?_
        refine jr_v rfl rfl (Or.inl rfl) rfl rfl (by decide) rfl ⟨rfl, Nat.le_of_ble_eq_true rfl, Nat.le_of_ble_eq_true rfl⟩ rfl (jc.deep (c_Parser_countNode hC_M (FR.rfl _ M)  p2 (fun M21 hC_M21 hf_M21 w21_0 => ?_)) (by omega))
        have ht_M21 : FR W_par T M21 := FR.t ht_M hf_M21 (kw_sub rfl)
        refine jr.aload_n rfl rfl ?_
        refine jr.aload_n rfl rfl ?_
        have e22 : M21 413 11 = v5 := (hf_M21.g (show kd 413 = 44 from rfl) rfl).trans e5
        refine jr.getf (i := 11) (x := v5) (v := .int (Int32.ofInt (v5))) rfl rfl (by decide) rfl (by decide) rfl rfl e22 rfl ?_
        refine jr.iload_n rfl rfl ?_
        have e24 : M21 413 3 = v1 := (hf_M21.g (show kd 413 = 44 from rfl) rfl).trans e1
        refine jr_v rfl rfl (Or.inl rfl) rfl rfl (by decide) rfl ⟨rfl, Nat.le_of_ble_eq_true rfl, Nat.le_of_ble_eq_true rfl⟩ rfl (jc.deep (c_Parser_open hC_M21 (FR.rfl _ M21) (by omega) (by omega) (by have hq0 : M21 413 3 = v1 := e24; omega) (fun M23 hC_M23 hf_M23 w23_0 => ?_)) (by omega))
        have ht_M23 : FR W_par T M23 := FR.t ht_M21 hf_M23 (kw_sub rfl)
        obtain ⟨v25, e25⟩ : ∃ z_, M23 413 0 = z_ := ⟨_, rfl⟩
        have b25 : (-2147483648) ≤ v25 ∧ v25 ≤ 2147483647 := by rw [← e25]; exact (CI.r hC_M23 (show kd 413 = 44 from rfl) (by decide) 0)
        refine jr.aload_n rfl rfl ?_
        refine jr.iload_n rfl rfl ?_
        refine jr.iconst rfl ?_
        refine jr.iadd rfl ?_
        have e27 : M23 413 3 = v1 := (hf_M23.g (show kd 413 = 44 from rfl) rfl).trans e24
        refine jr_v rfl rfl (Or.inl rfl) rfl rfl (by decide) rfl ⟨rfl, Nat.le_of_ble_eq_true rfl, Nat.le_of_ble_eq_true rfl⟩ rfl (jc.deep (ihP.2.1 hC_M23 (FR.rfl _ M23) (by omega) e25 (by have hq0 : M23 413 3 = v1 := e27; omega) (by have hq0 : M23 413 0 = v25 := e25; omega) (MP.fr w21_0 hC_M21 hf_M23 rfl) (by omega) (fun M26 hC_M26 hf_M26 w26_0 w26_1 => ?_)) (by omega))
        have ht_M26 : FR W_par T M26 := FR.t ht_M23 hf_M26 (kw_sub rfl)
        obtain ⟨v28, e28⟩ : ∃ z_, M26 413 0 = z_ := ⟨_, rfl⟩
        have b28 : (-2147483648) ≤ v28 ∧ v28 ≤ 2147483647 := by rw [← e28]; exact (CI.r hC_M26 (show kd 413 = 44 from rfl) (by decide) 0)
        refine jr.aload_n rfl rfl ?_
        obtain ⟨v29, e29⟩ : ∃ z_, M 413 2 = z_ := ⟨_, rfl⟩
        have b29 : 0 ≤ v29 ∧ v29 ≤ 597 := by rw [← e29]; exact (CI.r hC_M (show kd 413 = 44 from rfl) (by decide) 2)
        have e30 : M21 413 2 = v29 := (hf_M21.g (show kd 413 = 44 from rfl) rfl).trans e29
        have e31 : M23 413 2 = v29 := (hf_M23.g (show kd 413 = 44 from rfl) rfl).trans e30
        have e32 : M26 413 2 = v29 := (hf_M26.g (show kd 413 = 44 from rfl) rfl).trans e31
        have k33 : kd (v29).toNat = 47 := ((congrArg (fun z : Int => kd z.toNat) (show M26 413 2 = v29 from e32)).symm.trans (CI.x hC_M26 (show kd 413 = 44 from rfl) 2 rfl (by decide)))
        refine jr.getf (i := 2) (x := v29) (v := .ref (v29.toNat)) rfl rfl (by decide) rfl (by decide) rfl rfl e32 rfl ?_
        refine jr.iload_n rfl rfl ?_
        refine jr.iconst rfl ?_
        refine jr_v rfl rfl (Or.inl rfl) rfl rfl (Nat.lt_trans (kx_47 k33).1 (by decide)) (kx_47 k33).2 ⟨rfl, Nat.le_of_ble_eq_true rfl, Nat.le_of_ble_eq_true rfl⟩ rfl (jc.deep (c_Program_emit_m hC_M26 (FR.rfl _ M26) k33 (by omega) (by omega) (by have hq0 : M26 413 2 = v29 := e32; omega) w26_0 (fun r34 M34 hC_M34 hf_M34 z34 w34_0 => ?_)) (by omega))
        have ht_M34 : FR W_par T M34 := FR.t ht_M26 hf_M34 (kw_sub rfl)
        refine jr.pop rfl rfl ?_
        refine jr.goto rfl rfl ?_
        have e35 : M34 413 0 = v28 := (hf_M34.g (show kd 413 = 44 from rfl) rfl).trans e28
        exact jr.vreturn rfl rfl (q _ hC_M34 ht_M34  w34_0 (by have hq0 : M34 413 0 = v28 := e35; omega))
    · refine jr.aload_n rfl rfl ?_
      refine jr.bipush rfl (by decide) ?_
      refine jr_v rfl rfl (Or.inl rfl) rfl rfl (by decide) rfl ⟨rfl, Nat.le_of_ble_eq_true rfl, Nat.le_of_ble_eq_true rfl⟩ rfl (jc.deep (c_Parser_isSign hC_M (by omega) (fun r36 z36  => ?_)) (by omega))
      refine jr.if_eq rfl rfl (by omega) (fun h23 => ?_) (fun h23 => ?_)
      · refine jr.aload_n rfl rfl ?_
        refine jr.bipush rfl (by decide) ?_
        refine jr_v rfl rfl (Or.inl rfl) rfl rfl (by decide) rfl ⟨rfl, Nat.le_of_ble_eq_true rfl, Nat.le_of_ble_eq_true rfl⟩ rfl (jc.deep (c_Parser_isSign hC_M (by omega) (fun r37 z37  => ?_)) (by omega))
        refine jr.if_eq rfl rfl (by omega) (fun h84 => ?_) (fun h84 => ?_)
        · refine jr.aload_n rfl rfl ?_
          obtain ⟨v38, e38⟩ : ∃ z_, M 413 6 = z_ := ⟨_, rfl⟩
          have b38 : (-2147483648) ≤ v38 ∧ v38 ≤ 2147483647 := by rw [← e38]; exact (CI.r hC_M (show kd 413 = 44 from rfl) (by decide) 6)
          refine jr.getf (i := 6) (x := v38) (v := .int (Int32.ofInt (v38))) rfl rfl (by decide) rfl (by decide) rfl rfl e38 rfl ?_
          refine jr.iconst rfl ?_
          refine jr.icmp_ne rfl rfl (by omega) (by omega) (fun h116 => ?_) (fun h116 => ?_)
          · refine jr.aload_n rfl rfl ?_
            refine jr.getf (i := 6) (x := v38) (v := .int (Int32.ofInt (v38))) rfl rfl (by decide) rfl (by decide) rfl rfl e38 rfl ?_
            refine jr.iconst rfl ?_
            refine jr.icmp_ne rfl rfl (by omega) (by omega) (fun h167 => ?_) (fun h167 => ?_)
            · refine jr.aload_n rfl rfl ?_
              refine jr.iload_n rfl rfl ?_
              refine jr_v rfl rfl (Or.inl rfl) rfl rfl (by decide) rfl ⟨rfl, Nat.le_of_ble_eq_true rfl, Nat.le_of_ble_eq_true rfl⟩ rfl (jc.deep (ihP.1 hC_M (FR.rfl _ M) (by omega) (by have hq0 : M 413 3 = v1 := e1; omega) p2 (by omega) (fun M39 hC_M39 hf_M39 w39_0 => ?_)) (by omega))
              have ht_M39 : FR W_par T M39 := FR.t ht_M hf_M39 (kw_sub rfl)
              obtain ⟨v40, e40⟩ : ∃ z_, M39 413 0 = z_ := ⟨_, rfl⟩
              have b40 : (-2147483648) ≤ v40 ∧ v40 ≤ 2147483647 := by rw [← e40]; exact (CI.r hC_M39 (show kd 413 = 44 from rfl) (by decide) 0)
              exact jr.vreturn rfl rfl (q _ hC_M39 ht_M39  w39_0 (by have hq0 : M39 413 0 = v40 := e40; omega))
            · refine jr.aload_n rfl rfl ?_
              obtain ⟨v41, e41⟩ : ∃ z_, M 413 10 = z_ := ⟨_, rfl⟩
              have b41 : (-2147483648) ≤ v41 ∧ v41 ≤ 2147483647 := by rw [← e41]; exact (CI.r hC_M (show kd 413 = 44 from rfl) (by decide) 10)
              refine jr.getf (i := 10) (x := v41) (v := .int (Int32.ofInt (v41))) rfl rfl (by decide) rfl (by decide) rfl rfl e41 rfl ?_
              refine jr.bipush rfl (by decide) ?_
              refine jr.icmp_lt rfl rfl (by omega) (by omega) (fun h176 => ?_) (fun h176 => ?_)
              · refine jr.aload_n rfl rfl ?_
                refine jr.iload_n rfl rfl ?_
                refine jr_v rfl rfl (Or.inl rfl) rfl rfl (by decide) rfl ⟨rfl, Nat.le_of_ble_eq_true rfl, Nat.le_of_ble_eq_true rfl⟩ rfl (jc.deep (ihP.1 hC_M (FR.rfl _ M) (by omega) (by have hq0 : M 413 3 = v1 := e1; omega) p2 (by omega) (fun M42 hC_M42 hf_M42 w42_0 => ?_)) (by omega))
                have ht_M42 : FR W_par T M42 := FR.t ht_M hf_M42 (kw_sub rfl)
                obtain ⟨v43, e43⟩ : ∃ z_, M42 413 0 = z_ := ⟨_, rfl⟩
                have b43 : (-2147483648) ≤ v43 ∧ v43 ≤ 2147483647 := by rw [← e43]; exact (CI.r hC_M42 (show kd 413 = 44 from rfl) (by decide) 0)
                exact jr.vreturn rfl rfl (q _ hC_M42 ht_M42  w42_0 (by have hq0 : M42 413 0 = v43 := e43; omega))
              · refine jr.aload_n rfl rfl ?_
                refine jr_v rfl rfl (Or.inl rfl) rfl rfl (by decide) rfl ⟨rfl, Nat.le_of_ble_eq_true rfl, Nat.le_of_ble_eq_true rfl⟩ rfl (jc.deep (c_Parser_kindField hC_M (FR.rfl _ M)  (by have hq0 : M 413 3 = v1 := e1; omega) p2 (fun M44 hC_M44 hf_M44 w44_0 => ?_)) (by omega))
                have ht_M44 : FR W_par T M44 := FR.t ht_M hf_M44 (kw_sub rfl)
                refine jr.goto rfl rfl ?_
                obtain ⟨v45, e45⟩ : ∃ z_, M44 413 0 = z_ := ⟨_, rfl⟩
                have b45 : (-2147483648) ≤ v45 ∧ v45 ≤ 2147483647 := by rw [← e45]; exact (CI.r hC_M44 (show kd 413 = 44 from rfl) (by decide) 0)
                exact jr.vreturn rfl rfl (q _ hC_M44 ht_M44  w44_0 (by have hq0 : M44 413 0 = v45 := e45; omega))
          · refine jr.aload_n rfl rfl ?_
            refine jr_v rfl rfl (Or.inl rfl) rfl rfl (by decide) rfl ⟨rfl, Nat.le_of_ble_eq_true rfl, Nat.le_of_ble_eq_true rfl⟩ rfl (jc.deep (c_Parser_countNode hC_M (FR.rfl _ M)  p2 (fun M46 hC_M46 hf_M46 w46_0 => ?_)) (by omega))
            have ht_M46 : FR W_par T M46 := FR.t ht_M hf_M46 (kw_sub rfl)
            refine jr.aload_n rfl rfl ?_
            obtain ⟨v47, e47⟩ : ∃ z_, M 413 9 = z_ := ⟨_, rfl⟩
            have b47 : (-9223372036854775808) ≤ v47 ∧ v47 ≤ 9223372036854775807 := by rw [← e47]; exact (CI.r hC_M (show kd 413 = 44 from rfl) (by decide) 9)
            have e48 : M46 413 9 = v47 := (hf_M46.g (show kd 413 = 44 from rfl) rfl).trans e47
            refine jr.getf (i := 9) (x := v47) (v := .long (Int64.ofInt (v47))) rfl rfl (by decide) rfl (by decide) rfl rfl e48 rfl ?_
            refine jr.ldc2 (x := 4294967295) rfl rfl (by decide) ?_
            refine jr.lcmp_le rfl rfl rfl (by omega) (by omega) (fun h130 => ?_) (fun h130 => ?_)
            · refine jr.aload_n rfl rfl ?_
              obtain ⟨v49, e49⟩ : ∃ z_, M 413 2 = z_ := ⟨_, rfl⟩
              have b49 : 0 ≤ v49 ∧ v49 ≤ 597 := by rw [← e49]; exact (CI.r hC_M (show kd 413 = 44 from rfl) (by decide) 2)
              have e50 : M46 413 2 = v49 := (hf_M46.g (show kd 413 = 44 from rfl) rfl).trans e49
              have k51 : kd (v49).toNat = 47 := ((congrArg (fun z : Int => kd z.toNat) (show M46 413 2 = v49 from e50)).symm.trans (CI.x hC_M46 (show kd 413 = 44 from rfl) 2 rfl (by decide)))
              refine jr.getf (i := 2) (x := v49) (v := .ref (v49.toNat)) rfl rfl (by decide) rfl (by decide) rfl rfl e50 rfl ?_
              refine jr.bipush rfl (by decide) ?_
              refine jr.aload_n rfl rfl ?_
              refine jr.getf (i := 9) (x := v47) (v := .long (Int64.ofInt (v47))) rfl rfl (by decide) rfl (by decide) rfl rfl e48 rfl ?_
              refine jr.l2i rfl ?_
              refine jr.iw (j_w v47) (j_w_eq _) ?_
              have b52 : -2147483648 ≤ j_w v47 ∧ j_w v47 ≤ 2147483647 := jb_any _
              generalize j_w v47 = v52 at b52 ⊢
              refine jr_v rfl rfl (Or.inl rfl) rfl rfl (Nat.lt_trans (kx_47 k51).1 (by decide)) (kx_47 k51).2 ⟨rfl, Nat.le_of_ble_eq_true rfl, Nat.le_of_ble_eq_true rfl⟩ rfl (jc.deep (c_Program_emit_m hC_M46 (FR.rfl _ M46) k51 (by omega) (by omega) (by have hq0 : M46 413 2 = v49 := e50; omega) w46_0 (fun r53 M53 hC_M53 hf_M53 z53 w53_0 => ?_)) (by omega))
              have ht_M53 : FR W_par T M53 := FR.t ht_M46 hf_M53 (kw_sub rfl)
              refine jr.pop rfl rfl ?_
              refine jr.aload_n rfl rfl ?_
              have e55 : M46 413 3 = v1 := (hf_M46.g (show kd 413 = 44 from rfl) rfl).trans e1
              have e56 : M53 413 3 = v1 := (hf_M53.g (show kd 413 = 44 from rfl) rfl).trans e55
              refine jr_v rfl rfl (Or.inl rfl) rfl rfl (by decide) rfl ⟨rfl, Nat.le_of_ble_eq_true rfl, Nat.le_of_ble_eq_true rfl⟩ rfl (jc.deep (c_Parser_advance hC_M53 (FR.rfl _ M53)  (by have hq0 : M53 413 3 = v1 := e56; omega) (fun M54 hC_M54 hf_M54  => ?_)) (by omega))
              have ht_M54 : FR W_par T M54 := FR.t ht_M53 hf_M54 (kw_sub rfl)
              refine jr.goto rfl rfl ?_
              obtain ⟨v57, e57⟩ : ∃ z_, M46 413 0 = z_ := ⟨_, rfl⟩
              have b57 : (-2147483648) ≤ v57 ∧ v57 ≤ 2147483647 := by rw [← e57]; exact (CI.r hC_M46 (show kd 413 = 44 from rfl) (by decide) 0)
              have e58 : M53 413 0 = v57 := (hf_M53.g (show kd 413 = 44 from rfl) rfl).trans e57
              have e59 : M54 413 0 = v57 := (hf_M54.g (show kd 413 = 44 from rfl) rfl).trans e58
              exact jr.vreturn rfl rfl (q _ hC_M54 ht_M54  (MP.fr w53_0 hC_M53 hf_M54 rfl) (by have hq0 : M54 413 0 = v57 := e59; omega))
            · refine jr.aload_n rfl rfl ?_
              refine jr.bipush rfl (by decide) ?_
              refine jr_v rfl rfl (Or.inl rfl) rfl rfl (by decide) rfl ⟨rfl, Nat.le_of_ble_eq_true rfl, Nat.le_of_ble_eq_true rfl⟩ rfl (jc.deep (c_Parser_fail hC_M46 (FR.rfl _ M46) (by omega) (fun M60 hC_M60 hf_M60 w60_0 => ?_)) (by omega))
              have ht_M60 : FR W_par T M60 := FR.t ht_M46 hf_M60 (kw_sub rfl)
              obtain ⟨v61, e61⟩ : ∃ z_, M60 413 0 = z_ := ⟨_, rfl⟩
              have b61 : (-2147483648) ≤ v61 ∧ v61 ≤ 2147483647 := by rw [← e61]; exact (CI.r hC_M60 (show kd 413 = 44 from rfl) (by decide) 0)
              refine jr.aload_n rfl rfl ?_
              obtain ⟨v62, e62⟩ : ∃ z_, M 413 2 = z_ := ⟨_, rfl⟩
              have b62 : 0 ≤ v62 ∧ v62 ≤ 597 := by rw [← e62]; exact (CI.r hC_M (show kd 413 = 44 from rfl) (by decide) 2)
              have e63 : M46 413 2 = v62 := (hf_M46.g (show kd 413 = 44 from rfl) rfl).trans e62
              have e64 : M60 413 2 = v62 := (hf_M60.g (show kd 413 = 44 from rfl) rfl).trans e63
              have k65 : kd (v62).toNat = 47 := ((congrArg (fun z : Int => kd z.toNat) (show M60 413 2 = v62 from e64)).symm.trans (CI.x hC_M60 (show kd 413 = 44 from rfl) 2 rfl (by decide)))
              refine jr.getf (i := 2) (x := v62) (v := .ref (v62.toNat)) rfl rfl (by decide) rfl (by decide) rfl rfl e64 rfl ?_
              refine jr.bipush rfl (by decide) ?_
              refine jr.aload_n rfl rfl ?_
              have e66 : M60 413 9 = v47 := (hf_M60.g (show kd 413 = 44 from rfl) rfl).trans e48
              refine jr.getf (i := 9) (x := v47) (v := .long (Int64.ofInt (v47))) rfl rfl (by decide) rfl (by decide) rfl rfl e66 rfl ?_
              refine jr.l2i rfl ?_
              refine jr.iw (j_w v47) (j_w_eq _) ?_
              have b67 : -2147483648 ≤ j_w v47 ∧ j_w v47 ≤ 2147483647 := jb_any _
              generalize j_w v47 = v67 at b67 ⊢
              refine jr_v rfl rfl (Or.inl rfl) rfl rfl (Nat.lt_trans (kx_47 k65).1 (by decide)) (kx_47 k65).2 ⟨rfl, Nat.le_of_ble_eq_true rfl, Nat.le_of_ble_eq_true rfl⟩ rfl (jc.deep (c_Program_emit_m hC_M60 (FR.rfl _ M60) k65 (by omega) (by omega) (by have hq0 : M60 413 2 = v62 := e64; omega) (MP.fr w46_0 hC_M46 hf_M60 rfl) (fun r68 M68 hC_M68 hf_M68 z68 w68_0 => ?_)) (by omega))
              have ht_M68 : FR W_par T M68 := FR.t ht_M60 hf_M68 (kw_sub rfl)
              refine jr.pop rfl rfl ?_
              refine jr.aload_n rfl rfl ?_
              have e70 : M46 413 3 = v1 := (hf_M46.g (show kd 413 = 44 from rfl) rfl).trans e1
              have e71 : M60 413 3 = v1 := (hf_M60.g (show kd 413 = 44 from rfl) rfl).trans e70
              have e72 : M68 413 3 = v1 := (hf_M68.g (show kd 413 = 44 from rfl) rfl).trans e71
              refine jr_v rfl rfl (Or.inl rfl) rfl rfl (by decide) rfl ⟨rfl, Nat.le_of_ble_eq_true rfl, Nat.le_of_ble_eq_true rfl⟩ rfl (jc.deep (c_Parser_advance hC_M68 (FR.rfl _ M68)  (by have hq0 : M68 413 3 = v1 := e72; omega) (fun M69 hC_M69 hf_M69  => ?_)) (by omega))
              have ht_M69 : FR W_par T M69 := FR.t ht_M68 hf_M69 (kw_sub rfl)
              refine jr.goto rfl rfl ?_
              have e73 : M68 413 0 = v61 := (hf_M68.g (show kd 413 = 44 from rfl) rfl).trans e61
              have e74 : M69 413 0 = v61 := (hf_M69.g (show kd 413 = 44 from rfl) rfl).trans e73
              exact jr.vreturn rfl rfl (q _ hC_M69 ht_M69  (MP.fr w68_0 hC_M68 hf_M69 rfl) (by have hq0 : M69 413 0 = v61 := e74; omega))
        · refine jr.aload_n rfl rfl ?_
          refine jr.bipush rfl (by decide) ?_
          refine jr.iload_n rfl rfl ?_
          refine jr_v rfl rfl (Or.inl rfl) rfl rfl (by decide) rfl ⟨rfl, Nat.le_of_ble_eq_true rfl, Nat.le_of_ble_eq_true rfl⟩ rfl (jc.deep (c_Parser_open hC_M (FR.rfl _ M) (by omega) (by omega) (by have hq0 : M 413 3 = v1 := e1; omega) (fun M75 hC_M75 hf_M75 w75_0 => ?_)) (by omega))
          have ht_M75 : FR W_par T M75 := FR.t ht_M hf_M75 (kw_sub rfl)
          obtain ⟨v76, e76⟩ : ∃ z_, M75 413 0 = z_ := ⟨_, rfl⟩
          have b76 : (-2147483648) ≤ v76 ∧ v76 ≤ 2147483647 := by rw [← e76]; exact (CI.r hC_M75 (show kd 413 = 44 from rfl) (by decide) 0)
          refine jr.aload_n rfl rfl ?_
          refine jr.iconst rfl ?_
          refine jr.iload_n rfl rfl ?_
          refine jr.iconst rfl ?_
          refine jr.iadd rfl ?_
          have e78 : M75 413 3 = v1 := (hf_M75.g (show kd 413 = 44 from rfl) rfl).trans e1
          refine jr_v rfl rfl (Or.inl rfl) rfl rfl (by decide) rfl ⟨rfl, Nat.le_of_ble_eq_true rfl, Nat.le_of_ble_eq_true rfl⟩ rfl (jc.deep (ihP.2.2.1 hC_M75 (FR.rfl _ M75) (by omega) (by omega) e76 (by have hq0 : M75 413 3 = v1 := e78; omega) (by have hq0 : M75 413 0 = v76 := e76; omega) (MP.fr p2 hC_M hf_M75 rfl) (by omega) (fun M77 hC_M77 hf_M77 w77_0 w77_1 => ?_)) (by omega))
          have ht_M77 : FR W_par T M77 := FR.t ht_M75 hf_M77 (kw_sub rfl)
          obtain ⟨v79, e79⟩ : ∃ z_, M77 413 0 = z_ := ⟨_, rfl⟩
          have b79 : (-2147483648) ≤ v79 ∧ v79 ≤ 2147483647 := by rw [← e79]; exact (CI.r hC_M77 (show kd 413 = 44 from rfl) (by decide) 0)
          refine jr.aload_n rfl rfl ?_
          refine jr.bipush rfl (by decide) ?_
          have e81 : M77 413 3 = v1 := (hf_M77.g (show kd 413 = 44 from rfl) rfl).trans e78
          refine jr_v rfl rfl (Or.inl rfl) rfl rfl (by decide) rfl ⟨rfl, Nat.le_of_ble_eq_true rfl, Nat.le_of_ble_eq_true rfl⟩ rfl (jc.deep (c_Parser_expect hC_M77 (FR.rfl _ M77) (by omega) (by have hq0 : M77 413 3 = v1 := e81; omega) (fun M80 hC_M80 hf_M80  => ?_)) (by omega))
          have ht_M80 : FR W_par T M80 := FR.t ht_M77 hf_M80 (kw_sub rfl)
          refine jr.goto rfl rfl ?_
          obtain ⟨v82, e82⟩ : ∃ z_, M80 413 0 = z_ := ⟨_, rfl⟩
          have b82 : (-2147483648) ≤ v82 ∧ v82 ≤ 2147483647 := by rw [← e82]; exact (CI.r hC_M80 (show kd 413 = 44 from rfl) (by decide) 0)
          exact jr.vreturn rfl rfl (q _ hC_M80 ht_M80  (MP.fr w77_0 hC_M77 hf_M80 rfl) (by have hq0 : M80 413 0 = v82 := e82; omega))
      · refine jr.aload_n rfl rfl ?_
        obtain ⟨v83, e83⟩ : ∃ z_, M 413 11 = z_ := ⟨_, rfl⟩
        have b83 : 0 ≤ v83 ∧ v83 ≤ 255 := by rw [← e83]; exact (CI.r hC_M (show kd 413 = 44 from rfl) (by decide) 11)
        refine jr.getf (i := 11) (x := v83) (v := .int (Int32.ofInt (v83))) rfl rfl (by decide) rfl (by decide) rfl rfl e83 rfl ?_
        refine jr.bipush rfl (by decide) ?_
        refine jr.icmp_ne rfl rfl (by omega) (by omega) (fun h32 => ?_) (fun h32 => ?_)
        · refine jr.sipush rfl (by decide) ?_
          refine jr.istore_n (ls' := [_, _, _]) rfl (by decide) rfl ?_
          refine jr.aload_n rfl rfl ?_
          refine jr_v rfl rfl (Or.inl rfl) rfl rfl (by decide) rfl ⟨rfl, Nat.le_of_ble_eq_true rfl, Nat.le_of_ble_eq_true rfl⟩ rfl (jc.deep (c_Parser_countNode hC_M (FR.rfl _ M)  p2 (fun M84 hC_M84 hf_M84 w84_0 => ?_)) (by omega))
          have ht_M84 : FR W_par T M84 := FR.t ht_M hf_M84 (kw_sub rfl)
          refine jr.aload_n rfl rfl ?_
          refine jr.aload_n rfl rfl ?_
          have e85 : M84 413 11 = v83 := (hf_M84.g (show kd 413 = 44 from rfl) rfl).trans e83
          refine jr.getf (i := 11) (x := v83) (v := .int (Int32.ofInt (v83))) rfl rfl (by decide) rfl (by decide) rfl rfl e85 rfl ?_
          refine jr.iload_n rfl rfl ?_
          have e87 : M84 413 3 = v1 := (hf_M84.g (show kd 413 = 44 from rfl) rfl).trans e1
          refine jr_v rfl rfl (Or.inl rfl) rfl rfl (by decide) rfl ⟨rfl, Nat.le_of_ble_eq_true rfl, Nat.le_of_ble_eq_true rfl⟩ rfl (jc.deep (c_Parser_open hC_M84 (FR.rfl _ M84) (by omega) (by omega) (by have hq0 : M84 413 3 = v1 := e87; omega) (fun M86 hC_M86 hf_M86 w86_0 => ?_)) (by omega))
          have ht_M86 : FR W_par T M86 := FR.t ht_M84 hf_M86 (kw_sub rfl)
          obtain ⟨v88, e88⟩ : ∃ z_, M86 413 0 = z_ := ⟨_, rfl⟩
          have b88 : (-2147483648) ≤ v88 ∧ v88 ≤ 2147483647 := by rw [← e88]; exact (CI.r hC_M86 (show kd 413 = 44 from rfl) (by decide) 0)
          refine jr.aload_n rfl rfl ?_
          refine jr.iload_n rfl rfl ?_
          refine jr.iconst rfl ?_
          refine jr.iadd rfl ?_
          have e90 : M86 413 3 = v1 := (hf_M86.g (show kd 413 = 44 from rfl) rfl).trans e87
          refine jr_v rfl rfl (Or.inl rfl) rfl rfl (by decide) rfl ⟨rfl, Nat.le_of_ble_eq_true rfl, Nat.le_of_ble_eq_true rfl⟩ rfl (jc.deep (ihP.2.1 hC_M86 (FR.rfl _ M86) (by omega) e88 (by have hq0 : M86 413 3 = v1 := e90; omega) (by have hq0 : M86 413 0 = v88 := e88; omega) (MP.fr w84_0 hC_M84 hf_M86 rfl) (by omega) (fun M89 hC_M89 hf_M89 w89_0 w89_1 => ?_)) (by omega))
          have ht_M89 : FR W_par T M89 := FR.t ht_M86 hf_M89 (kw_sub rfl)
          obtain ⟨v91, e91⟩ : ∃ z_, M89 413 0 = z_ := ⟨_, rfl⟩
          have b91 : (-2147483648) ≤ v91 ∧ v91 ≤ 2147483647 := by rw [← e91]; exact (CI.r hC_M89 (show kd 413 = 44 from rfl) (by decide) 0)
          refine jr.aload_n rfl rfl ?_
          obtain ⟨v92, e92⟩ : ∃ z_, M 413 2 = z_ := ⟨_, rfl⟩
          have b92 : 0 ≤ v92 ∧ v92 ≤ 597 := by rw [← e92]; exact (CI.r hC_M (show kd 413 = 44 from rfl) (by decide) 2)
          have e93 : M84 413 2 = v92 := (hf_M84.g (show kd 413 = 44 from rfl) rfl).trans e92
          have e94 : M86 413 2 = v92 := (hf_M86.g (show kd 413 = 44 from rfl) rfl).trans e93
          have e95 : M89 413 2 = v92 := (hf_M89.g (show kd 413 = 44 from rfl) rfl).trans e94
          have k96 : kd (v92).toNat = 47 := ((congrArg (fun z : Int => kd z.toNat) (show M89 413 2 = v92 from e95)).symm.trans (CI.x hC_M89 (show kd 413 = 44 from rfl) 2 rfl (by decide)))
          refine jr.getf (i := 2) (x := v92) (v := .ref (v92.toNat)) rfl rfl (by decide) rfl (by decide) rfl rfl e95 rfl ?_
          refine jr.iload_n rfl rfl ?_
          refine jr.iconst rfl ?_
          refine jr_v rfl rfl (Or.inl rfl) rfl rfl (Nat.lt_trans (kx_47 k96).1 (by decide)) (kx_47 k96).2 ⟨rfl, Nat.le_of_ble_eq_true rfl, Nat.le_of_ble_eq_true rfl⟩ rfl (jc.deep (c_Program_emit_m hC_M89 (FR.rfl _ M89) k96 (by omega) (by omega) (by have hq0 : M89 413 2 = v92 := e95; omega) w89_0 (fun r97 M97 hC_M97 hf_M97 z97 w97_0 => ?_)) (by omega))
          have ht_M97 : FR W_par T M97 := FR.t ht_M89 hf_M97 (kw_sub rfl)
          refine jr.pop rfl rfl ?_
          refine jr.goto rfl rfl ?_
          have e98 : M97 413 0 = v91 := (hf_M97.g (show kd 413 = 44 from rfl) rfl).trans e91
          exact jr.vreturn rfl rfl (q _ hC_M97 ht_M97  w97_0 (by have hq0 : M97 413 0 = v91 := e98; omega))
        · refine jr.sipush rfl (by decide) ?_
          refine jr.goto rfl rfl ?_
          refine jr.istore_n (ls' := [_, _, _]) rfl (by decide) rfl ?_
          refine jr.aload_n rfl rfl ?_
          refine jr_v rfl rfl (Or.inl rfl) rfl rfl (by decide) rfl ⟨rfl, Nat.le_of_ble_eq_true rfl, Nat.le_of_ble_eq_true rfl⟩ rfl (jc.deep (c_Parser_countNode hC_M (FR.rfl _ M)  p2 (fun M99 hC_M99 hf_M99 w99_0 => ?_)) (by omega))
          have ht_M99 : FR W_par T M99 := FR.t ht_M hf_M99 (kw_sub rfl)
          refine jr.aload_n rfl rfl ?_
          refine jr.aload_n rfl rfl ?_
          have e100 : M99 413 11 = v83 := (hf_M99.g (show kd 413 = 44 from rfl) rfl).trans e83
          refine jr.getf (i := 11) (x := v83) (v := .int (Int32.ofInt (v83))) rfl rfl (by decide) rfl (by decide) rfl rfl e100 rfl ?_
          refine jr.iload_n rfl rfl ?_
          have e102 : M99 413 3 = v1 := (hf_M99.g (show kd 413 = 44 from rfl) rfl).trans e1
          refine jr_v rfl rfl (Or.inl rfl) rfl rfl (by decide) rfl ⟨rfl, Nat.le_of_ble_eq_true rfl, Nat.le_of_ble_eq_true rfl⟩ rfl (jc.deep (c_Parser_open hC_M99 (FR.rfl _ M99) (by omega) (by omega) (by have hq0 : M99 413 3 = v1 := e102; omega) (fun M101 hC_M101 hf_M101 w101_0 => ?_)) (by omega))
          have ht_M101 : FR W_par T M101 := FR.t ht_M99 hf_M101 (kw_sub rfl)
          obtain ⟨v103, e103⟩ : ∃ z_, M101 413 0 = z_ := ⟨_, rfl⟩
          have b103 : (-2147483648) ≤ v103 ∧ v103 ≤ 2147483647 := by rw [← e103]; exact (CI.r hC_M101 (show kd 413 = 44 from rfl) (by decide) 0)
          refine jr.aload_n rfl rfl ?_
          refine jr.iload_n rfl rfl ?_
          refine jr.iconst rfl ?_
          refine jr.iadd rfl ?_
          have e105 : M101 413 3 = v1 := (hf_M101.g (show kd 413 = 44 from rfl) rfl).trans e102
          refine jr_v rfl rfl (Or.inl rfl) rfl rfl (by decide) rfl ⟨rfl, Nat.le_of_ble_eq_true rfl, Nat.le_of_ble_eq_true rfl⟩ rfl (jc.deep (ihP.2.1 hC_M101 (FR.rfl _ M101) (by omega) e103 (by have hq0 : M101 413 3 = v1 := e105; omega) (by have hq0 : M101 413 0 = v103 := e103; omega) (MP.fr w99_0 hC_M99 hf_M101 rfl) (by omega) (fun M104 hC_M104 hf_M104 w104_0 w104_1 => ?_)) (by omega))
          have ht_M104 : FR W_par T M104 := FR.t ht_M101 hf_M104 (kw_sub rfl)
          obtain ⟨v106, e106⟩ : ∃ z_, M104 413 0 = z_ := ⟨_, rfl⟩
          have b106 : (-2147483648) ≤ v106 ∧ v106 ≤ 2147483647 := by rw [← e106]; exact (CI.r hC_M104 (show kd 413 = 44 from rfl) (by decide) 0)
          refine jr.aload_n rfl rfl ?_
          obtain ⟨v107, e107⟩ : ∃ z_, M 413 2 = z_ := ⟨_, rfl⟩
          have b107 : 0 ≤ v107 ∧ v107 ≤ 597 := by rw [← e107]; exact (CI.r hC_M (show kd 413 = 44 from rfl) (by decide) 2)
          have e108 : M99 413 2 = v107 := (hf_M99.g (show kd 413 = 44 from rfl) rfl).trans e107
          have e109 : M101 413 2 = v107 := (hf_M101.g (show kd 413 = 44 from rfl) rfl).trans e108
          have e110 : M104 413 2 = v107 := (hf_M104.g (show kd 413 = 44 from rfl) rfl).trans e109
          have k111 : kd (v107).toNat = 47 := ((congrArg (fun z : Int => kd z.toNat) (show M104 413 2 = v107 from e110)).symm.trans (CI.x hC_M104 (show kd 413 = 44 from rfl) 2 rfl (by decide)))
          refine jr.getf (i := 2) (x := v107) (v := .ref (v107.toNat)) rfl rfl (by decide) rfl (by decide) rfl rfl e110 rfl ?_
          refine jr.iload_n rfl rfl ?_
          refine jr.iconst rfl ?_
          refine jr_v rfl rfl (Or.inl rfl) rfl rfl (Nat.lt_trans (kx_47 k111).1 (by decide)) (kx_47 k111).2 ⟨rfl, Nat.le_of_ble_eq_true rfl, Nat.le_of_ble_eq_true rfl⟩ rfl (jc.deep (c_Program_emit_m hC_M104 (FR.rfl _ M104) k111 (by omega) (by omega) (by have hq0 : M104 413 2 = v107 := e110; omega) w104_0 (fun r112 M112 hC_M112 hf_M112 z112 w112_0 => ?_)) (by omega))
          have ht_M112 : FR W_par T M112 := FR.t ht_M104 hf_M112 (kw_sub rfl)
          refine jr.pop rfl rfl ?_
          refine jr.goto rfl rfl ?_
          have e113 : M112 413 0 = v106 := (hf_M112.g (show kd 413 = 44 from rfl) rfl).trans e106
          exact jr.vreturn rfl rfl (q _ hC_M112 ht_M112  w112_0 (by have hq0 : M112 413 0 = v106 := e113; omega))
  · exact jr.vreturn rfl rfl (q _ hC_M ht_M  p2 (by have hq0 : M 413 0 = F := g_F; omega))
