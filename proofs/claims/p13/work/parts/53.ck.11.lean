theorem c_Parser_deed {A : Nat → Option (Nat × (Nat → Int32))} [HA A] {n : Nat} (ihP : PX A n) : PX_deed A (n + 1) := by
  intro Q G T M hC_M ht_M x h_x y h_y  p0 p1 p2 q
  refine jc_of (m := xm_199) rfl (Nat.le_of_ble_eq_true rfl) rfl ?_
  obtain ⟨v1, e1⟩ : ∃ z_, M 413 3 = z_ := ⟨_, rfl⟩
  have b1 : 1 ≤ v1 ∧ v1 ≤ 419 := by rw [← e1]; exact (CI.r hC_M (show kd 413 = 44 from rfl) (by decide) 3)
  have b2 : 1 ≤ v1 ∧ v1 ≤ 1 := by rw [← e1]; exact p0
  refine jr.aload_n rfl rfl ?_
  obtain ⟨v3, e3⟩ : ∃ z_, M 413 6 = z_ := ⟨_, rfl⟩
  have b3 : (-2147483648) ≤ v3 ∧ v3 ≤ 2147483647 := by rw [← e3]; exact (CI.r hC_M (show kd 413 = 44 from rfl) (by decide) 6)
  refine jr.getf (i := 6) (x := v3) (v := .int (Int32.ofInt (v3))) rfl rfl (by decide) rfl (by decide) rfl rfl e3 rfl ?_
  refine jr.iconst rfl ?_
  refine jr.icmp_ne rfl rfl (by omega) (by omega) (fun h5 => ?_) (fun h5 => ?_)
  · refine jr.iconst rfl ?_
    refine jr.istore_n (ls' := [_, _, _, _]) rfl (by decide) rfl ?_
    refine jr.iload_n rfl rfl ?_
    refine jr.iconst rfl ?_
    refine jr.icmp_lt rfl rfl (by omega) (by omega) (fun _ => ?_) (fun h => absurd (by decide) h)
    refine jr.aload_n rfl rfl ?_
    refine jr_v rfl rfl (Or.inl rfl) rfl rfl (by decide) rfl ⟨rfl, Nat.le_of_ble_eq_true rfl, Nat.le_of_ble_eq_true rfl⟩ rfl (jc.deep (c_Parser_refuse hC_M (FR.rfl _ M)  (fun M4 hC_M4 hf_M4 w4_0 => ?_)) (by omega))
    have ht_M4 : FR W_par T M4 := FR.t ht_M hf_M4 (kw_sub rfl)
    obtain ⟨v5, e5⟩ : ∃ z_, M4 413 0 = z_ := ⟨_, rfl⟩
    have b5 : (-2147483648) ≤ v5 ∧ v5 ≤ 2147483647 := by rw [← e5]; exact (CI.r hC_M4 (show kd 413 = 44 from rfl) (by decide) 0)
    exact jr.vreturn rfl rfl (q _ hC_M4 ht_M4  (MP.fr p1 hC_M hf_M4 rfl))
  · refine jr.aload_n rfl rfl ?_
    obtain ⟨v6, e6⟩ : ∃ z_, M 413 10 = z_ := ⟨_, rfl⟩
    have b6 : (-2147483648) ≤ v6 ∧ v6 ≤ 2147483647 := by rw [← e6]; exact (CI.r hC_M (show kd 413 = 44 from rfl) (by decide) 10)
    refine jr.getf (i := 10) (x := v6) (v := .int (Int32.ofInt (v6))) rfl rfl (by decide) rfl (by decide) rfl rfl e6 rfl ?_
    refine jr.goto rfl rfl ?_
    refine jr.istore_n (ls' := [_, _, _, _]) rfl (by decide) rfl ?_
    refine jr.iload_n rfl rfl ?_
    refine jr.iconst rfl ?_
    refine jr.icmp_lt rfl rfl (by omega) (by omega) (fun h19 => ?_) (fun h19 => ?_)
    · refine jr.aload_n rfl rfl ?_
      refine jr_v rfl rfl (Or.inl rfl) rfl rfl (by decide) rfl ⟨rfl, Nat.le_of_ble_eq_true rfl, Nat.le_of_ble_eq_true rfl⟩ rfl (jc.deep (c_Parser_refuse hC_M (FR.rfl _ M)  (fun M7 hC_M7 hf_M7 w7_0 => ?_)) (by omega))
      have ht_M7 : FR W_par T M7 := FR.t ht_M hf_M7 (kw_sub rfl)
      obtain ⟨v8, e8⟩ : ∃ z_, M7 413 0 = z_ := ⟨_, rfl⟩
      have b8 : (-2147483648) ≤ v8 ∧ v8 ≤ 2147483647 := by rw [← e8]; exact (CI.r hC_M7 (show kd 413 = 44 from rfl) (by decide) 0)
      exact jr.vreturn rfl rfl (q _ hC_M7 ht_M7  (MP.fr p1 hC_M hf_M7 rfl))
    · refine jr.iload_n rfl rfl ?_
      refine jr.bipush rfl (by decide) ?_
      refine jr.icmp_gt rfl rfl (by omega) (by omega) (fun h25 => ?_) (fun h25 => ?_)
      · refine jr.aload_n rfl rfl ?_
        refine jr_v rfl rfl (Or.inl rfl) rfl rfl (by decide) rfl ⟨rfl, Nat.le_of_ble_eq_true rfl, Nat.le_of_ble_eq_true rfl⟩ rfl (jc.deep (c_Parser_refuse hC_M (FR.rfl _ M)  (fun M9 hC_M9 hf_M9 w9_0 => ?_)) (by omega))
        have ht_M9 : FR W_par T M9 := FR.t ht_M hf_M9 (kw_sub rfl)
        obtain ⟨v10, e10⟩ : ∃ z_, M9 413 0 = z_ := ⟨_, rfl⟩
        have b10 : (-2147483648) ≤ v10 ∧ v10 ≤ 2147483647 := by rw [← e10]; exact (CI.r hC_M9 (show kd 413 = 44 from rfl) (by decide) 0)
        exact jr.vreturn rfl rfl (q _ hC_M9 ht_M9  (MP.fr p1 hC_M hf_M9 rfl))
      · refine jr.iload_n rfl rfl ?_
        refine jr.if_eq rfl rfl (by omega) (fun h29 => ?_) (fun h29 => ?_)
        · refine jr.aload_n rfl rfl ?_
          refine jr_v rfl rfl (Or.inl rfl) rfl rfl (by decide) rfl ⟨rfl, Nat.le_of_ble_eq_true rfl, Nat.le_of_ble_eq_true rfl⟩ rfl (jc.deep (c_Parser_countNode hC_M (FR.rfl _ M)  p1 (fun M11 hC_M11 hf_M11 w11_0 => ?_)) (by omega))
          have ht_M11 : FR W_par T M11 := FR.t ht_M hf_M11 (kw_sub rfl)
          refine jr.aload_n rfl rfl ?_
          obtain ⟨v12, e12⟩ : ∃ z_, M 413 2 = z_ := ⟨_, rfl⟩
          have b12 : 0 ≤ v12 ∧ v12 ≤ 597 := by rw [← e12]; exact (CI.r hC_M (show kd 413 = 44 from rfl) (by decide) 2)
          have e13 : M11 413 2 = v12 := (hf_M11.g (show kd 413 = 44 from rfl) rfl).trans e12
          have k14 : kd (v12).toNat = 47 := ((congrArg (fun z : Int => kd z.toNat) (show M11 413 2 = v12 from e13)).symm.trans (CI.x hC_M11 (show kd 413 = 44 from rfl) 2 rfl (by decide)))
          refine jr.getf (i := 2) (x := v12) (v := .ref (v12.toNat)) rfl rfl (by decide) rfl (by decide) rfl rfl e13 rfl ?_
          refine jr.bipush rfl (by decide) ?_
          refine jr.iconst rfl ?_
          refine jr_v rfl rfl (Or.inl rfl) rfl rfl (Nat.lt_trans (kx_47 k14).1 (by decide)) (kx_47 k14).2 ⟨rfl, Nat.le_of_ble_eq_true rfl, Nat.le_of_ble_eq_true rfl⟩ rfl (jc.deep (c_Program_emit_m hC_M11 (FR.rfl _ M11) k14 (by omega) (by omega) (by have hq0 : M11 413 2 = v12 := e13; omega) w11_0 (fun r15 M15 hC_M15 hf_M15 z15 w15_0 => ?_)) (by omega))
          have ht_M15 : FR W_par T M15 := FR.t ht_M11 hf_M15 (kw_sub rfl)
          refine jr.pop rfl rfl ?_
          refine jr.aload_n rfl rfl ?_
          have e17 : M11 413 3 = v1 := (hf_M11.g (show kd 413 = 44 from rfl) rfl).trans e1
          have e18 : M15 413 3 = v1 := (hf_M15.g (show kd 413 = 44 from rfl) rfl).trans e17
          refine jr_v rfl rfl (Or.inl rfl) rfl rfl (by decide) rfl ⟨rfl, Nat.le_of_ble_eq_true rfl, Nat.le_of_ble_eq_true rfl⟩ rfl (jc.deep (c_Parser_advance hC_M15 (FR.rfl _ M15)  (by have hq0 : M15 413 3 = v1 := e18; omega) (fun M16 hC_M16 hf_M16  => ?_)) (by omega))
          have ht_M16 : FR W_par T M16 := FR.t ht_M15 hf_M16 (kw_sub rfl)
          refine jr.iload_n rfl rfl ?_
          refine jr.iconst rfl ?_
          refine jr.icmp_ne rfl rfl (by omega) (by omega) (fun h69 => ?_) (fun h69 => ?_)
          · have sx69 : (4 : Int) ≤ v6 := by omega
            clear h69
            refine jr.iconst rfl ?_
            refine jr.istore (ls' := [_, _, _, _, _]) rfl (by decide) rfl ?_
            refine jr.iload_n rfl rfl ?_
            refine jr.bipush rfl (by decide) ?_
            refine jr.icmp_eq rfl rfl (by omega) (by omega) (fun h85 => ?_) (fun h85 => ?_)
            · refine jr.aload_n rfl rfl ?_
              obtain ⟨v19, e19⟩ : ∃ z_, M16 413 7 = z_ := ⟨_, rfl⟩
              have b19 : 0 ≤ v19 ∧ v19 ≤ 1600 := by rw [← e19]; exact (CI.r hC_M16 (show kd 413 = 44 from rfl) (by decide) 7)
              refine jr.getf (i := 7) (x := v19) (v := .int (Int32.ofInt (v19))) rfl rfl (by decide) rfl (by decide) rfl rfl e19 rfl ?_
              refine jr.istore (ls' := [_, _, _, _, _]) rfl (by decide) rfl ?_
              refine jr.aload_n rfl rfl ?_
              have e21 : M16 413 3 = v1 := (hf_M16.g (show kd 413 = 44 from rfl) rfl).trans e18
              refine jr_v rfl rfl (Or.inl rfl) rfl rfl (by decide) rfl ⟨rfl, Nat.le_of_ble_eq_true rfl, Nat.le_of_ble_eq_true rfl⟩ rfl (jc.deep (c_Parser_expectName hC_M16 (FR.rfl _ M16)  (by have hq0 : M16 413 3 = v1 := e21; omega) (fun M20 hC_M20 hf_M20  => ?_)) (by omega))
              have ht_M20 : FR W_par T M20 := FR.t ht_M16 hf_M20 (kw_sub rfl)
              refine jr.aload_n rfl rfl ?_
              refine jr.iload_n rfl rfl ?_
              refine jr_s rfl rfl (Or.inl rfl) ⟨Nat.le_of_ble_eq_true rfl, Nat.le_of_ble_eq_true rfl⟩ rfl rfl (jc.deep (c_Parser_expsOf hC_M20 (by omega) (fun r22 z22  => ?_)) (by omega))
              refine jr.iload_n rfl rfl ?_
              have e24 : M20 413 3 = v1 := (hf_M20.g (show kd 413 = 44 from rfl) rfl).trans e21
              obtain ⟨v25, e25⟩ : ∃ z_, M20 413 0 = z_ := ⟨_, rfl⟩
              have b25 : (-2147483648) ≤ v25 ∧ v25 ≤ 2147483647 := by rw [← e25]; exact (CI.r hC_M20 (show kd 413 = 44 from rfl) (by decide) 0)
              refine jr_v rfl rfl (Or.inl rfl) rfl rfl (by decide) rfl ⟨rfl, Nat.le_of_ble_eq_true rfl, Nat.le_of_ble_eq_true rfl⟩ rfl (jc.deep (ihP.2.2.2.1 hC_M20 (FR.rfl _ M20) (by omega) (by omega) (by have hq0 : M20 413 3 = v1 := e24; omega) (by have hq0 : M20 413 0 = v25 := e25; omega) (MP.fr (MP.fr w15_0 hC_M15 hf_M16 rfl) hC_M16 hf_M20 rfl) (by omega) (fun M23 hC_M23 hf_M23 w23_0 => ?_)) (by omega))
              have ht_M23 : FR W_par T M23 := FR.t ht_M20 hf_M23 (kw_sub rfl)
              refine jr.aload_n rfl rfl ?_
              have e26 : M15 413 2 = v12 := (hf_M15.g (show kd 413 = 44 from rfl) rfl).trans e13
              have e27 : M16 413 2 = v12 := (hf_M16.g (show kd 413 = 44 from rfl) rfl).trans e26
              have e28 : M20 413 2 = v12 := (hf_M20.g (show kd 413 = 44 from rfl) rfl).trans e27
              have e29 : M23 413 2 = v12 := (hf_M23.g (show kd 413 = 44 from rfl) rfl).trans e28
              have k30 : kd (v12).toNat = 47 := ((congrArg (fun z : Int => kd z.toNat) (show M23 413 2 = v12 from e29)).symm.trans (CI.x hC_M23 (show kd 413 = 44 from rfl) 2 rfl (by decide)))
              refine jr.getf (i := 2) (x := v12) (v := .ref (v12.toNat)) rfl rfl (by decide) rfl (by decide) rfl rfl e29 rfl ?_
              refine jr.iload_n rfl rfl ?_
              refine jr.iload rfl rfl ?_
              refine jr_v rfl rfl (Or.inl rfl) rfl rfl (Nat.lt_trans (kx_47 k30).1 (by decide)) (kx_47 k30).2 ⟨rfl, Nat.le_of_ble_eq_true rfl, Nat.le_of_ble_eq_true rfl⟩ rfl (jc.deep (c_Program_emit_m hC_M23 (FR.rfl _ M23) k30 (by omega) (by omega) (by have hq0 : M23 413 2 = v12 := e29; omega) w23_0 (fun r31 M31 hC_M31 hf_M31 z31 w31_0 => ?_)) (by omega))
              have ht_M31 : FR W_par T M31 := FR.t ht_M23 hf_M31 (kw_sub rfl)
              refine jr.pop rfl rfl ?_
              refine jr.aload_n rfl rfl ?_
              refine jr.bipush rfl (by decide) ?_
              have e33 : M23 413 3 = v1 := (hf_M23.g (show kd 413 = 44 from rfl) rfl).trans e24
              have e34 : M31 413 3 = v1 := (hf_M31.g (show kd 413 = 44 from rfl) rfl).trans e33
              refine jr_v rfl rfl (Or.inl rfl) rfl rfl (by decide) rfl ⟨rfl, Nat.le_of_ble_eq_true rfl, Nat.le_of_ble_eq_true rfl⟩ rfl (jc.deep (c_Parser_expect hC_M31 (FR.rfl _ M31) (by omega) (by have hq0 : M31 413 3 = v1 := e34; omega) (fun M32 hC_M32 hf_M32  => ?_)) (by omega))
              have ht_M32 : FR W_par T M32 := FR.t ht_M31 hf_M32 (kw_sub rfl)
              exact jr.vreturn rfl rfl (q _ hC_M32 ht_M32  (MP.fr w31_0 hC_M31 hf_M32 rfl))
            · refine jr.iload_n rfl rfl ?_
              refine jr.bipush rfl (by decide) ?_
              refine jr.icmp_ne rfl rfl (by omega) (by omega) (fun h91 => ?_) (fun h91 => ?_)
              · refine jr.aload_n rfl rfl ?_
                refine jr.iload_n rfl rfl ?_
                refine jr_s rfl rfl (Or.inl rfl) ⟨Nat.le_of_ble_eq_true rfl, Nat.le_of_ble_eq_true rfl⟩ rfl rfl (jc.deep (c_Parser_expsOf hC_M16 (by omega) (fun r35 z35  => ?_)) (by omega))
                refine jr.iload_n rfl rfl ?_
                have e37 : M16 413 3 = v1 := (hf_M16.g (show kd 413 = 44 from rfl) rfl).trans e18
                obtain ⟨v38, e38⟩ : ∃ z_, M11 413 0 = z_ := ⟨_, rfl⟩
                have b38 : (-2147483648) ≤ v38 ∧ v38 ≤ 2147483647 := by rw [← e38]; exact (CI.r hC_M11 (show kd 413 = 44 from rfl) (by decide) 0)
                have e39 : M15 413 0 = v38 := (hf_M15.g (show kd 413 = 44 from rfl) rfl).trans e38
                have e40 : M16 413 0 = v38 := (hf_M16.g (show kd 413 = 44 from rfl) rfl).trans e39
                refine jr_v rfl rfl (Or.inl rfl) rfl rfl (by decide) rfl ⟨rfl, Nat.le_of_ble_eq_true rfl, Nat.le_of_ble_eq_true rfl⟩ rfl (jc.deep (ihP.2.2.2.1 hC_M16 (FR.rfl _ M16) (by omega) (by omega) (by have hq0 : M16 413 3 = v1 := e37; omega) (by have hq0 : M16 413 0 = v38 := e40; omega) (MP.fr w15_0 hC_M15 hf_M16 rfl) (by omega) (fun M36 hC_M36 hf_M36 w36_0 => ?_)) (by omega))
                have ht_M36 : FR W_par T M36 := FR.t ht_M16 hf_M36 (kw_sub rfl)
                refine jr.aload_n rfl rfl ?_
                have e41 : M15 413 2 = v12 := (hf_M15.g (show kd 413 = 44 from rfl) rfl).trans e13
                have e42 : M16 413 2 = v12 := (hf_M16.g (show kd 413 = 44 from rfl) rfl).trans e41
                have e43 : M36 413 2 = v12 := (hf_M36.g (show kd 413 = 44 from rfl) rfl).trans e42
                have k44 : kd (v12).toNat = 47 := ((congrArg (fun z : Int => kd z.toNat) (show M36 413 2 = v12 from e43)).symm.trans (CI.x hC_M36 (show kd 413 = 44 from rfl) 2 rfl (by decide)))
                refine jr.getf (i := 2) (x := v12) (v := .ref (v12.toNat)) rfl rfl (by decide) rfl (by decide) rfl rfl e43 rfl ?_
                refine jr.iload_n rfl rfl ?_
                refine jr.iload rfl rfl ?_
                refine jr_v rfl rfl (Or.inl rfl) rfl rfl (Nat.lt_trans (kx_47 k44).1 (by decide)) (kx_47 k44).2 ⟨rfl, Nat.le_of_ble_eq_true rfl, Nat.le_of_ble_eq_true rfl⟩ rfl (jc.deep (c_Program_emit_m hC_M36 (FR.rfl _ M36) k44 (by omega) (by omega) (by have hq0 : M36 413 2 = v12 := e43; omega) w36_0 (fun r45 M45 hC_M45 hf_M45 z45 w45_0 => ?_)) (by omega))
                have ht_M45 : FR W_par T M45 := FR.t ht_M36 hf_M45 (kw_sub rfl)
                refine jr.pop rfl rfl ?_
                refine jr.aload_n rfl rfl ?_
                refine jr.bipush rfl (by decide) ?_
                have e47 : M36 413 3 = v1 := (hf_M36.g (show kd 413 = 44 from rfl) rfl).trans e37
                have e48 : M45 413 3 = v1 := (hf_M45.g (show kd 413 = 44 from rfl) rfl).trans e47
                refine jr_v rfl rfl (Or.inl rfl) rfl rfl (by decide) rfl ⟨rfl, Nat.le_of_ble_eq_true rfl, Nat.le_of_ble_eq_true rfl⟩ rfl (jc.deep (c_Parser_expect hC_M45 (FR.rfl _ M45) (by omega) (by have hq0 : M45 413 3 = v1 := e48; omega) (fun M46 hC_M46 hf_M46  => ?_)) (by omega))
                have ht_M46 : FR W_par T M46 := FR.t ht_M45 hf_M46 (kw_sub rfl)
                exact jr.vreturn rfl rfl (q _ hC_M46 ht_M46  (MP.fr w45_0 hC_M45 hf_M46 rfl))
              · refine jr.aload_n rfl rfl ?_
                obtain ⟨v49, e49⟩ : ∃ z_, M16 413 7 = z_ := ⟨_, rfl⟩
                have b49 : 0 ≤ v49 ∧ v49 ≤ 1600 := by rw [← e49]; exact (CI.r hC_M16 (show kd 413 = 44 from rfl) (by decide) 7)
                refine jr.getf (i := 7) (x := v49) (v := .int (Int32.ofInt (v49))) rfl rfl (by decide) rfl (by decide) rfl rfl e49 rfl ?_
                refine jr.istore (ls' := [_, _, _, _, _]) rfl (by decide) rfl ?_
                refine jr.aload_n rfl rfl ?_
                have e51 : M16 413 3 = v1 := (hf_M16.g (show kd 413 = 44 from rfl) rfl).trans e18
                refine jr_v rfl rfl (Or.inl rfl) rfl rfl (by decide) rfl ⟨rfl, Nat.le_of_ble_eq_true rfl, Nat.le_of_ble_eq_true rfl⟩ rfl (jc.deep (c_Parser_expectName hC_M16 (FR.rfl _ M16)  (by have hq0 : M16 413 3 = v1 := e51; omega) (fun M50 hC_M50 hf_M50  => ?_)) (by omega))
                have ht_M50 : FR W_par T M50 := FR.t ht_M16 hf_M50 (kw_sub rfl)
                refine jr.aload_n rfl rfl ?_
                refine jr.iload_n rfl rfl ?_
                refine jr_s rfl rfl (Or.inl rfl) ⟨Nat.le_of_ble_eq_true rfl, Nat.le_of_ble_eq_true rfl⟩ rfl rfl (jc.deep (c_Parser_expsOf hC_M50 (by omega) (fun r52 z52  => ?_)) (by omega))
                refine jr.iload_n rfl rfl ?_
                have e54 : M50 413 3 = v1 := (hf_M50.g (show kd 413 = 44 from rfl) rfl).trans e51
                obtain ⟨v55, e55⟩ : ∃ z_, M50 413 0 = z_ := ⟨_, rfl⟩
                have b55 : (-2147483648) ≤ v55 ∧ v55 ≤ 2147483647 := by rw [← e55]; exact (CI.r hC_M50 (show kd 413 = 44 from rfl) (by decide) 0)
                refine jr_v rfl rfl (Or.inl rfl) rfl rfl (by decide) rfl ⟨rfl, Nat.le_of_ble_eq_true rfl, Nat.le_of_ble_eq_true rfl⟩ rfl (jc.deep (ihP.2.2.2.1 hC_M50 (FR.rfl _ M50) (by omega) (by omega) (by have hq0 : M50 413 3 = v1 := e54; omega) (by have hq0 : M50 413 0 = v55 := e55; omega) (MP.fr (MP.fr w15_0 hC_M15 hf_M16 rfl) hC_M16 hf_M50 rfl) (by omega) (fun M53 hC_M53 hf_M53 w53_0 => ?_)) (by omega))
                have ht_M53 : FR W_par T M53 := FR.t ht_M50 hf_M53 (kw_sub rfl)
                refine jr.aload_n rfl rfl ?_
                have e56 : M15 413 2 = v12 := (hf_M15.g (show kd 413 = 44 from rfl) rfl).trans e13
                have e57 : M16 413 2 = v12 := (hf_M16.g (show kd 413 = 44 from rfl) rfl).trans e56
                have e58 : M50 413 2 = v12 := (hf_M50.g (show kd 413 = 44 from rfl) rfl).trans e57
                have e59 : M53 413 2 = v12 := (hf_M53.g (show kd 413 = 44 from rfl) rfl).trans e58
                have k60 : kd (v12).toNat = 47 := ((congrArg (fun z : Int => kd z.toNat) (show M53 413 2 = v12 from e59)).symm.trans (CI.x hC_M53 (show kd 413 = 44 from rfl) 2 rfl (by decide)))
                refine jr.getf (i := 2) (x := v12) (v := .ref (v12.toNat)) rfl rfl (by decide) rfl (by decide) rfl rfl e59 rfl ?_
                refine jr.iload_n rfl rfl ?_
                refine jr.iload rfl rfl ?_
                refine jr_v rfl rfl (Or.inl rfl) rfl rfl (Nat.lt_trans (kx_47 k60).1 (by decide)) (kx_47 k60).2 ⟨rfl, Nat.le_of_ble_eq_true rfl, Nat.le_of_ble_eq_true rfl⟩ rfl (jc.deep (c_Program_emit_m hC_M53 (FR.rfl _ M53) k60 (by omega) (by omega) (by have hq0 : M53 413 2 = v12 := e59; omega) w53_0 (fun r61 M61 hC_M61 hf_M61 z61 w61_0 => ?_)) (by omega))
                have ht_M61 : FR W_par T M61 := FR.t ht_M53 hf_M61 (kw_sub rfl)
                refine jr.pop rfl rfl ?_
                refine jr.aload_n rfl rfl ?_
                refine jr.bipush rfl (by decide) ?_
                have e63 : M53 413 3 = v1 := (hf_M53.g (show kd 413 = 44 from rfl) rfl).trans e54
                have e64 : M61 413 3 = v1 := (hf_M61.g (show kd 413 = 44 from rfl) rfl).trans e63
                refine jr_v rfl rfl (Or.inl rfl) rfl rfl (by decide) rfl ⟨rfl, Nat.le_of_ble_eq_true rfl, Nat.le_of_ble_eq_true rfl⟩ rfl (jc.deep (c_Parser_expect hC_M61 (FR.rfl _ M61) (by omega) (by have hq0 : M61 413 3 = v1 := e64; omega) (fun M62 hC_M62 hf_M62  => ?_)) (by omega))
                have ht_M62 : FR W_par T M62 := FR.t ht_M61 hf_M62 (kw_sub rfl)
                exact jr.vreturn rfl rfl (q _ hC_M62 ht_M62  (MP.fr w61_0 hC_M61 hf_M62 rfl))
          · refine jr.aload_n rfl rfl ?_
            refine jr.iload_n rfl rfl ?_
            refine jr.iload_n rfl rfl ?_
            have e66 : M16 413 3 = v1 := (hf_M16.g (show kd 413 = 44 from rfl) rfl).trans e18
            refine jr_v rfl rfl (Or.inl rfl) rfl rfl (by decide) rfl ⟨rfl, Nat.le_of_ble_eq_true rfl, Nat.le_of_ble_eq_true rfl⟩ rfl (jc.deep (ihP.2.2.2.2.2.1 hC_M16 (FR.rfl _ M16) (by omega) (by omega) (by have hq0 : M16 413 3 = v1 := e66; omega) (MP.fr w15_0 hC_M15 hf_M16 rfl) (by omega) (fun M65 hC_M65 hf_M65 w65_0 => ?_)) (by omega))
            have ht_M65 : FR W_par T M65 := FR.t ht_M16 hf_M65 (kw_sub rfl)
            exact jr.vreturn rfl rfl (q _ hC_M65 ht_M65  w65_0)
        · have sx29 : (1 : Int) ≤ y := by omega
          clear h29
          refine jr.iload_n rfl rfl ?_
          refine jr.iconst rfl ?_
          refine jr.icmp_lt rfl rfl (by omega) (by omega) (fun h34 => ?_) (fun h34 => ?_)
          · refine jr.aload_n rfl rfl ?_
            refine jr_v rfl rfl (Or.inl rfl) rfl rfl (by decide) rfl ⟨rfl, Nat.le_of_ble_eq_true rfl, Nat.le_of_ble_eq_true rfl⟩ rfl (jc.deep (c_Parser_countNode hC_M (FR.rfl _ M)  p1 (fun M67 hC_M67 hf_M67 w67_0 => ?_)) (by omega))
            have ht_M67 : FR W_par T M67 := FR.t ht_M hf_M67 (kw_sub rfl)
            refine jr.aload_n rfl rfl ?_
            obtain ⟨v68, e68⟩ : ∃ z_, M 413 2 = z_ := ⟨_, rfl⟩
            have b68 : 0 ≤ v68 ∧ v68 ≤ 597 := by rw [← e68]; exact (CI.r hC_M (show kd 413 = 44 from rfl) (by decide) 2)
            have e69 : M67 413 2 = v68 := (hf_M67.g (show kd 413 = 44 from rfl) rfl).trans e68
            have k70 : kd (v68).toNat = 47 := ((congrArg (fun z : Int => kd z.toNat) (show M67 413 2 = v68 from e69)).symm.trans (CI.x hC_M67 (show kd 413 = 44 from rfl) 2 rfl (by decide)))
            refine jr.getf (i := 2) (x := v68) (v := .ref (v68.toNat)) rfl rfl (by decide) rfl (by decide) rfl rfl e69 rfl ?_
            refine jr.bipush rfl (by decide) ?_
            refine jr.iconst rfl ?_
            refine jr_v rfl rfl (Or.inl rfl) rfl rfl (Nat.lt_trans (kx_47 k70).1 (by decide)) (kx_47 k70).2 ⟨rfl, Nat.le_of_ble_eq_true rfl, Nat.le_of_ble_eq_true rfl⟩ rfl (jc.deep (c_Program_emit_m hC_M67 (FR.rfl _ M67) k70 (by omega) (by omega) (by have hq0 : M67 413 2 = v68 := e69; omega) w67_0 (fun r71 M71 hC_M71 hf_M71 z71 w71_0 => ?_)) (by omega))
            have ht_M71 : FR W_par T M71 := FR.t ht_M67 hf_M71 (kw_sub rfl)
            refine jr.pop rfl rfl ?_
            refine jr.aload_n rfl rfl ?_
            have e73 : M67 413 3 = v1 := (hf_M67.g (show kd 413 = 44 from rfl) rfl).trans e1
            have e74 : M71 413 3 = v1 := (hf_M71.g (show kd 413 = 44 from rfl) rfl).trans e73
            refine jr_v rfl rfl (Or.inl rfl) rfl rfl (by decide) rfl ⟨rfl, Nat.le_of_ble_eq_true rfl, Nat.le_of_ble_eq_true rfl⟩ rfl (jc.deep (c_Parser_advance hC_M71 (FR.rfl _ M71)  (by have hq0 : M71 413 3 = v1 := e74; omega) (fun M72 hC_M72 hf_M72  => ?_)) (by omega))
            have ht_M72 : FR W_par T M72 := FR.t ht_M71 hf_M72 (kw_sub rfl)
            refine jr.iload_n rfl rfl ?_
            refine jr.iconst rfl ?_
            refine jr.icmp_ne rfl rfl (by omega) (by omega) (fun h69 => ?_) (fun h69 => ?_)
            · exact absurd h69 (by omega)
            · refine jr.aload_n rfl rfl ?_
              refine jr.iload_n rfl rfl ?_
              refine jr.iload_n rfl rfl ?_
              have e76 : M72 413 3 = v1 := (hf_M72.g (show kd 413 = 44 from rfl) rfl).trans e74
              refine jr_v rfl rfl (Or.inl rfl) rfl rfl (by decide) rfl ⟨rfl, Nat.le_of_ble_eq_true rfl, Nat.le_of_ble_eq_true rfl⟩ rfl (jc.deep (ihP.2.2.2.2.2.1 hC_M72 (FR.rfl _ M72) (by omega) (by omega) (by have hq0 : M72 413 3 = v1 := e76; omega) (MP.fr w71_0 hC_M71 hf_M72 rfl) (by omega) (fun M75 hC_M75 hf_M75 w75_0 => ?_)) (by omega))
              have ht_M75 : FR W_par T M75 := FR.t ht_M72 hf_M75 (kw_sub rfl)
              exact jr.vreturn rfl rfl (q _ hC_M75 ht_M75  w75_0)
          · refine jr.iload_n rfl rfl ?_
            refine jr.bipush rfl (by decide) ?_
            refine jr.icmp_gt rfl rfl (by omega) (by omega) (fun h40 => ?_) (fun h40 => ?_)
            · refine jr.aload_n rfl rfl ?_
              refine jr_v rfl rfl (Or.inl rfl) rfl rfl (by decide) rfl ⟨rfl, Nat.le_of_ble_eq_true rfl, Nat.le_of_ble_eq_true rfl⟩ rfl (jc.deep (c_Parser_countNode hC_M (FR.rfl _ M)  p1 (fun M77 hC_M77 hf_M77 w77_0 => ?_)) (by omega))
              have ht_M77 : FR W_par T M77 := FR.t ht_M hf_M77 (kw_sub rfl)
              refine jr.aload_n rfl rfl ?_
              obtain ⟨v78, e78⟩ : ∃ z_, M 413 2 = z_ := ⟨_, rfl⟩
              have b78 : 0 ≤ v78 ∧ v78 ≤ 597 := by rw [← e78]; exact (CI.r hC_M (show kd 413 = 44 from rfl) (by decide) 2)
              have e79 : M77 413 2 = v78 := (hf_M77.g (show kd 413 = 44 from rfl) rfl).trans e78
              have k80 : kd (v78).toNat = 47 := ((congrArg (fun z : Int => kd z.toNat) (show M77 413 2 = v78 from e79)).symm.trans (CI.x hC_M77 (show kd 413 = 44 from rfl) 2 rfl (by decide)))
              refine jr.getf (i := 2) (x := v78) (v := .ref (v78.toNat)) rfl rfl (by decide) rfl (by decide) rfl rfl e79 rfl ?_
              refine jr.bipush rfl (by decide) ?_
              refine jr.iconst rfl ?_
              refine jr_v rfl rfl (Or.inl rfl) rfl rfl (Nat.lt_trans (kx_47 k80).1 (by decide)) (kx_47 k80).2 ⟨rfl, Nat.le_of_ble_eq_true rfl, Nat.le_of_ble_eq_true rfl⟩ rfl (jc.deep (c_Program_emit_m hC_M77 (FR.rfl _ M77) k80 (by omega) (by omega) (by have hq0 : M77 413 2 = v78 := e79; omega) w77_0 (fun r81 M81 hC_M81 hf_M81 z81 w81_0 => ?_)) (by omega))
              have ht_M81 : FR W_par T M81 := FR.t ht_M77 hf_M81 (kw_sub rfl)
              refine jr.pop rfl rfl ?_
              refine jr.aload_n rfl rfl ?_
              have e83 : M77 413 3 = v1 := (hf_M77.g (show kd 413 = 44 from rfl) rfl).trans e1
              have e84 : M81 413 3 = v1 := (hf_M81.g (show kd 413 = 44 from rfl) rfl).trans e83
              refine jr_v rfl rfl (Or.inl rfl) rfl rfl (by decide) rfl ⟨rfl, Nat.le_of_ble_eq_true rfl, Nat.le_of_ble_eq_true rfl⟩ rfl (jc.deep (c_Parser_advance hC_M81 (FR.rfl _ M81)  (by have hq0 : M81 413 3 = v1 := e84; omega) (fun M82 hC_M82 hf_M82  => ?_)) (by omega))
              have ht_M82 : FR W_par T M82 := FR.t ht_M81 hf_M82 (kw_sub rfl)
              refine jr.iload_n rfl rfl ?_
              refine jr.iconst rfl ?_
              refine jr.icmp_ne rfl rfl (by omega) (by omega) (fun h69 => ?_) (fun h69 => ?_)
              · refine jr.iconst rfl ?_
                refine jr.istore (ls' := [_, _, _, _, _]) rfl (by decide) rfl ?_
                refine jr.iload_n rfl rfl ?_
                refine jr.bipush rfl (by decide) ?_
                refine jr.icmp_eq rfl rfl (by omega) (by omega) (fun h85 => ?_) (fun h85 => ?_)
                · exact absurd h85 (by omega)
                · refine jr.iload_n rfl rfl ?_
                  refine jr.bipush rfl (by decide) ?_
                  refine jr.icmp_ne rfl rfl (by omega) (by omega) (fun h91 => ?_) (fun h91 => ?_)
                  · refine jr.aload_n rfl rfl ?_
                    refine jr.iload_n rfl rfl ?_
                    refine jr_s rfl rfl (Or.inl rfl) ⟨Nat.le_of_ble_eq_true rfl, Nat.le_of_ble_eq_true rfl⟩ rfl rfl (jc.deep (c_Parser_expsOf hC_M82 (by omega) (fun r85 z85  => ?_)) (by omega))
                    refine jr.iload_n rfl rfl ?_
                    have e87 : M82 413 3 = v1 := (hf_M82.g (show kd 413 = 44 from rfl) rfl).trans e84
                    obtain ⟨v88, e88⟩ : ∃ z_, M77 413 0 = z_ := ⟨_, rfl⟩
                    have b88 : (-2147483648) ≤ v88 ∧ v88 ≤ 2147483647 := by rw [← e88]; exact (CI.r hC_M77 (show kd 413 = 44 from rfl) (by decide) 0)
                    have e89 : M81 413 0 = v88 := (hf_M81.g (show kd 413 = 44 from rfl) rfl).trans e88
                    have e90 : M82 413 0 = v88 := (hf_M82.g (show kd 413 = 44 from rfl) rfl).trans e89
                    refine jr_v rfl rfl (Or.inl rfl) rfl rfl (by decide) rfl ⟨rfl, Nat.le_of_ble_eq_true rfl, Nat.le_of_ble_eq_true rfl⟩ rfl (jc.deep (ihP.2.2.2.1 hC_M82 (FR.rfl _ M82) (by omega) (by omega) (by have hq0 : M82 413 3 = v1 := e87; omega) (by have hq0 : M82 413 0 = v88 := e90; omega) (MP.fr w81_0 hC_M81 hf_M82 rfl) (by omega) (fun M86 hC_M86 hf_M86 w86_0 => ?_)) (by omega))
                    have ht_M86 : FR W_par T M86 := FR.t ht_M82 hf_M86 (kw_sub rfl)
                    refine jr.aload_n rfl rfl ?_
                    have e91 : M81 413 2 = v78 := (hf_M81.g (show kd 413 = 44 from rfl) rfl).trans e79
                    have e92 : M82 413 2 = v78 := (hf_M82.g (show kd 413 = 44 from rfl) rfl).trans e91
                    have e93 : M86 413 2 = v78 := (hf_M86.g (show kd 413 = 44 from rfl) rfl).trans e92
                    have k94 : kd (v78).toNat = 47 := ((congrArg (fun z : Int => kd z.toNat) (show M86 413 2 = v78 from e93)).symm.trans (CI.x hC_M86 (show kd 413 = 44 from rfl) 2 rfl (by decide)))
                    refine jr.getf (i := 2) (x := v78) (v := .ref (v78.toNat)) rfl rfl (by decide) rfl (by decide) rfl rfl e93 rfl ?_
                    refine jr.iload_n rfl rfl ?_
                    refine jr.iload rfl rfl ?_
                    refine jr_v rfl rfl (Or.inl rfl) rfl rfl (Nat.lt_trans (kx_47 k94).1 (by decide)) (kx_47 k94).2 ⟨rfl, Nat.le_of_ble_eq_true rfl, Nat.le_of_ble_eq_true rfl⟩ rfl (jc.deep (c_Program_emit_m hC_M86 (FR.rfl _ M86) k94 (by omega) (by omega) (by have hq0 : M86 413 2 = v78 := e93; omega) w86_0 (fun r95 M95 hC_M95 hf_M95 z95 w95_0 => ?_)) (by omega))
                    have ht_M95 : FR W_par T M95 := FR.t ht_M86 hf_M95 (kw_sub rfl)
                    refine jr.pop rfl rfl ?_
                    refine jr.aload_n rfl rfl ?_
                    refine jr.bipush rfl (by decide) ?_
                    have e97 : M86 413 3 = v1 := (hf_M86.g (show kd 413 = 44 from rfl) rfl).trans e87
                    have e98 : M95 413 3 = v1 := (hf_M95.g (show kd 413 = 44 from rfl) rfl).trans e97
                    refine jr_v rfl rfl (Or.inl rfl) rfl rfl (by decide) rfl ⟨rfl, Nat.le_of_ble_eq_true rfl, Nat.le_of_ble_eq_true rfl⟩ rfl (jc.deep (c_Parser_expect hC_M95 (FR.rfl _ M95) (by omega) (by have hq0 : M95 413 3 = v1 := e98; omega) (fun M96 hC_M96 hf_M96  => ?_)) (by omega))
                    have ht_M96 : FR W_par T M96 := FR.t ht_M95 hf_M96 (kw_sub rfl)
                    exact jr.vreturn rfl rfl (q _ hC_M96 ht_M96  (MP.fr w95_0 hC_M95 hf_M96 rfl))
                  · exact absurd (by omega) h91
              · exact absurd (by omega) h69
            · refine jr.aload_n rfl rfl ?_
              refine jr_v rfl rfl (Or.inl rfl) rfl rfl (by decide) rfl ⟨rfl, Nat.le_of_ble_eq_true rfl, Nat.le_of_ble_eq_true rfl⟩ rfl (jc.deep (c_Parser_refuse hC_M (FR.rfl _ M)  (fun M99 hC_M99 hf_M99 w99_0 => ?_)) (by omega))
              have ht_M99 : FR W_par T M99 := FR.t ht_M hf_M99 (kw_sub rfl)
              obtain ⟨v100, e100⟩ : ∃ z_, M99 413 0 = z_ := ⟨_, rfl⟩
              have b100 : (-2147483648) ≤ v100 ∧ v100 ≤ 2147483647 := by rw [← e100]; exact (CI.r hC_M99 (show kd 413 = 44 from rfl) (by decide) 0)
              exact jr.vreturn rfl rfl (q _ hC_M99 ht_M99  (MP.fr p1 hC_M hf_M99 rfl))
