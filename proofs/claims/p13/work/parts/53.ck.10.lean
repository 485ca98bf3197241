theorem c_Parser_choice {A : Nat → Option (Nat × (Nat → Int32))} [HA A] {n : Nat} (ihP : PX A n) : PX_choice A (n + 1) := by
  intro Q G T M hC_M ht_M x h_x y h_y  p0 p1 p2 q
  refine jc_of (m := xm_200) rfl (Nat.le_of_ble_eq_true rfl) rfl ?_
  obtain ⟨v1, e1⟩ : ∃ z_, M 413 3 = z_ := ⟨_, rfl⟩
  have b1 : 1 ≤ v1 ∧ v1 ≤ 419 := by rw [← e1]; exact (CI.r hC_M (show kd 413 = 44 from rfl) (by decide) 3)
  have b2 : 1 ≤ v1 ∧ v1 ≤ 1 := by rw [← e1]; exact p0
  refine jr.aload_n rfl rfl ?_
  refine jr.iconst rfl ?_
  refine jr.iload_n rfl rfl ?_
  obtain ⟨v4, e4⟩ : ∃ z_, M 413 0 = z_ := ⟨_, rfl⟩
  have b4 : (-2147483648) ≤ v4 ∧ v4 ≤ 2147483647 := by rw [← e4]; exact (CI.r hC_M (show kd 413 = 44 from rfl) (by decide) 0)
  refine jr_v rfl rfl (Or.inl rfl) rfl rfl (by decide) rfl ⟨rfl, Nat.le_of_ble_eq_true rfl, Nat.le_of_ble_eq_true rfl⟩ rfl (jc.deep (ihP.2.2.1 hC_M (FR.rfl _ M) (by omega) (by omega) e4 (by have hq0 : M 413 3 = v1 := e1; omega) (by have hq0 : M 413 0 = v4 := e4; omega) p1 (by omega) (fun M3 hC_M3 hf_M3 w3_0 w3_1 => ?_)) (by omega))
  have ht_M3 : FR W_par T M3 := FR.t ht_M hf_M3 (kw_sub rfl)
  obtain ⟨v5, e5⟩ : ∃ z_, M3 413 0 = z_ := ⟨_, rfl⟩
  have b5 : (-2147483648) ≤ v5 ∧ v5 ≤ 2147483647 := by rw [← e5]; exact (CI.r hC_M3 (show kd 413 = 44 from rfl) (by decide) 0)
  refine jr.aload_n rfl rfl ?_
  obtain ⟨v6, e6⟩ : ∃ z_, M 413 2 = z_ := ⟨_, rfl⟩
  have b6 : 0 ≤ v6 ∧ v6 ≤ 597 := by rw [← e6]; exact (CI.r hC_M (show kd 413 = 44 from rfl) (by decide) 2)
  have e7 : M3 413 2 = v6 := (hf_M3.g (show kd 413 = 44 from rfl) rfl).trans e6
  have k8 : kd (v6).toNat = 47 := ((congrArg (fun z : Int => kd z.toNat) (show M3 413 2 = v6 from e7)).symm.trans (CI.x hC_M3 (show kd 413 = 44 from rfl) 2 rfl (by decide)))
  refine jr.getf (i := 2) (x := v6) (v := .ref (v6.toNat)) rfl rfl (by decide) rfl (by decide) rfl rfl e7 rfl ?_
  refine jr.iconst rfl ?_
  refine jr.iconst rfl ?_
  refine jr_v rfl rfl (Or.inl rfl) rfl rfl (Nat.lt_trans (kx_47 k8).1 (by decide)) (kx_47 k8).2 ⟨rfl, Nat.le_of_ble_eq_true rfl, Nat.le_of_ble_eq_true rfl⟩ rfl (jc.deep (c_Program_emit_m hC_M3 (FR.rfl _ M3) k8 (by omega) (by omega) (by have hq0 : M3 413 2 = v6 := e7; omega) w3_0 (fun r9 M9 hC_M9 hf_M9 z9 w9_0 => ?_)) (by omega))
  have ht_M9 : FR W_par T M9 := FR.t ht_M3 hf_M9 (kw_sub rfl)
  refine jr.istore_n (ls' := [_, _, _, _]) rfl (by decide) rfl ?_
  refine jr.aload_n rfl rfl ?_
  refine jr.iload_n rfl rfl ?_
  refine jr.iload_n rfl rfl ?_
  have e11 : M3 413 3 = v1 := (hf_M3.g (show kd 413 = 44 from rfl) rfl).trans e1
  have e12 : M9 413 3 = v1 := (hf_M9.g (show kd 413 = 44 from rfl) rfl).trans e11
  refine jr_v rfl rfl (Or.inl rfl) rfl rfl (by decide) rfl ⟨rfl, Nat.le_of_ble_eq_true rfl, Nat.le_of_ble_eq_true rfl⟩ rfl (jc.deep (ihP.2.2.2.2.1 hC_M9 (FR.rfl _ M9) (by omega) (by omega) (by have hq0 : M9 413 3 = v1 := e12; omega) w9_0 (by omega) (fun M10 hC_M10 hf_M10 w10_0 => ?_)) (by omega))
  have ht_M10 : FR W_par T M10 := FR.t ht_M9 hf_M10 (kw_sub rfl)
  refine jr.aload_n rfl rfl ?_
  obtain ⟨v13, e13⟩ : ∃ z_, M10 413 0 = z_ := ⟨_, rfl⟩
  have b13 : (-2147483648) ≤ v13 ∧ v13 ≤ 2147483647 := by rw [← e13]; exact (CI.r hC_M10 (show kd 413 = 44 from rfl) (by decide) 0)
  refine jr.getf (i := 0) (x := v13) (v := .int (Int32.ofInt (v13))) rfl rfl (by decide) rfl (by decide) rfl rfl e13 rfl ?_
  refine jr.if_ne rfl rfl (by omega) (fun h26 => ?_) (fun h26 => ?_)
  · refine jr.aload_n rfl rfl ?_
    have e14 : M9 413 2 = v6 := (hf_M9.g (show kd 413 = 44 from rfl) rfl).trans e7
    have e15 : M10 413 2 = v6 := (hf_M10.g (show kd 413 = 44 from rfl) rfl).trans e14
    have k16 : kd (v6).toNat = 47 := ((congrArg (fun z : Int => kd z.toNat) (show M10 413 2 = v6 from e15)).symm.trans (CI.x hC_M10 (show kd 413 = 44 from rfl) 2 rfl (by decide)))
    refine jr.getf (i := 2) (x := v6) (v := .ref (v6.toNat)) rfl rfl (by decide) rfl (by decide) rfl rfl e15 rfl ?_
    refine jr.iload_n rfl rfl ?_
    refine jr_v rfl rfl (Or.inl rfl) rfl rfl (Nat.lt_trans (kx_47 k16).1 (by decide)) (kx_47 k16).2 ⟨rfl, Nat.le_of_ble_eq_true rfl, Nat.le_of_ble_eq_true rfl⟩ rfl (jc.deep (c_Program_land_m hC_M10 (FR.rfl _ M10) k16 (by omega) (by have hq0 : M10 413 2 = v6 := e15; omega) w10_0 (fun M17 hC_M17 hf_M17 w17_0 => ?_)) (by omega))
    have ht_M17 : FR W_par T M17 := FR.t ht_M10 hf_M17 (kw_sub rfl)
    exact jr.vreturn rfl rfl (q _ hC_M17 ht_M17  w17_0)
  · refine jr.aload_n rfl rfl ?_
    refine jr.iconst rfl ?_
    refine jr_v rfl rfl (Or.inl rfl) rfl rfl (by decide) rfl ⟨rfl, Nat.le_of_ble_eq_true rfl, Nat.le_of_ble_eq_true rfl⟩ rfl (jc.deep (c_Parser_isWord hC_M10 (by omega) (fun r18 z18  => ?_)) (by omega))
    refine jr.if_eq rfl rfl (by omega) (fun h34 => ?_) (fun h34 => ?_)
    · refine jr.aload_n rfl rfl ?_
      have e19 : M9 413 2 = v6 := (hf_M9.g (show kd 413 = 44 from rfl) rfl).trans e7
      have e20 : M10 413 2 = v6 := (hf_M10.g (show kd 413 = 44 from rfl) rfl).trans e19
      have k21 : kd (v6).toNat = 47 := ((congrArg (fun z : Int => kd z.toNat) (show M10 413 2 = v6 from e20)).symm.trans (CI.x hC_M10 (show kd 413 = 44 from rfl) 2 rfl (by decide)))
      refine jr.getf (i := 2) (x := v6) (v := .ref (v6.toNat)) rfl rfl (by decide) rfl (by decide) rfl rfl e20 rfl ?_
      refine jr.iload_n rfl rfl ?_
      refine jr_v rfl rfl (Or.inl rfl) rfl rfl (Nat.lt_trans (kx_47 k21).1 (by decide)) (kx_47 k21).2 ⟨rfl, Nat.le_of_ble_eq_true rfl, Nat.le_of_ble_eq_true rfl⟩ rfl (jc.deep (c_Program_land_m hC_M10 (FR.rfl _ M10) k21 (by omega) (by have hq0 : M10 413 2 = v6 := e20; omega) w10_0 (fun M22 hC_M22 hf_M22 w22_0 => ?_)) (by omega))
      have ht_M22 : FR W_par T M22 := FR.t ht_M10 hf_M22 (kw_sub rfl)
      exact jr.vreturn rfl rfl (q _ hC_M22 ht_M22  w22_0)
    · have sx34 : (1 : Int) ≤ r18 := by omega
      clear h34
      refine jr.aload_n rfl rfl ?_
      have e23 : M9 413 2 = v6 := (hf_M9.g (show kd 413 = 44 from rfl) rfl).trans e7
      have e24 : M10 413 2 = v6 := (hf_M10.g (show kd 413 = 44 from rfl) rfl).trans e23
      have k25 : kd (v6).toNat = 47 := ((congrArg (fun z : Int => kd z.toNat) (show M10 413 2 = v6 from e24)).symm.trans (CI.x hC_M10 (show kd 413 = 44 from rfl) 2 rfl (by decide)))
      refine jr.getf (i := 2) (x := v6) (v := .ref (v6.toNat)) rfl rfl (by decide) rfl (by decide) rfl rfl e24 rfl ?_
      refine jr.bipush rfl (by decide) ?_
      refine jr.iconst rfl ?_
      refine jr_v rfl rfl (Or.inl rfl) rfl rfl (Nat.lt_trans (kx_47 k25).1 (by decide)) (kx_47 k25).2 ⟨rfl, Nat.le_of_ble_eq_true rfl, Nat.le_of_ble_eq_true rfl⟩ rfl (jc.deep (c_Program_emit_m hC_M10 (FR.rfl _ M10) k25 (by omega) (by omega) (by have hq0 : M10 413 2 = v6 := e24; omega) w10_0 (fun r26 M26 hC_M26 hf_M26 z26 w26_0 => ?_)) (by omega))
      have ht_M26 : FR W_par T M26 := FR.t ht_M10 hf_M26 (kw_sub rfl)
      refine jr.istore (ls' := [_, _, _, _, _]) rfl (by decide) rfl ?_
      refine jr.aload_n rfl rfl ?_
      have e27 : M26 413 2 = v6 := (hf_M26.g (show kd 413 = 44 from rfl) rfl).trans e24
      have k28 : kd (v6).toNat = 47 := ((congrArg (fun z : Int => kd z.toNat) (show M26 413 2 = v6 from e27)).symm.trans (CI.x hC_M26 (show kd 413 = 44 from rfl) 2 rfl (by decide)))
      refine jr.getf (i := 2) (x := v6) (v := .ref (v6.toNat)) rfl rfl (by decide) rfl (by decide) rfl rfl e27 rfl ?_
      refine jr.iload_n rfl rfl ?_
      refine jr_v rfl rfl (Or.inl rfl) rfl rfl (Nat.lt_trans (kx_47 k28).1 (by decide)) (kx_47 k28).2 ⟨rfl, Nat.le_of_ble_eq_true rfl, Nat.le_of_ble_eq_true rfl⟩ rfl (jc.deep (c_Program_land_m hC_M26 (FR.rfl _ M26) k28 (by omega) (by have hq0 : M26 413 2 = v6 := e27; omega) w26_0 (fun M29 hC_M29 hf_M29 w29_0 => ?_)) (by omega))
      have ht_M29 : FR W_par T M29 := FR.t ht_M26 hf_M29 (kw_sub rfl)
      refine jr.aload_n rfl rfl ?_
      have e31 : M10 413 3 = v1 := (hf_M10.g (show kd 413 = 44 from rfl) rfl).trans e12
      have e32 : M26 413 3 = v1 := (hf_M26.g (show kd 413 = 44 from rfl) rfl).trans e31
      have e33 : M29 413 3 = v1 := (hf_M29.g (show kd 413 = 44 from rfl) rfl).trans e32
      refine jr_v rfl rfl (Or.inl rfl) rfl rfl (by decide) rfl ⟨rfl, Nat.le_of_ble_eq_true rfl, Nat.le_of_ble_eq_true rfl⟩ rfl (jc.deep (c_Parser_advance hC_M29 (FR.rfl _ M29)  (by have hq0 : M29 413 3 = v1 := e33; omega) (fun M30 hC_M30 hf_M30  => ?_)) (by omega))
      have ht_M30 : FR W_par T M30 := FR.t ht_M29 hf_M30 (kw_sub rfl)
      refine jr.aload_n rfl rfl ?_
      refine jr.iload_n rfl rfl ?_
      refine jr.iload_n rfl rfl ?_
      have e35 : M30 413 3 = v1 := (hf_M30.g (show kd 413 = 44 from rfl) rfl).trans e33
      refine jr_v rfl rfl (Or.inl rfl) rfl rfl (by decide) rfl ⟨rfl, Nat.le_of_ble_eq_true rfl, Nat.le_of_ble_eq_true rfl⟩ rfl (jc.deep (ihP.2.2.2.2.1 hC_M30 (FR.rfl _ M30) (by omega) (by omega) (by have hq0 : M30 413 3 = v1 := e35; omega) (MP.fr w29_0 hC_M29 hf_M30 rfl) (by omega) (fun M34 hC_M34 hf_M34 w34_0 => ?_)) (by omega))
      have ht_M34 : FR W_par T M34 := FR.t ht_M30 hf_M34 (kw_sub rfl)
      refine jr.aload_n rfl rfl ?_
      have e36 : M29 413 2 = v6 := (hf_M29.g (show kd 413 = 44 from rfl) rfl).trans e27
      have e37 : M30 413 2 = v6 := (hf_M30.g (show kd 413 = 44 from rfl) rfl).trans e36
      have e38 : M34 413 2 = v6 := (hf_M34.g (show kd 413 = 44 from rfl) rfl).trans e37
      have k39 : kd (v6).toNat = 47 := ((congrArg (fun z : Int => kd z.toNat) (show M34 413 2 = v6 from e38)).symm.trans (CI.x hC_M34 (show kd 413 = 44 from rfl) 2 rfl (by decide)))
      refine jr.getf (i := 2) (x := v6) (v := .ref (v6.toNat)) rfl rfl (by decide) rfl (by decide) rfl rfl e38 rfl ?_
      refine jr.iload rfl rfl ?_
      refine jr_v rfl rfl (Or.inl rfl) rfl rfl (Nat.lt_trans (kx_47 k39).1 (by decide)) (kx_47 k39).2 ⟨rfl, Nat.le_of_ble_eq_true rfl, Nat.le_of_ble_eq_true rfl⟩ rfl (jc.deep (c_Program_land_m hC_M34 (FR.rfl _ M34) k39 (by omega) (by have hq0 : M34 413 2 = v6 := e38; omega) w34_0 (fun M40 hC_M40 hf_M40 w40_0 => ?_)) (by omega))
      have ht_M40 : FR W_par T M40 := FR.t ht_M34 hf_M40 (kw_sub rfl)
      refine jr.goto rfl rfl ?_
      exact jr.vreturn rfl rfl (q _ hC_M40 ht_M40  w40_0)
