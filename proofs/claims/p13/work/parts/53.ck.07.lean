theorem c_Parser_exp_L21 {A : Nat → Option (Nat × (Nat → Int32))} [HA A] {Q : Option Value → jm → Prop} {G : Nat → Int → Int} {T : jm} {n : Nat} (ihP : PX A n) {F : Int} {x : Int} {y : Int} (q : ∀ (M' : jm), CI M' → FR W_par T M' → (MP M' G) → (F = 0 ∨ M' 413 0 ≠ 0) → Q none M') : ∀ (nM : Nat) (M : jm) (i : Int), CI M → FR W_par T M → 0 ≤ x ∧ x ≤ 4 → 0 ≤ y ∧ y ≤ 13 → 0 ≤ i ∧ i ≤ 1601 → (1 ≤ M 413 3 ∧ M 413 3 ≤ 1) → (y ≤ 12 ∨ M 413 0 ≠ 0) → (F = 0 ∨ M 413 0 ≠ 0) → (MP M G) → (20 * (13 - y) + (8 - x) ≤ ((n + 1 : Nat) : Int)) → 1601 - i ≤ nM → jr A (n + 60) xm_203 21 [(1, .int (Int32.ofInt (x))), (2, .int (Int32.ofInt (y))), (3, .int (Int32.ofInt (i))), (0, .ref (413))] [] M Q := by
  intro nM
  induction nM using Nat.strongRecOn with
  | ind nM ih =>
    intro M i hC_M ht_M h_x h_y h_i hy0 hy1 hy2 hy3 hy4 hm
    obtain ⟨v1, e1⟩ : ∃ z_, M 413 3 = z_ := ⟨_, rfl⟩
    have b1 : 1 ≤ v1 ∧ v1 ≤ 419 := by rw [← e1]; exact (CI.r hC_M (show kd 413 = 44 from rfl) (by decide) 3)
    have b2 : 1 ≤ v1 ∧ v1 ≤ 1 := by rw [← e1]; exact hy0
    obtain ⟨v3, e3⟩ : ∃ z_, M 413 0 = z_ := ⟨_, rfl⟩
    have b3 : (-2147483648) ≤ v3 ∧ v3 ≤ 2147483647 := by rw [← e3]; exact (CI.r hC_M (show kd 413 = 44 from rfl) (by decide) 0)
    refine jr.iload_n rfl rfl ?_
    refine jr.aload_n rfl rfl ?_
    obtain ⟨v4, e4⟩ : ∃ z_, M 413 4 = z_ := ⟨_, rfl⟩
    have b4 : 0 ≤ v4 ∧ v4 ≤ 1600 := by rw [← e4]; exact (CI.r hC_M (show kd 413 = 44 from rfl) (by decide) 4)
    refine jr.getf (i := 4) (x := v4) (v := .int (Int32.ofInt (v4))) rfl rfl (by decide) rfl (by decide) rfl rfl e4 rfl ?_
    refine jr.icmp_gt rfl rfl (by omega) (by omega) (fun h26 => ?_) (fun h26 => ?_)
    · exact jr.vreturn rfl rfl (q _ hC_M ht_M  hy3 (by have hq0 : M 413 0 = v3 := e3; omega))
    · refine jr.aload_n rfl rfl ?_
      refine jr.getf (i := 0) (x := v3) (v := .int (Int32.ofInt (v3))) rfl rfl (by decide) rfl (by decide) rfl rfl e3 rfl ?_
      refine jr.if_ne rfl rfl (by omega) (fun h33 => ?_) (fun h33 => ?_)
      · exact jr.vreturn rfl rfl (q _ hC_M ht_M  hy3 (by have hq0 : M 413 0 = v3 := e3; omega))
      · refine jr.aload_n rfl rfl ?_
        refine jr_v rfl rfl (Or.inl rfl) rfl rfl (by decide) rfl ⟨rfl, Nat.le_of_ble_eq_true rfl, Nat.le_of_ble_eq_true rfl⟩ rfl (jc.deep (c_Parser_rankOfSign hC_M  (fun r5 z5  => ?_)) (by omega))
        refine jr.iload_n rfl rfl ?_
        refine jr.icmp_ne rfl rfl (by omega) (by omega) (fun h41 => ?_) (fun h41 => ?_)
        · exact jr.vreturn rfl rfl (q _ hC_M ht_M  hy3 (by have hq0 : M 413 0 = v3 := e3; omega))
        · refine jr.aload_n rfl rfl ?_
          obtain ⟨v6, e6⟩ : ∃ z_, M 413 11 = z_ := ⟨_, rfl⟩
          have b6 : 0 ≤ v6 ∧ v6 ≤ 255 := by rw [← e6]; exact (CI.r hC_M (show kd 413 = 44 from rfl) (by decide) 11)
          refine jr.getf (i := 11) (x := v6) (v := .int (Int32.ofInt (v6))) rfl rfl (by decide) rfl (by decide) rfl rfl e6 rfl ?_
          refine jr.istore rfl (by decide) rfl ?_
          refine jr.aload_n rfl rfl ?_
          refine jr_v rfl rfl (Or.inl rfl) rfl rfl (by decide) rfl ⟨rfl, Nat.le_of_ble_eq_true rfl, Nat.le_of_ble_eq_true rfl⟩ rfl (jc.deep (c_Parser_countNode hC_M (FR.rfl _ M)  hy3 (fun M7 hC_M7 hf_M7 w7_0 => ?_)) (by omega))
          have ht_M7 : FR W_par T M7 := FR.t ht_M hf_M7 (kw_sub rfl)
          refine jr.aload_n rfl rfl ?_
          have e9 : M7 413 3 = v1 := (hf_M7.g (show kd 413 = 44 from rfl) rfl).trans e1
          refine jr_v rfl rfl (Or.inl rfl) rfl rfl (by decide) rfl ⟨rfl, Nat.le_of_ble_eq_true rfl, Nat.le_of_ble_eq_true rfl⟩ rfl (jc.deep (c_Parser_advance hC_M7 (FR.rfl _ M7)  (by have hq0 : M7 413 3 = v1 := e9; omega) (fun M8 hC_M8 hf_M8  => ?_)) (by omega))
          have ht_M8 : FR W_par T M8 := FR.t ht_M7 hf_M8 (kw_sub rfl)
          refine jr.iconst rfl ?_
          refine jr.istore rfl (by decide) rfl ?_
          refine jr.iload_n rfl rfl ?_
          refine jr.iconst rfl ?_
          refine jr.icmp_gt rfl rfl (by omega) (by omega) (fun h63 => ?_) (fun h63 => ?_)
          · refine jr.aload_n rfl rfl ?_
            refine jr.iload_n rfl rfl ?_
            refine jr.iconst rfl ?_
            refine jr.iadd rfl ?_
            refine jr.iload_n rfl rfl ?_
            obtain ⟨v11, e11⟩ : ∃ z_, M7 413 0 = z_ := ⟨_, rfl⟩
            have b11 : (-2147483648) ≤ v11 ∧ v11 ≤ 2147483647 := by rw [← e11]; exact (CI.r hC_M7 (show kd 413 = 44 from rfl) (by decide) 0)
            have e12 : M8 413 0 = v11 := (hf_M8.g (show kd 413 = 44 from rfl) rfl).trans e11
            have e13 : M8 413 3 = v1 := (hf_M8.g (show kd 413 = 44 from rfl) rfl).trans e9
            refine jr_v rfl rfl (Or.inl rfl) rfl rfl (by decide) rfl ⟨rfl, Nat.le_of_ble_eq_true rfl, Nat.le_of_ble_eq_true rfl⟩ rfl (jc.deep (ihP.2.2.1 hC_M8 (FR.rfl _ M8) (by omega) (by omega) e12 (by have hq0 : M8 413 3 = v1 := e13; omega) (by have hq0 : M8 413 0 = v11 := e12; omega) (MP.fr w7_0 hC_M7 hf_M8 rfl) (by omega) (fun M10 hC_M10 hf_M10 w10_0 w10_1 => ?_)) (by omega))
            have ht_M10 : FR W_par T M10 := FR.t ht_M8 hf_M10 (kw_sub rfl)
            obtain ⟨v14, e14⟩ : ∃ z_, M10 413 0 = z_ := ⟨_, rfl⟩
            have b14 : (-2147483648) ≤ v14 ∧ v14 ≤ 2147483647 := by rw [← e14]; exact (CI.r hC_M10 (show kd 413 = 44 from rfl) (by decide) 0)
            refine jr.aload_n rfl rfl ?_
            obtain ⟨v15, e15⟩ : ∃ z_, M 413 2 = z_ := ⟨_, rfl⟩
            have b15 : 0 ≤ v15 ∧ v15 ≤ 597 := by rw [← e15]; exact (CI.r hC_M (show kd 413 = 44 from rfl) (by decide) 2)
            have e16 : M7 413 2 = v15 := (hf_M7.g (show kd 413 = 44 from rfl) rfl).trans e15
            have e17 : M8 413 2 = v15 := (hf_M8.g (show kd 413 = 44 from rfl) rfl).trans e16
            have e18 : M10 413 2 = v15 := (hf_M10.g (show kd 413 = 44 from rfl) rfl).trans e17
            have k19 : kd (v15).toNat = 47 := ((congrArg (fun z : Int => kd z.toNat) (show M10 413 2 = v15 from e18)).symm.trans (CI.x hC_M10 (show kd 413 = 44 from rfl) 2 rfl (by decide)))
            refine jr.getf (i := 2) (x := v15) (v := .ref (v15.toNat)) rfl rfl (by decide) rfl (by decide) rfl rfl e18 rfl ?_
            refine jr.iload_n rfl rfl ?_
            refine jr.iconst rfl ?_
            refine jr.icmp_gt rfl rfl (by omega) (by omega) (fun h103 => ?_) (fun h103 => ?_)
            · refine jr.sipush rfl (by decide) ?_
              refine jr.iload rfl rfl ?_
              refine jr.iadd rfl ?_
              refine jr.iconst rfl ?_
              refine jr_v rfl rfl (Or.inl rfl) rfl rfl (Nat.lt_trans (kx_47 k19).1 (by decide)) (kx_47 k19).2 ⟨rfl, Nat.le_of_ble_eq_true rfl, Nat.le_of_ble_eq_true rfl⟩ rfl (jc.deep (c_Program_emit_m hC_M10 (FR.rfl _ M10) k19 (by omega) (by omega) (by have hq0 : M10 413 2 = v15 := e18; omega) w10_0 (fun r20 M20 hC_M20 hf_M20 z20 w20_0 => ?_)) (by omega))
              have ht_M20 : FR W_par T M20 := FR.t ht_M10 hf_M20 (kw_sub rfl)
              refine jr.pop rfl rfl ?_
              refine jr.aload_n rfl rfl ?_
              have e21 : M20 413 2 = v15 := (hf_M20.g (show kd 413 = 44 from rfl) rfl).trans e18
              have k22 : kd (v15).toNat = 47 := ((congrArg (fun z : Int => kd z.toNat) (show M20 413 2 = v15 from e21)).symm.trans (CI.x hC_M20 (show kd 413 = 44 from rfl) 2 rfl (by decide)))
              refine jr.getf (i := 2) (x := v15) (v := .ref (v15.toNat)) rfl rfl (by decide) rfl (by decide) rfl rfl e21 rfl ?_
              refine jr.iload rfl rfl ?_
              refine jr_v rfl rfl (Or.inl rfl) rfl rfl (Nat.lt_trans (kx_47 k22).1 (by decide)) (kx_47 k22).2 ⟨rfl, Nat.le_of_ble_eq_true rfl, Nat.le_of_ble_eq_true rfl⟩ rfl (jc.deep (c_Program_land_m hC_M20 (FR.rfl _ M20) k22 (by omega) (by have hq0 : M20 413 2 = v15 := e21; omega) w20_0 (fun M23 hC_M23 hf_M23 w23_0 => ?_)) (by omega))
              have ht_M23 : FR W_par T M23 := FR.t ht_M20 hf_M23 (kw_sub rfl)
              refine jr.iload_n rfl rfl ?_
              refine jr.iconst rfl ?_
              refine jr.icmp_ne rfl rfl (by omega) (by omega) (fun h134 => ?_) (fun h134 => ?_)
              · have sx134 : (3 : Int) ≤ x := by omega
                clear h134
                refine jr.iinc rfl rfl (by decide) rfl ?_
                refine jr.goto rfl rfl ?_
                have e24 : M10 413 3 = v1 := (hf_M10.g (show kd 413 = 44 from rfl) rfl).trans e13
                have e25 : M20 413 3 = v1 := (hf_M20.g (show kd 413 = 44 from rfl) rfl).trans e24
                have e26 : M23 413 3 = v1 := (hf_M23.g (show kd 413 = 44 from rfl) rfl).trans e25
                have e27 : M20 413 0 = v14 := (hf_M20.g (show kd 413 = 44 from rfl) rfl).trans e14
                have e28 : M23 413 0 = v14 := (hf_M23.g (show kd 413 = 44 from rfl) rfl).trans e27
                refine jr.pick [3, 4, 0, 5] rfl rfl ?_
                exact ih (nM - 1) (by omega) M23 (i + 1) hC_M23 ht_M23 (by omega) (by omega) (by omega) (by have hq0 : M23 413 3 = v1 := e26; omega) (by have hq0 : M23 413 0 = v14 := e28; omega) (by have hq0 : M23 413 0 = v14 := e28; omega) w23_0 (by omega) (by omega)
              · have e29 : M20 413 0 = v14 := (hf_M20.g (show kd 413 = 44 from rfl) rfl).trans e14
                have e30 : M23 413 0 = v14 := (hf_M23.g (show kd 413 = 44 from rfl) rfl).trans e29
                exact jr.vreturn rfl rfl (q _ hC_M23 ht_M23  w23_0 (by have hq0 : M23 413 0 = v14 := e30; omega))
            · exact absurd (by omega) h103
          · refine jr.aload_n rfl rfl ?_
            obtain ⟨v31, e31⟩ : ∃ z_, M 413 2 = z_ := ⟨_, rfl⟩
            have b31 : 0 ≤ v31 ∧ v31 ≤ 597 := by rw [← e31]; exact (CI.r hC_M (show kd 413 = 44 from rfl) (by decide) 2)
            have e32 : M7 413 2 = v31 := (hf_M7.g (show kd 413 = 44 from rfl) rfl).trans e31
            have e33 : M8 413 2 = v31 := (hf_M8.g (show kd 413 = 44 from rfl) rfl).trans e32
            have k34 : kd (v31).toNat = 47 := ((congrArg (fun z : Int => kd z.toNat) (show M8 413 2 = v31 from e33)).symm.trans (CI.x hC_M8 (show kd 413 = 44 from rfl) 2 rfl (by decide)))
            refine jr.getf (i := 2) (x := v31) (v := .ref (v31.toNat)) rfl rfl (by decide) rfl (by decide) rfl rfl e33 rfl ?_
            refine jr.iload_n rfl rfl ?_
            refine jr.if_ne rfl rfl (by omega) (fun h71 => ?_) (fun h71 => ?_)
            · have sx71 : (1 : Int) ≤ x := by omega
              clear h71
              refine jr.sipush rfl (by decide) ?_
              refine jr.iconst rfl ?_
              refine jr_v rfl rfl (Or.inl rfl) rfl rfl (Nat.lt_trans (kx_47 k34).1 (by decide)) (kx_47 k34).2 ⟨rfl, Nat.le_of_ble_eq_true rfl, Nat.le_of_ble_eq_true rfl⟩ rfl (jc.deep (c_Program_emit_m hC_M8 (FR.rfl _ M8) k34 (by omega) (by omega) (by have hq0 : M8 413 2 = v31 := e33; omega) (MP.fr w7_0 hC_M7 hf_M8 rfl) (fun r35 M35 hC_M35 hf_M35 z35 w35_0 => ?_)) (by omega))
              have ht_M35 : FR W_par T M35 := FR.t ht_M8 hf_M35 (kw_sub rfl)
              refine jr.istore rfl (by decide) rfl ?_
              refine jr.aload_n rfl rfl ?_
              refine jr.iload_n rfl rfl ?_
              refine jr.iconst rfl ?_
              refine jr.iadd rfl ?_
              refine jr.iload_n rfl rfl ?_
              obtain ⟨v37, e37⟩ : ∃ z_, M7 413 0 = z_ := ⟨_, rfl⟩
              have b37 : (-2147483648) ≤ v37 ∧ v37 ≤ 2147483647 := by rw [← e37]; exact (CI.r hC_M7 (show kd 413 = 44 from rfl) (by decide) 0)
              have e38 : M8 413 0 = v37 := (hf_M8.g (show kd 413 = 44 from rfl) rfl).trans e37
              have e39 : M35 413 0 = v37 := (hf_M35.g (show kd 413 = 44 from rfl) rfl).trans e38
              have e40 : M8 413 3 = v1 := (hf_M8.g (show kd 413 = 44 from rfl) rfl).trans e9
              have e41 : M35 413 3 = v1 := (hf_M35.g (show kd 413 = 44 from rfl) rfl).trans e40
              refine jr_v rfl rfl (Or.inl rfl) rfl rfl (by decide) rfl ⟨rfl, Nat.le_of_ble_eq_true rfl, Nat.le_of_ble_eq_true rfl⟩ rfl (jc.deep (ihP.2.2.1 hC_M35 (FR.rfl _ M35) (by omega) (by omega) e39 (by have hq0 : M35 413 3 = v1 := e41; omega) (by have hq0 : M35 413 0 = v37 := e39; omega) w35_0 (by omega) (fun M36 hC_M36 hf_M36 w36_0 w36_1 => ?_)) (by omega))
              have ht_M36 : FR W_par T M36 := FR.t ht_M35 hf_M36 (kw_sub rfl)
              obtain ⟨v42, e42⟩ : ∃ z_, M36 413 0 = z_ := ⟨_, rfl⟩
              have b42 : (-2147483648) ≤ v42 ∧ v42 ≤ 2147483647 := by rw [← e42]; exact (CI.r hC_M36 (show kd 413 = 44 from rfl) (by decide) 0)
              refine jr.aload_n rfl rfl ?_
              have e43 : M35 413 2 = v31 := (hf_M35.g (show kd 413 = 44 from rfl) rfl).trans e33
              have e44 : M36 413 2 = v31 := (hf_M36.g (show kd 413 = 44 from rfl) rfl).trans e43
              have k45 : kd (v31).toNat = 47 := ((congrArg (fun z : Int => kd z.toNat) (show M36 413 2 = v31 from e44)).symm.trans (CI.x hC_M36 (show kd 413 = 44 from rfl) 2 rfl (by decide)))
              refine jr.getf (i := 2) (x := v31) (v := .ref (v31.toNat)) rfl rfl (by decide) rfl (by decide) rfl rfl e44 rfl ?_
              refine jr.iload_n rfl rfl ?_
              refine jr.iconst rfl ?_
              refine jr.icmp_gt rfl rfl (by omega) (by omega) (fun h103 => ?_) (fun h103 => ?_)
              · exact absurd h103 (by omega)
              · refine jr.sipush rfl (by decide) ?_
                refine jr.goto rfl rfl ?_
                refine jr.iconst rfl ?_
                refine jr_v rfl rfl (Or.inl rfl) rfl rfl (Nat.lt_trans (kx_47 k45).1 (by decide)) (kx_47 k45).2 ⟨rfl, Nat.le_of_ble_eq_true rfl, Nat.le_of_ble_eq_true rfl⟩ rfl (jc.deep (c_Program_emit_m hC_M36 (FR.rfl _ M36) k45 (by omega) (by omega) (by have hq0 : M36 413 2 = v31 := e44; omega) w36_0 (fun r46 M46 hC_M46 hf_M46 z46 w46_0 => ?_)) (by omega))
                have ht_M46 : FR W_par T M46 := FR.t ht_M36 hf_M46 (kw_sub rfl)
                refine jr.pop rfl rfl ?_
                refine jr.aload_n rfl rfl ?_
                have e47 : M46 413 2 = v31 := (hf_M46.g (show kd 413 = 44 from rfl) rfl).trans e44
                have k48 : kd (v31).toNat = 47 := ((congrArg (fun z : Int => kd z.toNat) (show M46 413 2 = v31 from e47)).symm.trans (CI.x hC_M46 (show kd 413 = 44 from rfl) 2 rfl (by decide)))
                refine jr.getf (i := 2) (x := v31) (v := .ref (v31.toNat)) rfl rfl (by decide) rfl (by decide) rfl rfl e47 rfl ?_
                refine jr.iload rfl rfl ?_
                refine jr_v rfl rfl (Or.inl rfl) rfl rfl (Nat.lt_trans (kx_47 k48).1 (by decide)) (kx_47 k48).2 ⟨rfl, Nat.le_of_ble_eq_true rfl, Nat.le_of_ble_eq_true rfl⟩ rfl (jc.deep (c_Program_land_m hC_M46 (FR.rfl _ M46) k48 (by omega) (by have hq0 : M46 413 2 = v31 := e47; omega) w46_0 (fun M49 hC_M49 hf_M49 w49_0 => ?_)) (by omega))
                have ht_M49 : FR W_par T M49 := FR.t ht_M46 hf_M49 (kw_sub rfl)
                refine jr.iload_n rfl rfl ?_
                refine jr.iconst rfl ?_
                refine jr.icmp_ne rfl rfl (by omega) (by omega) (fun h134 => ?_) (fun h134 => ?_)
                · refine jr.iinc rfl rfl (by decide) rfl ?_
                  refine jr.goto rfl rfl ?_
                  have e50 : M36 413 3 = v1 := (hf_M36.g (show kd 413 = 44 from rfl) rfl).trans e41
                  have e51 : M46 413 3 = v1 := (hf_M46.g (show kd 413 = 44 from rfl) rfl).trans e50
                  have e52 : M49 413 3 = v1 := (hf_M49.g (show kd 413 = 44 from rfl) rfl).trans e51
                  have e53 : M46 413 0 = v42 := (hf_M46.g (show kd 413 = 44 from rfl) rfl).trans e42
                  have e54 : M49 413 0 = v42 := (hf_M49.g (show kd 413 = 44 from rfl) rfl).trans e53
                  refine jr.pick [3, 4, 0, 5] rfl rfl ?_
                  exact ih (nM - 1) (by omega) M49 (i + 1) hC_M49 ht_M49 (by omega) (by omega) (by omega) (by have hq0 : M49 413 3 = v1 := e52; omega) (by have hq0 : M49 413 0 = v42 := e54; omega) (by have hq0 : M49 413 0 = v42 := e54; omega) w49_0 (by omega) (by omega)
                · exact absurd (by omega) h134
            · refine jr.sipush rfl (by decide) ?_
              refine jr.goto rfl rfl ?_
              refine jr.iconst rfl ?_
              refine jr_v rfl rfl (Or.inl rfl) rfl rfl (Nat.lt_trans (kx_47 k34).1 (by decide)) (kx_47 k34).2 ⟨rfl, Nat.le_of_ble_eq_true rfl, Nat.le_of_ble_eq_true rfl⟩ rfl (jc.deep (c_Program_emit_m hC_M8 (FR.rfl _ M8) k34 (by omega) (by omega) (by have hq0 : M8 413 2 = v31 := e33; omega) (MP.fr w7_0 hC_M7 hf_M8 rfl) (fun r55 M55 hC_M55 hf_M55 z55 w55_0 => ?_)) (by omega))
              have ht_M55 : FR W_par T M55 := FR.t ht_M8 hf_M55 (kw_sub rfl)
              refine jr.istore rfl (by decide) rfl ?_
              refine jr.aload_n rfl rfl ?_
              refine jr.iload_n rfl rfl ?_
              refine jr.iconst rfl ?_
              refine jr.iadd rfl ?_
              refine jr.iload_n rfl rfl ?_
              obtain ⟨v57, e57⟩ : ∃ z_, M7 413 0 = z_ := ⟨_, rfl⟩
              have b57 : (-2147483648) ≤ v57 ∧ v57 ≤ 2147483647 := by rw [← e57]; exact (CI.r hC_M7 (show kd 413 = 44 from rfl) (by decide) 0)
              have e58 : M8 413 0 = v57 := (hf_M8.g (show kd 413 = 44 from rfl) rfl).trans e57
              have e59 : M55 413 0 = v57 := (hf_M55.g (show kd 413 = 44 from rfl) rfl).trans e58
              have e60 : M8 413 3 = v1 := (hf_M8.g (show kd 413 = 44 from rfl) rfl).trans e9
              have e61 : M55 413 3 = v1 := (hf_M55.g (show kd 413 = 44 from rfl) rfl).trans e60
              refine jr_v rfl rfl (Or.inl rfl) rfl rfl (by decide) rfl ⟨rfl, Nat.le_of_ble_eq_true rfl, Nat.le_of_ble_eq_true rfl⟩ rfl (jc.deep (ihP.2.2.1 hC_M55 (FR.rfl _ M55) (by omega) (by omega) e59 (by have hq0 : M55 413 3 = v1 := e61; omega) (by have hq0 : M55 413 0 = v57 := e59; omega) w55_0 (by omega) (fun M56 hC_M56 hf_M56 w56_0 w56_1 => ?_)) (by omega))
              have ht_M56 : FR W_par T M56 := FR.t ht_M55 hf_M56 (kw_sub rfl)
              obtain ⟨v62, e62⟩ : ∃ z_, M56 413 0 = z_ := ⟨_, rfl⟩
              have b62 : (-2147483648) ≤ v62 ∧ v62 ≤ 2147483647 := by rw [← e62]; exact (CI.r hC_M56 (show kd 413 = 44 from rfl) (by decide) 0)
              refine jr.aload_n rfl rfl ?_
              have e63 : M55 413 2 = v31 := (hf_M55.g (show kd 413 = 44 from rfl) rfl).trans e33
              have e64 : M56 413 2 = v31 := (hf_M56.g (show kd 413 = 44 from rfl) rfl).trans e63
              have k65 : kd (v31).toNat = 47 := ((congrArg (fun z : Int => kd z.toNat) (show M56 413 2 = v31 from e64)).symm.trans (CI.x hC_M56 (show kd 413 = 44 from rfl) 2 rfl (by decide)))
              refine jr.getf (i := 2) (x := v31) (v := .ref (v31.toNat)) rfl rfl (by decide) rfl (by decide) rfl rfl e64 rfl ?_
              refine jr.iload_n rfl rfl ?_
              refine jr.iconst rfl ?_
              refine jr.icmp_gt rfl rfl (by omega) (by omega) (fun h103 => ?_) (fun h103 => ?_)
              · exact absurd h103 (by omega)
              · refine jr.sipush rfl (by decide) ?_
                refine jr.goto rfl rfl ?_
                refine jr.iconst rfl ?_
                refine jr_v rfl rfl (Or.inl rfl) rfl rfl (Nat.lt_trans (kx_47 k65).1 (by decide)) (kx_47 k65).2 ⟨rfl, Nat.le_of_ble_eq_true rfl, Nat.le_of_ble_eq_true rfl⟩ rfl (jc.deep (c_Program_emit_m hC_M56 (FR.rfl _ M56) k65 (by omega) (by omega) (by have hq0 : M56 413 2 = v31 := e64; omega) w56_0 (fun r66 M66 hC_M66 hf_M66 z66 w66_0 => ?_)) (by omega))
                have ht_M66 : FR W_par T M66 := FR.t ht_M56 hf_M66 (kw_sub rfl)
                refine jr.pop rfl rfl ?_
                refine jr.aload_n rfl rfl ?_
                have e67 : M66 413 2 = v31 := (hf_M66.g (show kd 413 = 44 from rfl) rfl).trans e64
                have k68 : kd (v31).toNat = 47 := ((congrArg (fun z : Int => kd z.toNat) (show M66 413 2 = v31 from e67)).symm.trans (CI.x hC_M66 (show kd 413 = 44 from rfl) 2 rfl (by decide)))
                refine jr.getf (i := 2) (x := v31) (v := .ref (v31.toNat)) rfl rfl (by decide) rfl (by decide) rfl rfl e67 rfl ?_
                refine jr.iload rfl rfl ?_
                refine jr_v rfl rfl (Or.inl rfl) rfl rfl (Nat.lt_trans (kx_47 k68).1 (by decide)) (kx_47 k68).2 ⟨rfl, Nat.le_of_ble_eq_true rfl, Nat.le_of_ble_eq_true rfl⟩ rfl (jc.deep (c_Program_land_m hC_M66 (FR.rfl _ M66) k68 (by omega) (by have hq0 : M66 413 2 = v31 := e67; omega) w66_0 (fun M69 hC_M69 hf_M69 w69_0 => ?_)) (by omega))
                have ht_M69 : FR W_par T M69 := FR.t ht_M66 hf_M69 (kw_sub rfl)
                refine jr.iload_n rfl rfl ?_
                refine jr.iconst rfl ?_
                refine jr.icmp_ne rfl rfl (by omega) (by omega) (fun h134 => ?_) (fun h134 => ?_)
                · refine jr.iinc rfl rfl (by decide) rfl ?_
                  refine jr.goto rfl rfl ?_
                  have e70 : M56 413 3 = v1 := (hf_M56.g (show kd 413 = 44 from rfl) rfl).trans e61
                  have e71 : M66 413 3 = v1 := (hf_M66.g (show kd 413 = 44 from rfl) rfl).trans e70
                  have e72 : M69 413 3 = v1 := (hf_M69.g (show kd 413 = 44 from rfl) rfl).trans e71
                  have e73 : M66 413 0 = v62 := (hf_M66.g (show kd 413 = 44 from rfl) rfl).trans e62
                  have e74 : M69 413 0 = v62 := (hf_M69.g (show kd 413 = 44 from rfl) rfl).trans e73
                  refine jr.pick [3, 4, 0, 5] rfl rfl ?_
                  exact ih (nM - 1) (by omega) M69 (i + 1) hC_M69 ht_M69 (by omega) (by omega) (by omega) (by have hq0 : M69 413 3 = v1 := e72; omega) (by have hq0 : M69 413 0 = v62 := e74; omega) (by have hq0 : M69 413 0 = v62 := e74; omega) w69_0 (by omega) (by omega)
                · exact absurd (by omega) h134
