theorem c_Parser_deed_z_L48 {A : Nat → Option (Nat × (Nat → Int32))} [HA A] {Q : Option Value → jm → Prop} {G : Nat → Int → Int} {f : Int → Int} {N : Int} {xs : ZS} {tt kk dd bh ee : Int} {sg : List (Int × Int × Int × Int)} {nm ak : List Int} {fz : List (Int × Int)} {T : jm} {n : Nat} (ihP : PXz A n) {x : Int} {y : Int} (q : ∀ (M' : jm), CI M' → FR W_par T M' → (MP M' G) → (M' 413 8 ≤ N ∧ (M' 413 6 = 1 → M' 413 7 < M' 413 8)) → (CDP f N xs M' dd bh sg nm ee fz tt) → Q none M') : ∀ (nM : Nat) (M : jm) (w : Int), CI M → FR W_par T M → 0 ≤ x ∧ x ≤ 12 → 0 ≤ y ∧ y ≤ 1 → 3 ≤ w ∧ w ≤ 18 → (1 ≤ M 413 3 ∧ M 413 3 ≤ 1) → (MP M G) → (20 * (13 - x) + 12 ≤ ((n + 1 : Nat) : Int)) → (TXc f N M) → (M 413 8 ≤ N ∧ (M 413 6 = 1 → M 413 7 < M 413 8)) → (CZ f N xs M tt kk nm ak ee fz (zr f N xs (1, tt, kk, dd, 0, bh, sg, nm, ak) ∧ ¬ (zso f N tt = 3 ∧ f tt = 125))) → (dd = x) → (0 ≤ ee) → (bh = y) → (sg ≠ []) → (M 413 0 = 0) → (zso f N tt = 1) → (w = zcv (zwd f N tt)) → ((zwd f N tt = 2 ∨ (4 ≤ zwd f N tt ∧ zwd f N tt ≤ 18 ∧ ¬ (bh = 1 ∧ zwd f N tt ≤ 9)))) → 0 ≤ nM → jr A (n + 60) xm_199 48 [(1, .int (Int32.ofInt (x))), (2, .int (Int32.ofInt (y))), (3, .int (Int32.ofInt (w))), (0, .ref (413))] [] M Q := by
  intro nM
  induction nM using Nat.strongRecOn with
  | ind nM ih =>
    intro M w hC_M ht_M h_x h_y h_w hy0 hy1 hy2 hy3 hy4 hy5 hy6 hy7 hy8 hy9 hy10 hy11 hy12 hy13 hm
    have h_ee := hy7
    have hne := hy9
    have hs1 := hy11
    have hw := hy12
    have hal := hy13
    clear hy13 hy12 hy11
    have hN := hy3.1
    have hN2 : N ≤ 1600 := by rw [← hN]; exact (CI.r hC_M (show kd 413 = 44 from rfl) (by decide) 4).2
    have ktt := (CZ.z hy5 hy10).1.1.2.1
    obtain ⟨v1, e1⟩ : ∃ z_, M 413 3 = z_ := ⟨_, rfl⟩
    have b1 : 1 ≤ v1 ∧ v1 ≤ 419 := by rw [← e1]; exact (CI.r hC_M (show kd 413 = 44 from rfl) (by decide) 3)
    have b2 : 1 ≤ v1 ∧ v1 ≤ 1 := by rw [← e1]; exact hy0
    obtain ⟨v3, e3⟩ : ∃ z_, M 413 8 = z_ := ⟨_, rfl⟩
    have b3 : 0 ≤ v3 ∧ v3 ≤ 1600 := by rw [← e3]; exact (CI.r hC_M (show kd 413 = 44 from rfl) (by decide) 8)
    obtain ⟨v4, e4⟩ : ∃ z_, M 413 6 = z_ := ⟨_, rfl⟩
    have b4 : (-2147483648) ≤ v4 ∧ v4 ≤ 2147483647 := by rw [← e4]; exact (CI.r hC_M (show kd 413 = 44 from rfl) (by decide) 6)
    obtain ⟨v5, e5⟩ : ∃ z_, M 413 7 = z_ := ⟨_, rfl⟩
    have b5 : 0 ≤ v5 ∧ v5 ≤ 1600 := by rw [← e5]; exact (CI.r hC_M (show kd 413 = 44 from rfl) (by decide) 7)
    obtain ⟨v6, e6⟩ : ∃ z_, M 413 0 = z_ := ⟨_, rfl⟩
    have b6 : (-2147483648) ≤ v6 ∧ v6 ≤ 2147483647 := by rw [← e6]; exact (CI.r hC_M (show kd 413 = 44 from rfl) (by decide) 0)
    refine jr.aload_n rfl rfl ?_
    obtain ⟨v8, e8⟩ : ∃ z_, M 413 1 = z_ := ⟨_, rfl⟩
    have b8 : (-2147483648) ≤ v8 ∧ v8 ≤ 2147483647 := by rw [← e8]; exact (CI.r hC_M (show kd 413 = 44 from rfl) (by decide) 1)
    obtain ⟨v9, e9⟩ : ∃ z_, M 413 2 = z_ := ⟨_, rfl⟩
    have b9 : 0 ≤ v9 ∧ v9 ≤ 597 := by rw [← e9]; exact (CI.r hC_M (show kd 413 = 44 from rfl) (by decide) 2)
    have k7_P : kd (v9).toNat = 47 := (congrArg (fun z : Int => kd z.toNat) e9).symm.trans (CI.x hC_M (show kd 413 = 44 from rfl) 2 rfl (by decide))
    obtain ⟨v10, e10⟩ : ∃ z_, M ((v9.toNat)) 4 = z_ := ⟨_, rfl⟩
    have b10 : (-2147483648) ≤ v10 ∧ v10 ≤ 2147483647 := by rw [← e10]; exact (CI.r hC_M k7_P (by decide) 4)
    refine jr_v rfl rfl (Or.inl rfl) rfl rfl (by decide) rfl ⟨rfl, Nat.le_of_ble_eq_true rfl, Nat.le_of_ble_eq_true rfl⟩ rfl (jc.deep (c_Parser_countNode_z hC_M (FR.rfl _ M)  e6 e8 e5 e9 e10 hy1 (fun M7 hC_M7 hf_M7 w7_0 w7_1 => ?_)) (by omega))
    have ht_M7 : FR W_par T M7 := FR.t ht_M hf_M7 (kw_sub rfl)
    obtain ⟨v11, e11⟩ : ∃ z_, M7 413 0 = z_ := ⟨_, rfl⟩
    have b11 : (-2147483648) ≤ v11 ∧ v11 ≤ 2147483647 := by rw [← e11]; exact (CI.r hC_M7 (show kd 413 = 44 from rfl) (by decide) 0)
    obtain ⟨v12, e12⟩ : ∃ z_, M7 413 1 = z_ := ⟨_, rfl⟩
    have b12 : (-2147483648) ≤ v12 ∧ v12 ≤ 2147483647 := by rw [← e12]; exact (CI.r hC_M7 (show kd 413 = 44 from rfl) (by decide) 1)
    obtain ⟨v13, e13⟩ : ∃ z_, M7 ((v9.toNat)) 4 = z_ := ⟨_, rfl⟩
    have b13 : (-2147483648) ≤ v13 ∧ v13 ≤ 2147483647 := by rw [← e13]; exact (CI.r hC_M7 k7_P (by decide) 4)
    have hq1 := CZ.node hy5 hC_M hf_M7 e6 e8 e5 e9 e10 w7_1 (fun z hk => zr.dkL hne z.1 hs1 hal hk)
    clear w7_1
    refine jr.aload_n rfl rfl ?_
    have e14 : M7 413 2 = v9 := (hf_M7.g (show kd 413 = 44 from rfl) rfl).trans e9
    have k15 : kd (v9).toNat = 47 := ((congrArg (fun z : Int => kd z.toNat) (show M7 413 2 = v9 from e14)).symm.trans (CI.x hC_M7 (show kd 413 = 44 from rfl) 2 rfl (by decide)))
    refine jr.getf (i := 2) (x := v9) (v := .ref (v9.toNat)) rfl rfl (by decide) rfl (by decide) rfl rfl e14 rfl ?_
    refine jr.bipush rfl (by decide) ?_
    refine jr.iconst rfl ?_
    obtain ⟨v17, e17⟩ : ∃ z_, M ((v9.toNat)) 2 = z_ := ⟨_, rfl⟩
    have b17 : 0 ≤ v17 ∧ v17 ≤ 932 := by rw [← e17]; exact (CI.r hC_M k15 (by decide) 2)
    have e18 : M7 ((v9.toNat)) 2 = v17 := (hf_M7.g k15 rfl).trans e17
    refine jr_v rfl rfl (Or.inl rfl) rfl rfl (Nat.lt_trans (kx_47 k15).1 (by decide)) (kx_47 k15).2 ⟨rfl, Nat.le_of_ble_eq_true rfl, Nat.le_of_ble_eq_true rfl⟩ rfl (jc.deep (c_Program_emit_z hC_M7 (FR.rfl _ M7) k15 (by omega) (by omega) e18 rfl (by have hq0 : M7 413 2 = v9 := e14; omega) w7_0 (fun r16 M16 hC_M16 hf_M16 z16 w16_0 w16_1 w16_2 => ?_)) (by omega))
    have ht_M16 : FR W_par T M16 := FR.t ht_M7 hf_M16 (kw_sub rfl)
    have hq2 := CZ.emn (p := (v9.toNat)) hq1 hC_M7 hf_M16 (e14.trans (by omega)) e18 w16_2 (by omega) (by omega)
    clear w16_2 w16_1
    refine jr.pop rfl rfl ?_
    refine jr.aload_n rfl rfl ?_
    have e20 : M16 413 0 = v11 := (hf_M16.g (show kd 413 = 44 from rfl) rfl).trans e11
    have e21 : M7 413 8 = v3 := (hf_M7.g (show kd 413 = 44 from rfl) rfl).trans e3
    have e22 : M16 413 8 = v3 := (hf_M16.g (show kd 413 = 44 from rfl) rfl).trans e21
    have e23 : M7 413 3 = v1 := (hf_M7.g (show kd 413 = 44 from rfl) rfl).trans e1
    have e24 : M16 413 3 = v1 := (hf_M16.g (show kd 413 = 44 from rfl) rfl).trans e23
    have e25 : M7 413 6 = v4 := (hf_M7.g (show kd 413 = 44 from rfl) rfl).trans e4
    have e26 : M16 413 6 = v4 := (hf_M16.g (show kd 413 = 44 from rfl) rfl).trans e25
    have e27 : M7 413 7 = v5 := (hf_M7.g (show kd 413 = 44 from rfl) rfl).trans e5
    have e28 : M16 413 7 = v5 := (hf_M16.g (show kd 413 = 44 from rfl) rfl).trans e27
    refine jr_v rfl rfl (Or.inl rfl) rfl rfl (by decide) rfl ⟨rfl, Nat.le_of_ble_eq_true rfl, Nat.le_of_ble_eq_true rfl⟩ rfl (jc.deep (c_Parser_advance_z hC_M16 (FR.rfl _ M16)  e20 e22 (by have hq0 : M16 413 3 = v1 := e24; omega) (TXc.fr (TXc.fr hy3 hf_M7 rfl) hf_M16 rfl) (by have hq0 : M16 413 8 = v3 := e22; have hq1 : M16 413 6 = v4 := e26; have hq2 : M16 413 7 = v5 := e28; omega) (fun M19 hC_M19 hf_M19 w19_0 w19_1 => ?_)) (by omega))
    have ht_M19 : FR W_par T M19 := FR.t ht_M16 hf_M19 (kw_sub rfl)
    obtain ⟨v29, e29⟩ : ∃ z_, M19 413 8 = z_ := ⟨_, rfl⟩
    have b29 : 0 ≤ v29 ∧ v29 ≤ 1600 := by rw [← e29]; exact (CI.r hC_M19 (show kd 413 = 44 from rfl) (by decide) 8)
    obtain ⟨v30, e30⟩ : ∃ z_, M19 413 6 = z_ := ⟨_, rfl⟩
    have b30 : (-2147483648) ≤ v30 ∧ v30 ≤ 2147483647 := by rw [← e30]; exact (CI.r hC_M19 (show kd 413 = 44 from rfl) (by decide) 6)
    obtain ⟨v31, e31⟩ : ∃ z_, M19 413 7 = z_ := ⟨_, rfl⟩
    have b31 : 0 ≤ v31 ∧ v31 ≤ 1600 := by rw [← e31]; exact (CI.r hC_M19 (show kd 413 = 44 from rfl) (by decide) 7)
    have hq3 := CZ.adv hq2 hC_M16 hf_M19 e20 e22 w19_0
    clear w19_0
    clear hy4
    refine jr.iload_n rfl rfl ?_
    refine jr.iconst rfl ?_
    refine jr.icmp_ne rfl rfl (by omega) (by omega) (fun h69 => ?_) (fun h69 => ?_)
    · refine jr.iconst rfl ?_
      refine jr.istore rfl (by decide) rfl ?_
      refine jr.iload_n rfl rfl ?_
      refine jr.bipush rfl (by decide) ?_
      refine jr.icmp_eq rfl rfl (by omega) (by omega) (fun h85 => ?_) (fun h85 => ?_)
      · refine jr.aload_n rfl rfl ?_
        refine jr.getf (i := 7) (x := v31) (v := .int (Int32.ofInt (v31))) rfl rfl (by decide) rfl (by decide) rfl rfl e31 rfl ?_
        refine jr.istore rfl (by decide) rfl ?_
        refine jr.aload_n rfl rfl ?_
        have e33 : M19 413 0 = v11 := (hf_M19.g (show kd 413 = 44 from rfl) rfl).trans e20
        have e34 : M16 413 1 = v12 := (hf_M16.g (show kd 413 = 44 from rfl) rfl).trans e12
        have e35 : M19 413 1 = v12 := (hf_M19.g (show kd 413 = 44 from rfl) rfl).trans e34
        obtain ⟨v36, e36⟩ : ∃ z_, M19 413 10 = z_ := ⟨_, rfl⟩
        have b36 : (-2147483648) ≤ v36 ∧ v36 ≤ 2147483647 := by rw [← e36]; exact (CI.r hC_M19 (show kd 413 = 44 from rfl) (by decide) 10)
        have e37 : M19 413 3 = v1 := (hf_M19.g (show kd 413 = 44 from rfl) rfl).trans e24
        have hj := zcv_j (w := zwd f N tt) (by omega)
        have hal2 : 4 ≤ zwd f N tt ∧ zwd f N tt ≤ 18 := by omega
        have hnb : HID (¬ (bh = 1 ∧ zwd f N tt ≤ 9)) := HID.i (by omega)
        clear hal
        have hw89 : 8 ≤ zwd f N tt ∧ zwd f N tt ≤ 9 := by omega
        refine jr_v rfl rfl (Or.inl rfl) rfl rfl (by decide) rfl ⟨rfl, Nat.le_of_ble_eq_true rfl, Nat.le_of_ble_eq_true rfl⟩ rfl (jc.deep (c_Parser_expectName_z hC_M19 (FR.rfl _ M19)  e33 e35 e31 e30 e29 e36 (by have hq0 : M19 413 3 = v1 := e37; omega) (TXc.fr (TXc.fr (TXc.fr hy3 hf_M7 rfl) hf_M16 rfl) hf_M19 rfl) (by have hq0 : M19 413 8 = v29 := e29; have hq1 : M19 413 6 = v30 := e30; have hq2 : M19 413 7 = v31 := e31; omega) (fun M32 hC_M32 hf_M32 w32_0 w32_1 w32_2 => ?_)) (by omega))
        have ht_M32 : FR W_par T M32 := FR.t ht_M19 hf_M32 (kw_sub rfl)
        obtain ⟨v38, e38⟩ : ∃ z_, M32 413 0 = z_ := ⟨_, rfl⟩
        have b38 : (-2147483648) ≤ v38 ∧ v38 ≤ 2147483647 := by rw [← e38]; exact (CI.r hC_M32 (show kd 413 = 44 from rfl) (by decide) 0)
        obtain ⟨v39, e39⟩ : ∃ z_, M32 413 1 = z_ := ⟨_, rfl⟩
        have b39 : (-2147483648) ≤ v39 ∧ v39 ≤ 2147483647 := by rw [← e39]; exact (CI.r hC_M32 (show kd 413 = 44 from rfl) (by decide) 1)
        obtain ⟨v40, e40⟩ : ∃ z_, M32 413 8 = z_ := ⟨_, rfl⟩
        have b40 : 0 ≤ v40 ∧ v40 ≤ 1600 := by rw [← e40]; exact (CI.r hC_M32 (show kd 413 = 44 from rfl) (by decide) 8)
        obtain ⟨v41, e41⟩ : ∃ z_, M32 413 6 = z_ := ⟨_, rfl⟩
        have b41 : (-2147483648) ≤ v41 ∧ v41 ≤ 2147483647 := by rw [← e41]; exact (CI.r hC_M32 (show kd 413 = 44 from rfl) (by decide) 6)
        obtain ⟨v42, e42⟩ : ∃ z_, M32 413 7 = z_ := ⟨_, rfl⟩
        have b42 : 0 ≤ v42 ∧ v42 ≤ 1600 := by rw [← e42]; exact (CI.r hC_M32 (show kd 413 = 44 from rfl) (by decide) 7)
        have hq4 := hq3.tk.imp (fun z => (⟨z.1, z.2.2.1⟩ : _ ∧ _))
        have hq5 := CZ.nam hq4 hC_M19 hf_M32 e33 e35 e31 e30 e29 e36 w32_0 w32_1 (fun z y => zr.djpnL hne z.1.1.1.1 hs1 hw89 hnb.e z.1.1.2 y)
        clear w32_0 w32_1
        clear w19_1
        refine jr.aload_n rfl rfl ?_
        refine jr.iload_n rfl rfl ?_
        refine jr_s rfl rfl (Or.inl rfl) ⟨Nat.le_of_ble_eq_true rfl, Nat.le_of_ble_eq_true rfl⟩ rfl rfl (jc.deep (c_Parser_expsOf_z hC_M32 (by omega) (fun r43 z43 w43_0 => ?_)) (by omega))
        have hz1 := zeo_1 (w := w) (by omega)
        have hzo : r43 = zeo w := w43_0
        have hr0 : r43 = 0 := by omega
        clear hzo hz1 w43_0
        refine jr.iload_n rfl rfl ?_
        have e45 : M32 413 3 = v1 := (hf_M32.g (show kd 413 = 44 from rfl) rfl).trans e37
        refine jr_v rfl rfl (Or.inl rfl) rfl rfl (by decide) rfl ⟨rfl, Nat.le_of_ble_eq_true rfl, Nat.le_of_ble_eq_true rfl⟩ rfl (jc.deep (ihP.2.2.2.1 hC_M32 (FR.rfl _ M32) (by omega) (by omega) (by have hq0 : M32 413 3 = v1 := e45; omega) (by have hq0 : M32 413 0 = v38 := e38; omega) (MP.fr (MP.fr w16_0 hC_M16 hf_M19 rfl) hC_M19 hf_M32 rfl) (by omega) (TXc.fr (TXc.fr (TXc.fr (TXc.fr hy3 hf_M7 rfl) hf_M16 rfl) hf_M19 rfl) hf_M32 rfl) (by have hq0 : M32 413 8 = v40 := e40; have hq1 : M32 413 6 = v41 := e41; have hq2 : M32 413 7 = v42 := e42; omega) hq5 (show dd = _ by omega) (by omega) (fun q => (by exfalso; omega : ZAX 10 0 0 _)) (fun q => (by exfalso; omega : _ → zr f N xs (2, _, _, dd, 0, bh, (10, 0, 1, 0) :: sg, nm, ak))) (show (10 : Int) ≠ 20 by decide) (fun M44 hC_M44 hf_M44 w44_0 w44_1 w44_2 => ?_)) (by omega))
        have ht_M44 : FR W_par T M44 := FR.t ht_M32 hf_M44 (kw_sub rfl)
        obtain ⟨v46, e46⟩ : ∃ z_, M44 413 8 = z_ := ⟨_, rfl⟩
        have b46 : 0 ≤ v46 ∧ v46 ≤ 1600 := by rw [← e46]; exact (CI.r hC_M44 (show kd 413 = 44 from rfl) (by decide) 8)
        obtain ⟨v47, e47⟩ : ∃ z_, M44 413 6 = z_ := ⟨_, rfl⟩
        have b47 : (-2147483648) ≤ v47 ∧ v47 ≤ 2147483647 := by rw [← e47]; exact (CI.r hC_M44 (show kd 413 = 44 from rfl) (by decide) 6)
        obtain ⟨v48, e48⟩ : ∃ z_, M44 413 7 = z_ := ⟨_, rfl⟩
        have b48 : 0 ≤ v48 ∧ v48 ≤ 1600 := by rw [← e48]; exact (CI.r hC_M44 (show kd 413 = 44 from rfl) (by decide) 7)
        obtain ⟨t1, k1, c1, hu1, hq6⟩ := CEL.un w44_2
        clear w32_2
        refine jr.aload_n rfl rfl ?_
        have e49 : M16 413 2 = v9 := (hf_M16.g (show kd 413 = 44 from rfl) rfl).trans e14
        have e50 : M19 413 2 = v9 := (hf_M19.g (show kd 413 = 44 from rfl) rfl).trans e49
        have e51 : M32 413 2 = v9 := (hf_M32.g (show kd 413 = 44 from rfl) rfl).trans e50
        have e52 : M44 413 2 = v9 := (hf_M44.g (show kd 413 = 44 from rfl) rfl).trans e51
        have k53 : kd (v9).toNat = 47 := ((congrArg (fun z : Int => kd z.toNat) (show M44 413 2 = v9 from e52)).symm.trans (CI.x hC_M44 (show kd 413 = 44 from rfl) 2 rfl (by decide)))
        refine jr.getf (i := 2) (x := v9) (v := .ref (v9.toNat)) rfl rfl (by decide) rfl (by decide) rfl rfl e52 rfl ?_
        refine jr.iload_n rfl rfl ?_
        refine jr.iload rfl rfl ?_
        obtain ⟨v55, e55⟩ : ∃ z_, M44 ((v9.toNat)) 2 = z_ := ⟨_, rfl⟩
        have b55 : 0 ≤ v55 ∧ v55 ≤ 932 := by rw [← e55]; exact (CI.r hC_M44 k53 (by decide) 2)
        refine jr_v rfl rfl (Or.inl rfl) rfl rfl (Nat.lt_trans (kx_47 k53).1 (by decide)) (kx_47 k53).2 ⟨rfl, Nat.le_of_ble_eq_true rfl, Nat.le_of_ble_eq_true rfl⟩ rfl (jc.deep (c_Program_emit_z hC_M44 (FR.rfl _ M44) k53 (by omega) (by omega) e55 rfl (by have hq0 : M44 413 2 = v9 := e52; omega) w44_0 (fun r54 M54 hC_M54 hf_M54 z54 w54_0 w54_1 w54_2 => ?_)) (by omega))
        have ht_M54 : FR W_par T M54 := FR.t ht_M44 hf_M54 (kw_sub rfl)
        have hq7 := CZ.emj (p := (v9.toNat)) (y1 := znx f N tt) hq6 hC_M44 hf_M54 (e52.trans (by omega)) e55 w54_2 (by omega) (by omega) (fun z => by rcases z with ⟨_, _, _, zj⟩ | ⟨y, _⟩; (exact ⟨by have y := zj.1.2; omega, zj.2.1, by have g0 := znx_ge f N tt; omega, by have g1 := zso_lt (f := f) (N := N) (t := znx f N tt) (by have y := zj.2.1; omega); omega⟩); (exfalso; omega))
        clear w54_1 w54_2
        refine jr.pop rfl rfl ?_
        refine jr.aload_n rfl rfl ?_
        refine jr.bipush rfl (by decide) ?_
        obtain ⟨v57, e57⟩ : ∃ z_, M44 413 0 = z_ := ⟨_, rfl⟩
        have b57 : (-2147483648) ≤ v57 ∧ v57 ≤ 2147483647 := by rw [← e57]; exact (CI.r hC_M44 (show kd 413 = 44 from rfl) (by decide) 0)
        have e58 : M54 413 0 = v57 := (hf_M54.g (show kd 413 = 44 from rfl) rfl).trans e57
        obtain ⟨v59, e59⟩ : ∃ z_, M44 413 1 = z_ := ⟨_, rfl⟩
        have b59 : (-2147483648) ≤ v59 ∧ v59 ≤ 2147483647 := by rw [← e59]; exact (CI.r hC_M44 (show kd 413 = 44 from rfl) (by decide) 1)
        have e60 : M54 413 1 = v59 := (hf_M54.g (show kd 413 = 44 from rfl) rfl).trans e59
        have e61 : M54 413 7 = v48 := (hf_M54.g (show kd 413 = 44 from rfl) rfl).trans e48
        have e62 : M54 413 6 = v47 := (hf_M54.g (show kd 413 = 44 from rfl) rfl).trans e47
        have e63 : M54 413 8 = v46 := (hf_M54.g (show kd 413 = 44 from rfl) rfl).trans e46
        obtain ⟨v64, e64⟩ : ∃ z_, M44 413 11 = z_ := ⟨_, rfl⟩
        have b64 : 0 ≤ v64 ∧ v64 ≤ 255 := by rw [← e64]; exact (CI.r hC_M44 (show kd 413 = 44 from rfl) (by decide) 11)
        have e65 : M54 413 11 = v64 := (hf_M54.g (show kd 413 = 44 from rfl) rfl).trans e64
        have e66 : M44 413 3 = v1 := (hf_M44.g (show kd 413 = 44 from rfl) rfl).trans e45
        have e67 : M54 413 3 = v1 := (hf_M54.g (show kd 413 = 44 from rfl) rfl).trans e66
        refine jr_v rfl rfl (Or.inl rfl) rfl rfl (by decide) rfl ⟨rfl, Nat.le_of_ble_eq_true rfl, Nat.le_of_ble_eq_true rfl⟩ rfl (jc.deep (c_Parser_expect_z hC_M54 (FR.rfl _ M54) (by omega) e58 e60 e61 e62 e63 e65 (by have hq0 : M54 413 3 = v1 := e67; omega) (TXc.fr (TXc.fr (TXc.fr (TXc.fr (TXc.fr (TXc.fr hy3 hf_M7 rfl) hf_M16 rfl) hf_M19 rfl) hf_M32 rfl) hf_M44 rfl) hf_M54 rfl) (by have hq0 : M54 413 8 = v46 := e63; have hq1 : M54 413 6 = v47 := e62; have hq2 : M54 413 7 = v48 := e61; omega) (fun M56 hC_M56 hf_M56 w56_0 w56_1 w56_2 => ?_)) (by omega))
        have ht_M56 : FR W_par T M56 := FR.t ht_M54 hf_M56 (kw_sub rfl)
        obtain ⟨v68, e68⟩ : ∃ z_, M56 413 0 = z_ := ⟨_, rfl⟩
        have b68 : (-2147483648) ≤ v68 ∧ v68 ≤ 2147483647 := by rw [← e68]; exact (CI.r hC_M56 (show kd 413 = 44 from rfl) (by decide) 0)
        obtain ⟨v69, e69⟩ : ∃ z_, M56 413 1 = z_ := ⟨_, rfl⟩
        have b69 : (-2147483648) ≤ v69 ∧ v69 ≤ 2147483647 := by rw [← e69]; exact (CI.r hC_M56 (show kd 413 = 44 from rfl) (by decide) 1)
        obtain ⟨v70, e70⟩ : ∃ z_, M56 413 8 = z_ := ⟨_, rfl⟩
        have b70 : 0 ≤ v70 ∧ v70 ≤ 1600 := by rw [← e70]; exact (CI.r hC_M56 (show kd 413 = 44 from rfl) (by decide) 8)
        obtain ⟨v71, e71⟩ : ∃ z_, M56 413 6 = z_ := ⟨_, rfl⟩
        have b71 : (-2147483648) ≤ v71 ∧ v71 ≤ 2147483647 := by rw [← e71]; exact (CI.r hC_M56 (show kd 413 = 44 from rfl) (by decide) 6)
        obtain ⟨v72, e72⟩ : ∃ z_, M56 413 7 = z_ := ⟨_, rfl⟩
        have b72 : 0 ≤ v72 ∧ v72 ≤ 1600 := by rw [← e72]; exact (CI.r hC_M56 (show kd 413 = 44 from rfl) (by decide) 7)
        have hq8 := CZ.exp hq7 hC_M54 hf_M56 e58 e60 e61 e62 e63 e65 w56_0 w56_1 (fun z y => by rcases z.1 with ⟨_, rfl, rfl, zj⟩ | ⟨y2, _⟩; (exact zr.djpfL hne zj.1.1.1.1.1 hs1 hw89 hnb.e zj.1.1.1.2 zj.2 y); (exfalso; omega))
        clear w56_0 w56_1
        clear w44_1
        exact jr.vreturn rfl rfl (q _ hC_M56 ht_M56  (MP.fr w54_0 hC_M54 hf_M56 rfl) (by have hq0 : M56 413 8 = v70 := e70; have hq1 : M56 413 6 = v71 := e71; have hq2 : M56 413 7 = v72 := e72; omega) (CDP.mk ((hq8.wk (fun _ h => List.mem_cons_of_mem _ (List.mem_cons_of_mem _ h))).le h_ee (by omega)) (fun z => by rcases z.1.1 with ⟨_, rfl, rfl, zj⟩ | ⟨y, _⟩; (exact ⟨zr.djpL hne zj.1.1.1.1.1 hs1 hw89 hnb.e zj.1.1.1.2 zj.2 z.2, by have g0 := znx_gt f (zso_lt (f := f) (N := N) (t := tt) (by omega)); have g1 := znx_ge f N (znx f N tt); have g2 := znx_ge f N (znx f N (znx f N tt)); omega⟩); (exfalso; omega))))
      · refine jr.iload_n rfl rfl ?_
        refine jr.bipush rfl (by decide) ?_
        refine jr.icmp_ne rfl rfl (by omega) (by omega) (fun h91 => ?_) (fun h91 => ?_)
        · refine jr.aload_n rfl rfl ?_
          refine jr.iload_n rfl rfl ?_
          refine jr_s rfl rfl (Or.inl rfl) ⟨Nat.le_of_ble_eq_true rfl, Nat.le_of_ble_eq_true rfl⟩ rfl rfl (jc.deep (c_Parser_expsOf_z hC_M19 (by omega) (fun r73 z73 w73_0 => ?_)) (by omega))
          have hj := zcv_j (w := zwd f N tt) (by omega)
          have hal2 : 4 ≤ zwd f N tt ∧ zwd f N tt ≤ 18 := by omega
          have hnb : HID (¬ (bh = 1 ∧ zwd f N tt ≤ 9)) := HID.i (by omega)
          clear hal
          have hzx : zex (zwd f N tt) = zex w := by rw [show zwd f N tt = w by omega]
          have hz1 := zeo_1 (w := w) (by omega)
          have hzo : r73 = zeo w := w73_0
          have hzz : (4 ≤ w ∧ w ≤ 7 ∧ r73 = 0) ∨ (10 ≤ w ∧ w ≤ 18 ∧ r73 = zex w ∧ 1 ≤ r73) := by omega
          clear hzo hz1 w73_0 h69 h85 h91
          have hdt : HID (r73 = 0 → 4 ≤ zwd f N tt ∧ zwd f N tt ≤ 7) := HID.i (fun e => by omega)
          have hdx : HID (1 ≤ r73 → zex (zwd f N tt) ≤ r73) := HID.i (fun e => by omega)
          have hwn : HID (¬ (w = 8 ∨ w = 9)) := HID.i (by omega)
          refine jr.iload_n rfl rfl ?_
          have e75 : M19 413 3 = v1 := (hf_M19.g (show kd 413 = 44 from rfl) rfl).trans e24
          have e76 : M19 413 0 = v11 := (hf_M19.g (show kd 413 = 44 from rfl) rfl).trans e20
          refine jr_v rfl rfl (Or.inl rfl) rfl rfl (by decide) rfl ⟨rfl, Nat.le_of_ble_eq_true rfl, Nat.le_of_ble_eq_true rfl⟩ rfl (jc.deep (ihP.2.2.2.1 hC_M19 (FR.rfl _ M19) (by omega) (by omega) (by have hq0 : M19 413 3 = v1 := e75; omega) (by have hq0 : M19 413 0 = v11 := e76; omega) (MP.fr w16_0 hC_M16 hf_M19 rfl) (by omega) (TXc.fr (TXc.fr (TXc.fr hy3 hf_M7 rfl) hf_M16 rfl) hf_M19 rfl) (by have hq0 : M19 413 8 = v29 := e29; have hq1 : M19 413 6 = v30 := e30; have hq2 : M19 413 7 = v31 := e31; omega) hq3 (show dd = _ by omega) (by omega) (fun q => Or.inr ⟨rfl, rfl, show zex (zwd f N tt) = _ by omega⟩) (fun q z => zr.dexL hne z.1.1.1 hs1 (by omega) z.1.2) (show (10 : Int) ≠ 20 by decide) (fun M74 hC_M74 hf_M74 w74_0 w74_1 w74_2 => ?_)) (by omega))
          have ht_M74 : FR W_par T M74 := FR.t ht_M19 hf_M74 (kw_sub rfl)
          obtain ⟨v77, e77⟩ : ∃ z_, M74 413 8 = z_ := ⟨_, rfl⟩
          have b77 : 0 ≤ v77 ∧ v77 ≤ 1600 := by rw [← e77]; exact (CI.r hC_M74 (show kd 413 = 44 from rfl) (by decide) 8)
          obtain ⟨v78, e78⟩ : ∃ z_, M74 413 6 = z_ := ⟨_, rfl⟩
          have b78 : (-2147483648) ≤ v78 ∧ v78 ≤ 2147483647 := by rw [← e78]; exact (CI.r hC_M74 (show kd 413 = 44 from rfl) (by decide) 6)
          obtain ⟨v79, e79⟩ : ∃ z_, M74 413 7 = z_ := ⟨_, rfl⟩
          have b79 : 0 ≤ v79 ∧ v79 ≤ 1600 := by rw [← e79]; exact (CI.r hC_M74 (show kd 413 = 44 from rfl) (by decide) 7)
          obtain ⟨t1, k1, c1, hu1, hq6⟩ := CEL.un w74_2
          clear w19_1
          clear hzz
          refine jr.aload_n rfl rfl ?_
          have e80 : M16 413 2 = v9 := (hf_M16.g (show kd 413 = 44 from rfl) rfl).trans e14
          have e81 : M19 413 2 = v9 := (hf_M19.g (show kd 413 = 44 from rfl) rfl).trans e80
          have e82 : M74 413 2 = v9 := (hf_M74.g (show kd 413 = 44 from rfl) rfl).trans e81
          have k83 : kd (v9).toNat = 47 := ((congrArg (fun z : Int => kd z.toNat) (show M74 413 2 = v9 from e82)).symm.trans (CI.x hC_M74 (show kd 413 = 44 from rfl) 2 rfl (by decide)))
          refine jr.getf (i := 2) (x := v9) (v := .ref (v9.toNat)) rfl rfl (by decide) rfl (by decide) rfl rfl e82 rfl ?_
          refine jr.iload_n rfl rfl ?_
          refine jr.iload rfl rfl ?_
          obtain ⟨v85, e85⟩ : ∃ z_, M74 ((v9.toNat)) 2 = z_ := ⟨_, rfl⟩
          have b85 : 0 ≤ v85 ∧ v85 ≤ 932 := by rw [← e85]; exact (CI.r hC_M74 k83 (by decide) 2)
          refine jr_v rfl rfl (Or.inl rfl) rfl rfl (Nat.lt_trans (kx_47 k83).1 (by decide)) (kx_47 k83).2 ⟨rfl, Nat.le_of_ble_eq_true rfl, Nat.le_of_ble_eq_true rfl⟩ rfl (jc.deep (c_Program_emit_z hC_M74 (FR.rfl _ M74) k83 (by omega) (by omega) e85 rfl (by have hq0 : M74 413 2 = v9 := e82; omega) w74_0 (fun r84 M84 hC_M84 hf_M84 z84 w84_0 w84_1 w84_2 => ?_)) (by omega))
          have ht_M84 : FR W_par T M84 := FR.t ht_M74 hf_M84 (kw_sub rfl)
          have hq7 := CZ.emn (p := (v9.toNat)) hq6 hC_M74 hf_M84 (e82.trans (by omega)) e85 w84_2 (by omega) hwn.e
          clear w84_2 w84_1
          refine jr.pop rfl rfl ?_
          refine jr.aload_n rfl rfl ?_
          refine jr.bipush rfl (by decide) ?_
          obtain ⟨v87, e87⟩ : ∃ z_, M74 413 0 = z_ := ⟨_, rfl⟩
          have b87 : (-2147483648) ≤ v87 ∧ v87 ≤ 2147483647 := by rw [← e87]; exact (CI.r hC_M74 (show kd 413 = 44 from rfl) (by decide) 0)
          have e88 : M84 413 0 = v87 := (hf_M84.g (show kd 413 = 44 from rfl) rfl).trans e87
          obtain ⟨v89, e89⟩ : ∃ z_, M74 413 1 = z_ := ⟨_, rfl⟩
          have b89 : (-2147483648) ≤ v89 ∧ v89 ≤ 2147483647 := by rw [← e89]; exact (CI.r hC_M74 (show kd 413 = 44 from rfl) (by decide) 1)
          have e90 : M84 413 1 = v89 := (hf_M84.g (show kd 413 = 44 from rfl) rfl).trans e89
          have e91 : M84 413 7 = v79 := (hf_M84.g (show kd 413 = 44 from rfl) rfl).trans e79
          have e92 : M84 413 6 = v78 := (hf_M84.g (show kd 413 = 44 from rfl) rfl).trans e78
          have e93 : M84 413 8 = v77 := (hf_M84.g (show kd 413 = 44 from rfl) rfl).trans e77
          obtain ⟨v94, e94⟩ : ∃ z_, M74 413 11 = z_ := ⟨_, rfl⟩
          have b94 : 0 ≤ v94 ∧ v94 ≤ 255 := by rw [← e94]; exact (CI.r hC_M74 (show kd 413 = 44 from rfl) (by decide) 11)
          have e95 : M84 413 11 = v94 := (hf_M84.g (show kd 413 = 44 from rfl) rfl).trans e94
          have e96 : M74 413 3 = v1 := (hf_M74.g (show kd 413 = 44 from rfl) rfl).trans e75
          have e97 : M84 413 3 = v1 := (hf_M84.g (show kd 413 = 44 from rfl) rfl).trans e96
          refine jr_v rfl rfl (Or.inl rfl) rfl rfl (by decide) rfl ⟨rfl, Nat.le_of_ble_eq_true rfl, Nat.le_of_ble_eq_true rfl⟩ rfl (jc.deep (c_Parser_expect_z hC_M84 (FR.rfl _ M84) (by omega) e88 e90 e91 e92 e93 e95 (by have hq0 : M84 413 3 = v1 := e97; omega) (TXc.fr (TXc.fr (TXc.fr (TXc.fr (TXc.fr hy3 hf_M7 rfl) hf_M16 rfl) hf_M19 rfl) hf_M74 rfl) hf_M84 rfl) (by have hq0 : M84 413 8 = v77 := e93; have hq1 : M84 413 6 = v78 := e92; have hq2 : M84 413 7 = v79 := e91; omega) (fun M86 hC_M86 hf_M86 w86_0 w86_1 w86_2 => ?_)) (by omega))
          have ht_M86 : FR W_par T M86 := FR.t ht_M84 hf_M86 (kw_sub rfl)
          obtain ⟨v98, e98⟩ : ∃ z_, M86 413 0 = z_ := ⟨_, rfl⟩
          have b98 : (-2147483648) ≤ v98 ∧ v98 ≤ 2147483647 := by rw [← e98]; exact (CI.r hC_M86 (show kd 413 = 44 from rfl) (by decide) 0)
          obtain ⟨v99, e99⟩ : ∃ z_, M86 413 1 = z_ := ⟨_, rfl⟩
          have b99 : (-2147483648) ≤ v99 ∧ v99 ≤ 2147483647 := by rw [← e99]; exact (CI.r hC_M86 (show kd 413 = 44 from rfl) (by decide) 1)
          obtain ⟨v100, e100⟩ : ∃ z_, M86 413 8 = z_ := ⟨_, rfl⟩
          have b100 : 0 ≤ v100 ∧ v100 ≤ 1600 := by rw [← e100]; exact (CI.r hC_M86 (show kd 413 = 44 from rfl) (by decide) 8)
          obtain ⟨v101, e101⟩ : ∃ z_, M86 413 6 = z_ := ⟨_, rfl⟩
          have b101 : (-2147483648) ≤ v101 ∧ v101 ≤ 2147483647 := by rw [← e101]; exact (CI.r hC_M86 (show kd 413 = 44 from rfl) (by decide) 6)
          obtain ⟨v102, e102⟩ : ∃ z_, M86 413 7 = z_ := ⟨_, rfl⟩
          have b102 : 0 ≤ v102 ∧ v102 ≤ 1600 := by rw [← e102]; exact (CI.r hC_M86 (show kd 413 = 44 from rfl) (by decide) 7)
          have hq8 := CZ.exp hq7 hC_M84 hf_M86 e88 e90 e91 e92 e93 e95 w86_0 w86_1 (fun z y => by rcases z.1 with ⟨y2, rfl, rfl, zj⟩ | ⟨y2, y3, y4, y5⟩; (exact zr.dtkfL hne zj.1.1.1 hs1 (hdt.e y2) hnb.e zj.1.2 y); (exact zr.exfR y4 y5 (hdx.e y2) y))
          clear w86_0 w86_1
          clear w74_1
          exact jr.vreturn rfl rfl (q _ hC_M86 ht_M86  (MP.fr w84_0 hC_M84 hf_M86 rfl) (by have hq0 : M86 413 8 = v100 := e100; have hq1 : M86 413 6 = v101 := e101; have hq2 : M86 413 7 = v102 := e102; omega) (CDP.mk ((hq8.wk (fun _ h => List.mem_cons_of_mem _ (List.mem_cons_of_mem _ h))).le h_ee (by omega)) (fun z => by rcases z.1.1 with ⟨y, rfl, rfl, zj⟩ | ⟨y, y2, y3, y4⟩; (exact ⟨zr.dtkL hne zj.1.1.1 hs1 (hdt.e y) hnb.e zj.1.2 z.2, by have g0 := znx_gt f (zso_lt (f := f) (N := N) (t := tt) (by omega)); have g1 := znx_ge f N (znx f N tt); omega⟩); (exact ⟨zr.exe y3 (by rw [zrk_sg z.2]; decide) (hdx.e y) z.2, by have g0 := znx_gt f (zso_lt (f := f) (N := N) (t := tt) (by omega)); have g1 := znx_ge f N t1; omega⟩))))
        · refine jr.aload_n rfl rfl ?_
          refine jr.getf (i := 7) (x := v31) (v := .int (Int32.ofInt (v31))) rfl rfl (by decide) rfl (by decide) rfl rfl e31 rfl ?_
          refine jr.istore rfl (by decide) rfl ?_
          refine jr.aload_n rfl rfl ?_
          have e104 : M19 413 0 = v11 := (hf_M19.g (show kd 413 = 44 from rfl) rfl).trans e20
          have e105 : M16 413 1 = v12 := (hf_M16.g (show kd 413 = 44 from rfl) rfl).trans e12
          have e106 : M19 413 1 = v12 := (hf_M19.g (show kd 413 = 44 from rfl) rfl).trans e105
          obtain ⟨v107, e107⟩ : ∃ z_, M19 413 10 = z_ := ⟨_, rfl⟩
          have b107 : (-2147483648) ≤ v107 ∧ v107 ≤ 2147483647 := by rw [← e107]; exact (CI.r hC_M19 (show kd 413 = 44 from rfl) (by decide) 10)
          have e108 : M19 413 3 = v1 := (hf_M19.g (show kd 413 = 44 from rfl) rfl).trans e24
          have hj := zcv_j (w := zwd f N tt) (by omega)
          have hal2 : 4 ≤ zwd f N tt ∧ zwd f N tt ≤ 18 := by omega
          have hnb : HID (¬ (bh = 1 ∧ zwd f N tt ≤ 9)) := HID.i (by omega)
          clear hal
          have hw89 : 8 ≤ zwd f N tt ∧ zwd f N tt ≤ 9 := by omega
          refine jr_v rfl rfl (Or.inl rfl) rfl rfl (by decide) rfl ⟨rfl, Nat.le_of_ble_eq_true rfl, Nat.le_of_ble_eq_true rfl⟩ rfl (jc.deep (c_Parser_expectName_z hC_M19 (FR.rfl _ M19)  e104 e106 e31 e30 e29 e107 (by have hq0 : M19 413 3 = v1 := e108; omega) (TXc.fr (TXc.fr (TXc.fr hy3 hf_M7 rfl) hf_M16 rfl) hf_M19 rfl) (by have hq0 : M19 413 8 = v29 := e29; have hq1 : M19 413 6 = v30 := e30; have hq2 : M19 413 7 = v31 := e31; omega) (fun M103 hC_M103 hf_M103 w103_0 w103_1 w103_2 => ?_)) (by omega))
          have ht_M103 : FR W_par T M103 := FR.t ht_M19 hf_M103 (kw_sub rfl)
          obtain ⟨v109, e109⟩ : ∃ z_, M103 413 0 = z_ := ⟨_, rfl⟩
          have b109 : (-2147483648) ≤ v109 ∧ v109 ≤ 2147483647 := by rw [← e109]; exact (CI.r hC_M103 (show kd 413 = 44 from rfl) (by decide) 0)
          obtain ⟨v110, e110⟩ : ∃ z_, M103 413 1 = z_ := ⟨_, rfl⟩
          have b110 : (-2147483648) ≤ v110 ∧ v110 ≤ 2147483647 := by rw [← e110]; exact (CI.r hC_M103 (show kd 413 = 44 from rfl) (by decide) 1)
          obtain ⟨v111, e111⟩ : ∃ z_, M103 413 8 = z_ := ⟨_, rfl⟩
          have b111 : 0 ≤ v111 ∧ v111 ≤ 1600 := by rw [← e111]; exact (CI.r hC_M103 (show kd 413 = 44 from rfl) (by decide) 8)
          obtain ⟨v112, e112⟩ : ∃ z_, M103 413 6 = z_ := ⟨_, rfl⟩
          have b112 : (-2147483648) ≤ v112 ∧ v112 ≤ 2147483647 := by rw [← e112]; exact (CI.r hC_M103 (show kd 413 = 44 from rfl) (by decide) 6)
          obtain ⟨v113, e113⟩ : ∃ z_, M103 413 7 = z_ := ⟨_, rfl⟩
          have b113 : 0 ≤ v113 ∧ v113 ≤ 1600 := by rw [← e113]; exact (CI.r hC_M103 (show kd 413 = 44 from rfl) (by decide) 7)
          have hq4 := hq3.tk.imp (fun z => (⟨z.1, z.2.2.1⟩ : _ ∧ _))
          have hq5 := CZ.nam hq4 hC_M19 hf_M103 e104 e106 e31 e30 e29 e107 w103_0 w103_1 (fun z y => zr.djpnL hne z.1.1.1.1 hs1 hw89 hnb.e z.1.1.2 y)
          clear w103_0 w103_1
          clear w19_1
          refine jr.aload_n rfl rfl ?_
          refine jr.iload_n rfl rfl ?_
          refine jr_s rfl rfl (Or.inl rfl) ⟨Nat.le_of_ble_eq_true rfl, Nat.le_of_ble_eq_true rfl⟩ rfl rfl (jc.deep (c_Parser_expsOf_z hC_M103 (by omega) (fun r114 z114 w114_0 => ?_)) (by omega))
          have hz1 := zeo_1 (w := w) (by omega)
          have hzo : r114 = zeo w := w114_0
          have hr0 : r114 = 0 := by omega
          clear hzo hz1 w114_0
          refine jr.iload_n rfl rfl ?_
          have e116 : M103 413 3 = v1 := (hf_M103.g (show kd 413 = 44 from rfl) rfl).trans e108
          refine jr_v rfl rfl (Or.inl rfl) rfl rfl (by decide) rfl ⟨rfl, Nat.le_of_ble_eq_true rfl, Nat.le_of_ble_eq_true rfl⟩ rfl (jc.deep (ihP.2.2.2.1 hC_M103 (FR.rfl _ M103) (by omega) (by omega) (by have hq0 : M103 413 3 = v1 := e116; omega) (by have hq0 : M103 413 0 = v109 := e109; omega) (MP.fr (MP.fr w16_0 hC_M16 hf_M19 rfl) hC_M19 hf_M103 rfl) (by omega) (TXc.fr (TXc.fr (TXc.fr (TXc.fr hy3 hf_M7 rfl) hf_M16 rfl) hf_M19 rfl) hf_M103 rfl) (by have hq0 : M103 413 8 = v111 := e111; have hq1 : M103 413 6 = v112 := e112; have hq2 : M103 413 7 = v113 := e113; omega) hq5 (show dd = _ by omega) (by omega) (fun q => (by exfalso; omega : ZAX 10 0 0 _)) (fun q => (by exfalso; omega : _ → zr f N xs (2, _, _, dd, 0, bh, (10, 0, 1, 0) :: sg, nm, ak))) (show (10 : Int) ≠ 20 by decide) (fun M115 hC_M115 hf_M115 w115_0 w115_1 w115_2 => ?_)) (by omega))
          have ht_M115 : FR W_par T M115 := FR.t ht_M103 hf_M115 (kw_sub rfl)
          obtain ⟨v117, e117⟩ : ∃ z_, M115 413 8 = z_ := ⟨_, rfl⟩
          have b117 : 0 ≤ v117 ∧ v117 ≤ 1600 := by rw [← e117]; exact (CI.r hC_M115 (show kd 413 = 44 from rfl) (by decide) 8)
          obtain ⟨v118, e118⟩ : ∃ z_, M115 413 6 = z_ := ⟨_, rfl⟩
          have b118 : (-2147483648) ≤ v118 ∧ v118 ≤ 2147483647 := by rw [← e118]; exact (CI.r hC_M115 (show kd 413 = 44 from rfl) (by decide) 6)
          obtain ⟨v119, e119⟩ : ∃ z_, M115 413 7 = z_ := ⟨_, rfl⟩
          have b119 : 0 ≤ v119 ∧ v119 ≤ 1600 := by rw [← e119]; exact (CI.r hC_M115 (show kd 413 = 44 from rfl) (by decide) 7)
          obtain ⟨t1, k1, c1, hu1, hq6⟩ := CEL.un w115_2
          clear w103_2
          refine jr.aload_n rfl rfl ?_
          have e120 : M16 413 2 = v9 := (hf_M16.g (show kd 413 = 44 from rfl) rfl).trans e14
          have e121 : M19 413 2 = v9 := (hf_M19.g (show kd 413 = 44 from rfl) rfl).trans e120
          have e122 : M103 413 2 = v9 := (hf_M103.g (show kd 413 = 44 from rfl) rfl).trans e121
          have e123 : M115 413 2 = v9 := (hf_M115.g (show kd 413 = 44 from rfl) rfl).trans e122
          have k124 : kd (v9).toNat = 47 := ((congrArg (fun z : Int => kd z.toNat) (show M115 413 2 = v9 from e123)).symm.trans (CI.x hC_M115 (show kd 413 = 44 from rfl) 2 rfl (by decide)))
          refine jr.getf (i := 2) (x := v9) (v := .ref (v9.toNat)) rfl rfl (by decide) rfl (by decide) rfl rfl e123 rfl ?_
          refine jr.iload_n rfl rfl ?_
          refine jr.iload rfl rfl ?_
          obtain ⟨v126, e126⟩ : ∃ z_, M115 ((v9.toNat)) 2 = z_ := ⟨_, rfl⟩
          have b126 : 0 ≤ v126 ∧ v126 ≤ 932 := by rw [← e126]; exact (CI.r hC_M115 k124 (by decide) 2)
          refine jr_v rfl rfl (Or.inl rfl) rfl rfl (Nat.lt_trans (kx_47 k124).1 (by decide)) (kx_47 k124).2 ⟨rfl, Nat.le_of_ble_eq_true rfl, Nat.le_of_ble_eq_true rfl⟩ rfl (jc.deep (c_Program_emit_z hC_M115 (FR.rfl _ M115) k124 (by omega) (by omega) e126 rfl (by have hq0 : M115 413 2 = v9 := e123; omega) w115_0 (fun r125 M125 hC_M125 hf_M125 z125 w125_0 w125_1 w125_2 => ?_)) (by omega))
          have ht_M125 : FR W_par T M125 := FR.t ht_M115 hf_M125 (kw_sub rfl)
          have hq7 := CZ.emj (p := (v9.toNat)) (y1 := znx f N tt) hq6 hC_M115 hf_M125 (e123.trans (by omega)) e126 w125_2 (by omega) (by omega) (fun z => by rcases z with ⟨_, _, _, zj⟩ | ⟨y, _⟩; (exact ⟨by have y := zj.1.2; omega, zj.2.1, by have g0 := znx_ge f N tt; omega, by have g1 := zso_lt (f := f) (N := N) (t := znx f N tt) (by have y := zj.2.1; omega); omega⟩); (exfalso; omega))
          clear w125_1 w125_2
          refine jr.pop rfl rfl ?_
          refine jr.aload_n rfl rfl ?_
          refine jr.bipush rfl (by decide) ?_
          obtain ⟨v128, e128⟩ : ∃ z_, M115 413 0 = z_ := ⟨_, rfl⟩
          have b128 : (-2147483648) ≤ v128 ∧ v128 ≤ 2147483647 := by rw [← e128]; exact (CI.r hC_M115 (show kd 413 = 44 from rfl) (by decide) 0)
          have e129 : M125 413 0 = v128 := (hf_M125.g (show kd 413 = 44 from rfl) rfl).trans e128
          obtain ⟨v130, e130⟩ : ∃ z_, M115 413 1 = z_ := ⟨_, rfl⟩
          have b130 : (-2147483648) ≤ v130 ∧ v130 ≤ 2147483647 := by rw [← e130]; exact (CI.r hC_M115 (show kd 413 = 44 from rfl) (by decide) 1)
          have e131 : M125 413 1 = v130 := (hf_M125.g (show kd 413 = 44 from rfl) rfl).trans e130
          have e132 : M125 413 7 = v119 := (hf_M125.g (show kd 413 = 44 from rfl) rfl).trans e119
          have e133 : M125 413 6 = v118 := (hf_M125.g (show kd 413 = 44 from rfl) rfl).trans e118
          have e134 : M125 413 8 = v117 := (hf_M125.g (show kd 413 = 44 from rfl) rfl).trans e117
          obtain ⟨v135, e135⟩ : ∃ z_, M115 413 11 = z_ := ⟨_, rfl⟩
          have b135 : 0 ≤ v135 ∧ v135 ≤ 255 := by rw [← e135]; exact (CI.r hC_M115 (show kd 413 = 44 from rfl) (by decide) 11)
          have e136 : M125 413 11 = v135 := (hf_M125.g (show kd 413 = 44 from rfl) rfl).trans e135
          have e137 : M115 413 3 = v1 := (hf_M115.g (show kd 413 = 44 from rfl) rfl).trans e116
          have e138 : M125 413 3 = v1 := (hf_M125.g (show kd 413 = 44 from rfl) rfl).trans e137
          refine jr_v rfl rfl (Or.inl rfl) rfl rfl (by decide) rfl ⟨rfl, Nat.le_of_ble_eq_true rfl, Nat.le_of_ble_eq_true rfl⟩ rfl (jc.deep (c_Parser_expect_z hC_M125 (FR.rfl _ M125) (by omega) e129 e131 e132 e133 e134 e136 (by have hq0 : M125 413 3 = v1 := e138; omega) (TXc.fr (TXc.fr (TXc.fr (TXc.fr (TXc.fr (TXc.fr hy3 hf_M7 rfl) hf_M16 rfl) hf_M19 rfl) hf_M103 rfl) hf_M115 rfl) hf_M125 rfl) (by have hq0 : M125 413 8 = v117 := e134; have hq1 : M125 413 6 = v118 := e133; have hq2 : M125 413 7 = v119 := e132; omega) (fun M127 hC_M127 hf_M127 w127_0 w127_1 w127_2 => ?_)) (by omega))
          have ht_M127 : FR W_par T M127 := FR.t ht_M125 hf_M127 (kw_sub rfl)
          obtain ⟨v139, e139⟩ : ∃ z_, M127 413 0 = z_ := ⟨_, rfl⟩
          have b139 : (-2147483648) ≤ v139 ∧ v139 ≤ 2147483647 := by rw [← e139]; exact (CI.r hC_M127 (show kd 413 = 44 from rfl) (by decide) 0)
          obtain ⟨v140, e140⟩ : ∃ z_, M127 413 1 = z_ := ⟨_, rfl⟩
          have b140 : (-2147483648) ≤ v140 ∧ v140 ≤ 2147483647 := by rw [← e140]; exact (CI.r hC_M127 (show kd 413 = 44 from rfl) (by decide) 1)
          obtain ⟨v141, e141⟩ : ∃ z_, M127 413 8 = z_ := ⟨_, rfl⟩
          have b141 : 0 ≤ v141 ∧ v141 ≤ 1600 := by rw [← e141]; exact (CI.r hC_M127 (show kd 413 = 44 from rfl) (by decide) 8)
          obtain ⟨v142, e142⟩ : ∃ z_, M127 413 6 = z_ := ⟨_, rfl⟩
          have b142 : (-2147483648) ≤ v142 ∧ v142 ≤ 2147483647 := by rw [← e142]; exact (CI.r hC_M127 (show kd 413 = 44 from rfl) (by decide) 6)
          obtain ⟨v143, e143⟩ : ∃ z_, M127 413 7 = z_ := ⟨_, rfl⟩
          have b143 : 0 ≤ v143 ∧ v143 ≤ 1600 := by rw [← e143]; exact (CI.r hC_M127 (show kd 413 = 44 from rfl) (by decide) 7)
          have hq8 := CZ.exp hq7 hC_M125 hf_M127 e129 e131 e132 e133 e134 e136 w127_0 w127_1 (fun z y => by rcases z.1 with ⟨_, rfl, rfl, zj⟩ | ⟨y2, _⟩; (exact zr.djpfL hne zj.1.1.1.1.1 hs1 hw89 hnb.e zj.1.1.1.2 zj.2 y); (exfalso; omega))
          clear w127_0 w127_1
          clear w115_1
          exact jr.vreturn rfl rfl (q _ hC_M127 ht_M127  (MP.fr w125_0 hC_M125 hf_M127 rfl) (by have hq0 : M127 413 8 = v141 := e141; have hq1 : M127 413 6 = v142 := e142; have hq2 : M127 413 7 = v143 := e143; omega) (CDP.mk ((hq8.wk (fun _ h => List.mem_cons_of_mem _ (List.mem_cons_of_mem _ h))).le h_ee (by omega)) (fun z => by rcases z.1.1 with ⟨_, rfl, rfl, zj⟩ | ⟨y, _⟩; (exact ⟨zr.djpL hne zj.1.1.1.1.1 hs1 hw89 hnb.e zj.1.1.1.2 zj.2 z.2, by have g0 := znx_gt f (zso_lt (f := f) (N := N) (t := tt) (by omega)); have g1 := znx_ge f N (znx f N tt); have g2 := znx_ge f N (znx f N (znx f N tt)); omega⟩); (exfalso; omega))))
    · refine jr.aload_n rfl rfl ?_
      refine jr.iload_n rfl rfl ?_
      refine jr.iload_n rfl rfl ?_
      have e145 : M19 413 3 = v1 := (hf_M19.g (show kd 413 = 44 from rfl) rfl).trans e24
      have hw3 := zcv_3 (w := zwd f N tt) (by omega)
      have hq4 := hq3.imp (fun z => zr.difL hne z.1.1.1 hs1 hw3 z.1.2)
      refine jr_v rfl rfl (Or.inl rfl) rfl rfl (by decide) rfl ⟨rfl, Nat.le_of_ble_eq_true rfl, Nat.le_of_ble_eq_true rfl⟩ rfl (jc.deep (ihP.2.2.2.2.2.1 hC_M19 (FR.rfl _ M19) (by omega) (by omega) (by have hq0 : M19 413 3 = v1 := e145; omega) (MP.fr w16_0 hC_M16 hf_M19 rfl) (by omega) (TXc.fr (TXc.fr (TXc.fr hy3 hf_M7 rfl) hf_M16 rfl) hf_M19 rfl) (by have hq0 : M19 413 8 = v29 := e29; have hq1 : M19 413 6 = v30 := e30; have hq2 : M19 413 7 = v31 := e31; omega) hq4 (by omega) (by omega) (by omega) (fun M144 hC_M144 hf_M144 w144_0 w144_1 w144_2 => ?_)) (by omega))
      have ht_M144 : FR W_par T M144 := FR.t ht_M19 hf_M144 (kw_sub rfl)
      obtain ⟨v146, e146⟩ : ∃ z_, M144 413 8 = z_ := ⟨_, rfl⟩
      have b146 : 0 ≤ v146 ∧ v146 ≤ 1600 := by rw [← e146]; exact (CI.r hC_M144 (show kd 413 = 44 from rfl) (by decide) 8)
      obtain ⟨v147, e147⟩ : ∃ z_, M144 413 6 = z_ := ⟨_, rfl⟩
      have b147 : (-2147483648) ≤ v147 ∧ v147 ≤ 2147483647 := by rw [← e147]; exact (CI.r hC_M144 (show kd 413 = 44 from rfl) (by decide) 6)
      obtain ⟨v148, e148⟩ : ∃ z_, M144 413 7 = z_ := ⟨_, rfl⟩
      have b148 : 0 ≤ v148 ∧ v148 ≤ 1600 := by rw [← e148]; exact (CI.r hC_M144 (show kd 413 = 44 from rfl) (by decide) 7)
      exact jr.vreturn rfl rfl (q _ hC_M144 ht_M144  w144_0 (by have hq0 : M144 413 8 = v146 := e146; have hq1 : M144 413 6 = v147 := e147; have hq2 : M144 413 7 = v148 := e148; omega) (CDP.dn w144_2 (by have g1 := znx_ge f N tt; omega) h_ee (by omega) (fun _ h => List.mem_cons_of_mem _ h)))
theorem c_Parser_deed_z {A : Nat → Option (Nat × (Nat → Int32))} [HA A] {n : Nat} (ihP : PXz A n) : PXz_deed A (n + 1) := by
  intro Q G f N xs tt kk dd bh ee sg nm ak fz T M hC_M ht_M x h_x y h_y  p0 p1 p2 p3 p4 p5 p6 p7 p8 p9 p10 q
  have h_ee := p7
  have hne := p9
  refine jc_of (m := xm_199) rfl (Nat.le_of_ble_eq_true rfl) rfl ?_
  obtain ⟨v1, e1⟩ : ∃ z_, M 413 3 = z_ := ⟨_, rfl⟩
  have b1 : 1 ≤ v1 ∧ v1 ≤ 419 := by rw [← e1]; exact (CI.r hC_M (show kd 413 = 44 from rfl) (by decide) 3)
  have b2 : 1 ≤ v1 ∧ v1 ≤ 1 := by rw [← e1]; exact p0
  obtain ⟨v3, e3⟩ : ∃ z_, M 413 8 = z_ := ⟨_, rfl⟩
  have b3 : 0 ≤ v3 ∧ v3 ≤ 1600 := by rw [← e3]; exact (CI.r hC_M (show kd 413 = 44 from rfl) (by decide) 8)
  obtain ⟨v4, e4⟩ : ∃ z_, M 413 6 = z_ := ⟨_, rfl⟩
  have b4 : (-2147483648) ≤ v4 ∧ v4 ≤ 2147483647 := by rw [← e4]; exact (CI.r hC_M (show kd 413 = 44 from rfl) (by decide) 6)
  obtain ⟨v5, e5⟩ : ∃ z_, M 413 7 = z_ := ⟨_, rfl⟩
  have b5 : 0 ≤ v5 ∧ v5 ≤ 1600 := by rw [← e5]; exact (CI.r hC_M (show kd 413 = 44 from rfl) (by decide) 7)
  obtain ⟨v6, e6⟩ : ∃ z_, M 413 0 = z_ := ⟨_, rfl⟩
  have b6 : (-2147483648) ≤ v6 ∧ v6 ≤ 2147483647 := by rw [← e6]; exact (CI.r hC_M (show kd 413 = 44 from rfl) (by decide) 0)
  refine jr.aload_n rfl rfl ?_
  refine jr.getf (i := 6) (x := v4) (v := .int (Int32.ofInt (v4))) rfl rfl (by decide) rfl (by decide) rfl rfl e4 rfl ?_
  refine jr.iconst rfl ?_
  refine jr.icmp_ne rfl rfl (by omega) (by omega) (fun h5 => ?_) (fun h5 => ?_)
  · refine jr.iconst rfl ?_
    refine jr.istore_n rfl (by decide) rfl ?_
    refine jr.iload_n rfl rfl ?_
    refine jr.iconst rfl ?_
    refine jr.icmp_lt rfl rfl (by omega) (by omega) (fun _ => ?_) (fun h => absurd (by decide) h)
    refine jr.aload_n rfl rfl ?_
    obtain ⟨v8, e8⟩ : ∃ z_, M 413 1 = z_ := ⟨_, rfl⟩
    have b8 : (-2147483648) ≤ v8 ∧ v8 ≤ 2147483647 := by rw [← e8]; exact (CI.r hC_M (show kd 413 = 44 from rfl) (by decide) 1)
    refine jr_v rfl rfl (Or.inl rfl) rfl rfl (by decide) rfl ⟨rfl, Nat.le_of_ble_eq_true rfl, Nat.le_of_ble_eq_true rfl⟩ rfl (jc.deep (c_Parser_refuse_z hC_M (FR.rfl _ M)  e6 e8 e5 e4 (fun M7 hC_M7 hf_M7 w7_0 => ?_)) (by omega))
    have ht_M7 : FR W_par T M7 := FR.t ht_M hf_M7 (kw_sub rfl)
    obtain ⟨v9, e9⟩ : ∃ z_, M7 413 0 = z_ := ⟨_, rfl⟩
    have b9 : (-2147483648) ≤ v9 ∧ v9 ≤ 2147483647 := by rw [← e9]; exact (CI.r hC_M7 (show kd 413 = 44 from rfl) (by decide) 0)
    obtain ⟨v10, e10⟩ : ∃ z_, M7 413 1 = z_ := ⟨_, rfl⟩
    have b10 : (-2147483648) ≤ v10 ∧ v10 ≤ 2147483647 := by rw [← e10]; exact (CI.r hC_M7 (show kd 413 = 44 from rfl) (by decide) 1)
    have hq1 := CZ.rfs (M := M7) p5 e6 e8 e5 e4 w7_0 (fun h0 tk z => zr.dnoL hne z.1 z.2 (fun q => by obtain ⟨_, _, c7, c8, c6, c10, c9, c11⟩ := tk; have q2 := c10 q.1; exact dno_c (zwd f N tt) bh q.2 (by omega)))
    clear w7_0
    have e11 : M7 413 8 = v3 := (hf_M7.g (show kd 413 = 44 from rfl) rfl).trans e3
    have e12 : M7 413 6 = v4 := (hf_M7.g (show kd 413 = 44 from rfl) rfl).trans e4
    have e13 : M7 413 7 = v5 := (hf_M7.g (show kd 413 = 44 from rfl) rfl).trans e5
    exact jr.vreturn rfl rfl (q _ hC_M7 ht_M7  (MP.fr p1 hC_M hf_M7 rfl) (by have hq0 : M7 413 8 = v3 := e11; have hq1 : M7 413 6 = v4 := e12; have hq2 : M7 413 7 = v5 := e13; omega) (CDP.mk (hq1.le h_ee (by omega)) (fun z => z.elim)))
  · refine jr.aload_n rfl rfl ?_
    obtain ⟨v14, e14⟩ : ∃ z_, M 413 10 = z_ := ⟨_, rfl⟩
    have b14 : (-2147483648) ≤ v14 ∧ v14 ≤ 2147483647 := by rw [← e14]; exact (CI.r hC_M (show kd 413 = 44 from rfl) (by decide) 10)
    refine jr.getf (i := 10) (x := v14) (v := .int (Int32.ofInt (v14))) rfl rfl (by decide) rfl (by decide) rfl rfl e14 rfl ?_
    refine jr.goto rfl rfl ?_
    refine jr.istore_n rfl (by decide) rfl ?_
    refine jr.iload_n rfl rfl ?_
    refine jr.iconst rfl ?_
    refine jr.icmp_lt rfl rfl (by omega) (by omega) (fun h19 => ?_) (fun h19 => ?_)
    · refine jr.aload_n rfl rfl ?_
      obtain ⟨v16, e16⟩ : ∃ z_, M 413 1 = z_ := ⟨_, rfl⟩
      have b16 : (-2147483648) ≤ v16 ∧ v16 ≤ 2147483647 := by rw [← e16]; exact (CI.r hC_M (show kd 413 = 44 from rfl) (by decide) 1)
      refine jr_v rfl rfl (Or.inl rfl) rfl rfl (by decide) rfl ⟨rfl, Nat.le_of_ble_eq_true rfl, Nat.le_of_ble_eq_true rfl⟩ rfl (jc.deep (c_Parser_refuse_z hC_M (FR.rfl _ M)  e6 e16 e5 e4 (fun M15 hC_M15 hf_M15 w15_0 => ?_)) (by omega))
      have ht_M15 : FR W_par T M15 := FR.t ht_M hf_M15 (kw_sub rfl)
      obtain ⟨v17, e17⟩ : ∃ z_, M15 413 0 = z_ := ⟨_, rfl⟩
      have b17 : (-2147483648) ≤ v17 ∧ v17 ≤ 2147483647 := by rw [← e17]; exact (CI.r hC_M15 (show kd 413 = 44 from rfl) (by decide) 0)
      obtain ⟨v18, e18⟩ : ∃ z_, M15 413 1 = z_ := ⟨_, rfl⟩
      have b18 : (-2147483648) ≤ v18 ∧ v18 ≤ 2147483647 := by rw [← e18]; exact (CI.r hC_M15 (show kd 413 = 44 from rfl) (by decide) 1)
      have hq1 := CZ.rfs (M := M15) p5 e6 e16 e5 e4 w15_0 (fun h0 tk z => zr.dnoL hne z.1 z.2 (fun q => by obtain ⟨_, _, c7, c8, c6, c10, c9, c11⟩ := tk; have q2 := c10 q.1; exact dno_c (zwd f N tt) bh q.2 (by omega)))
      clear w15_0
      have e19 : M15 413 8 = v3 := (hf_M15.g (show kd 413 = 44 from rfl) rfl).trans e3
      have e20 : M15 413 6 = v4 := (hf_M15.g (show kd 413 = 44 from rfl) rfl).trans e4
      have e21 : M15 413 7 = v5 := (hf_M15.g (show kd 413 = 44 from rfl) rfl).trans e5
      exact jr.vreturn rfl rfl (q _ hC_M15 ht_M15  (MP.fr p1 hC_M hf_M15 rfl) (by have hq0 : M15 413 8 = v3 := e19; have hq1 : M15 413 6 = v4 := e20; have hq2 : M15 413 7 = v5 := e21; omega) (CDP.mk (hq1.le h_ee (by omega)) (fun z => z.elim)))
    · refine jr.iload_n rfl rfl ?_
      refine jr.bipush rfl (by decide) ?_
      refine jr.icmp_gt rfl rfl (by omega) (by omega) (fun h25 => ?_) (fun h25 => ?_)
      · refine jr.aload_n rfl rfl ?_
        obtain ⟨v23, e23⟩ : ∃ z_, M 413 1 = z_ := ⟨_, rfl⟩
        have b23 : (-2147483648) ≤ v23 ∧ v23 ≤ 2147483647 := by rw [← e23]; exact (CI.r hC_M (show kd 413 = 44 from rfl) (by decide) 1)
        refine jr_v rfl rfl (Or.inl rfl) rfl rfl (by decide) rfl ⟨rfl, Nat.le_of_ble_eq_true rfl, Nat.le_of_ble_eq_true rfl⟩ rfl (jc.deep (c_Parser_refuse_z hC_M (FR.rfl _ M)  e6 e23 e5 e4 (fun M22 hC_M22 hf_M22 w22_0 => ?_)) (by omega))
        have ht_M22 : FR W_par T M22 := FR.t ht_M hf_M22 (kw_sub rfl)
        obtain ⟨v24, e24⟩ : ∃ z_, M22 413 0 = z_ := ⟨_, rfl⟩
        have b24 : (-2147483648) ≤ v24 ∧ v24 ≤ 2147483647 := by rw [← e24]; exact (CI.r hC_M22 (show kd 413 = 44 from rfl) (by decide) 0)
        obtain ⟨v25, e25⟩ : ∃ z_, M22 413 1 = z_ := ⟨_, rfl⟩
        have b25 : (-2147483648) ≤ v25 ∧ v25 ≤ 2147483647 := by rw [← e25]; exact (CI.r hC_M22 (show kd 413 = 44 from rfl) (by decide) 1)
        have hq1 := CZ.rfs (M := M22) p5 e6 e23 e5 e4 w22_0 (fun h0 tk z => zr.dnoL hne z.1 z.2 (fun q => by obtain ⟨_, _, c7, c8, c6, c10, c9, c11⟩ := tk; have q2 := c10 q.1; exact dno_c (zwd f N tt) bh q.2 (by omega)))
        clear w22_0
        have e26 : M22 413 8 = v3 := (hf_M22.g (show kd 413 = 44 from rfl) rfl).trans e3
        have e27 : M22 413 6 = v4 := (hf_M22.g (show kd 413 = 44 from rfl) rfl).trans e4
        have e28 : M22 413 7 = v5 := (hf_M22.g (show kd 413 = 44 from rfl) rfl).trans e5
        exact jr.vreturn rfl rfl (q _ hC_M22 ht_M22  (MP.fr p1 hC_M hf_M22 rfl) (by have hq0 : M22 413 8 = v3 := e26; have hq1 : M22 413 6 = v4 := e27; have hq2 : M22 413 7 = v5 := e28; omega) (CDP.mk (hq1.le h_ee (by omega)) (fun z => z.elim)))
      · refine jr.iload_n rfl rfl ?_
        refine jr.if_eq rfl rfl (by omega) (fun h29 => ?_) (fun h29 => ?_)
        · refine jr.pick [2, 3, 0, 1] rfl rfl ?_
          exact c_Parser_deed_z_L48 (kk := kk) ihP  q 0 M v14 hC_M ht_M (by omega) (by omega) (by omega) (by have hq0 : M 413 3 = v1 := e1; omega) p1 (by omega) p3 (by have hq0 : M 413 8 = v3 := e3; have hq1 : M 413 6 = v4 := e4; have hq2 : M 413 7 = v5 := e5; omega) p5 (by omega) (by omega) (by omega) p9 (by have hq0 : M 413 0 = v6 := e6; omega) (by obtain ⟨⟨⟨_, _, c7, c8, c6, c10, c9, c11⟩, _⟩, _⟩ := CZ.z p5 (by omega); omega) (by obtain ⟨⟨⟨_, _, c7, c8, c6, c10, c9, c11⟩, _⟩, _⟩ := CZ.z p5 (by omega); have q := c10 (by omega); omega) (hal_of (by obtain ⟨⟨⟨_, _, c7, c8, c6, c10, c9, c11⟩, _⟩, _⟩ := CZ.z p5 (by omega); have q := c10 (by omega); omega)) (by omega)
        · refine jr.iload_n rfl rfl ?_
          refine jr.iconst rfl ?_
          refine jr.icmp_lt rfl rfl (by omega) (by omega) (fun h34 => ?_) (fun h34 => ?_)
          · refine jr.pick [2, 3, 0, 1] rfl rfl ?_
            exact c_Parser_deed_z_L48 (kk := kk) ihP  q 0 M v14 hC_M ht_M (by omega) (by omega) (by omega) (by have hq0 : M 413 3 = v1 := e1; omega) p1 (by omega) p3 (by have hq0 : M 413 8 = v3 := e3; have hq1 : M 413 6 = v4 := e4; have hq2 : M 413 7 = v5 := e5; omega) p5 (by omega) (by omega) (by omega) p9 (by have hq0 : M 413 0 = v6 := e6; omega) (by obtain ⟨⟨⟨_, _, c7, c8, c6, c10, c9, c11⟩, _⟩, _⟩ := CZ.z p5 (by omega); omega) (by obtain ⟨⟨⟨_, _, c7, c8, c6, c10, c9, c11⟩, _⟩, _⟩ := CZ.z p5 (by omega); have q := c10 (by omega); omega) (hal_of (by obtain ⟨⟨⟨_, _, c7, c8, c6, c10, c9, c11⟩, _⟩, _⟩ := CZ.z p5 (by omega); have q := c10 (by omega); omega)) (by omega)
          · refine jr.iload_n rfl rfl ?_
            refine jr.bipush rfl (by decide) ?_
            refine jr.icmp_gt rfl rfl (by omega) (by omega) (fun h40 => ?_) (fun h40 => ?_)
            · refine jr.pick [2, 3, 0, 1] rfl rfl ?_
              exact c_Parser_deed_z_L48 (kk := kk) ihP  q 0 M v14 hC_M ht_M (by omega) (by omega) (by omega) (by have hq0 : M 413 3 = v1 := e1; omega) p1 (by omega) p3 (by have hq0 : M 413 8 = v3 := e3; have hq1 : M 413 6 = v4 := e4; have hq2 : M 413 7 = v5 := e5; omega) p5 (by omega) (by omega) (by omega) p9 (by have hq0 : M 413 0 = v6 := e6; omega) (by obtain ⟨⟨⟨_, _, c7, c8, c6, c10, c9, c11⟩, _⟩, _⟩ := CZ.z p5 (by omega); omega) (by obtain ⟨⟨⟨_, _, c7, c8, c6, c10, c9, c11⟩, _⟩, _⟩ := CZ.z p5 (by omega); have q := c10 (by omega); omega) (hal_of (by obtain ⟨⟨⟨_, _, c7, c8, c6, c10, c9, c11⟩, _⟩, _⟩ := CZ.z p5 (by omega); have q := c10 (by omega); omega)) (by omega)
            · refine jr.aload_n rfl rfl ?_
              obtain ⟨v30, e30⟩ : ∃ z_, M 413 1 = z_ := ⟨_, rfl⟩
              have b30 : (-2147483648) ≤ v30 ∧ v30 ≤ 2147483647 := by rw [← e30]; exact (CI.r hC_M (show kd 413 = 44 from rfl) (by decide) 1)
              refine jr_v rfl rfl (Or.inl rfl) rfl rfl (by decide) rfl ⟨rfl, Nat.le_of_ble_eq_true rfl, Nat.le_of_ble_eq_true rfl⟩ rfl (jc.deep (c_Parser_refuse_z hC_M (FR.rfl _ M)  e6 e30 e5 e4 (fun M29 hC_M29 hf_M29 w29_0 => ?_)) (by omega))
              have ht_M29 : FR W_par T M29 := FR.t ht_M hf_M29 (kw_sub rfl)
              obtain ⟨v31, e31⟩ : ∃ z_, M29 413 0 = z_ := ⟨_, rfl⟩
              have b31 : (-2147483648) ≤ v31 ∧ v31 ≤ 2147483647 := by rw [← e31]; exact (CI.r hC_M29 (show kd 413 = 44 from rfl) (by decide) 0)
              obtain ⟨v32, e32⟩ : ∃ z_, M29 413 1 = z_ := ⟨_, rfl⟩
              have b32 : (-2147483648) ≤ v32 ∧ v32 ≤ 2147483647 := by rw [← e32]; exact (CI.r hC_M29 (show kd 413 = 44 from rfl) (by decide) 1)
              have hq1 := CZ.rfs (M := M29) p5 e6 e30 e5 e4 w29_0 (fun h0 tk z => zr.dnoL hne z.1 z.2 (fun q => by obtain ⟨_, _, c7, c8, c6, c10, c9, c11⟩ := tk; have q2 := c10 q.1; exact dno_c (zwd f N tt) bh q.2 (by omega)))
              clear w29_0
              have e33 : M29 413 8 = v3 := (hf_M29.g (show kd 413 = 44 from rfl) rfl).trans e3
              have e34 : M29 413 6 = v4 := (hf_M29.g (show kd 413 = 44 from rfl) rfl).trans e4
              have e35 : M29 413 7 = v5 := (hf_M29.g (show kd 413 = 44 from rfl) rfl).trans e5
              exact jr.vreturn rfl rfl (q _ hC_M29 ht_M29  (MP.fr p1 hC_M hf_M29 rfl) (by have hq0 : M29 413 8 = v3 := e33; have hq1 : M29 413 6 = v4 := e34; have hq2 : M29 413 7 = v5 := e35; omega) (CDP.mk (hq1.le h_ee (by omega)) (fun z => z.elim)))
theorem PXz_all {A : Nat → Option (Nat × (Nat → Int32))} [HA A] (n : Nat) : PXz A n := by
  induction n with
  | zero => exact ⟨by unfold PXz_ask; intros; exfalso; omega, by unfold PXz_one; intros; exfalso; omega, by unfold PXz_exp; intros; exfalso; omega, by unfold PXz_exps; intros; exfalso; omega, by unfold PXz_block; intros; exfalso; omega, by unfold PXz_choice; intros; exfalso; omega, by unfold PXz_deed; intros; exfalso; omega⟩
  | succ n ih => exact ⟨c_Parser_askingWord_z ih, c_Parser_one_z ih, c_Parser_exp_z ih, c_Parser_exps_z ih, c_Parser_block_z ih, c_Parser_choice_z ih, c_Parser_deed_z ih⟩

