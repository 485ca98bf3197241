theorem c_Headers_fullSize {A : Nat → Option (Nat × (Nat → Int32))} {Q : Option Value → jm → Prop} {M : jm} (hC_M : CI M) {t : Nat} (k_t : kd t = 18) {x : Int} (h_x : 0 ≤ x ∧ x ≤ 11) {y : Int} (h_y : 0 ≤ y ∧ y ≤ 400) {S : Int} (g_S : M t 7 = S) (q : ∀ (r : Int), (-401) ≤ r ∧ r ≤ 2048 → (x = 8 ∨ x = 11 ∨ 0 ≤ r) → (x ≠ 6 ∨ r = 8) → (x ≠ 11 ∨ y + r = M S.toNat 1) → Q (some (.int (Int32.ofInt r))) M) : jc A 2 130 [.ref (t), .int (Int32.ofInt (x)), .int (Int32.ofInt (y))] M Q := by
  refine jc_of (m := xm_130) rfl (Nat.le_of_ble_eq_true rfl) rfl ?_
  have k_S : kd S.toNat = 33 := (congrArg (fun z : Int => kd z.toNat) g_S).symm.trans (CI.x hC_M k_t 7 rfl (by decide))
  refine jr.iload_n rfl rfl ?_
  rcases (show x = 2 ∨ x = 3 ∨ x = 4 ∨ x = 5 ∨ x = 6 ∨ x = 7 ∨ x = 8 ∨ x = 9 ∨ x = 10 ∨ x = 11 ∨ (x ≠ 2 ∧ x ≠ 3 ∧ x ≠ 4 ∧ x ≠ 5 ∧ x ≠ 6 ∧ x ≠ 7 ∧ x ≠ 8 ∧ x ≠ 9 ∧ x ≠ 10 ∧ x ≠ 11) by omega) with h1 | h1 | h1 | h1 | h1 | h1 | h1 | h1 | h1 | h1 | h1
  · refine jr.tsw_k 2 rfl h1 rfl ?_
    refine jr.iconst rfl ?_
    refine jr.aload_n rfl rfl ?_
    refine jr.getf (i := 7) (x := S) (v := .ref (S.toNat)) rfl rfl (Nat.lt_trans (kx_18 k_t).1 (by decide)) (kx_18 k_t).2 (by decide) rfl rfl g_S (jval_mut rfl (kn_18_7 k_t)) ?_
    refine jr.iload_n rfl rfl ?_
    refine jr_v rfl rfl (Or.inl rfl) rfl rfl (Nat.lt_trans (kx_33 k_S).1 (by decide)) (kx_33 k_S).2 ⟨rfl, Nat.le_of_ble_eq_true rfl, Nat.le_of_ble_eq_true rfl⟩ rfl (jc.deep (c_Packet_byteAt hC_M k_S (by omega) (fun r2 z2  => ?_)) (by decide))
    refine jr.bipush rfl (by decide) ?_
    refine jr.iand rfl ?_
    have b3 : 0 ≤ j_and r2 15 ∧ j_and r2 15 ≤ 15 := j_and_le (by decide)
    generalize j_and r2 15 = v3 at b3 ⊢
    refine jr.imul rfl ?_
    obtain ⟨v4, e4⟩ : ∃ z_, M ((S.toNat)) 1 = z_ := ⟨_, rfl⟩
    have b4 : (-1) ≤ v4 ∧ v4 ≤ 400 := by rw [← e4]; exact (CI.r hC_M k_S (by decide) 1)
    exact jr.ireturn rfl rfl rfl (q _ (by omega) (by omega) (by omega) (by have hq0 : M ((S.toNat)) 1 = v4 := e4; omega))
  · refine jr.tsw_k 3 rfl h1 rfl ?_
    refine jr.gst (v := .ref 1000001) rfl rfl ?_
    refine jr.iload_n rfl rfl ?_
    obtain ⟨v5, e5⟩ : ∃ z_, xcv_1 x = z_ := ⟨_, rfl⟩
    have b5 : 1 ≤ v5 ∧ v5 ≤ 24 := by rw [← e5]; exact xcr_1 (by omega) (by omega)
    refine jr.ials (i := x) v5 rfl (by decide) rfl (by decide) (by omega) (by omega) (by rw [← e5]; exact (Int32.ofInt_toInt _).symm) ?_
    have hl6 := xl6 x
    obtain ⟨v6, e6⟩ : ∃ z_, M ((S.toNat)) 1 = z_ := ⟨_, rfl⟩
    have b6 : (-1) ≤ v6 ∧ v6 ≤ 400 := by rw [← e6]; exact (CI.r hC_M k_S (by decide) 1)
    exact jr.ireturn rfl rfl rfl (q _ (by omega) (by omega) (by omega) (by have hq0 : M ((S.toNat)) 1 = v6 := e6; omega))
  · refine jr.tsw_k 4 rfl h1 rfl ?_
    refine jr.bipush rfl (by decide) ?_
    refine jr.aload_n rfl rfl ?_
    refine jr.getf (i := 7) (x := S) (v := .ref (S.toNat)) rfl rfl (Nat.lt_trans (kx_18 k_t).1 (by decide)) (kx_18 k_t).2 (by decide) rfl rfl g_S (jval_mut rfl (kn_18_7 k_t)) ?_
    refine jr.iload_n rfl rfl ?_
    refine jr.iconst rfl ?_
    refine jr.iadd rfl ?_
    refine jr_v rfl rfl (Or.inl rfl) rfl rfl (Nat.lt_trans (kx_33 k_S).1 (by decide)) (kx_33 k_S).2 ⟨rfl, Nat.le_of_ble_eq_true rfl, Nat.le_of_ble_eq_true rfl⟩ rfl (jc.deep (c_Packet_byteAt hC_M k_S (by omega) (fun r8 z8  => ?_)) (by decide))
    refine jr.imul rfl ?_
    refine jr.bipush rfl (by decide) ?_
    refine jr.iadd rfl ?_
    obtain ⟨v9, e9⟩ : ∃ z_, M ((S.toNat)) 1 = z_ := ⟨_, rfl⟩
    have b9 : (-1) ≤ v9 ∧ v9 ≤ 400 := by rw [← e9]; exact (CI.r hC_M k_S (by decide) 1)
    exact jr.ireturn rfl rfl rfl (q _ (by omega) (by omega) (by omega) (by have hq0 : M ((S.toNat)) 1 = v9 := e9; omega))
  · refine jr.tsw_k 5 rfl h1 rfl ?_
    refine jr.bipush rfl (by decide) ?_
    refine jr.aload_n rfl rfl ?_
    refine jr.getf (i := 7) (x := S) (v := .ref (S.toNat)) rfl rfl (Nat.lt_trans (kx_18 k_t).1 (by decide)) (kx_18 k_t).2 (by decide) rfl rfl g_S (jval_mut rfl (kn_18_7 k_t)) ?_
    refine jr.iload_n rfl rfl ?_
    refine jr.iconst rfl ?_
    refine jr.iadd rfl ?_
    refine jr_v rfl rfl (Or.inl rfl) rfl rfl (Nat.lt_trans (kx_33 k_S).1 (by decide)) (kx_33 k_S).2 ⟨rfl, Nat.le_of_ble_eq_true rfl, Nat.le_of_ble_eq_true rfl⟩ rfl (jc.deep (c_Packet_byteAt hC_M k_S (by omega) (fun r11 z11  => ?_)) (by decide))
    refine jr.imul rfl ?_
    refine jr.bipush rfl (by decide) ?_
    refine jr.iadd rfl ?_
    obtain ⟨v12, e12⟩ : ∃ z_, M ((S.toNat)) 1 = z_ := ⟨_, rfl⟩
    have b12 : (-1) ≤ v12 ∧ v12 ≤ 400 := by rw [← e12]; exact (CI.r hC_M k_S (by decide) 1)
    exact jr.ireturn rfl rfl rfl (q _ (by omega) (by omega) (by omega) (by have hq0 : M ((S.toNat)) 1 = v12 := e12; omega))
  · refine jr.tsw_k 6 rfl h1 rfl ?_
    refine jr.gst (v := .ref 1000001) rfl rfl ?_
    refine jr.iload_n rfl rfl ?_
    obtain ⟨v13, e13⟩ : ∃ z_, xcv_1 x = z_ := ⟨_, rfl⟩
    have b13 : 1 ≤ v13 ∧ v13 ≤ 24 := by rw [← e13]; exact xcr_1 (by omega) (by omega)
    refine jr.ials (i := x) v13 rfl (by decide) rfl (by decide) (by omega) (by omega) (by rw [← e13]; exact (Int32.ofInt_toInt _).symm) ?_
    have hl6 := xl6 x
    obtain ⟨v14, e14⟩ : ∃ z_, M ((S.toNat)) 1 = z_ := ⟨_, rfl⟩
    have b14 : (-1) ≤ v14 ∧ v14 ≤ 400 := by rw [← e14]; exact (CI.r hC_M k_S (by decide) 1)
    exact jr.ireturn rfl rfl rfl (q _ (by omega) (by omega) (by omega) (by have hq0 : M ((S.toNat)) 1 = v14 := e14; omega))
  · refine jr.tsw_k 7 rfl h1 rfl ?_
    refine jr.gst (v := .ref 1000001) rfl rfl ?_
    refine jr.iload_n rfl rfl ?_
    obtain ⟨v15, e15⟩ : ∃ z_, xcv_1 x = z_ := ⟨_, rfl⟩
    have b15 : 1 ≤ v15 ∧ v15 ≤ 24 := by rw [← e15]; exact xcr_1 (by omega) (by omega)
    refine jr.ials (i := x) v15 rfl (by decide) rfl (by decide) (by omega) (by omega) (by rw [← e15]; exact (Int32.ofInt_toInt _).symm) ?_
    have hl6 := xl6 x
    obtain ⟨v16, e16⟩ : ∃ z_, M ((S.toNat)) 1 = z_ := ⟨_, rfl⟩
    have b16 : (-1) ≤ v16 ∧ v16 ≤ 400 := by rw [← e16]; exact (CI.r hC_M k_S (by decide) 1)
    exact jr.ireturn rfl rfl rfl (q _ (by omega) (by omega) (by omega) (by have hq0 : M ((S.toNat)) 1 = v16 := e16; omega))
  · refine jr.tsw_k 8 rfl h1 rfl ?_
    refine jr.iconst rfl ?_
    refine jr.aload_n rfl rfl ?_
    refine jr.getf (i := 7) (x := S) (v := .ref (S.toNat)) rfl rfl (Nat.lt_trans (kx_18 k_t).1 (by decide)) (kx_18 k_t).2 (by decide) rfl rfl g_S (jval_mut rfl (kn_18_7 k_t)) ?_
    refine jr.iload_n rfl rfl ?_
    refine jr.bipush rfl (by decide) ?_
    refine jr.iadd rfl ?_
    refine jr_v rfl rfl (Or.inl rfl) rfl rfl (Nat.lt_trans (kx_33 k_S).1 (by decide)) (kx_33 k_S).2 ⟨rfl, Nat.le_of_ble_eq_true rfl, Nat.le_of_ble_eq_true rfl⟩ rfl (jc.deep (c_Packet_byteAt hC_M k_S (by omega) (fun r18 z18  => ?_)) (by decide))
    refine jr.iconst rfl ?_
    refine jr.ishr rfl ?_
    have b19 : j_shr r18 4 = r18 / 16 := j_shr_ex 4 (by decide) (by omega) (by omega)
    generalize j_shr r18 4 = v19 at b19 ⊢
    refine jr.imul rfl ?_
    obtain ⟨v20, e20⟩ : ∃ z_, M ((S.toNat)) 1 = z_ := ⟨_, rfl⟩
    have b20 : (-1) ≤ v20 ∧ v20 ≤ 400 := by rw [← e20]; exact (CI.r hC_M k_S (by decide) 1)
    exact jr.ireturn rfl rfl rfl (q _ (by omega) (by omega) (by omega) (by have hq0 : M ((S.toNat)) 1 = v20 := e20; omega))
  · refine jr.tsw_k 9 rfl h1 rfl ?_
    refine jr.gst (v := .ref 1000001) rfl rfl ?_
    refine jr.iload_n rfl rfl ?_
    obtain ⟨v21, e21⟩ : ∃ z_, xcv_1 x = z_ := ⟨_, rfl⟩
    have b21 : 1 ≤ v21 ∧ v21 ≤ 24 := by rw [← e21]; exact xcr_1 (by omega) (by omega)
    refine jr.ials (i := x) v21 rfl (by decide) rfl (by decide) (by omega) (by omega) (by rw [← e21]; exact (Int32.ofInt_toInt _).symm) ?_
    have hl6 := xl6 x
    obtain ⟨v22, e22⟩ : ∃ z_, M ((S.toNat)) 1 = z_ := ⟨_, rfl⟩
    have b22 : (-1) ≤ v22 ∧ v22 ≤ 400 := by rw [← e22]; exact (CI.r hC_M k_S (by decide) 1)
    exact jr.ireturn rfl rfl rfl (q _ (by omega) (by omega) (by omega) (by have hq0 : M ((S.toNat)) 1 = v22 := e22; omega))
  · refine jr.tsw_k 10 rfl h1 rfl ?_
    refine jr.gst (v := .ref 1000001) rfl rfl ?_
    refine jr.iload_n rfl rfl ?_
    obtain ⟨v23, e23⟩ : ∃ z_, xcv_1 x = z_ := ⟨_, rfl⟩
    have b23 : 1 ≤ v23 ∧ v23 ≤ 24 := by rw [← e23]; exact xcr_1 (by omega) (by omega)
    refine jr.ials (i := x) v23 rfl (by decide) rfl (by decide) (by omega) (by omega) (by rw [← e23]; exact (Int32.ofInt_toInt _).symm) ?_
    have hl6 := xl6 x
    obtain ⟨v24, e24⟩ : ∃ z_, M ((S.toNat)) 1 = z_ := ⟨_, rfl⟩
    have b24 : (-1) ≤ v24 ∧ v24 ≤ 400 := by rw [← e24]; exact (CI.r hC_M k_S (by decide) 1)
    exact jr.ireturn rfl rfl rfl (q _ (by omega) (by omega) (by omega) (by have hq0 : M ((S.toNat)) 1 = v24 := e24; omega))
  · refine jr.tsw_k 11 rfl h1 rfl ?_
    refine jr.aload_n rfl rfl ?_
    refine jr.getf (i := 7) (x := S) (v := .ref (S.toNat)) rfl rfl (Nat.lt_trans (kx_18 k_t).1 (by decide)) (kx_18 k_t).2 (by decide) rfl rfl g_S (jval_mut rfl (kn_18_7 k_t)) ?_
    obtain ⟨v26, e26⟩ : ∃ z_, M ((S.toNat)) 1 = z_ := ⟨_, rfl⟩
    have b26 : (-1) ≤ v26 ∧ v26 ≤ 400 := by rw [← e26]; exact (CI.r hC_M k_S (by decide) 1)
    refine jr.getf (i := 1) (x := v26) (v := .int (Int32.ofInt (v26))) rfl rfl (Nat.lt_trans (kx_33 k_S).1 (by decide)) (kx_33 k_S).2 (by decide) rfl rfl e26 rfl ?_
    refine jr.iload_n rfl rfl ?_
    refine jr.isub rfl ?_
    exact jr.ireturn rfl rfl rfl (q _ (by omega) (by omega) (by omega) (by have hq0 : M ((S.toNat)) 1 = v26 := e26; omega))
  · refine jr.tsw_d rfl (by omega) (by omega) rfl ?_
    refine jr.gst (v := .ref 1000001) rfl rfl ?_
    refine jr.iload_n rfl rfl ?_
    obtain ⟨v27, e27⟩ : ∃ z_, xcv_1 x = z_ := ⟨_, rfl⟩
    have b27 : 1 ≤ v27 ∧ v27 ≤ 24 := by rw [← e27]; exact xcr_1 (by omega) (by omega)
    refine jr.ials (i := x) v27 rfl (by decide) rfl (by decide) (by omega) (by omega) (by rw [← e27]; exact (Int32.ofInt_toInt _).symm) ?_
    have hl6 := xl6 x
    obtain ⟨v28, e28⟩ : ∃ z_, M ((S.toNat)) 1 = z_ := ⟨_, rfl⟩
    have b28 : (-1) ≤ v28 ∧ v28 ≤ 400 := by rw [← e28]; exact (CI.r hC_M k_S (by decide) 1)
    exact jr.ireturn rfl rfl rfl (q _ (by omega) (by omega) (by omega) (by have hq0 : M ((S.toNat)) 1 = v28 := e28; omega))
