section
theorem c_Headers_sizeIfRight_x_L54 {A : Nat → Option (Nat × (Nat → Int32))} {Q : Option Value → jm → Prop} {f : Int → Int} {T : jm} {t : Nat} (k_t : kd t = 18) {S : Int} {N : Int} {G : Int} {H : Int} {C : Int} {x : Int} {y : Int} (q : ∀ (r : Int) (M' : jm), CI M' → FR W_c_Headers_sizeIfRight_x T M' → (-401) ≤ r ∧ r ≤ 2048 → ((hsF f N C (bkf (T (t + 1)) C) x y ≠ 0 ∧ M' t 4 = hsF f N C (bkf (T (t + 1)) C) x y ∧ M' t 5 = hsW f N C (bkf (T (t + 1)) C) x y ∧ M' t 6 = x) ∨ (hsF f N C (bkf (T (t + 1)) C) x y = 0 ∧ M' t 4 = 0 ∧ r = hsZ f N x y ∧ M' t 5 = G ∧ M' t 6 = H)) → Q (some (.int (Int32.ofInt r))) M') : ∀ (nM : Nat) (M : jm), CI M → FR W_c_Headers_sizeIfRight_x T M → 0 ≤ x ∧ x ≤ 11 → 0 ≤ y ∧ y ≤ 400 → M t 7 = S → M ((S.toNat)) 1 = N → (M t 4 = 0 ∧ M t 5 = G ∧ M t 6 = H) → (BY8 M (S.toNat + 1) f) → (C < 12 ∧ ¬ ((x = 4 ∧ bkf (T (t + 1)) C ≠ 3) ∨ ((x = 6 ∨ x = 5) ∧ bkf (T (t + 1)) C ≠ 3 ∧ bkf (T (t + 1)) C ≠ 4 ∧ bkf (T (t + 1)) C ≠ 5)) ∧ ¬ ((x = 2 ∨ x = 3) ∧ N < y + 1) ∧ ¬ ((x = 2 ∧ hb f N y / 16 ≠ 4) ∨ (x = 3 ∧ hb f N y / 16 ≠ 6)) ∧ 0 ≤ N) → 0 ≤ nM → jr A 3 xm_127 54 [(1, .int (Int32.ofInt (x))), (2, .int (Int32.ofInt (y))), (0, .ref (t))] [] M Q := by
  intro nM
  induction nM using Nat.strongRecOn with
  | ind nM ih =>
    intro M  hC_M ht_M h_x h_y g_S g_N hy0 hy1 hy2 hm
    have k_S : kd S.toNat = 33 := (congrArg (fun z : Int => kd z.toNat) g_S).symm.trans (CI.x hC_M k_t 7 rfl (by decide))
    have b_N : (-1) ≤ N ∧ N ≤ 400 := by rw [← g_N]; exact (CI.r hC_M k_S (by decide) 1)
    have k_by : kd (S.toNat + 1) = 34 := (kf_33_0 k_S).2
    obtain ⟨v1, e1⟩ : ∃ z_, M t 4 = z_ := ⟨_, rfl⟩
    have b1 : (-2147483648) ≤ v1 ∧ v1 ≤ 2147483647 := by rw [← e1]; exact (CI.r hC_M k_t (by decide) 4)
    obtain ⟨v2, e2⟩ : ∃ z_, M t 5 = z_ := ⟨_, rfl⟩
    have b2 : (-2147483648) ≤ v2 ∧ v2 ≤ 2147483647 := by rw [← e2]; exact (CI.r hC_M k_t (by decide) 5)
    obtain ⟨v3, e3⟩ : ∃ z_, M t 6 = z_ := ⟨_, rfl⟩
    have b3 : (-2147483648) ≤ v3 ∧ v3 ≤ 2147483647 := by rw [← e3]; exact (CI.r hC_M k_t (by decide) 6)
    refine jr.aload_n rfl rfl ?_
    refine jr.iload_n rfl rfl ?_
    refine jr.iload_n rfl rfl ?_
    refine jr.gst (v := .ref 1000001) rfl rfl ?_
    refine jr.iload_n rfl rfl ?_
    obtain ⟨v4, e4⟩ : ∃ z_, xcv_1 x = z_ := ⟨_, rfl⟩
    have b4 : 1 ≤ v4 ∧ v4 ≤ 24 := by rw [← e4]; exact xcr_1 (by omega) (by omega)
    refine jr.ials (i := x) v4 rfl (by decide) rfl (by decide) (by omega) (by omega) (by rw [← e4]; exact (Int32.ofInt_toInt _).symm) ?_
    have hl1 := hls_c (k := x) (by omega) (by omega)
    have hl2 := hls_r x
    have hl3 := hls_v x
    refine jr.iadd rfl ?_
    have k5_S : kd (S).toNat = 33 := (congrArg (fun z : Int => kd z.toNat) g_S).symm.trans (CI.x hC_M k_t 7 rfl (by decide))
    refine jr_v rfl rfl (Or.inl rfl) rfl rfl (Nat.lt_trans (kx_18 k_t).1 (by decide)) (kx_18 k_t).2 ⟨rfl, Nat.le_of_ble_eq_true rfl, Nat.le_of_ble_eq_true rfl⟩ rfl (jc.deep (c_Headers_isCut_x hC_M (FR.rfl _ M) k_t (by omega) (by omega) g_S g_N e1 e2 e3 (fun r5 M5 hC_M5 hf_M5 z5 w5_0 => ?_)) (by decide))
    have ht_M5 : FR W_c_Headers_sizeIfRight_x T M5 := FR.t ht_M hf_M5 (kw_sub rfl)
    obtain ⟨v6, e6⟩ : ∃ z_, M5 t 4 = z_ := ⟨_, rfl⟩
    have b6 : (-2147483648) ≤ v6 ∧ v6 ≤ 2147483647 := by rw [← e6]; exact (CI.r hC_M5 k_t (by decide) 4)
    obtain ⟨v7, e7⟩ : ∃ z_, M5 t 5 = z_ := ⟨_, rfl⟩
    have b7 : (-2147483648) ≤ v7 ∧ v7 ≤ 2147483647 := by rw [← e7]; exact (CI.r hC_M5 k_t (by decide) 5)
    obtain ⟨v8, e8⟩ : ∃ z_, M5 t 6 = z_ := ⟨_, rfl⟩
    have b8 : (-2147483648) ≤ v8 ∧ v8 ≤ 2147483647 := by rw [← e8]; exact (CI.r hC_M5 k_t (by decide) 6)
    refine jr.if_eq rfl rfl (by omega) (fun h66 => ?_) (fun h66 => ?_)
    · refine jr.aload_n rfl rfl ?_
      refine jr.iload_n rfl rfl ?_
      refine jr.iload_n rfl rfl ?_
      have e10 : M5 t 7 = S := (hf_M5.g k_t rfl).trans g_S
      have k9_S : kd (S).toNat = 33 := (congrArg (fun z : Int => kd z.toNat) e10).symm.trans (CI.x hC_M5 k_t 7 rfl (by decide))
      have e11 : M5 ((S.toNat)) 1 = N := (hf_M5.g k9_S rfl).trans g_N
      refine jr_v rfl rfl (Or.inl rfl) rfl rfl (Nat.lt_trans (kx_18 k_t).1 (by decide)) (kx_18 k_t).2 ⟨rfl, Nat.le_of_ble_eq_true rfl, Nat.le_of_ble_eq_true rfl⟩ rfl (jc.deep (c_Headers_fullSize_x hC_M5 k_t (by omega) (by omega) e10 e11 (BY8.fr hy1 k_by hf_M5 rfl) (fun r9 z9 w9_0 => ?_)) (by decide))
      refine jr.istore_n (ls' := [_, _, _, _]) rfl (by decide) rfl ?_
      refine jr.iload_n rfl rfl ?_
      refine jr.iconst rfl ?_
      refine jr.icmp_eq rfl rfl (by omega) (by omega) (fun h80 => ?_) (fun h80 => ?_)
      · refine jr.iload_n rfl rfl ?_
        refine jr.bipush rfl (by decide) ?_
        refine jr.icmp_ge rfl rfl (by omega) (by omega) (fun h92 => ?_) (fun h92 => ?_)
        · refine jr.pick (ls := [_, _, _, _]) [1, 2, 0, 3] rfl rfl ?_
          exact c_Headers_sizeIfRight_x_L116 k_t q 0 M5 r9 hC_M5 ht_M5 (by omega) (by omega) (by omega) e10 e11 (by have hq0 : M5 t 4 = v6 := e6; have hq1 : M5 t 5 = v7 := e7; have hq2 : M5 t 6 = v8 := e8; omega) (BY8.fr hy1 k_by hf_M5 rfl) (by omega) (by omega) (by omega) (by omega)
        · refine jr.aload_n rfl rfl ?_
          refine jr.iconst rfl ?_
          refine jr.iload_n rfl rfl ?_
          refine jr.iconst rfl ?_
          refine jr.icmp_ne rfl rfl (by omega) (by omega) (fun h99 => ?_) (fun h99 => ?_)
          · exact absurd h99 (by omega)
          · refine jr.iload_n rfl rfl ?_
            refine jr.goto rfl rfl ?_
            refine jr.iload_n rfl rfl ?_
            refine jr_v rfl rfl (Or.inl rfl) rfl rfl (Nat.lt_trans (kx_18 k_t).1 (by decide)) (kx_18 k_t).2 ⟨rfl, Nat.le_of_ble_eq_true rfl, Nat.le_of_ble_eq_true rfl⟩ rfl (jc.deep (c_Headers_find_x hC_M5 (FR.rfl _ M5) k_t (by omega) (by omega) (by omega) (fun M12 hC_M12 hf_M12 w12_0 w12_1 w12_2 => ?_)) (by decide))
            have ht_M12 : FR W_c_Headers_sizeIfRight_x T M12 := FR.t ht_M5 hf_M12 (kw_sub rfl)
            have b13 : (-2147483648) ≤ 4 ∧ 4 ≤ 2147483647 := by omega
            have b14 : (-2147483648) ≤ y ∧ y ≤ 2147483647 := by omega
            have b15 : (-2147483648) ≤ x ∧ x ≤ 2147483647 := by omega
            refine jr.iconst rfl ?_
            exact jr.ireturn rfl rfl rfl (q _ _ hC_M12 ht_M12 (by omega) (by have hq4 : M12 t 4 = 4 := w12_0; have hq5 : M12 t 5 = y := w12_1; have hq6 : M12 t 6 = x := w12_2; have e1 : hsF f N C (bkf (T (t + 1)) C) x y = _ := (by unfold hsF; rw [if_neg (by omega), if_neg hy2.2.1, if_neg hy2.2.2.1, if_neg hy2.2.2.2.1, if_neg (by omega), if_pos (by omega)]); have e2 : hsW f N C (bkf (T (t + 1)) C) x y = _ := (by unfold hsW; rw [if_neg (by omega), if_neg hy2.2.1, if_neg hy2.2.2.1, if_neg hy2.2.2.2.1, if_neg (by omega), if_pos (by omega)]); exact Or.inl ⟨by omega, by omega, by split at e2 <;> omega, by omega⟩))
      · refine jr.iload_n rfl rfl ?_
        refine jr.bipush rfl (by decide) ?_
        refine jr.icmp_ne rfl rfl (by omega) (by omega) (fun h86 => ?_) (fun h86 => ?_)
        · refine jr.pick (ls := [_, _, _, _]) [1, 2, 0, 3] rfl rfl ?_
          exact c_Headers_sizeIfRight_x_L116 k_t q 0 M5 r9 hC_M5 ht_M5 (by omega) (by omega) (by omega) e10 e11 (by have hq0 : M5 t 4 = v6 := e6; have hq1 : M5 t 5 = v7 := e7; have hq2 : M5 t 6 = v8 := e8; omega) (BY8.fr hy1 k_by hf_M5 rfl) (by omega) (by omega) (by omega) (by omega)
        · refine jr.iload_n rfl rfl ?_
          refine jr.bipush rfl (by decide) ?_
          refine jr.icmp_ge rfl rfl (by omega) (by omega) (fun h92 => ?_) (fun h92 => ?_)
          · refine jr.pick (ls := [_, _, _, _]) [1, 2, 0, 3] rfl rfl ?_
            exact c_Headers_sizeIfRight_x_L116 k_t q 0 M5 r9 hC_M5 ht_M5 (by omega) (by omega) (by omega) e10 e11 (by have hq0 : M5 t 4 = v6 := e6; have hq1 : M5 t 5 = v7 := e7; have hq2 : M5 t 6 = v8 := e8; omega) (BY8.fr hy1 k_by hf_M5 rfl) (by omega) (by omega) (by omega) (by omega)
          · refine jr.aload_n rfl rfl ?_
            refine jr.iconst rfl ?_
            refine jr.iload_n rfl rfl ?_
            refine jr.iconst rfl ?_
            refine jr.icmp_ne rfl rfl (by omega) (by omega) (fun h99 => ?_) (fun h99 => ?_)
            · refine jr.iload_n rfl rfl ?_
              refine jr.bipush rfl (by decide) ?_
              refine jr.iadd rfl ?_
              refine jr.iload_n rfl rfl ?_
              refine jr_v rfl rfl (Or.inl rfl) rfl rfl (Nat.lt_trans (kx_18 k_t).1 (by decide)) (kx_18 k_t).2 ⟨rfl, Nat.le_of_ble_eq_true rfl, Nat.le_of_ble_eq_true rfl⟩ rfl (jc.deep (c_Headers_find_x hC_M5 (FR.rfl _ M5) k_t (by omega) (by omega) (by omega) (fun M16 hC_M16 hf_M16 w16_0 w16_1 w16_2 => ?_)) (by decide))
              have ht_M16 : FR W_c_Headers_sizeIfRight_x T M16 := FR.t ht_M5 hf_M16 (kw_sub rfl)
              have b17 : (-2147483648) ≤ 4 ∧ 4 ≤ 2147483647 := by omega
              have b18 : (-2147483648) ≤ y + 12 ∧ y + 12 ≤ 2147483647 := by omega
              have b19 : (-2147483648) ≤ x ∧ x ≤ 2147483647 := by omega
              refine jr.iconst rfl ?_
              exact jr.ireturn rfl rfl rfl (q _ _ hC_M16 ht_M16 (by omega) (by have hq4 : M16 t 4 = 4 := w16_0; have hq5 : M16 t 5 = y + 12 := w16_1; have hq6 : M16 t 6 = x := w16_2; have e1 : hsF f N C (bkf (T (t + 1)) C) x y = _ := (by unfold hsF; rw [if_neg (by omega), if_neg hy2.2.1, if_neg hy2.2.2.1, if_neg hy2.2.2.2.1, if_neg (by omega), if_pos (by omega)]); have e2 : hsW f N C (bkf (T (t + 1)) C) x y = _ := (by unfold hsW; rw [if_neg (by omega), if_neg hy2.2.1, if_neg hy2.2.2.1, if_neg hy2.2.2.2.1, if_neg (by omega), if_pos (by omega)]); exact Or.inl ⟨by omega, by omega, by split at e2 <;> omega, by omega⟩))
            · exact absurd (by omega) h99
    · have sx66 : (1 : Int) ≤ r5 := by omega
      clear h66
      refine jr.iconst rfl ?_
      exact jr.ireturn rfl rfl rfl (q _ _ hC_M5 ht_M5 (by omega) (by have hq4 : M5 t 4 = v6 := e6; have hq5 : M5 t 5 = v7 := e7; have hq6 : M5 t 6 = v8 := e8; have e1 : hsF f N C (bkf (T (t + 1)) C) x y = _ := (by unfold hsF; rw [if_neg (by omega), if_neg hy2.2.1, if_neg hy2.2.2.1, if_neg hy2.2.2.2.1, if_pos (by omega)]); have e2 : hsW f N C (bkf (T (t + 1)) C) x y = _ := (by unfold hsW; rw [if_neg (by omega), if_neg hy2.2.1, if_neg hy2.2.2.1, if_neg hy2.2.2.2.1, if_pos (by omega)]); exact Or.inl ⟨by omega, by omega, by omega, by omega⟩))
end
