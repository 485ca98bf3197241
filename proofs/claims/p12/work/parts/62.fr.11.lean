section
theorem c_Headers_sizeIfRight_x_L116 {A : Nat → Option (Nat × (Nat → Int32))} {Q : Option Value → jm → Prop} {f : Int → Int} {T : jm} {t : Nat} (k_t : kd t = 18) {S : Int} {N : Int} {G : Int} {H : Int} {C : Int} {x : Int} {y : Int} (q : ∀ (r : Int) (M' : jm), CI M' → FR W_c_Headers_sizeIfRight_x T M' → (-401) ≤ r ∧ r ≤ 2048 → ((hsF f N C (bkf (T (t + 1)) C) x y ≠ 0 ∧ M' t 4 = hsF f N C (bkf (T (t + 1)) C) x y ∧ M' t 5 = hsW f N C (bkf (T (t + 1)) C) x y ∧ M' t 6 = x) ∨ (hsF f N C (bkf (T (t + 1)) C) x y = 0 ∧ M' t 4 = 0 ∧ r = hsZ f N x y ∧ M' t 5 = G ∧ M' t 6 = H)) → Q (some (.int (Int32.ofInt r))) M') : ∀ (nM : Nat) (M : jm) (w : Int), CI M → FR W_c_Headers_sizeIfRight_x T M → 0 ≤ x ∧ x ≤ 11 → 0 ≤ y ∧ y ≤ 400 → (-401) ≤ w ∧ w ≤ 2048 → M t 7 = S → M ((S.toNat)) 1 = N → (M t 4 = 0 ∧ M t 5 = G ∧ M t 6 = H) → (BY8 M (S.toNat + 1) f) → (C < 12 ∧ ¬ ((x = 4 ∧ bkf (T (t + 1)) C ≠ 3) ∨ ((x = 6 ∨ x = 5) ∧ bkf (T (t + 1)) C ≠ 3 ∧ bkf (T (t + 1)) C ≠ 4 ∧ bkf (T (t + 1)) C ≠ 5)) ∧ ¬ ((x = 2 ∨ x = 3) ∧ N < y + 1) ∧ ¬ ((x = 2 ∧ hb f N y / 16 ≠ 4) ∨ (x = 3 ∧ hb f N y / 16 ≠ 6)) ∧ 0 ≤ N) → (w = hsZ f N x y ∧ y + hls x ≤ N ∧ ¬ ((x = 2 ∨ x = 8) ∧ w < 20)) → ((x ≠ 2 ∨ hls x = 20) ∧ (x ≠ 3 ∨ hls x = 24) ∧ (x ≠ 9 ∨ hls x = 8)) → 0 ≤ nM → jr A 3 xm_127 116 [(1, .int (Int32.ofInt (x))), (2, .int (Int32.ofInt (y))), (3, .int (Int32.ofInt (w))), (0, .ref (t))] [] M Q := by
  intro nM
  induction nM using Nat.strongRecOn with
  | ind nM ih =>
    intro M w hC_M ht_M h_x h_y h_w g_S g_N hy0 hy1 hy2 hy3 hy4 hm
    have k_S : kd S.toNat = 33 := (congrArg (fun z : Int => kd z.toNat) g_S).symm.trans (CI.x hC_M k_t 7 rfl (by decide))
    have b_N : (-1) ≤ N ∧ N ≤ 400 := by rw [← g_N]; exact (CI.r hC_M k_S (by decide) 1)
    have k_by : kd (S.toNat + 1) = 34 := (kf_33_0 k_S).2
    obtain ⟨v1, e1⟩ : ∃ z_, M t 4 = z_ := ⟨_, rfl⟩
    have b1 : (-2147483648) ≤ v1 ∧ v1 ≤ 2147483647 := by rw [← e1]; exact (CI.r hC_M k_t (by decide) 4)
    obtain ⟨v2, e2⟩ : ∃ z_, M t 5 = z_ := ⟨_, rfl⟩
    have b2 : (-2147483648) ≤ v2 ∧ v2 ≤ 2147483647 := by rw [← e2]; exact (CI.r hC_M k_t (by decide) 5)
    obtain ⟨v3, e3⟩ : ∃ z_, M t 6 = z_ := ⟨_, rfl⟩
    have b3 : (-2147483648) ≤ v3 ∧ v3 ≤ 2147483647 := by rw [← e3]; exact (CI.r hC_M k_t (by decide) 6)
    refine jr.aload_n rfl rfl ?_
    refine jr.iload_n rfl rfl ?_
    refine jr.iload_n rfl rfl ?_
    refine jr.iload_n rfl rfl ?_
    refine jr.iadd rfl ?_
    have k4_S : kd (S).toNat = 33 := (congrArg (fun z : Int => kd z.toNat) g_S).symm.trans (CI.x hC_M k_t 7 rfl (by decide))
    refine jr_v rfl rfl (Or.inl rfl) rfl rfl (Nat.lt_trans (kx_18 k_t).1 (by decide)) (kx_18 k_t).2 ⟨rfl, Nat.le_of_ble_eq_true rfl, Nat.le_of_ble_eq_true rfl⟩ rfl (jc.deep (c_Headers_isCut_x hC_M (FR.rfl _ M) k_t (by omega) (by omega) g_S g_N e1 e2 e3 (fun r4 M4 hC_M4 hf_M4 z4 w4_0 => ?_)) (by decide))
    have ht_M4 : FR W_c_Headers_sizeIfRight_x T M4 := FR.t ht_M hf_M4 (kw_sub rfl)
    obtain ⟨v5, e5⟩ : ∃ z_, M4 t 4 = z_ := ⟨_, rfl⟩
    have b5 : (-2147483648) ≤ v5 ∧ v5 ≤ 2147483647 := by rw [← e5]; exact (CI.r hC_M4 k_t (by decide) 4)
    obtain ⟨v6, e6⟩ : ∃ z_, M4 t 5 = z_ := ⟨_, rfl⟩
    have b6 : (-2147483648) ≤ v6 ∧ v6 ≤ 2147483647 := by rw [← e6]; exact (CI.r hC_M4 k_t (by decide) 5)
    obtain ⟨v7, e7⟩ : ∃ z_, M4 t 6 = z_ := ⟨_, rfl⟩
    have b7 : (-2147483648) ≤ v7 ∧ v7 ≤ 2147483647 := by rw [← e7]; exact (CI.r hC_M4 k_t (by decide) 6)
    refine jr.if_eq rfl rfl (by omega) (fun h124 => ?_) (fun h124 => ?_)
    · refine jr.aload_n rfl rfl ?_
      refine jr.iload_n rfl rfl ?_
      refine jr.iload_n rfl rfl ?_
      have e9 : M4 t 7 = S := (hf_M4.g k_t rfl).trans g_S
      have k8_S : kd (S).toNat = 33 := (congrArg (fun z : Int => kd z.toNat) e9).symm.trans (CI.x hC_M4 k_t 7 rfl (by decide))
      have e10 : M4 ((S.toNat)) 1 = N := (hf_M4.g k8_S rfl).trans g_N
      refine jr_v rfl rfl (Or.inl rfl) rfl rfl (Nat.lt_trans (kx_18 k_t).1 (by decide)) (kx_18 k_t).2 ⟨rfl, Nat.le_of_ble_eq_true rfl, Nat.le_of_ble_eq_true rfl⟩ rfl (jc.deep (c_Headers_checkTold_x hC_M4 (FR.rfl _ M4) k_t (by omega) (by omega) e9 e10 e5 e6 e7 (BY8.fr hy1 k_by hf_M4 rfl) (by omega) (fun M8 hC_M8 hf_M8 w8_0 => ?_)) (by decide))
      have ht_M8 : FR W_c_Headers_sizeIfRight_x T M8 := FR.t ht_M4 hf_M8 (kw_sub rfl)
      obtain ⟨v11, e11⟩ : ∃ z_, M8 t 4 = z_ := ⟨_, rfl⟩
      have b11 : (-2147483648) ≤ v11 ∧ v11 ≤ 2147483647 := by rw [← e11]; exact (CI.r hC_M8 k_t (by decide) 4)
      obtain ⟨v12, e12⟩ : ∃ z_, M8 t 5 = z_ := ⟨_, rfl⟩
      have b12 : (-2147483648) ≤ v12 ∧ v12 ≤ 2147483647 := by rw [← e12]; exact (CI.r hC_M8 k_t (by decide) 5)
      obtain ⟨v13, e13⟩ : ∃ z_, M8 t 6 = z_ := ⟨_, rfl⟩
      have b13 : (-2147483648) ≤ v13 ∧ v13 ≤ 2147483647 := by rw [← e13]; exact (CI.r hC_M8 k_t (by decide) 6)
      refine jr.iload_n rfl rfl ?_
      exact jr.ireturn rfl rfl rfl (q _ _ hC_M8 ht_M8 (by omega) (by have hq4 : M8 t 4 = v11 := e11; have hq5 : M8 t 5 = v12 := e12; have hq6 : M8 t 6 = v13 := e13; obtain ⟨e1, e2⟩ := hsF_e hy2 hy3.2.1 (by rw [← hy3.1]; exact hy3.2.2) (by omega); exact Or.elim w8_0 (fun h => (by clear w8_0; rw [if_pos h.1] at e1; exact Or.inl ⟨by omega, by omega, by split at e2 <;> omega, by omega⟩)) (fun h => (by clear w8_0; rw [if_neg h.1] at e1; exact Or.inr ⟨e1, by omega, by omega, by omega, by omega⟩))))
    · have sx124 : (1 : Int) ≤ r4 := by omega
      clear h124
      refine jr.iconst rfl ?_
      exact jr.ireturn rfl rfl rfl (q _ _ hC_M4 ht_M4 (by omega) (by have hq4 : M4 t 4 = v5 := e5; have hq5 : M4 t 5 = v6 := e6; have hq6 : M4 t 6 = v7 := e7; have e1 : hsF f N C (bkf (T (t + 1)) C) x y = _ := (by unfold hsF; rw [if_neg (by omega), if_neg hy2.2.1, if_neg hy2.2.2.1, if_neg hy2.2.2.2.1, if_neg (by omega), if_neg (by rw [← hy3.1]; exact hy3.2.2), if_pos (by omega)]); have e2 : hsW f N C (bkf (T (t + 1)) C) x y = _ := (by unfold hsW; rw [if_neg (by omega), if_neg hy2.2.1, if_neg hy2.2.2.1, if_neg hy2.2.2.2.1, if_neg (by omega), if_neg (by rw [← hy3.1]; exact hy3.2.2), if_pos (by omega)]); exact Or.inl ⟨by omega, by omega, by omega, by omega⟩))
end
