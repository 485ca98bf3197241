section
theorem c_Headers_isCut_x {A : Nat → Option (Nat × (Nat → Int32))} {Q : Option Value → jm → Prop} {T : jm} {M : jm} (hC_M : CI M) (ht_M : FR W_c_Headers_isCut_x T M) {t : Nat} (k_t : kd t = 18) {x : Int} (h_x : (-2147483648) ≤ x ∧ x ≤ 2147483647) {y : Int} (h_y : (-2147483648) ≤ y ∧ y ≤ 2147483647) {S : Int} (g_S : M t 7 = S) {N : Int} (g_N : M ((S.toNat)) 1 = N) {F : Int} (g_F : M t 4 = F) {G : Int} (g_G : M t 5 = G) {H : Int} (g_H : M t 6 = H) (q : ∀ (r : Int) (M' : jm), CI M' → FR W_c_Headers_isCut_x T M' → 0 ≤ r ∧ r ≤ 1 → ((N < y ∧ r = 1 ∧ M' t 4 = 1 ∧ M' t 5 = N ∧ M' t 6 = x) ∨ (y ≤ N ∧ M' t 4 = F ∧ M' t 5 = G ∧ M' t 6 = H ∧ ((r = 1 ∧ F ≠ 0) ∨ (r = 0 ∧ F = 0)))) → Q (some (.int (Int32.ofInt r))) M') : jc A 2 126 [.ref (t), .int (Int32.ofInt (x)), .int (Int32.ofInt (y))] M Q := by
  refine jc_of (m := xm_126) rfl (Nat.le_of_ble_eq_true rfl) rfl ?_
  have k_S : kd S.toNat = 33 := (congrArg (fun z : Int => kd z.toNat) g_S).symm.trans (CI.x hC_M k_t 7 rfl (by decide))
  have b_N : (-1) ≤ N ∧ N ≤ 400 := by rw [← g_N]; exact (CI.r hC_M k_S (by decide) 1)
  have b_F : (-2147483648) ≤ F ∧ F ≤ 2147483647 := by rw [← g_F]; exact (CI.r hC_M k_t (by decide) 4)
  have b_G : (-2147483648) ≤ G ∧ G ≤ 2147483647 := by rw [← g_G]; exact (CI.r hC_M k_t (by decide) 5)
  have b_H : (-2147483648) ≤ H ∧ H ≤ 2147483647 := by rw [← g_H]; exact (CI.r hC_M k_t (by decide) 6)
  refine jr.iload_n rfl rfl ?_
  refine jr.aload_n rfl rfl ?_
  refine jr.getf (i := 7) (x := S) (v := .ref (S.toNat)) rfl rfl (Nat.lt_trans (kx_18 k_t).1 (by decide)) (kx_18 k_t).2 (by decide) rfl rfl g_S (jval_mut rfl (kn_18_7 k_t)) ?_
  refine jr.getf (i := 1) (x := N) (v := .int (Int32.ofInt (N))) rfl rfl (Nat.lt_trans (kx_33 k_S).1 (by decide)) (kx_33 k_S).2 (by decide) rfl rfl g_N rfl ?_
  refine jr.icmp_le rfl rfl (by omega) (by omega) (fun h8 => ?_) (fun h8 => ?_)
  · refine jr.aload_n rfl rfl ?_
    refine jr.getf (i := 4) (x := F) (v := .int (Int32.ofInt (F))) rfl rfl (Nat.lt_trans (kx_18 k_t).1 (by decide)) (kx_18 k_t).2 (by decide) rfl rfl g_F rfl ?_
    refine jr.if_eq rfl rfl (by omega) (fun h28 => ?_) (fun h28 => ?_)
    · refine jr.iconst rfl ?_
      exact jr.ireturn rfl rfl rfl (q _ _ hC_M ht_M (by omega) (by have hq0 : M t 4 = F := g_F; have hq1 : M t 5 = G := g_G; have hq2 : M t 6 = H := g_H; omega))
    · refine jr.iconst rfl ?_
      refine jr.goto rfl rfl ?_
      exact jr.ireturn rfl rfl rfl (q _ _ hC_M ht_M (by omega) (by have hq0 : M t 4 = F := g_F; have hq1 : M t 5 = G := g_G; have hq2 : M t 6 = H := g_H; omega))
  · refine jr.aload_n rfl rfl ?_
    refine jr.iconst rfl ?_
    refine jr.aload_n rfl rfl ?_
    refine jr.getf (i := 7) (x := S) (v := .ref (S.toNat)) rfl rfl (Nat.lt_trans (kx_18 k_t).1 (by decide)) (kx_18 k_t).2 (by decide) rfl rfl g_S (jval_mut rfl (kn_18_7 k_t)) ?_
    refine jr.getf (i := 1) (x := N) (v := .int (Int32.ofInt (N))) rfl rfl (Nat.lt_trans (kx_33 k_S).1 (by decide)) (kx_33 k_S).2 (by decide) rfl rfl g_N rfl ?_
    refine jr.iload_n rfl rfl ?_
    refine jr_v rfl rfl (Or.inl rfl) rfl rfl (Nat.lt_trans (kx_18 k_t).1 (by decide)) (kx_18 k_t).2 ⟨rfl, Nat.le_of_ble_eq_true rfl, Nat.le_of_ble_eq_true rfl⟩ rfl (jc.deep (c_Headers_find_x hC_M (FR.rfl _ M) k_t (by omega) (by omega) (by omega) (fun M3 hC_M3 hf_M3 w3_0 w3_1 w3_2 => ?_)) (by decide))
    have ht_M3 : FR W_c_Headers_isCut_x T M3 := FR.t ht_M hf_M3 (kw_sub rfl)
    have b4 : (-2147483648) ≤ 1 ∧ 1 ≤ 2147483647 := by omega
    have b5 : (-2147483648) ≤ N ∧ N ≤ 2147483647 := by omega
    have b6 : (-2147483648) ≤ x ∧ x ≤ 2147483647 := by omega
    refine jr.aload_n rfl rfl ?_
    refine jr.getf (i := 4) (x := 1) (v := .int (Int32.ofInt (1))) rfl rfl (Nat.lt_trans (kx_18 k_t).1 (by decide)) (kx_18 k_t).2 (by decide) rfl rfl w3_0 rfl ?_
    refine jr.if_eq rfl rfl (by omega) (fun h28 => ?_) (fun h28 => ?_)
    · refine jr.iconst rfl ?_
      exact jr.ireturn rfl rfl rfl (q _ _ hC_M3 ht_M3 (by omega) (by have hq0 : M3 t 4 = 1 := w3_0; have hq1 : M3 t 5 = N := w3_1; have hq2 : M3 t 6 = x := w3_2; omega))
    · refine jr.iconst rfl ?_
      refine jr.goto rfl rfl ?_
      exact jr.ireturn rfl rfl rfl (q _ _ hC_M3 ht_M3 (by omega) (by have hq0 : M3 t 4 = 1 := w3_0; have hq1 : M3 t 5 = N := w3_1; have hq2 : M3 t 6 = x := w3_2; omega))
noncomputable def W_c_Headers_isOtherVersion_x : List (Nat × Nat) := [(18, 4), (18, 5), (18, 6)]
end
