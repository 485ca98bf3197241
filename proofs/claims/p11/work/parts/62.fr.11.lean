section
noncomputable def bkf (g : Int → Int) (c : Int) : Int := if 1 ≤ c then g (c - 1) else -1
noncomputable def hsF (f : Int → Int) (n c bk k a : Int) : Int := if 12 ≤ c then 6 else if (k = 4 ∧ bk ≠ 3) ∨ ((k = 6 ∨ k = 5) ∧ bk ≠ 3 ∧ bk ≠ 4 ∧ bk ≠ 5) then 3 else if (k = 2 ∨ k = 3) ∧ n < a + 1 then 1 else if (k = 2 ∧ hb f n a / 16 ≠ 4) ∨ (k = 3 ∧ hb f n a / 16 ≠ 6) then 3 else if n < a + hls k then 1 else if (k = 2 ∨ k = 8) ∧ hsZ f n k a < 20 then 4 else if n < a + hsZ f n k a then 1 else if (k = 2 ∧ tw f (a + 2) ≠ n - a) ∨ (k = 3 ∧ tw f (a + 2) ≠ n - a - 24) ∨ (k = 9 ∧ tw f (a + 4) ≠ n - a) then 5 else 0
noncomputable def hsW (f : Int → Int) (n c bk k a : Int) : Int := if 12 ≤ c then a else if (k = 4 ∧ bk ≠ 3) ∨ ((k = 6 ∨ k = 5) ∧ bk ≠ 3 ∧ bk ≠ 4 ∧ bk ≠ 5) then a else if (k = 2 ∨ k = 3) ∧ n < a + 1 then n else if (k = 2 ∧ hb f n a / 16 ≠ 4) ∨ (k = 3 ∧ hb f n a / 16 ≠ 6) then a else if n < a + hls k then n else if (k = 2 ∨ k = 8) ∧ hsZ f n k a < 20 then (if k = 2 then a else a + 12) else if n < a + hsZ f n k a then n else (if k = 9 then a + 4 else a + 2)
noncomputable def W_c_Headers_find_x : List (Nat × Nat) := [(18, 4), (18, 5), (18, 6)]
theorem c_Headers_find_x {A : Nat → Option (Nat × (Nat → Int32))} {Q : Option Value → jm → Prop} {T : jm} {M : jm} (hC_M : CI M) (ht_M : FR W_c_Headers_find_x T M) {t : Nat} (k_t : kd t = 18) {x : Int} (h_x : (-2147483648) ≤ x ∧ x ≤ 2147483647) {y : Int} (h_y : (-2147483648) ≤ y ∧ y ≤ 2147483647) {z : Int} (h_z : (-2147483648) ≤ z ∧ z ≤ 2147483647) (q : ∀ (M' : jm), CI M' → FR W_c_Headers_find_x T M' → (M' t 4 = x) → (M' t 5 = y) → (M' t 6 = z) → Q none M') : jc A 1 125 [.ref (t), .int (Int32.ofInt (x)), .int (Int32.ofInt (y)), .int (Int32.ofInt (z))] M Q := by
  refine jc_of (m := xm_125) rfl (Nat.le_of_ble_eq_true rfl) rfl ?_
  refine jr.aload_n rfl rfl ?_
  refine jr.iload_n rfl rfl ?_
  refine jr.putf (i := 4) (x := x) rfl rfl (Nat.lt_trans (kx_18 k_t).1 (by decide)) (kx_18 k_t).2 (by decide) rfl rfl rfl rfl rfl ?_
  refine jr.aload_n rfl rfl ?_
  refine jr.iload_n rfl rfl ?_
  refine jr.putf (i := 5) (x := y) rfl rfl (Nat.lt_trans (kx_18 k_t).1 (by decide)) (kx_18 k_t).2 (by decide) rfl rfl rfl rfl rfl ?_
  refine jr.aload_n rfl rfl ?_
  refine jr.iload_n rfl rfl ?_
  refine jr.putf (i := 6) (x := z) rfl rfl (Nat.lt_trans (kx_18 k_t).1 (by decide)) (kx_18 k_t).2 (by decide) rfl rfl rfl rfl rfl ?_
  exact jr.vreturn rfl rfl (q _ (CI.u (CI.u (CI.u hC_M (i := 4) k_t (show (-2147483648 : Int) ≤ _ ∧ _ ≤ (2147483647 : Int) from by omega) rfl) (i := 5) k_t (show (-2147483648 : Int) ≤ _ ∧ _ ≤ (2147483647 : Int) from by omega) rfl) (i := 6) k_t (show (-2147483648 : Int) ≤ _ ∧ _ ≤ (2147483647 : Int) from by omega) rfl) (FR.o (FR.o (FR.o ht_M k_t rfl) k_t rfl) k_t rfl)  (by have hq0 : (ju (ju (ju M t 4 x) t 5 y) t 6 z) t 4 = x := ((ju_i _ _ (by decide)).trans ((ju_i _ _ (by decide)).trans (ju_same _ _ _ _))); omega) (by have hq0 : (ju (ju (ju M t 4 x) t 5 y) t 6 z) t 5 = y := ((ju_i _ _ (by decide)).trans (ju_same _ _ _ _)); omega) (by have hq0 : (ju (ju (ju M t 4 x) t 5 y) t 6 z) t 6 = z := (ju_same _ _ _ _); omega))
noncomputable def W_c_Headers_isCut_x : List (Nat × Nat) := [(18, 4), (18, 5), (18, 6)]
theorem c_Headers_isCut_x {A : Nat → Option (Nat × (Nat → Int32))} {Q : Option Value → jm → Prop} {T : jm} {M : jm} (hC_M : CI M) (ht_M : FR W_c_Headers_isCut_x T M) {t : Nat} (k_t : kd t = 18) {x : Int} (h_x : (-2147483648) ≤ x ∧ x ≤ 2147483647) {y : Int} (h_y : (-2147483648) ≤ y ∧ y ≤ 2147483647) {S : Int} (g_S : M t 7 = S) {N : Int} (g_N : M ((S.toNat)) 1 = N) {F : Int} (g_F : M t 4 = F) {G : Int} (g_G : M t 5 = G) {H : Int} (g_H : M t 6 = H) (q : ∀ (r : Int) (M' : jm), CI M' → FR W_c_Headers_isCut_x T M' → 0 ≤ r ∧ r ≤ 1 → ((N < y ∧ r = 1 ∧ M' t 4 = 1 ∧ M' t 5 = N ∧ M' t 6 = x) ∨ (y ≤ N ∧ M' t 4 = F ∧ M' t 5 = G ∧ M' t 6 = H ∧ ((r = 1 ∧ F ≠ 0) ∨ (r = 0 ∧ F = 0)))) → Q (some (.int (Int32.ofInt r))) M') : jc A 2 126 [.ref (t), .int (Int32.ofInt (x)), .int (Int32.ofInt (y))] M Q := by
  refine jc_of (m := xm_126) rfl (Nat.le_of_ble_eq_true rfl) rfl ?_
  have k_S : kd S.toNat = 33 := (congrArg (fun z : Int => kd z.toNat) g_S).symm.trans (CI.x hC_M k_t 7 rfl (by decide))
  have b_N : (-1) ≤ N ∧ N ≤ 400 := by rw [← g_N]; exact (CI.r hC_M k_S (by decide) 1)
  have b_F : (-2147483648) ≤ F ∧ F ≤ 2147483647 := by rw [← g_F]; exact (CI.r hC_M k_t (by decide) 4)
  have b_G : (-2147483648) ≤ G ∧ G ≤ 2147483647 := by rw [← g_G]; exact (CI.r hC_M k_t (by decide) 5)
  have b_H : (-2147483648) ≤ H ∧ H ≤ 2147483647 := by rw [← g_H]; exact (CI.r hC_M k_t (by decide) 6)
  refine jr.iload_n rfl rfl ?_
  refine jr.aload_n rfl rfl ?_
  refine jr.getf (i := 7) (x := S) (v := .ref (S.toNat)) rfl rfl (Nat.lt_trans (kx_18 k_t).1 (by decide)) (kx_18 k_t).2 (by decide) rfl rfl g_S (jval_mut rfl (kn_18_7 k_t)) ?_
  refine jr.getf (i := 1) (x := N) (v := .int (Int32.ofInt (N))) rfl rfl (Nat.lt_trans (kx_33 k_S).1 (by decide)) (kx_33 k_S).2 (by decide) rfl rfl g_N rfl ?_
  refine jr.icmp_le rfl rfl (by omega) (by omega) (fun h8 => ?_) (fun h8 => ?_)
  · refine jr.aload_n rfl rfl ?_
    refine jr.getf (i := 4) (x := F) (v := .int (Int32.ofInt (F))) rfl rfl (Nat.lt_trans (kx_18 k_t).1 (by decide)) (kx_18 k_t).2 (by decide) rfl rfl g_F rfl ?_
    refine jr.if_eq rfl rfl (by omega) (fun h28 => ?_) (fun h28 => ?_)
    · refine jr.iconst rfl ?_
      exact jr.ireturn rfl rfl rfl (q _ _ hC_M ht_M (by omega) (by have hq0 : M t 4 = F := g_F; have hq1 : M t 5 = G := g_G; have hq2 : M t 6 = H := g_H; omega))
    · refine jr.iconst rfl ?_
      refine jr.goto rfl rfl ?_
      exact jr.ireturn rfl rfl rfl (q _ _ hC_M ht_M (by omega) (by have hq0 : M t 4 = F := g_F; have hq1 : M t 5 = G := g_G; have hq2 : M t 6 = H := g_H; omega))
  · refine jr.aload_n rfl rfl ?_
    refine jr.iconst rfl ?_
    refine jr.aload_n rfl rfl ?_
    refine jr.getf (i := 7) (x := S) (v := .ref (S.toNat)) rfl rfl (Nat.lt_trans (kx_18 k_t).1 (by decide)) (kx_18 k_t).2 (by decide) rfl rfl g_S (jval_mut rfl (kn_18_7 k_t)) ?_
    refine jr.getf (i := 1) (x := N) (v := .int (Int32.ofInt (N))) rfl rfl (Nat.lt_trans (kx_33 k_S).1 (by decide)) (kx_33 k_S).2 (by decide) rfl rfl g_N rfl ?_
    refine jr.iload_n rfl rfl ?_
    refine jr_v rfl rfl (Or.inl rfl) rfl rfl (Nat.lt_trans (kx_18 k_t).1 (by decide)) (kx_18 k_t).2 ⟨rfl, Nat.le_of_ble_eq_true rfl, Nat.le_of_ble_eq_true rfl⟩ rfl (jc.deep (c_Headers_find_x hC_M (FR.rfl _ M) k_t (by omega) (by omega) (by omega) (fun M3 hC_M3 hf_M3 w3_0 w3_1 w3_2 => ?_)) (by decide))
    have ht_M3 : FR W_c_Headers_isCut_x T M3 := FR.t ht_M hf_M3 (kw_sub rfl)
    have b4 : (-2147483648) ≤ 1 ∧ 1 ≤ 2147483647 := by omega
    have b5 : (-2147483648) ≤ N ∧ N ≤ 2147483647 := by omega
    have b6 : (-2147483648) ≤ x ∧ x ≤ 2147483647 := by omega
    refine jr.aload_n rfl rfl ?_
    refine jr.getf (i := 4) (x := 1) (v := .int (Int32.ofInt (1))) rfl rfl (Nat.lt_trans (kx_18 k_t).1 (by decide)) (kx_18 k_t).2 (by decide) rfl rfl w3_0 rfl ?_
    refine jr.if_eq rfl rfl (by omega) (fun h28 => ?_) (fun h28 => ?_)
    · refine jr.iconst rfl ?_
      exact jr.ireturn rfl rfl rfl (q _ _ hC_M3 ht_M3 (by omega) (by have hq0 : M3 t 4 = 1 := w3_0; have hq1 : M3 t 5 = N := w3_1; have hq2 : M3 t 6 = x := w3_2; omega))
    · refine jr.iconst rfl ?_
      refine jr.goto rfl rfl ?_
      exact jr.ireturn rfl rfl rfl (q _ _ hC_M3 ht_M3 (by omega) (by have hq0 : M3 t 4 = 1 := w3_0; have hq1 : M3 t 5 = N := w3_1; have hq2 : M3 t 6 = x := w3_2; omega))
noncomputable def W_c_Headers_isOtherVersion_x : List (Nat × Nat) := [(18, 4), (18, 5), (18, 6)]
end
