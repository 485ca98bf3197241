section
theorem c_Headers_checkTold_x {A : Nat → Option (Nat × (Nat → Int32))} {Q : Option Value → jm → Prop} {f : Int → Int} {T : jm} {M : jm} (hC_M : CI M) (ht_M : FR W_c_Headers_checkTold_x T M) {t : Nat} (k_t : kd t = 18) {x : Int} (h_x : 0 ≤ x ∧ x ≤ 11) {y : Int} (h_y : 0 ≤ y ∧ y ≤ 400) {S : Int} (g_S : M t 7 = S) {N : Int} (g_N : M ((S.toNat)) 1 = N) {F : Int} (g_F : M t 4 = F) {G : Int} (g_G : M t 5 = G) {H : Int} (g_H : M t 6 = H) (p0 : BY8 M (S.toNat + 1) f) (p1 : (x ≠ 2 ∨ y + 20 ≤ N) ∧ (x ≠ 3 ∨ y + 24 ≤ N) ∧ (x ≠ 9 ∨ y + 8 ≤ N)) (q : ∀ (M' : jm), CI M' → FR W_c_Headers_checkTold_x T M' → ((((x = 2 ∧ tw f (y + 2) ≠ N - y) ∨ (x = 3 ∧ tw f (y + 2) ≠ N - y - 24) ∨ (x = 9 ∧ tw f (y + 4) ≠ N - y)) ∧ M' t 4 = 5 ∧ ((x = 9 ∧ M' t 5 = y + 4) ∨ (x ≠ 9 ∧ M' t 5 = y + 2)) ∧ M' t 6 = x) ∨ (¬ ((x = 2 ∧ tw f (y + 2) ≠ N - y) ∨ (x = 3 ∧ tw f (y + 2) ≠ N - y - 24) ∨ (x = 9 ∧ tw f (y + 4) ≠ N - y)) ∧ M' t 4 = F ∧ M' t 5 = G ∧ M' t 6 = H)) → Q none M') : jc A 3 131 [.ref (t), .int (Int32.ofInt (x)), .int (Int32.ofInt (y))] M Q := by
  refine jc_of (m := xm_131) rfl (Nat.le_of_ble_eq_true rfl) rfl ?_
  have k_S : kd S.toNat = 33 := (congrArg (fun z : Int => kd z.toNat) g_S).symm.trans (CI.x hC_M k_t 7 rfl (by decide))
  have b_N : (-1) ≤ N ∧ N ≤ 400 := by rw [← g_N]; exact (CI.r hC_M k_S (by decide) 1)
  have b_F : (-2147483648) ≤ F ∧ F ≤ 2147483647 := by rw [← g_F]; exact (CI.r hC_M k_t (by decide) 4)
  have b_G : (-2147483648) ≤ G ∧ G ≤ 2147483647 := by rw [← g_G]; exact (CI.r hC_M k_t (by decide) 5)
  have b_H : (-2147483648) ≤ H ∧ H ≤ 2147483647 := by rw [← g_H]; exact (CI.r hC_M k_t (by decide) 6)
  have k_by : kd (S.toNat + 1) = 34 := (kf_33_0 k_S).2
  refine jr.aload_n rfl rfl ?_
  refine jr.getf (i := 7) (x := S) (v := .ref (S.toNat)) rfl rfl (Nat.lt_trans (kx_18 k_t).1 (by decide)) (kx_18 k_t).2 (by decide) rfl rfl g_S (jval_mut rfl (kn_18_7 k_t)) ?_
  refine jr.getf (i := 1) (x := N) (v := .int (Int32.ofInt (N))) rfl rfl (Nat.lt_trans (kx_33 k_S).1 (by decide)) (kx_33 k_S).2 (by decide) rfl rfl g_N rfl ?_
  refine jr.iload_n rfl rfl ?_
  refine jr.isub rfl ?_
  refine jr.istore_n (ls' := [_, _, _, _]) rfl (by decide) rfl ?_
  refine jr.iload_n rfl rfl ?_
  refine jr.iconst rfl ?_
  refine jr.icmp_ne rfl rfl (by omega) (by omega) (fun h12 => ?_) (fun h12 => ?_)
  · refine jr.iload_n rfl rfl ?_
    refine jr.iconst rfl ?_
    refine jr.icmp_ne rfl rfl (by omega) (by omega) (fun h46 => ?_) (fun h46 => ?_)
    · refine jr.iload_n rfl rfl ?_
      refine jr.bipush rfl (by decide) ?_
      refine jr.icmp_ne rfl rfl (by omega) (by omega) (fun h84 => ?_) (fun h84 => ?_)
      · exact jr.vreturn rfl rfl (q _ hC_M ht_M  (by have hq0 : M t 4 = F := g_F; have hq1 : M t 5 = G := g_G; have hq2 : M t 6 = H := g_H; omega))
      · refine jr.aload_n rfl rfl ?_
        refine jr.getf (i := 7) (x := S) (v := .ref (S.toNat)) rfl rfl (Nat.lt_trans (kx_18 k_t).1 (by decide)) (kx_18 k_t).2 (by decide) rfl rfl g_S (jval_mut rfl (kn_18_7 k_t)) ?_
        refine jr.iload_n rfl rfl ?_
        refine jr.iconst rfl ?_
        refine jr.iadd rfl ?_
        refine jr.iconst rfl ?_
        refine jr_v rfl rfl (Or.inl rfl) rfl rfl (Nat.lt_trans (kx_33 k_S).1 (by decide)) (kx_33 k_S).2 ⟨rfl, Nat.le_of_ble_eq_true rfl, Nat.le_of_ble_eq_true rfl⟩ rfl (jc.deep (c_Packet_numberFrom_h hC_M k_S (by omega) p0 (fun r3 z3 w3_0 => ?_)) (by decide))
        refine jr.iload_n rfl rfl ?_
        refine jr.i2l rfl (by omega) ?_
        refine jr.lcmp_eq rfl rfl rfl (by omega) (by omega) (fun h100 => ?_) (fun h100 => ?_)
        · exact jr.vreturn rfl rfl (q _ hC_M ht_M  (by have hq0 : M t 4 = F := g_F; have hq1 : M t 5 = G := g_G; have hq2 : M t 6 = H := g_H; omega))
        · refine jr.aload_n rfl rfl ?_
          refine jr.iconst rfl ?_
          refine jr.iload_n rfl rfl ?_
          refine jr.iconst rfl ?_
          refine jr.iadd rfl ?_
          refine jr.iload_n rfl rfl ?_
          refine jr_v rfl rfl (Or.inl rfl) rfl rfl (Nat.lt_trans (kx_18 k_t).1 (by decide)) (kx_18 k_t).2 ⟨rfl, Nat.le_of_ble_eq_true rfl, Nat.le_of_ble_eq_true rfl⟩ rfl (jc.deep (c_Headers_find_x hC_M (FR.rfl _ M) k_t (by omega) (by omega) (by omega) (fun M4 hC_M4 hf_M4 w4_0 w4_1 w4_2 => ?_)) (by decide))
          have ht_M4 : FR W_c_Headers_checkTold_x T M4 := FR.t ht_M hf_M4 (kw_sub rfl)
          have b5 : (-2147483648) ≤ 5 ∧ 5 ≤ 2147483647 := by omega
          have b6 : (-2147483648) ≤ y + 4 ∧ y + 4 ≤ 2147483647 := by omega
          have b7 : (-2147483648) ≤ x ∧ x ≤ 2147483647 := by omega
          exact jr.vreturn rfl rfl (q _ hC_M4 ht_M4  (by have hq0 : M4 t 4 = 5 := w4_0; have hq1 : M4 t 5 = y + 4 := w4_1; have hq2 : M4 t 6 = x := w4_2; omega))
    · refine jr.aload_n rfl rfl ?_
      refine jr.getf (i := 7) (x := S) (v := .ref (S.toNat)) rfl rfl (Nat.lt_trans (kx_18 k_t).1 (by decide)) (kx_18 k_t).2 (by decide) rfl rfl g_S (jval_mut rfl (kn_18_7 k_t)) ?_
      refine jr.iload_n rfl rfl ?_
      refine jr.iconst rfl ?_
      refine jr.iadd rfl ?_
      refine jr.iconst rfl ?_
      refine jr_v rfl rfl (Or.inl rfl) rfl rfl (Nat.lt_trans (kx_33 k_S).1 (by decide)) (kx_33 k_S).2 ⟨rfl, Nat.le_of_ble_eq_true rfl, Nat.le_of_ble_eq_true rfl⟩ rfl (jc.deep (c_Packet_numberFrom_h hC_M k_S (by omega) p0 (fun r9 z9 w9_0 => ?_)) (by decide))
      refine jr.iload_n rfl rfl ?_
      refine jr.bipush rfl (by decide) ?_
      refine jr.isub rfl ?_
      refine jr.i2l rfl (by omega) ?_
      refine jr.lcmp_eq rfl rfl rfl (by omega) (by omega) (fun h65 => ?_) (fun h65 => ?_)
      · refine jr.iload_n rfl rfl ?_
        refine jr.bipush rfl (by decide) ?_
        refine jr.icmp_ne rfl rfl (by omega) (by omega) (fun h84 => ?_) (fun h84 => ?_)
        · exact jr.vreturn rfl rfl (q _ hC_M ht_M  (by have hq0 : M t 4 = F := g_F; have hq1 : M t 5 = G := g_G; have hq2 : M t 6 = H := g_H; omega))
        · exact absurd (by omega) h84
      · refine jr.aload_n rfl rfl ?_
        refine jr.iconst rfl ?_
        refine jr.iload_n rfl rfl ?_
        refine jr.iconst rfl ?_
        refine jr.iadd rfl ?_
        refine jr.iload_n rfl rfl ?_
        refine jr_v rfl rfl (Or.inl rfl) rfl rfl (Nat.lt_trans (kx_18 k_t).1 (by decide)) (kx_18 k_t).2 ⟨rfl, Nat.le_of_ble_eq_true rfl, Nat.le_of_ble_eq_true rfl⟩ rfl (jc.deep (c_Headers_find_x hC_M (FR.rfl _ M) k_t (by omega) (by omega) (by omega) (fun M10 hC_M10 hf_M10 w10_0 w10_1 w10_2 => ?_)) (by decide))
        have ht_M10 : FR W_c_Headers_checkTold_x T M10 := FR.t ht_M hf_M10 (kw_sub rfl)
        have b11 : (-2147483648) ≤ 5 ∧ 5 ≤ 2147483647 := by omega
        have b12 : (-2147483648) ≤ y + 2 ∧ y + 2 ≤ 2147483647 := by omega
        have b13 : (-2147483648) ≤ x ∧ x ≤ 2147483647 := by omega
        refine jr.goto rfl rfl ?_
        exact jr.vreturn rfl rfl (q _ hC_M10 ht_M10  (by have hq0 : M10 t 4 = 5 := w10_0; have hq1 : M10 t 5 = y + 2 := w10_1; have hq2 : M10 t 6 = x := w10_2; omega))
  · refine jr.aload_n rfl rfl ?_
    refine jr.getf (i := 7) (x := S) (v := .ref (S.toNat)) rfl rfl (Nat.lt_trans (kx_18 k_t).1 (by decide)) (kx_18 k_t).2 (by decide) rfl rfl g_S (jval_mut rfl (kn_18_7 k_t)) ?_
    refine jr.iload_n rfl rfl ?_
    refine jr.iconst rfl ?_
    refine jr.iadd rfl ?_
    refine jr.iconst rfl ?_
    refine jr_v rfl rfl (Or.inl rfl) rfl rfl (Nat.lt_trans (kx_33 k_S).1 (by decide)) (kx_33 k_S).2 ⟨rfl, Nat.le_of_ble_eq_true rfl, Nat.le_of_ble_eq_true rfl⟩ rfl (jc.deep (c_Packet_numberFrom_h hC_M k_S (by omega) p0 (fun r15 z15 w15_0 => ?_)) (by decide))
    refine jr.iload_n rfl rfl ?_
    refine jr.i2l rfl (by omega) ?_
    refine jr.lcmp_eq rfl rfl rfl (by omega) (by omega) (fun h28 => ?_) (fun h28 => ?_)
    · refine jr.iload_n rfl rfl ?_
      refine jr.iconst rfl ?_
      refine jr.icmp_ne rfl rfl (by omega) (by omega) (fun h46 => ?_) (fun h46 => ?_)
      · refine jr.iload_n rfl rfl ?_
        refine jr.bipush rfl (by decide) ?_
        refine jr.icmp_ne rfl rfl (by omega) (by omega) (fun h84 => ?_) (fun h84 => ?_)
        · exact jr.vreturn rfl rfl (q _ hC_M ht_M  (by have hq0 : M t 4 = F := g_F; have hq1 : M t 5 = G := g_G; have hq2 : M t 6 = H := g_H; omega))
        · exact absurd (by omega) h84
      · exact absurd (by omega) h46
    · refine jr.aload_n rfl rfl ?_
      refine jr.iconst rfl ?_
      refine jr.iload_n rfl rfl ?_
      refine jr.iconst rfl ?_
      refine jr.iadd rfl ?_
      refine jr.iload_n rfl rfl ?_
      refine jr_v rfl rfl (Or.inl rfl) rfl rfl (Nat.lt_trans (kx_18 k_t).1 (by decide)) (kx_18 k_t).2 ⟨rfl, Nat.le_of_ble_eq_true rfl, Nat.le_of_ble_eq_true rfl⟩ rfl (jc.deep (c_Headers_find_x hC_M (FR.rfl _ M) k_t (by omega) (by omega) (by omega) (fun M16 hC_M16 hf_M16 w16_0 w16_1 w16_2 => ?_)) (by decide))
      have ht_M16 : FR W_c_Headers_checkTold_x T M16 := FR.t ht_M hf_M16 (kw_sub rfl)
      have b17 : (-2147483648) ≤ 5 ∧ 5 ≤ 2147483647 := by omega
      have b18 : (-2147483648) ≤ y + 2 ∧ y + 2 ≤ 2147483647 := by omega
      have b19 : (-2147483648) ≤ x ∧ x ≤ 2147483647 := by omega
      refine jr.goto rfl rfl ?_
      exact jr.vreturn rfl rfl (q _ hC_M16 ht_M16  (by have hq0 : M16 t 4 = 5 := w16_0; have hq1 : M16 t 5 = y + 2 := w16_1; have hq2 : M16 t 6 = x := w16_2; omega))
end
section
/-! ===== headers: a step, whole ===== -/
theorem hls_v (x : Int) : (x ≠ 2 ∨ hls x = 20) ∧ (x ≠ 3 ∨ hls x = 24) ∧ (x ≠ 9 ∨ hls x = 8) := by
  unfold hls
  (repeat' split) <;> omega
theorem hsF_e {f : Int → Int} {n c bk k a : Int} (h : c < 12 ∧ ¬ ((k = 4 ∧ bk ≠ 3) ∨ ((k = 6 ∨ k = 5) ∧ bk ≠ 3 ∧ bk ≠ 4 ∧ bk ≠ 5)) ∧ ¬ ((k = 2 ∨ k = 3) ∧ n < a + 1) ∧ ¬ ((k = 2 ∧ hb f n a / 16 ≠ 4) ∨ (k = 3 ∧ hb f n a / 16 ≠ 6)) ∧ 0 ≤ n) (h2 : a + hls k ≤ n) (h3 : ¬ ((k = 2 ∨ k = 8) ∧ hsZ f n k a < 20)) (h4 : a + hsZ f n k a ≤ n) : hsF f n c bk k a = (if ((k = 2 ∧ tw f (a + 2) ≠ n - a) ∨ (k = 3 ∧ tw f (a + 2) ≠ n - a - 24) ∨ (k = 9 ∧ tw f (a + 4) ≠ n - a)) then 5 else 0) ∧ hsW f n c bk k a = (if k = 9 then a + 4 else a + 2) := by
  obtain ⟨g0, g1, g2, g3, g4⟩ := h
  have c0 : ¬ 12 ≤ c := by omega
  have c4 : ¬ n < a + hls k := by omega
  have c6 : ¬ n < a + hsZ f n k a := by omega
  refine ⟨?_, ?_⟩
  · unfold hsF
    rw [if_neg c0, if_neg g1, if_neg g2, if_neg g3, if_neg c4, if_neg h3, if_neg c6]
  · unfold hsW
    rw [if_neg c0, if_neg g1, if_neg g2, if_neg g3, if_neg c4, if_neg h3, if_neg c6]
theorem c_PacketWall_isNetKind_x {A : Nat → Option (Nat × (Nat → Int32))} {Q : Option Value → jm → Prop} {M : jm} (hC_M : CI M) {x : Int} (h_x : (-2147483648) ≤ x ∧ x ≤ 2147483647) (q : ∀ (r : Int), 0 ≤ r ∧ r ≤ 1 → (r = 0 ∨ (2 ≤ x ∧ x ≤ 3)) → ((r = 1 ∧ (x = 2 ∨ x = 3)) ∨ (r = 0 ∧ x ≠ 2 ∧ x ≠ 3)) → Q (some (.int (Int32.ofInt r))) M) : jc A 1 50 [.int (Int32.ofInt (x))] M Q := by
  refine jc_of (m := xm_50) rfl (Nat.le_of_ble_eq_true rfl) rfl ?_
  refine jr.iload_n rfl rfl ?_
  refine jr.iconst rfl ?_
  refine jr.icmp_eq rfl rfl (by omega) (by omega) (fun h2 => ?_) (fun h2 => ?_)
  · refine jr.iconst rfl ?_
    refine jr.goto rfl rfl ?_
    exact jr.ireturn rfl rfl rfl (q _ (by omega) (by omega) (by omega))
  · refine jr.iload_n rfl rfl ?_
    refine jr.iconst rfl ?_
    refine jr.icmp_ne rfl rfl (by omega) (by omega) (fun h7 => ?_) (fun h7 => ?_)
    · refine jr.iconst rfl ?_
      exact jr.ireturn rfl rfl rfl (q _ (by omega) (by omega) (by omega))
    · refine jr.iconst rfl ?_
      refine jr.goto rfl rfl ?_
      exact jr.ireturn rfl rfl rfl (q _ (by omega) (by omega) (by omega))
noncomputable def W_c_Headers_sizeIfRight_x : List (Nat × Nat) := [(18, 4), (18, 5), (18, 6)]
end
