section
theorem c_Headers_isOtherVersion_x {A : Nat → Option (Nat × (Nat → Int32))} {Q : Option Value → jm → Prop} {f : Int → Int} {T : jm} {M : jm} (hC_M : CI M) (ht_M : FR W_c_Headers_isOtherVersion_x T M) {t : Nat} (k_t : kd t = 18) {x : Int} (h_x : 2 ≤ x ∧ x ≤ 3) {y : Int} (h_y : 0 ≤ y ∧ y ≤ 400) {S : Int} (g_S : M t 7 = S) {N : Int} (g_N : M ((S.toNat)) 1 = N) {F : Int} (g_F : M t 4 = F) {G : Int} (g_G : M t 5 = G) {H : Int} (g_H : M t 6 = H) (p0 : BY8 M (S.toNat + 1) f) (p1 : F = 0) (q : ∀ (r : Int) (M' : jm), CI M' → FR W_c_Headers_isOtherVersion_x T M' → 0 ≤ r ∧ r ≤ 1 → ((N < y + 1 ∧ r = 1 ∧ M' t 4 = 1 ∧ M' t 5 = N ∧ M' t 6 = x) ∨ (y + 1 ≤ N ∧ ((x = 2 ∧ hb f N y / 16 ≠ 4) ∨ (x = 3 ∧ hb f N y / 16 ≠ 6)) ∧ r = 1 ∧ M' t 4 = 3 ∧ M' t 5 = y ∧ M' t 6 = x) ∨ (y + 1 ≤ N ∧ ¬ ((x = 2 ∧ hb f N y / 16 ≠ 4) ∨ (x = 3 ∧ hb f N y / 16 ≠ 6)) ∧ r = 0 ∧ M' t 4 = 0 ∧ M' t 5 = G ∧ M' t 6 = H)) → Q (some (.int (Int32.ofInt r))) M') : jc A 3 129 [.ref (t), .int (Int32.ofInt (x)), .int (Int32.ofInt (y))] M Q := by
  refine jc_of (m := xm_129) rfl (Nat.le_of_ble_eq_true rfl) rfl ?_
  have k_S : kd S.toNat = 33 := (congrArg (fun z : Int => kd z.toNat) g_S).symm.trans (CI.x hC_M k_t 7 rfl (by decide))
  have b_N : (-1) ≤ N ∧ N ≤ 400 := by rw [← g_N]; exact (CI.r hC_M k_S (by decide) 1)
  have b_F : (-2147483648) ≤ F ∧ F ≤ 2147483647 := by rw [← g_F]; exact (CI.r hC_M k_t (by decide) 4)
  have b_G : (-2147483648) ≤ G ∧ G ≤ 2147483647 := by rw [← g_G]; exact (CI.r hC_M k_t (by decide) 5)
  have b_H : (-2147483648) ≤ H ∧ H ≤ 2147483647 := by rw [← g_H]; exact (CI.r hC_M k_t (by decide) 6)
  have k_by : kd (S.toNat + 1) = 34 := (kf_33_0 k_S).2
  refine jr.aload_n rfl rfl ?_
  refine jr.iload_n rfl rfl ?_
  refine jr.iload_n rfl rfl ?_
  refine jr.iconst rfl ?_
  refine jr.iadd rfl ?_
  have k1_S : kd (S).toNat = 33 := (congrArg (fun z : Int => kd z.toNat) g_S).symm.trans (CI.x hC_M k_t 7 rfl (by decide))
  refine jr_v rfl rfl (Or.inl rfl) rfl rfl (Nat.lt_trans (kx_18 k_t).1 (by decide)) (kx_18 k_t).2 ⟨rfl, Nat.le_of_ble_eq_true rfl, Nat.le_of_ble_eq_true rfl⟩ rfl (jc.deep (c_Headers_isCut_x hC_M (FR.rfl _ M) k_t (by omega) (by omega) g_S g_N g_F g_G g_H (fun r1 M1 hC_M1 hf_M1 z1 w1_0 => ?_)) (by decide))
  have ht_M1 : FR W_c_Headers_isOtherVersion_x T M1 := FR.t ht_M hf_M1 (kw_sub rfl)
  obtain ⟨v2, e2⟩ : ∃ z_, M1 t 4 = z_ := ⟨_, rfl⟩
  have b2 : (-2147483648) ≤ v2 ∧ v2 ≤ 2147483647 := by rw [← e2]; exact (CI.r hC_M1 k_t (by decide) 4)
  obtain ⟨v3, e3⟩ : ∃ z_, M1 t 5 = z_ := ⟨_, rfl⟩
  have b3 : (-2147483648) ≤ v3 ∧ v3 ≤ 2147483647 := by rw [← e3]; exact (CI.r hC_M1 k_t (by decide) 5)
  obtain ⟨v4, e4⟩ : ∃ z_, M1 t 6 = z_ := ⟨_, rfl⟩
  have b4 : (-2147483648) ≤ v4 ∧ v4 ≤ 2147483647 := by rw [← e4]; exact (CI.r hC_M1 k_t (by decide) 6)
  refine jr.if_eq rfl rfl (by omega) (fun h8 => ?_) (fun h8 => ?_)
  · have w1 := w1_0.resolve_left (fun z => absurd z.2.1 (by omega))
    obtain ⟨w1a, w1b, w1c, w1d, w1e⟩ := w1
    have w1f : F = 0 := (w1e.resolve_left (fun z => absurd z.1 (by omega))).2
    clear w1_0 w1e
    refine jr.aload_n rfl rfl ?_
    have e5 : M1 t 7 = S := (hf_M1.g k_t rfl).trans g_S
    have k6 : kd (S).toNat = 33 := ((congrArg (fun z : Int => kd z.toNat) (show M1 t 7 = S from e5)).symm.trans (CI.x hC_M1 k_t 7 rfl (by decide)))
    refine jr.getf (i := 7) (x := S) (v := .ref (S.toNat)) rfl rfl (Nat.lt_trans (kx_18 k_t).1 (by decide)) (kx_18 k_t).2 (by decide) rfl rfl e5 (jval_mut rfl (kn_18_7 k_t)) ?_
    refine jr.iload_n rfl rfl ?_
    have e8 : M1 ((S.toNat)) 1 = N := (hf_M1.g k6 rfl).trans g_N
    refine jr_v rfl rfl (Or.inl rfl) rfl rfl (Nat.lt_trans (kx_33 k6).1 (by decide)) (kx_33 k6).2 ⟨rfl, Nat.le_of_ble_eq_true rfl, Nat.le_of_ble_eq_true rfl⟩ rfl (jc.deep (c_Packet_byteAt_h hC_M1 k6 (by omega) e8 (BY8.fr p0 k_by hf_M1 rfl) (fun r7 z7 w7_0 => ?_)) (by decide))
    refine jr.iconst rfl ?_
    refine jr.ishr rfl ?_
    have b9 : j_shr r7 4 = r7 / 16 := j_shr_ex 4 (by decide) (by omega) (by omega)
    generalize j_shr r7 4 = v9 at b9 ⊢
    refine jr.iload_n rfl rfl ?_
    refine jr.iconst rfl ?_
    refine jr.icmp_ne rfl rfl (by omega) (by omega) (fun h25 => ?_) (fun h25 => ?_)
    · have sx25 : (3 : Int) ≤ x := by omega
      clear h25
      refine jr.bipush rfl (by decide) ?_
      refine jr.icmp_eq rfl rfl (by omega) (by omega) (fun h34 => ?_) (fun h34 => ?_)
      · refine jr.aload_n rfl rfl ?_
        refine jr.getf (i := 4) (x := v2) (v := .int (Int32.ofInt (v2))) rfl rfl (Nat.lt_trans (kx_18 k_t).1 (by decide)) (kx_18 k_t).2 (by decide) rfl rfl e2 rfl ?_
        refine jr.if_eq rfl rfl (by omega) (fun h48 => ?_) (fun h48 => ?_)
        · refine jr.iconst rfl ?_
          exact jr.ireturn rfl rfl rfl (q _ _ hC_M1 ht_M1 (by omega) (by have hq0 : M1 t 4 = v2 := e2; have hq1 : M1 t 5 = v3 := e3; have hq2 : M1 t 6 = v4 := e4; exact Or.elim (show N < y + 1 ∨ y + 1 ≤ N by omega) (fun hc => Or.inl ⟨hc, by omega, by omega, by omega, by omega⟩) (fun hc => Or.inr ((Classical.em ((x = 2 ∧ hb f N y / 16 ≠ 4) ∨ (x = 3 ∧ hb f N y / 16 ≠ 6))).elim (fun hd => Or.inl ⟨hc, hd, by omega, by omega, by omega, by omega⟩) (fun hd => Or.inr ⟨hc, hd, by omega, by omega, by omega, by omega⟩)))))
        · refine jr.iconst rfl ?_
          refine jr.goto rfl rfl ?_
          exact jr.ireturn rfl rfl rfl (q _ _ hC_M1 ht_M1 (by omega) (by have hq0 : M1 t 4 = v2 := e2; have hq1 : M1 t 5 = v3 := e3; have hq2 : M1 t 6 = v4 := e4; exact Or.elim (show N < y + 1 ∨ y + 1 ≤ N by omega) (fun hc => Or.inl ⟨hc, by omega, by omega, by omega, by omega⟩) (fun hc => Or.inr ((Classical.em ((x = 2 ∧ hb f N y / 16 ≠ 4) ∨ (x = 3 ∧ hb f N y / 16 ≠ 6))).elim (fun hd => Or.inl ⟨hc, hd, by omega, by omega, by omega, by omega⟩) (fun hd => Or.inr ⟨hc, hd, by omega, by omega, by omega, by omega⟩)))))
      · refine jr.aload_n rfl rfl ?_
        refine jr.iconst rfl ?_
        refine jr.iload_n rfl rfl ?_
        refine jr.iload_n rfl rfl ?_
        refine jr_v rfl rfl (Or.inl rfl) rfl rfl (Nat.lt_trans (kx_18 k_t).1 (by decide)) (kx_18 k_t).2 ⟨rfl, Nat.le_of_ble_eq_true rfl, Nat.le_of_ble_eq_true rfl⟩ rfl (jc.deep (c_Headers_find_x hC_M1 (FR.rfl _ M1) k_t (by omega) (by omega) (by omega) (fun M10 hC_M10 hf_M10 w10_0 w10_1 w10_2 => ?_)) (by decide))
        have ht_M10 : FR W_c_Headers_isOtherVersion_x T M10 := FR.t ht_M1 hf_M10 (kw_sub rfl)
        have b11 : (-2147483648) ≤ 3 ∧ 3 ≤ 2147483647 := by omega
        have b12 : (-2147483648) ≤ y ∧ y ≤ 2147483647 := by omega
        have b13 : (-2147483648) ≤ x ∧ x ≤ 2147483647 := by omega
        refine jr.aload_n rfl rfl ?_
        refine jr.getf (i := 4) (x := 3) (v := .int (Int32.ofInt (3))) rfl rfl (Nat.lt_trans (kx_18 k_t).1 (by decide)) (kx_18 k_t).2 (by decide) rfl rfl w10_0 rfl ?_
        refine jr.if_eq rfl rfl (by omega) (fun h48 => ?_) (fun h48 => ?_)
        · refine jr.iconst rfl ?_
          exact jr.ireturn rfl rfl rfl (q _ _ hC_M10 ht_M10 (by omega) (by have hq0 : M10 t 4 = 3 := w10_0; have hq1 : M10 t 5 = y := w10_1; have hq2 : M10 t 6 = x := w10_2; exact Or.elim (show N < y + 1 ∨ y + 1 ≤ N by omega) (fun hc => Or.inl ⟨hc, by omega, by omega, by omega, by omega⟩) (fun hc => Or.inr ((Classical.em ((x = 2 ∧ hb f N y / 16 ≠ 4) ∨ (x = 3 ∧ hb f N y / 16 ≠ 6))).elim (fun hd => Or.inl ⟨hc, hd, by omega, by omega, by omega, by omega⟩) (fun hd => Or.inr ⟨hc, hd, by omega, by omega, by omega, by omega⟩)))))
        · refine jr.iconst rfl ?_
          refine jr.goto rfl rfl ?_
          exact jr.ireturn rfl rfl rfl (q _ _ hC_M10 ht_M10 (by omega) (by have hq0 : M10 t 4 = 3 := w10_0; have hq1 : M10 t 5 = y := w10_1; have hq2 : M10 t 6 = x := w10_2; exact Or.elim (show N < y + 1 ∨ y + 1 ≤ N by omega) (fun hc => Or.inl ⟨hc, by omega, by omega, by omega, by omega⟩) (fun hc => Or.inr ((Classical.em ((x = 2 ∧ hb f N y / 16 ≠ 4) ∨ (x = 3 ∧ hb f N y / 16 ≠ 6))).elim (fun hd => Or.inl ⟨hc, hd, by omega, by omega, by omega, by omega⟩) (fun hd => Or.inr ⟨hc, hd, by omega, by omega, by omega, by omega⟩)))))
    · refine jr.iconst rfl ?_
      refine jr.goto rfl rfl ?_
      refine jr.icmp_eq rfl rfl (by omega) (by omega) (fun h34 => ?_) (fun h34 => ?_)
      · refine jr.aload_n rfl rfl ?_
        refine jr.getf (i := 4) (x := v2) (v := .int (Int32.ofInt (v2))) rfl rfl (Nat.lt_trans (kx_18 k_t).1 (by decide)) (kx_18 k_t).2 (by decide) rfl rfl e2 rfl ?_
        refine jr.if_eq rfl rfl (by omega) (fun h48 => ?_) (fun h48 => ?_)
        · refine jr.iconst rfl ?_
          exact jr.ireturn rfl rfl rfl (q _ _ hC_M1 ht_M1 (by omega) (by have hq0 : M1 t 4 = v2 := e2; have hq1 : M1 t 5 = v3 := e3; have hq2 : M1 t 6 = v4 := e4; exact Or.elim (show N < y + 1 ∨ y + 1 ≤ N by omega) (fun hc => Or.inl ⟨hc, by omega, by omega, by omega, by omega⟩) (fun hc => Or.inr ((Classical.em ((x = 2 ∧ hb f N y / 16 ≠ 4) ∨ (x = 3 ∧ hb f N y / 16 ≠ 6))).elim (fun hd => Or.inl ⟨hc, hd, by omega, by omega, by omega, by omega⟩) (fun hd => Or.inr ⟨hc, hd, by omega, by omega, by omega, by omega⟩)))))
        · refine jr.iconst rfl ?_
          refine jr.goto rfl rfl ?_
          exact jr.ireturn rfl rfl rfl (q _ _ hC_M1 ht_M1 (by omega) (by have hq0 : M1 t 4 = v2 := e2; have hq1 : M1 t 5 = v3 := e3; have hq2 : M1 t 6 = v4 := e4; exact Or.elim (show N < y + 1 ∨ y + 1 ≤ N by omega) (fun hc => Or.inl ⟨hc, by omega, by omega, by omega, by omega⟩) (fun hc => Or.inr ((Classical.em ((x = 2 ∧ hb f N y / 16 ≠ 4) ∨ (x = 3 ∧ hb f N y / 16 ≠ 6))).elim (fun hd => Or.inl ⟨hc, hd, by omega, by omega, by omega, by omega⟩) (fun hd => Or.inr ⟨hc, hd, by omega, by omega, by omega, by omega⟩)))))
      · refine jr.aload_n rfl rfl ?_
        refine jr.iconst rfl ?_
        refine jr.iload_n rfl rfl ?_
        refine jr.iload_n rfl rfl ?_
        refine jr_v rfl rfl (Or.inl rfl) rfl rfl (Nat.lt_trans (kx_18 k_t).1 (by decide)) (kx_18 k_t).2 ⟨rfl, Nat.le_of_ble_eq_true rfl, Nat.le_of_ble_eq_true rfl⟩ rfl (jc.deep (c_Headers_find_x hC_M1 (FR.rfl _ M1) k_t (by omega) (by omega) (by omega) (fun M14 hC_M14 hf_M14 w14_0 w14_1 w14_2 => ?_)) (by decide))
        have ht_M14 : FR W_c_Headers_isOtherVersion_x T M14 := FR.t ht_M1 hf_M14 (kw_sub rfl)
        have b15 : (-2147483648) ≤ 3 ∧ 3 ≤ 2147483647 := by omega
        have b16 : (-2147483648) ≤ y ∧ y ≤ 2147483647 := by omega
        have b17 : (-2147483648) ≤ x ∧ x ≤ 2147483647 := by omega
        refine jr.aload_n rfl rfl ?_
        refine jr.getf (i := 4) (x := 3) (v := .int (Int32.ofInt (3))) rfl rfl (Nat.lt_trans (kx_18 k_t).1 (by decide)) (kx_18 k_t).2 (by decide) rfl rfl w14_0 rfl ?_
        refine jr.if_eq rfl rfl (by omega) (fun h48 => ?_) (fun h48 => ?_)
        · refine jr.iconst rfl ?_
          exact jr.ireturn rfl rfl rfl (q _ _ hC_M14 ht_M14 (by omega) (by have hq0 : M14 t 4 = 3 := w14_0; have hq1 : M14 t 5 = y := w14_1; have hq2 : M14 t 6 = x := w14_2; exact Or.elim (show N < y + 1 ∨ y + 1 ≤ N by omega) (fun hc => Or.inl ⟨hc, by omega, by omega, by omega, by omega⟩) (fun hc => Or.inr ((Classical.em ((x = 2 ∧ hb f N y / 16 ≠ 4) ∨ (x = 3 ∧ hb f N y / 16 ≠ 6))).elim (fun hd => Or.inl ⟨hc, hd, by omega, by omega, by omega, by omega⟩) (fun hd => Or.inr ⟨hc, hd, by omega, by omega, by omega, by omega⟩)))))
        · refine jr.iconst rfl ?_
          refine jr.goto rfl rfl ?_
          exact jr.ireturn rfl rfl rfl (q _ _ hC_M14 ht_M14 (by omega) (by have hq0 : M14 t 4 = 3 := w14_0; have hq1 : M14 t 5 = y := w14_1; have hq2 : M14 t 6 = x := w14_2; exact Or.elim (show N < y + 1 ∨ y + 1 ≤ N by omega) (fun hc => Or.inl ⟨hc, by omega, by omega, by omega, by omega⟩) (fun hc => Or.inr ((Classical.em ((x = 2 ∧ hb f N y / 16 ≠ 4) ∨ (x = 3 ∧ hb f N y / 16 ≠ 6))).elim (fun hd => Or.inl ⟨hc, hd, by omega, by omega, by omega, by omega⟩) (fun hd => Or.inr ⟨hc, hd, by omega, by omega, by omega, by omega⟩)))))
  · have sx8 : (1 : Int) ≤ r1 := by omega
    clear h8
    refine jr.iconst rfl ?_
    exact jr.ireturn rfl rfl rfl (q _ _ hC_M1 ht_M1 (by omega) (by have hq0 : M1 t 4 = v2 := e2; have hq1 : M1 t 5 = v3 := e3; have hq2 : M1 t 6 = v4 := e4; exact Or.elim (show N < y + 1 ∨ y + 1 ≤ N by omega) (fun hc => Or.inl ⟨hc, by omega, by omega, by omega, by omega⟩) (fun hc => Or.inr ((Classical.em ((x = 2 ∧ hb f N y / 16 ≠ 4) ∨ (x = 3 ∧ hb f N y / 16 ≠ 6))).elim (fun hd => Or.inl ⟨hc, hd, by omega, by omega, by omega, by omega⟩) (fun hd => Or.inr ⟨hc, hd, by omega, by omega, by omega, by omega⟩)))))
end
