section
theorem c_Headers_sizeIfRight_x {A : Nat → Option (Nat × (Nat → Int32))} {Q : Option Value → jm → Prop} {f : Int → Int} {T : jm} {M : jm} (hC_M : CI M) (ht_M : FR W_c_Headers_sizeIfRight_x T M) {t : Nat} (k_t : kd t = 18) {x : Int} (h_x : 0 ≤ x ∧ x ≤ 11) {y : Int} (h_y : 0 ≤ y ∧ y ≤ 400) {S : Int} (g_S : M t 7 = S) {N : Int} (g_N : M ((S.toNat)) 1 = N) {F : Int} (g_F : M t 4 = F) {G : Int} (g_G : M t 5 = G) {H : Int} (g_H : M t 6 = H) {C : Int} (g_C : M t 3 = C) (p0 : T = M) (p1 : BY8 M (S.toNat + 1) f) (p2 : F = 0) (p3 : 0 ≤ N) (q : ∀ (r : Int) (M' : jm), CI M' → FR W_c_Headers_sizeIfRight_x T M' → (-401) ≤ r ∧ r ≤ 2048 → ((hsF f N C (bkf (T (t + 1)) C) x y ≠ 0 ∧ M' t 4 = hsF f N C (bkf (T (t + 1)) C) x y ∧ M' t 5 = hsW f N C (bkf (T (t + 1)) C) x y ∧ M' t 6 = x) ∨ (hsF f N C (bkf (T (t + 1)) C) x y = 0 ∧ M' t 4 = 0 ∧ r = hsZ f N x y ∧ M' t 5 = G ∧ M' t 6 = H)) → Q (some (.int (Int32.ofInt r))) M') : jc A 4 127 [.ref (t), .int (Int32.ofInt (x)), .int (Int32.ofInt (y))] M Q := by
  refine jc_of (m := xm_127) rfl (Nat.le_of_ble_eq_true rfl) rfl ?_
  have k_S : kd S.toNat = 33 := (congrArg (fun z : Int => kd z.toNat) g_S).symm.trans (CI.x hC_M k_t 7 rfl (by decide))
  have b_N : (-1) ≤ N ∧ N ≤ 400 := by rw [← g_N]; exact (CI.r hC_M k_S (by decide) 1)
  have b_F : (-2147483648) ≤ F ∧ F ≤ 2147483647 := by rw [← g_F]; exact (CI.r hC_M k_t (by decide) 4)
  have b_G : (-2147483648) ≤ G ∧ G ≤ 2147483647 := by rw [← g_G]; exact (CI.r hC_M k_t (by decide) 5)
  have b_H : (-2147483648) ≤ H ∧ H ≤ 2147483647 := by rw [← g_H]; exact (CI.r hC_M k_t (by decide) 6)
  have b_C : 0 ≤ C ∧ C ≤ 12 := by rw [← g_C]; exact (CI.r hC_M k_t (by decide) 3)
  have k_by : kd (S.toNat + 1) = 34 := (kf_33_0 k_S).2
  refine jr.aload_n rfl rfl ?_
  refine jr.getf (i := 3) (x := C) (v := .int (Int32.ofInt (C))) rfl rfl (Nat.lt_trans (kx_18 k_t).1 (by decide)) (kx_18 k_t).2 (by decide) rfl rfl g_C rfl ?_
  refine jr.bipush rfl (by decide) ?_
  refine jr.icmp_lt rfl rfl (by omega) (by omega) (fun h6 => ?_) (fun h6 => ?_)
  · refine jr.aload_n rfl rfl ?_
    refine jr.iload_n rfl rfl ?_
    refine jr_v rfl rfl (Or.inl rfl) rfl rfl (Nat.lt_trans (kx_18 k_t).1 (by decide)) (kx_18 k_t).2 ⟨rfl, Nat.le_of_ble_eq_true rfl, Nat.le_of_ble_eq_true rfl⟩ rfl (jc.deep (c_Headers_isMisplaced_x hC_M k_t (by omega) g_C (fun r1 z1 w1_0 => ?_)) (by decide))
    refine jr.if_eq rfl rfl (by omega) (fun h24 => ?_) (fun h24 => ?_)
    · refine jr.iload_n rfl rfl ?_
      refine jr_s rfl rfl (Or.inr rfl) ⟨Nat.le_of_ble_eq_true rfl, Nat.le_of_ble_eq_true rfl⟩ rfl rfl (jc.deep (c_PacketWall_isNetKind_x hC_M (by omega) (fun r2 z2 w2_0 w2_1 => ?_)) (by decide))
      refine jr.if_eq rfl rfl (by omega) (fun h40 => ?_) (fun h40 => ?_)
      · refine jr.pick (ls := [_, _, _]) [1, 2, 0] rfl rfl ?_
        exact c_Headers_sizeIfRight_x_L54 k_t q 0 M  hC_M ht_M (by omega) (by omega) g_S g_N (by have hq0 : M t 4 = F := g_F; have hq1 : M t 5 = G := g_G; have hq2 : M t 6 = H := g_H; omega) p1 (by rw [p0]; omega) (by omega)
      · have sx40 : (1 : Int) ≤ r2 := by omega
        clear h40
        refine jr.aload_n rfl rfl ?_
        refine jr.iload_n rfl rfl ?_
        refine jr.iload_n rfl rfl ?_
        have k3_S : kd (S).toNat = 33 := (congrArg (fun z : Int => kd z.toNat) g_S).symm.trans (CI.x hC_M k_t 7 rfl (by decide))
        refine jr_v rfl rfl (Or.inl rfl) rfl rfl (Nat.lt_trans (kx_18 k_t).1 (by decide)) (kx_18 k_t).2 ⟨rfl, Nat.le_of_ble_eq_true rfl, Nat.le_of_ble_eq_true rfl⟩ rfl (jc.deep (c_Headers_isOtherVersion_x hC_M (FR.rfl _ M) k_t (by omega) (by omega) g_S g_N g_F g_G g_H p1 (by omega) (fun r3 M3 hC_M3 hf_M3 z3 w3_0 => ?_)) (by decide))
        have ht_M3 : FR W_c_Headers_sizeIfRight_x T M3 := FR.t ht_M hf_M3 (kw_sub rfl)
        obtain ⟨v4, e4⟩ : ∃ z_, M3 t 4 = z_ := ⟨_, rfl⟩
        have b4 : (-2147483648) ≤ v4 ∧ v4 ≤ 2147483647 := by rw [← e4]; exact (CI.r hC_M3 k_t (by decide) 4)
        obtain ⟨v5, e5⟩ : ∃ z_, M3 t 5 = z_ := ⟨_, rfl⟩
        have b5 : (-2147483648) ≤ v5 ∧ v5 ≤ 2147483647 := by rw [← e5]; exact (CI.r hC_M3 k_t (by decide) 5)
        obtain ⟨v6, e6⟩ : ∃ z_, M3 t 6 = z_ := ⟨_, rfl⟩
        have b6 : (-2147483648) ≤ v6 ∧ v6 ≤ 2147483647 := by rw [← e6]; exact (CI.r hC_M3 k_t (by decide) 6)
        refine jr.if_eq rfl rfl (by omega) (fun h49 => ?_) (fun h49 => ?_)
        · have e7 : M3 t 7 = S := (hf_M3.g k_t rfl).trans g_S
          have e8 : M3 ((S.toNat)) 1 = N := (hf_M3.g k3_S rfl).trans g_N
          refine jr.pick (ls := [_, _, _]) [1, 2, 0] rfl rfl ?_
          exact c_Headers_sizeIfRight_x_L54 k_t q 0 M3  hC_M3 ht_M3 (by omega) (by omega) e7 e8 (by have hq0 : M3 t 4 = v4 := e4; have hq1 : M3 t 5 = v5 := e5; have hq2 : M3 t 6 = v6 := e6; omega) (BY8.fr p1 k_by hf_M3 rfl) (by rw [p0]; omega) (by omega)
        · have sx49 : (1 : Int) ≤ r3 := by omega
          clear h49
          refine jr.iconst rfl ?_
          exact jr.ireturn rfl rfl rfl (q _ _ hC_M3 ht_M3 (by omega) (by rw [p0]; have hq4 : M3 t 4 = v4 := e4; have hq5 : M3 t 5 = v5 := e5; have hq6 : M3 t 6 = v6 := e6; exact Or.elim w3_0 (fun h => (by have e1 : hsF f N C (bkf (M (t + 1)) C) x y = _ := (by unfold hsF; rw [if_neg (by omega), if_neg (by omega), if_pos (by omega)]); have e2 : hsW f N C (bkf (M (t + 1)) C) x y = _ := (by unfold hsW; rw [if_neg (by omega), if_neg (by omega), if_pos (by omega)]); exact Or.inl ⟨by omega, by omega, by omega, by omega⟩)) (fun h => Or.elim h (fun h => (by have e1 : hsF f N C (bkf (M (t + 1)) C) x y = _ := (by unfold hsF; rw [if_neg (by omega), if_neg (by omega), if_neg (by omega), if_pos (by omega)]); have e2 : hsW f N C (bkf (M (t + 1)) C) x y = _ := (by unfold hsW; rw [if_neg (by omega), if_neg (by omega), if_neg (by omega), if_pos (by omega)]); exact Or.inl ⟨by omega, by omega, by omega, by omega⟩)) (fun h => (by omega)))))
    · have sx24 : (1 : Int) ≤ r1 := by omega
      clear h24
      refine jr.aload_n rfl rfl ?_
      refine jr.iconst rfl ?_
      refine jr.iload_n rfl rfl ?_
      refine jr.iload_n rfl rfl ?_
      refine jr_v rfl rfl (Or.inl rfl) rfl rfl (Nat.lt_trans (kx_18 k_t).1 (by decide)) (kx_18 k_t).2 ⟨rfl, Nat.le_of_ble_eq_true rfl, Nat.le_of_ble_eq_true rfl⟩ rfl (jc.deep (c_Headers_find_x hC_M (FR.rfl _ M) k_t (by omega) (by omega) (by omega) (fun M9 hC_M9 hf_M9 w9_0 w9_1 w9_2 => ?_)) (by decide))
      have ht_M9 : FR W_c_Headers_sizeIfRight_x T M9 := FR.t ht_M hf_M9 (kw_sub rfl)
      have b10 : (-2147483648) ≤ 3 ∧ 3 ≤ 2147483647 := by omega
      have b11 : (-2147483648) ≤ y ∧ y ≤ 2147483647 := by omega
      have b12 : (-2147483648) ≤ x ∧ x ≤ 2147483647 := by omega
      refine jr.iconst rfl ?_
      exact jr.ireturn rfl rfl rfl (q _ _ hC_M9 ht_M9 (by omega) (by rw [p0]; have hq4 : M9 t 4 = 3 := w9_0; have hq5 : M9 t 5 = y := w9_1; have hq6 : M9 t 6 = x := w9_2; have e1 : hsF f N C (bkf (M (t + 1)) C) x y = _ := (by unfold hsF; rw [if_neg (by omega), if_pos (by omega)]); have e2 : hsW f N C (bkf (M (t + 1)) C) x y = _ := (by unfold hsW; rw [if_neg (by omega), if_pos (by omega)]); exact Or.inl ⟨by omega, by omega, by omega, by omega⟩))
  · refine jr.aload_n rfl rfl ?_
    refine jr.bipush rfl (by decide) ?_
    refine jr.iload_n rfl rfl ?_
    refine jr.iload_n rfl rfl ?_
    refine jr_v rfl rfl (Or.inl rfl) rfl rfl (Nat.lt_trans (kx_18 k_t).1 (by decide)) (kx_18 k_t).2 ⟨rfl, Nat.le_of_ble_eq_true rfl, Nat.le_of_ble_eq_true rfl⟩ rfl (jc.deep (c_Headers_find_x hC_M (FR.rfl _ M) k_t (by omega) (by omega) (by omega) (fun M13 hC_M13 hf_M13 w13_0 w13_1 w13_2 => ?_)) (by decide))
    have ht_M13 : FR W_c_Headers_sizeIfRight_x T M13 := FR.t ht_M hf_M13 (kw_sub rfl)
    have b14 : (-2147483648) ≤ 6 ∧ 6 ≤ 2147483647 := by omega
    have b15 : (-2147483648) ≤ y ∧ y ≤ 2147483647 := by omega
    have b16 : (-2147483648) ≤ x ∧ x ≤ 2147483647 := by omega
    refine jr.iconst rfl ?_
    exact jr.ireturn rfl rfl rfl (q _ _ hC_M13 ht_M13 (by omega) (by rw [p0]; have hq4 : M13 t 4 = 6 := w13_0; have hq5 : M13 t 5 = y := w13_1; have hq6 : M13 t 6 = x := w13_2; have e1 : hsF f N C (bkf (M (t + 1)) C) x y = _ := (by unfold hsF; rw [if_pos (by omega)]); have e2 : hsW f N C (bkf (M (t + 1)) C) x y = _ := (by unfold hsW; rw [if_pos (by omega)]); exact Or.inl ⟨by omega, by omega, by omega, by omega⟩))
end

