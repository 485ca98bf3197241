section
theorem c_Gathering_takeIn_x_L80 {A : Nat → Option (Nat × (Nat → Int32))} {Q : Option Value → jm → Prop} {f : Int → Int} {N : Int} {T : jm} {t : Nat} (k_t : kd t = 15) {C : Int} {W : Int} {K : Int} {y : Int} (q : ∀ (M' : jm), CI M' → FR W_c_Gathering_takeIn_x T M' → (TKI T M' t f N C y) → Q none M') : ∀ (nM : Nat) (M : jm) (s : Int) (d : Int) (o : Int) (i : Int), CI M → FR W_c_Gathering_takeIn_x T M → 0 ≤ y ∧ y ≤ 11 → 0 ≤ s ∧ s ≤ 65528 → 1 ≤ d ∧ d ≤ 400 → 0 ≤ o ∧ o ≤ 400 → 0 ≤ i ∧ i ≤ 400 → M 3 3 = C → M t 7 = W → M t 8 = K → (HS M 3 f N) → (TKF T M t f N C y) → (TKR T M t f s (enf f N C y) i o) → (s = ofs f N C y ∧ d = N - enf f N C y) → (o ≤ i ∧ i ≤ d ∧ (i = 0 ∨ s + i ≤ lpf W)) → (y < C ∧ enf f N C y + d = N ∧ 0 ≤ enf f N C y ∧ N ≤ 400) → (t ≠ 14 ∧ t + 1 ≠ 14 ∧ t + 2 ≠ 14) → 400 - i ≤ nM → jr A 3 xm_96 80 [(2, .int (Int32.ofInt (y))), (4, .int (Int32.ofInt (s))), (5, .int (Int32.ofInt (d))), (6, .int (Int32.ofInt (o))), (7, .int (Int32.ofInt (i))), (0, .ref (t)), (1, .ref (3)), (3, .ref (14))] [] M Q := by
  intro nM
  induction nM using Nat.strongRecOn with
  | ind nM ih =>
    intro M s d o i hC_M ht_M h_y h_s h_d h_o h_i g_C g_W g_K hy0 hy1 hy2 hy3 hy4 hy5 hy6 hm
    have b_C : 0 ≤ C ∧ C ≤ 12 := by rw [← g_C]; exact (CI.r hC_M (show kd 3 = 18 from rfl) (by decide) 3)
    have b_W : (-1) ≤ W ∧ W ≤ 70000 := by rw [← g_W]; exact (CI.r hC_M k_t (by decide) 7)
    have b_K : (-2147483648) ≤ K ∧ K ≤ 2147483647 := by rw [← g_K]; exact (CI.r hC_M k_t (by decide) 8)
    refine jr.iload rfl rfl ?_
    refine jr.iload rfl rfl ?_
    refine jr.icmp_ge rfl rfl (by omega) (by omega) (fun h84 => ?_) (fun h84 => ?_)
    · refine jr.aload_n rfl rfl ?_
      refine jr.iconst rfl ?_
      refine jr.iload rfl rfl ?_
      refine jr.iload rfl rfl ?_
      refine jr.isub rfl ?_
      refine jr.iast (i := 0) (x := (i - o)) rfl (by decide) rfl (by decide) (by omega) (by omega) ?_
      refine jr.aload_n rfl rfl ?_
      refine jr.iconst rfl ?_
      refine jr.iload rfl rfl ?_
      refine jr.iast (i := 1) (x := o) rfl (by decide) rfl (by decide) (by omega) (by omega) ?_
      refine jr.aload_n rfl rfl ?_
      refine jr.iconst rfl ?_
      refine jr.iload rfl rfl ?_
      refine jr.iload rfl rfl ?_
      refine jr.isub rfl ?_
      refine jr.iast (i := 2) (x := (d - i)) rfl (by decide) rfl (by decide) (by omega) (by omega) ?_
      refine jr.aload_n rfl rfl ?_
      refine jr.iconst rfl ?_
      refine jr.aload_n rfl rfl ?_
      refine jr_v rfl rfl (Or.inl rfl) rfl rfl (Nat.lt_trans (kx_15 k_t).1 (by decide)) (kx_15 k_t).2 ⟨rfl, Nat.le_of_ble_eq_true rfl, Nat.le_of_ble_eq_true rfl⟩ rfl (jc.deep (c_Gathering_rowBytes_x (CI.u (CI.u (CI.u hC_M (i := 0) (show kd 14 = 41 from rfl) (show (-2147483648 : Int) ≤ _ ∧ _ ≤ (2147483647 : Int) from by omega) rfl) (i := 1) (show kd 14 = 41 from rfl) (show (-2147483648 : Int) ≤ _ ∧ _ ≤ (2147483647 : Int) from by omega) rfl) (i := 2) (show kd 14 = 41 from rfl) (show (-2147483648 : Int) ≤ _ ∧ _ ≤ (2147483647 : Int) from by omega) rfl) k_t ((ju_i _ _ (by decide)).trans ((ju_i _ _ (by decide)).trans ((ju_i _ _ (by decide)).trans g_W))) ((ju_i _ _ (by decide)).trans ((ju_i _ _ (by decide)).trans ((ju_i _ _ (by decide)).trans g_K))) (fun r1 z1 w1_0 => ?_)) (by decide))
      refine jr.iast (i := 3) (x := r1) rfl (by decide) rfl (by decide) (by omega) (by omega) ?_
      refine jr.aload_n rfl rfl ?_
      refine jr.iconst rfl ?_
      refine jr.aload_n rfl rfl ?_
      refine jr.getf (i := 7) (x := W) (v := .int (Int32.ofInt (W))) rfl rfl (Nat.lt_trans (kx_15 k_t).1 (by decide)) (kx_15 k_t).2 (by decide) rfl rfl ((ju_i _ _ (by decide)).trans ((ju_i _ _ (by decide)).trans ((ju_i _ _ (by decide)).trans ((ju_i _ _ (by decide)).trans g_W)))) rfl ?_
      refine jr.iast (i := 4) (x := W) rfl (by decide) rfl (by decide) (by omega) (by omega) ?_
      exact jr.vreturn rfl rfl (q _ (CI.u (CI.u (CI.u (CI.u (CI.u hC_M (i := 0) (show kd 14 = 41 from rfl) (show (-2147483648 : Int) ≤ _ ∧ _ ≤ (2147483647 : Int) from by omega) rfl) (i := 1) (show kd 14 = 41 from rfl) (show (-2147483648 : Int) ≤ _ ∧ _ ≤ (2147483647 : Int) from by omega) rfl) (i := 2) (show kd 14 = 41 from rfl) (show (-2147483648 : Int) ≤ _ ∧ _ ≤ (2147483647 : Int) from by omega) rfl) (i := 3) (show kd 14 = 41 from rfl) (show (-2147483648 : Int) ≤ _ ∧ _ ≤ (2147483647 : Int) from by omega) rfl) (i := 4) (show kd 14 = 41 from rfl) (show (-2147483648 : Int) ≤ _ ∧ _ ≤ (2147483647 : Int) from by omega) rfl) (FR.o (FR.o (FR.o (FR.o (FR.o ht_M (show kd 14 = 41 from rfl) rfl) (show kd 14 = 41 from rfl) rfl) (show kd 14 = 41 from rfl) rfl) (show kd 14 = 41 from rfl) rfl) (show kd 14 = 41 from rfl) rfl)  (tki hy6 hy1 hy2 hy3.1 hy3.2 g_W g_K (by omega) hy4.2.2 (by omega) rfl rfl rfl rfl w1_0 rfl))
    · refine jr.iload rfl rfl ?_
      refine jr.iload rfl rfl ?_
      refine jr.iadd rfl ?_
      refine jr.aload_n rfl rfl ?_
      refine jr_v rfl rfl (Or.inl rfl) rfl rfl (Nat.lt_trans (kx_15 k_t).1 (by decide)) (kx_15 k_t).2 ⟨rfl, Nat.le_of_ble_eq_true rfl, Nat.le_of_ble_eq_true rfl⟩ rfl (jc.deep (c_Gathering_lastPlace_x hC_M k_t g_W (fun r2 z2 w2_0 => ?_)) (by decide))
      have hlp := lpf_r W
      refine jr.icmp_ge rfl rfl (by omega) (by omega) (fun h96 => ?_) (fun h96 => ?_)
      · refine jr.aload_n rfl rfl ?_
        refine jr.iconst rfl ?_
        refine jr.iload rfl rfl ?_
        refine jr.iload rfl rfl ?_
        refine jr.isub rfl ?_
        refine jr.iast (i := 0) (x := (i - o)) rfl (by decide) rfl (by decide) (by omega) (by omega) ?_
        refine jr.aload_n rfl rfl ?_
        refine jr.iconst rfl ?_
        refine jr.iload rfl rfl ?_
        refine jr.iast (i := 1) (x := o) rfl (by decide) rfl (by decide) (by omega) (by omega) ?_
        refine jr.aload_n rfl rfl ?_
        refine jr.iconst rfl ?_
        refine jr.iload rfl rfl ?_
        refine jr.iload rfl rfl ?_
        refine jr.isub rfl ?_
        refine jr.iast (i := 2) (x := (d - i)) rfl (by decide) rfl (by decide) (by omega) (by omega) ?_
        refine jr.aload_n rfl rfl ?_
        refine jr.iconst rfl ?_
        refine jr.aload_n rfl rfl ?_
        refine jr_v rfl rfl (Or.inl rfl) rfl rfl (Nat.lt_trans (kx_15 k_t).1 (by decide)) (kx_15 k_t).2 ⟨rfl, Nat.le_of_ble_eq_true rfl, Nat.le_of_ble_eq_true rfl⟩ rfl (jc.deep (c_Gathering_rowBytes_x (CI.u (CI.u (CI.u hC_M (i := 0) (show kd 14 = 41 from rfl) (show (-2147483648 : Int) ≤ _ ∧ _ ≤ (2147483647 : Int) from by omega) rfl) (i := 1) (show kd 14 = 41 from rfl) (show (-2147483648 : Int) ≤ _ ∧ _ ≤ (2147483647 : Int) from by omega) rfl) (i := 2) (show kd 14 = 41 from rfl) (show (-2147483648 : Int) ≤ _ ∧ _ ≤ (2147483647 : Int) from by omega) rfl) k_t ((ju_i _ _ (by decide)).trans ((ju_i _ _ (by decide)).trans ((ju_i _ _ (by decide)).trans g_W))) ((ju_i _ _ (by decide)).trans ((ju_i _ _ (by decide)).trans ((ju_i _ _ (by decide)).trans g_K))) (fun r3 z3 w3_0 => ?_)) (by decide))
        refine jr.iast (i := 3) (x := r3) rfl (by decide) rfl (by decide) (by omega) (by omega) ?_
        refine jr.aload_n rfl rfl ?_
        refine jr.iconst rfl ?_
        refine jr.aload_n rfl rfl ?_
        refine jr.getf (i := 7) (x := W) (v := .int (Int32.ofInt (W))) rfl rfl (Nat.lt_trans (kx_15 k_t).1 (by decide)) (kx_15 k_t).2 (by decide) rfl rfl ((ju_i _ _ (by decide)).trans ((ju_i _ _ (by decide)).trans ((ju_i _ _ (by decide)).trans ((ju_i _ _ (by decide)).trans g_W)))) rfl ?_
        refine jr.iast (i := 4) (x := W) rfl (by decide) rfl (by decide) (by omega) (by omega) ?_
        exact jr.vreturn rfl rfl (q _ (CI.u (CI.u (CI.u (CI.u (CI.u hC_M (i := 0) (show kd 14 = 41 from rfl) (show (-2147483648 : Int) ≤ _ ∧ _ ≤ (2147483647 : Int) from by omega) rfl) (i := 1) (show kd 14 = 41 from rfl) (show (-2147483648 : Int) ≤ _ ∧ _ ≤ (2147483647 : Int) from by omega) rfl) (i := 2) (show kd 14 = 41 from rfl) (show (-2147483648 : Int) ≤ _ ∧ _ ≤ (2147483647 : Int) from by omega) rfl) (i := 3) (show kd 14 = 41 from rfl) (show (-2147483648 : Int) ≤ _ ∧ _ ≤ (2147483647 : Int) from by omega) rfl) (i := 4) (show kd 14 = 41 from rfl) (show (-2147483648 : Int) ≤ _ ∧ _ ≤ (2147483647 : Int) from by omega) rfl) (FR.o (FR.o (FR.o (FR.o (FR.o ht_M (show kd 14 = 41 from rfl) rfl) (show kd 14 = 41 from rfl) rfl) (show kd 14 = 41 from rfl) rfl) (show kd 14 = 41 from rfl) rfl) (show kd 14 = 41 from rfl) rfl)  (tki hy6 hy1 hy2 hy3.1 hy3.2 g_W g_K (by omega) hy4.2.2 (by omega) rfl rfl rfl rfl w3_0 rfl))
      · refine jr.aload_n rfl rfl ?_
        have k4 := kf_15_9 k_t
        refine jr.getf (i := 9) (v := .ref (t + 1)) rfl rfl (Nat.lt_trans (kx_15 k_t).1 (by decide)) (kx_15 k_t).2 (by decide) rfl rfl rfl (jval_ref rfl k4.1) ?_
        refine jr.iload rfl rfl ?_
        refine jr.iload rfl rfl ?_
        refine jr.iadd rfl ?_
        obtain ⟨v5, e5⟩ : ∃ z_, M ((t + 1)) (s + i) = z_ := ⟨_, rfl⟩
        have b5 : (-1) ≤ v5 ∧ v5 ≤ 255 := by rw [← e5]; exact (CI.r hC_M k4.2 (by decide) (s + i))
        refine jr.iald (i := (s + i)) (x := v5) rfl (Nat.lt_trans (kx_17 k4.2).1 (by decide)) (kx_17 k4.2).2 (by decide) (by omega) (by omega) e5 ?_
        refine jr.iconst rfl ?_
        refine jr.icmp_ne rfl rfl (by omega) (by omega) (fun h110 => ?_) (fun h110 => ?_)
        · have sx110 : (0 : Int) ≤ v5 := by omega
          clear h110
          refine jr.iinc (ls' := [_, _, _, _, _, _, _, _]) rfl rfl (by decide) rfl ?_
          refine jr.iinc (ls' := [_, _, _, _, _, _, _, _]) rfl rfl (by decide) rfl ?_
          refine jr.goto rfl rfl ?_
          refine jr.pick (ls := [_, _, _, _, _, _, _, _]) [2, 3, 4, 1, 0, 5, 6, 7] rfl rfl ?_
          exact ih (nM - 1) (by omega) M s d (o + 1) (i + 1) hC_M ht_M (by omega) (by omega) (by omega) (by omega) (by omega) g_C g_W g_K hy0 hy1 (TKR.n hy2 (by omega) (by omega) (by omega) e5 (by omega)) hy3 (by omega) (by omega) hy6 (by omega)
        · refine jr.aload_n rfl rfl ?_
          have k6 := kf_15_9 k_t
          refine jr.getf (i := 9) (v := .ref (t + 1)) rfl rfl (Nat.lt_trans (kx_15 k_t).1 (by decide)) (kx_15 k_t).2 (by decide) rfl rfl rfl (jval_ref rfl k6.1) ?_
          refine jr.iload rfl rfl ?_
          refine jr.iload rfl rfl ?_
          refine jr.iadd rfl ?_
          refine jr.aload_n rfl rfl ?_
          obtain ⟨v7, e7⟩ : ∃ z_, M 3 7 = z_ := ⟨_, rfl⟩
          have b7 : 0 ≤ v7 ∧ v7 ≤ 597 := by rw [← e7]; exact (CI.r hC_M (show kd 3 = 18 from rfl) (by decide) 7)
          have k8 : kd (v7).toNat = 33 := ((congrArg (fun z : Int => kd z.toNat) (show M 3 7 = v7 from e7)).symm.trans (CI.x hC_M (show kd 3 = 18 from rfl) 7 rfl (by decide)))
          refine jr.getf (i := 7) (x := v7) (v := .ref (v7.toNat)) rfl rfl (by decide) rfl (by decide) rfl rfl e7 rfl ?_
          refine jr.aload_n rfl rfl ?_
          refine jr.iload_n rfl rfl ?_
          refine jr_v rfl rfl (Or.inl rfl) rfl rfl (by decide) rfl ⟨rfl, Nat.le_of_ble_eq_true rfl, Nat.le_of_ble_eq_true rfl⟩ rfl (jc.deep (c_Headers_endOf_x hC_M (show kd 3 = 18 from rfl) (by omega) g_C hy0 (fun r9 z9 w9_0 => ?_)) (by decide))
          refine jr.iload rfl rfl ?_
          refine jr.iadd rfl ?_
          obtain ⟨v11, e11⟩ : ∃ z_, M ((v7.toNat)) 1 = z_ := ⟨_, rfl⟩
          have b11 : (-1) ≤ v11 ∧ v11 ≤ 400 := by rw [← e11]; exact (CI.r hC_M k8 (by decide) 1)
          have hnl : v11 = N := (by have hq := hy0.2.1; rw [e7, e11] at hq; exact hq)
          refine jr_v rfl rfl (Or.inl rfl) rfl rfl (Nat.lt_trans (kx_33 k8).1 (by decide)) (kx_33 k8).2 ⟨rfl, Nat.le_of_ble_eq_true rfl, Nat.le_of_ble_eq_true rfl⟩ rfl (jc.deep (c_Packet_byteAt_h hC_M k8 (by omega) e11 (by have hq := hy0.1; rw [e7] at hq; exact hq) (fun r10 z10 w10_0 => ?_)) (by decide))
          refine jr.iast (i := (s + i)) (x := r10) rfl (Nat.lt_trans (kx_17 k6.2).1 (by decide)) (kx_17 k6.2).2 (by decide) (by omega) (by omega) ?_
          refine jr.goto rfl rfl ?_
          refine jr.iinc (ls' := [_, _, _, _, _, _, _, _]) rfl rfl (by decide) rfl ?_
          refine jr.goto rfl rfl ?_
          refine jr.pick (ls := [_, _, _, _, _, _, _, _]) [1, 2, 3, 4, 0, 5, 6, 7] rfl rfl ?_
          exact ih (nM - 1) (by omega) ((ju M ((t + 1)) (s + i) r10)) s d o (i + 1) (CI.u hC_M (i := (s + i)) k6.2 (show (-1 : Int) ≤ _ ∧ _ ≤ (255 : Int) from by omega) rfl) (FR.o ht_M k6.2 rfl) (by omega) (by omega) (by omega) (by omega) (by omega) ((ju_c _ _ (kd_ne (by rw [(show kd 3 = 18 from rfl), k6.2]; decide))).trans g_C) ((ju_c _ _ (kd_ne (by rw [k_t, k6.2]; decide))).trans g_W) ((ju_c _ _ (kd_ne (by rw [k_t, k6.2]; decide))).trans g_K) (HS.fr hy0 (show kd 3 = 18 from rfl) hC_M (FR.o (FR.rfl [(17, 1000)] M) k6.2 rfl) rfl) (TKF.r hy1) (TKR.w hy2 (by omega) (by omega) (by omega) e5 (by omega) (by rw [w10_0.1, hb_i (by omega) (by omega), w9_0])) hy3 (by omega) (by omega) hy6 (by omega)
end
