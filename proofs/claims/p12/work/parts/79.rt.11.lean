section
theorem c_Gathering_rowBytes_x {A : Nat → Option (Nat × (Nat → Int32))} {Q : Option Value → jm → Prop} {M : jm} (hC_M : CI M) {t : Nat} (k_t : kd t = 15) {W : Int} (g_W : M t 7 = W) {K : Int} (g_K : M t 8 = K) (q : ∀ (r : Int), (-2147483648) ≤ r ∧ r ≤ 2147483647 → (r = rbf W K) → Q (some (.int (Int32.ofInt r))) M) : jc A 1 103 [.ref (t)] M Q := by
  refine jc_of (m := xm_103) rfl (Nat.le_of_ble_eq_true rfl) rfl ?_
  have b_W : (-1) ≤ W ∧ W ≤ 70000 := by rw [← g_W]; exact (CI.r hC_M k_t (by decide) 7)
  have b_K : (-2147483648) ≤ K ∧ K ≤ 2147483647 := by rw [← g_K]; exact (CI.r hC_M k_t (by decide) 8)
  refine jr.aload_n rfl rfl ?_
  refine jr.getf (i := 7) (x := W) (v := .int (Int32.ofInt (W))) rfl rfl (Nat.lt_trans (kx_15 k_t).1 (by decide)) (kx_15 k_t).2 (by decide) rfl rfl g_W rfl ?_
  refine jr.iconst rfl ?_
  refine jr.icmp_eq rfl rfl (by omega) (by omega) (fun h5 => ?_) (fun h5 => ?_)
  · refine jr.aload_n rfl rfl ?_
    refine jr.getf (i := 8) (x := K) (v := .int (Int32.ofInt (K))) rfl rfl (Nat.lt_trans (kx_15 k_t).1 (by decide)) (kx_15 k_t).2 (by decide) rfl rfl g_K rfl ?_
    refine jr.bipush rfl (by decide) ?_
    refine jr.icmp_gt rfl rfl (by omega) (by omega) (fun h19 => ?_) (fun h19 => ?_)
    · refine jr.aload_n rfl rfl ?_
      refine jr.getf (i := 8) (x := K) (v := .int (Int32.ofInt (K))) rfl rfl (Nat.lt_trans (kx_15 k_t).1 (by decide)) (kx_15 k_t).2 (by decide) rfl rfl g_K rfl ?_
      refine jr.sipush rfl (by decide) ?_
      refine jr.icmp_gt rfl rfl (by omega) (by omega) (fun h34 => ?_) (fun h34 => ?_)
      · refine jr.aload_n rfl rfl ?_
        refine jr.getf (i := 8) (x := K) (v := .int (Int32.ofInt (K))) rfl rfl (Nat.lt_trans (kx_15 k_t).1 (by decide)) (kx_15 k_t).2 (by decide) rfl rfl g_K rfl ?_
        refine jr.sipush rfl (by decide) ?_
        refine jr.icmp_gt rfl rfl (by omega) (by omega) (fun h50 => ?_) (fun h50 => ?_)
        · refine jr.sipush rfl (by decide) ?_
          exact jr.ireturn rfl rfl rfl (q _ (by omega) (by unfold rbf; (repeat' split) <;> omega))
        · refine jr.sipush rfl (by decide) ?_
          refine jr.goto rfl rfl ?_
          exact jr.ireturn rfl rfl rfl (q _ (by omega) (by unfold rbf; (repeat' split) <;> omega))
      · refine jr.sipush rfl (by decide) ?_
        refine jr.goto rfl rfl ?_
        exact jr.ireturn rfl rfl rfl (q _ (by omega) (by unfold rbf; (repeat' split) <;> omega))
    · refine jr.bipush rfl (by decide) ?_
      refine jr.goto rfl rfl ?_
      exact jr.ireturn rfl rfl rfl (q _ (by omega) (by unfold rbf; (repeat' split) <;> omega))
  · have sx5 : (0 : Int) ≤ W := by omega
    clear h5
    refine jr.aload_n rfl rfl ?_
    refine jr.getf (i := 7) (x := W) (v := .int (Int32.ofInt (W))) rfl rfl (Nat.lt_trans (kx_15 k_t).1 (by decide)) (kx_15 k_t).2 (by decide) rfl rfl g_W rfl ?_
    exact jr.ireturn rfl rfl rfl (q _ (by omega) (by unfold rbf; (repeat' split) <;> omega))
/-- is every place of the row filled, from i on -/
noncomputable def rdy (w : Int → Int) : Nat → Int → Int
  | 0, _ => 1
  | n + 1, i => if w i = -1 then 0 else rdy w n (i + 1)
theorem rdy_s {w : Int → Int} {L i : Int} (h : i < L) : rdy w (L - i).toNat i = if w i = -1 then 0 else rdy w (L - (i + 1)).toNat (i + 1) := by
  obtain ⟨n, hn⟩ : ∃ n : Nat, L = i + 1 + n := ⟨(L - i - 1).toNat, by omega⟩
  subst hn
  rw [show (i + 1 + (n : Int) - i).toNat = n + 1 by omega, show (i + 1 + (n : Int) - (i + 1)).toNat = n by omega]
  rfl
theorem rdy_e {w : Int → Int} {L i : Int} (h : L ≤ i) : rdy w (L - i).toNat i = 1 := by
  rw [show (L - i).toNat = 0 by omega]
  rfl
theorem c_Gathering_isReady_x_L20 {A : Nat → Option (Nat × (Nat → Int32))} {Q : Option Value → jm → Prop} {M : jm} (hC_M : CI M) {t : Nat} (k_t : kd t = 15) {W : Int} {K : Int} (q : ∀ (r : Int), 0 ≤ r ∧ r ≤ 1 → (((W = -1 ∨ K = -1) ∧ r = 0) ∨ (W ≠ -1 ∧ K ≠ -1 ∧ r = rdy (M (t + 1)) (lpf W).toNat 0)) → Q (some (.int (Int32.ofInt r))) M) : ∀ (nM : Nat) (i : Int), 0 ≤ i ∧ i ≤ 360 → M t 7 = W → M t 11 = K → (rdy (M (t + 1)) (lpf W).toNat 0 = rdy (M (t + 1)) (lpf W - i).toNat i) → (W ≠ -1 ∧ K ≠ -1) → 360 - i ≤ nM → jr A 1 xm_97 20 [(1, .int (Int32.ofInt (i))), (0, .ref (t))] [] M Q := by
  intro nM
  induction nM using Nat.strongRecOn with
  | ind nM ih =>
    intro i h_i g_W g_K hy0 hy1 hm
    have b_W : (-1) ≤ W ∧ W ≤ 70000 := by rw [← g_W]; exact (CI.r hC_M k_t (by decide) 7)
    have b_K : (-1) ≤ K ∧ K ≤ 400 := by rw [← g_K]; exact (CI.r hC_M k_t (by decide) 11)
    refine jr.iload_n rfl rfl ?_
    refine jr.aload_n rfl rfl ?_
    refine jr_v rfl rfl (Or.inl rfl) rfl rfl (Nat.lt_trans (kx_15 k_t).1 (by decide)) (kx_15 k_t).2 ⟨rfl, Nat.le_of_ble_eq_true rfl, Nat.le_of_ble_eq_true rfl⟩ rfl (jc.deep (c_Gathering_lastPlace_x hC_M k_t g_W (fun r1 z1 w1_0 => ?_)) (by decide))
    refine jr.icmp_ge rfl rfl (by omega) (by omega) (fun h25 => ?_) (fun h25 => ?_)
    · refine jr.iconst rfl ?_
      exact jr.ireturn rfl rfl rfl (q _ (by omega) (Or.inr ⟨by omega, by omega, by rw [hy0, rdy_e (by omega)]⟩))
    · refine jr.aload_n rfl rfl ?_
      have k2 := kf_15_9 k_t
      refine jr.getf (i := 9) (v := .ref (t + 1)) rfl rfl (Nat.lt_trans (kx_15 k_t).1 (by decide)) (kx_15 k_t).2 (by decide) rfl rfl rfl (jval_ref rfl k2.1) ?_
      refine jr.iload_n rfl rfl ?_
      obtain ⟨v3, e3⟩ : ∃ z_, M ((t + 1)) i = z_ := ⟨_, rfl⟩
      have b3 : (-1) ≤ v3 ∧ v3 ≤ 255 := by rw [← e3]; exact (CI.r hC_M k2.2 (by decide) i)
      refine jr.iald (i := i) (x := v3) rfl (Nat.lt_trans (kx_17 k2.2).1 (by decide)) (kx_17 k2.2).2 (by decide) (by omega) (by omega) e3 ?_
      refine jr.iconst rfl ?_
      refine jr.icmp_ne rfl rfl (by omega) (by omega) (fun h35 => ?_) (fun h35 => ?_)
      · have sx35 : (0 : Int) ≤ v3 := by omega
        clear h35
        refine jr.iinc (ls' := [_, _]) rfl rfl (by decide) rfl ?_
        refine jr.goto rfl rfl ?_
        refine jr.pick (ls := [_, _]) [0, 1] rfl rfl ?_
        exact ih (nM - 1) (by omega) (i + 1) (by omega) g_W g_K (by rw [hy0, rdy_s (by omega), if_neg (by omega)]) (by omega) (by omega)
      · refine jr.iconst rfl ?_
        exact jr.ireturn rfl rfl rfl (q _ (by omega) (Or.inr ⟨by omega, by omega, by rw [hy0, rdy_s (by omega), if_pos (by omega)]⟩))
theorem c_Gathering_isReady_x {A : Nat → Option (Nat × (Nat → Int32))} {Q : Option Value → jm → Prop} {M : jm} (hC_M : CI M) {t : Nat} (k_t : kd t = 15) {W : Int} (g_W : M t 7 = W) {K : Int} (g_K : M t 11 = K) (q : ∀ (r : Int), 0 ≤ r ∧ r ≤ 1 → (((W = -1 ∨ K = -1) ∧ r = 0) ∨ (W ≠ -1 ∧ K ≠ -1 ∧ r = rdy (M (t + 1)) (lpf W).toNat 0)) → Q (some (.int (Int32.ofInt r))) M) : jc A 2 97 [.ref (t)] M Q := by
  refine jc_of (m := xm_97) rfl (Nat.le_of_ble_eq_true rfl) rfl ?_
  have b_W : (-1) ≤ W ∧ W ≤ 70000 := by rw [← g_W]; exact (CI.r hC_M k_t (by decide) 7)
  have b_K : (-1) ≤ K ∧ K ≤ 400 := by rw [← g_K]; exact (CI.r hC_M k_t (by decide) 11)
  refine jr.aload_n rfl rfl ?_
  refine jr.getf (i := 7) (x := W) (v := .int (Int32.ofInt (W))) rfl rfl (Nat.lt_trans (kx_15 k_t).1 (by decide)) (kx_15 k_t).2 (by decide) rfl rfl g_W rfl ?_
  refine jr.iconst rfl ?_
  refine jr.icmp_eq rfl rfl (by omega) (by omega) (fun h5 => ?_) (fun h5 => ?_)
  · refine jr.iconst rfl ?_
    exact jr.ireturn rfl rfl rfl (q _ (by omega) (Or.inl ⟨by omega, by omega⟩))
  · have sx5 : (0 : Int) ≤ W := by omega
    clear h5
    refine jr.aload_n rfl rfl ?_
    refine jr.getf (i := 11) (x := K) (v := .int (Int32.ofInt (K))) rfl rfl (Nat.lt_trans (kx_15 k_t).1 (by decide)) (kx_15 k_t).2 (by decide) rfl rfl g_K rfl ?_
    refine jr.iconst rfl ?_
    refine jr.icmp_ne rfl rfl (by omega) (by omega) (fun h13 => ?_) (fun h13 => ?_)
    · have sx13 : (0 : Int) ≤ K := by omega
      clear h13
      refine jr.iconst rfl ?_
      refine jr.istore_n (ls' := [_, _]) rfl (by decide) rfl ?_
      refine jr.pick (ls := [_, _]) [0, 1] rfl rfl ?_
      exact c_Gathering_isReady_x_L20 hC_M k_t q 360 0 (by omega) g_W g_K (by rw [show lpf W - 0 = lpf W from by omega]) (by omega) (by omega)
    · refine jr.iconst rfl ?_
      exact jr.ireturn rfl rfl rfl (q _ (by omega) (Or.inl ⟨by omega, by omega⟩))
end

