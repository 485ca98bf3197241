section
theorem vtab {k j : Int} (hk : 0 ≤ k ∧ k < 11) (hj : 0 ≤ j ∧ j < 11) (h : j < xcv_2 k) : (0 ≤ xcv_4 (4 * (xcv_3 k + j)) ∧ xcv_4 (4 * (xcv_3 k + j)) + xcv_4 (4 * (xcv_3 k + j) + 1) ≤ lst k) ∧ (0 ≤ xcv_4 (4 * (xcv_3 k + j) + 1) ∧ xcv_4 (4 * (xcv_3 k + j) + 1) ≤ 8) ∧ (xcv_4 (4 * (xcv_3 k + j) + 3) = 64 ∨ (0 ≤ xcv_4 (4 * (xcv_3 k + j) + 3) ∧ xcv_4 (4 * (xcv_3 k + j) + 3) ≤ 32 ∧ xcv_4 (4 * (xcv_3 k + j) + 1) ≤ 4)) ∧ (0 ≤ xcv_4 (4 * (xcv_3 k + j) + 2) ∧ xcv_4 (4 * (xcv_3 k + j) + 2) < 64) := by
  obtain ⟨k, rfl⟩ := Int.eq_ofNat_of_zero_le hk.1
  obtain ⟨j, rfl⟩ := Int.eq_ofNat_of_zero_le hj.1
  rcases vtab0 k (by omega) j (by omega) with q | q
  · omega
  · exact q
/-- a header that is there has its bytes -/
theorem hok_l {f : Int → Int} {N i : Int} (h : hok f N i) (hf : ∀ i : Int, 0 ≤ i → i < 400 → 0 ≤ f i ∧ f i ≤ 255) (hN : N ≤ 400) : hY f N i + lst (hX f N i) ≤ N ∧ hY f N i + hZ f N i ≤ N ∧ 0 ≤ hZ f N i ∧ ¬ ((hX f N i = 2 ∨ hX f N i = 8) ∧ hZ f N i < 20) := by
  have q := hsF_z h.2
  have q2 := hsZ_r hf hN q.2.1
  have l1 := lst_k (hX f N i)
  have l2 := hls_all (hX f N i)
  have l3 : lst (hX f N i) ≤ hls (hX f N i) ∨ hX f N i = 4 ∨ hX f N i = 5 := by
    unfold lst hls
    (repeat' split) <;> omega
  refine ⟨?_, q.2.2.1, q2.1, q.2.2.2⟩
  by_cases e : hX f N i = 4 ∨ hX f N i = 5
  · have hz : hsZ f N (hX f N i) (hY f N i) = 8 * hb f N (hY f N i + 1) + 8 := by
      unfold hsZ
      rw [if_neg (by omega), if_neg (by omega), if_pos e]
    have hb0 := hb_r hf hN (i := hY f N i + 1)
    have l4 : lst (hX f N i) = 8 := by omega
    omega
  · omega
end
section
/-! ===== the class: headers' kinds, places, values ===== -/
theorem nbw_s {f : Int → Int} {y i n b : Int} (h : y ≤ i) (hn : n = jl_w (nbs f y (i - y).toNat)) (hb : f i = b) : jl_w (n * 256 + b) = jl_w (nbs f y (i + 1 - y).toNat) := by
  rw [nbs_s h, hb]
  have q := jlw_m (nbs f y (i - y).toNat)
  rw [← hn] at q
  exact jlw_c (by omega)
theorem nbw_0 (f : Int → Int) (y : Int) : (0 : Int) = jl_w (nbs f y (y - y).toNat) := by
  rw [nbs_0]
  rfl
theorem c_PacketWall_numberAt_pw_L5 {A : Nat → Option (Nat × (Nat → Int32))} {Q : Option Value → jm → Prop} {f : Int → Int} {M : jm} (hC_M : CI M) {x : Nat} (k_x : kd x = 34) {y : Int} {z : Int} (q : ∀ (r : Int), (-9223372036854775808) ≤ r ∧ r ≤ 9223372036854775807 → (r = jl_w (nbs f y z.toNat)) → Q (some (.long (Int64.ofInt r))) M) : ∀ (nM : Nat) (n : Int) (i : Int), 0 ≤ y ∧ y ≤ 400 → 0 ≤ z ∧ z ≤ 8 → (-9223372036854775808) ≤ n ∧ n ≤ 9223372036854775807 → 0 ≤ i ∧ i ≤ 408 → (n = jl_w (nbs f y (i - y).toNat)) → (y ≤ i ∧ i ≤ y + z ∧ y + z ≤ 400) → (BY8 M x f) → y + z - i ≤ nM → jr A 0 xm_52 5 [(1, .int (Int32.ofInt (y))), (2, .int (Int32.ofInt (z))), (3, .long (Int64.ofInt (n))), (5, .int (Int32.ofInt (i))), (0, .ref (x))] [] M Q := by
  intro nM
  induction nM using Nat.strongRecOn with
  | ind nM ih =>
    intro n i h_y h_z h_n h_i hy0 hy1 hy2 hm
    refine jr.iload rfl rfl ?_
    refine jr.iload_n rfl rfl ?_
    refine jr.iload_n rfl rfl ?_
    refine jr.iadd rfl ?_
    refine jr.icmp_ge rfl rfl (by omega) (by omega) (fun h10 => ?_) (fun h10 => ?_)
    · refine jr.lload_n rfl rfl ?_
      exact jr.lreturn rfl rfl (q _ (by omega) (by rw [hy0, show i - y = z from by omega]))
    · refine jr.lload_n rfl rfl ?_
      refine jr.bipush rfl (by decide) ?_
      refine jr.lshl rfl ?_
      refine jr.iload rfl rfl ?_
      refine jr.if_lt rfl rfl (by omega) (fun h19 => ?_) (fun h19 => ?_)
      · exact absurd h19 (by omega)
      · refine jr.iload rfl rfl ?_
        refine jr.aload_n rfl rfl ?_
        refine jr.alen0 (x := 400) rfl (Nat.lt_trans (kx_34 k_x).1 (by decide)) (kx_34 k_x).2 rfl ?_
        refine jr.icmp_ge rfl rfl (by omega) (by omega) (fun h26 => ?_) (fun h26 => ?_)
        · refine jr.iconst rfl ?_
          refine jr.i2l rfl (by omega) ?_
          refine jr.lor rfl ?_
          have b1 : jl_or (jl_shl n 8) 0 = jl_w (n * 256 + 0) ∧ -9223372036854775808 ≤ jl_or (jl_shl n 8) 0 ∧ jl_or (jl_shl n 8) 0 ≤ 9223372036854775807 := ⟨jl_sho_w (by omega), jbl_any _⟩
          generalize jl_or (jl_shl n 8) 0 = v1 at b1 ⊢
          refine jr.lstore_n (ls' := [_, _, _, _, _]) rfl (by decide) rfl ?_
          refine jr.iinc (ls' := [_, _, _, _, _]) rfl rfl (by decide) rfl ?_
          refine jr.goto rfl rfl ?_
          refine jr.pick (ls := [_, _, _, _, _]) [2, 3, 1, 0, 4] rfl rfl ?_
          exact ih (nM - 1) (by omega) v1 (i + 1) (by omega) (by omega) (by omega) (by omega) (b1.1.trans (nbw_s (by omega) hy0 (by omega))) (by omega) hy2 (by omega)
        · refine jr.aload_n rfl rfl ?_
          refine jr.iload rfl rfl ?_
          obtain ⟨v2, e2⟩ : ∃ z_, M x i = z_ := ⟨_, rfl⟩
          have b2 : (-1) ≤ v2 ∧ v2 ≤ 255 := by rw [← e2]; exact (CI.r hC_M k_x (by decide) i)
          refine jr.iald (i := i) (x := v2) rfl (Nat.lt_trans (kx_34 k_x).1 (by decide)) (kx_34 k_x).2 (by decide) (by omega) (by omega) e2 ?_
          have hb0 := hy2 i (by omega) (by omega)
          refine jr.goto rfl rfl ?_
          refine jr.i2l rfl (by omega) ?_
          refine jr.lor rfl ?_
          have b3 : jl_or (jl_shl n 8) v2 = jl_w (n * 256 + v2) ∧ -9223372036854775808 ≤ jl_or (jl_shl n 8) v2 ∧ jl_or (jl_shl n 8) v2 ≤ 9223372036854775807 := ⟨jl_sho_w (by omega), jbl_any _⟩
          generalize jl_or (jl_shl n 8) v2 = v3 at b3 ⊢
          refine jr.lstore_n (ls' := [_, _, _, _, _]) rfl (by decide) rfl ?_
          refine jr.iinc (ls' := [_, _, _, _, _]) rfl rfl (by decide) rfl ?_
          refine jr.goto rfl rfl ?_
          refine jr.pick (ls := [_, _, _, _, _]) [2, 3, 1, 0, 4] rfl rfl ?_
          exact ih (nM - 1) (by omega) v3 (i + 1) (by omega) (by omega) (by omega) (by omega) (b3.1.trans (nbw_s (by omega) hy0 (by omega))) (by omega) hy2 (by omega)
theorem c_PacketWall_numberAt_pw {A : Nat → Option (Nat × (Nat → Int32))} {Q : Option Value → jm → Prop} {f : Int → Int} {M : jm} (hC_M : CI M) {x : Nat} (k_x : kd x = 34) {y : Int} (h_y : 0 ≤ y ∧ y ≤ 400) {z : Int} (h_z : 0 ≤ z ∧ z ≤ 8) (p0 : y + z ≤ 400) (p1 : BY8 M x f) (q : ∀ (r : Int), (-9223372036854775808) ≤ r ∧ r ≤ 9223372036854775807 → (r = jl_w (nbs f y z.toNat)) → Q (some (.long (Int64.ofInt r))) M) : jc A 1 52 [.ref (x), .int (Int32.ofInt (y)), .int (Int32.ofInt (z))] M Q := by
  refine jc_of (m := xm_52) rfl (Nat.le_of_ble_eq_true rfl) rfl ?_
  refine jr.lconst (x := 0) rfl (by decide) ?_
  refine jr.lstore_n (ls' := [_, _, _, _]) rfl (by decide) rfl ?_
  refine jr.iload_n rfl rfl ?_
  refine jr.istore (ls' := [_, _, _, _, _]) rfl (by decide) rfl ?_
  refine jr.pick (ls := [_, _, _, _, _]) [3, 4, 1, 0, 2] rfl rfl ?_
  exact c_PacketWall_numberAt_pw_L5 hC_M k_x q 8 0 y (by omega) (by omega) (by omega) (by omega) (nbw_0 _ _) (by omega) p1 (by omega)
theorem c_Headers_kindAt_x {A : Nat → Option (Nat × (Nat → Int32))} {Q : Option Value → jm → Prop} {f : Int → Int} {N : Int} {M : jm} (hC_M : CI M) {t : Nat} (k_t : kd t = 18) {x : Int} (h_x : (-2147483648) ≤ x ∧ x ≤ 2147483647) {C : Int} (g_C : M t 3 = C) (p0 : HS M t f N) (q : ∀ (r : Int), (-1) ≤ r ∧ r ≤ 11 → (r = kA f N C x) → Q (some (.int (Int32.ofInt r))) M) : jc A 1 107 [.ref (t), .int (Int32.ofInt (x))] M Q := by
  refine jc_of (m := xm_107) rfl (Nat.le_of_ble_eq_true rfl) rfl ?_
  have b_C : 0 ≤ C ∧ C ≤ 12 := by rw [← g_C]; exact (CI.r hC_M k_t (by decide) 3)
  refine jr.iload_n rfl rfl ?_
  refine jr.if_lt rfl rfl (by omega) (fun h1 => ?_) (fun h1 => ?_)
  · refine jr.iconst rfl ?_
    exact jr.ireturn rfl rfl rfl (q _ (by omega) (by unfold kA; first | (rw [if_neg (by omega)]) | (have hr := p0.2.2.2.2.1 x (by omega) (by omega); rw [if_pos (by omega)]; omega)))
  · refine jr.iload_n rfl rfl ?_
    refine jr.aload_n rfl rfl ?_
    refine jr.getf (i := 3) (x := C) (v := .int (Int32.ofInt (C))) rfl rfl (Nat.lt_trans (kx_18 k_t).1 (by decide)) (kx_18 k_t).2 (by decide) rfl rfl g_C rfl ?_
    refine jr.icmp_ge rfl rfl (by omega) (by omega) (fun h9 => ?_) (fun h9 => ?_)
    · refine jr.iconst rfl ?_
      exact jr.ireturn rfl rfl rfl (q _ (by omega) (by unfold kA; first | (rw [if_neg (by omega)]) | (have hr := p0.2.2.2.2.1 x (by omega) (by omega); rw [if_pos (by omega)]; omega)))
    · refine jr.aload_n rfl rfl ?_
      have k1 := kf_18_0 k_t
      refine jr.getf (i := 0) (v := .ref (t + 1)) rfl rfl (Nat.lt_trans (kx_18 k_t).1 (by decide)) (kx_18 k_t).2 (by decide) rfl rfl rfl (jval_ref rfl k1.1) ?_
      refine jr.iload_n rfl rfl ?_
      obtain ⟨v2, e2⟩ : ∃ z_, M ((t + 1)) x = z_ := ⟨_, rfl⟩
      have b2 : 0 ≤ v2 ∧ v2 ≤ 11 := by rw [← e2]; exact (CI.r hC_M k1.2 (by decide) x)
      refine jr.iald (i := x) (x := v2) rfl (Nat.lt_trans (kx_19 k1.2).1 (by decide)) (kx_19 k1.2).2 (by decide) (by omega) (by omega) e2 ?_
      refine jr.goto rfl rfl ?_
      exact jr.ireturn rfl rfl rfl (q _ (by omega) (by unfold kA; first | (rw [if_neg (by omega)]) | (have hr := p0.2.2.2.2.1 x (by omega) (by omega); rw [if_pos (by omega)]; omega)))
end
