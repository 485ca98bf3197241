section
theorem dS0_e {f f1 : Int → Int} {N x k Y un : Int} (hk : hX f N x = k) (hy : hY f N x = Y) (hu : (k = 2 ∧ un = Y + hZ f N x) ∨ (k ≠ 2 ∧ un = N)) (h4 : k = 2 ∨ (7 ≤ k ∧ k ≤ 9)) (h0 : 0 ≤ Y) (h8 : Y + 8 ≤ un ∧ un ≤ 400) (h20 : k = 7 ∨ k = 9 ∨ Y + 20 ≤ un) (hf : ∀ i : Int, 0 ≤ i → i < 400 → 0 ≤ f1 i ∧ f1 i ≤ 255) : dS0 f f1 N x = sb f1 Y (un - Y).toNat - tw f1 (Y + sof k) ∧ (0 ≤ dS0 f f1 N x ∧ dS0 f f1 N x ≤ 26112000) ∧ Y + sof k + 1 < un ∧ 0 ≤ sof k ∧ sof k % 2 = 0 := by
  have so := sof_r k
  have s1 : 0 ≤ sof k ∧ sof k % 2 = 0 ∧ Y + sof k + 1 < un := by
    rcases h4 with q | q
    · omega
    · rcases (show k = 7 ∨ k = 8 ∨ k = 9 by omega) with q | q | q <;> omega
  have e : dS0 f f1 N x = sb (fz f1 (Y + sof k)) Y (un - Y).toNat := by
    unfold dS0
    rw [hk, hy]
    rcases hu with ⟨q1, q2⟩ | ⟨q1, q2⟩
    · rw [if_pos q1, q2]
    · rw [if_neg q1, q2]
  rw [e]
  have r := sb_r (f := fz f1 (Y + sof k)) (a := Y) (un - Y).toNat (fun i g0 g1 => by
    have hz := hf i (by omega) (by omega)
    unfold fz
    split <;> omega)
  refine ⟨(sb_zt (by omega) (by omega) (by omega)).symm, ⟨r.1, ?_⟩, s1.2.2, s1.1, s1.2.1⟩
  have : ((un - Y).toNat : Int) ≤ 400 := by omega
  omega
theorem nxD_p {f : Int → Int} {N C x n : Int} (hx : 0 ≤ x ∧ x < C) (hn : n = nxD f N x.toNat) (h1 : n ≠ -1) : (0 ≤ n ∧ n < C) ∧ (hX f N n = 2 ∨ hX f N n = 3) := by
  have q := nxD_r f N x.toNat
  rw [← hn] at q
  rcases q with q | q
  · exact absurd q h1
  · exact ⟨⟨q.1, by omega⟩, q.2.2⟩
theorem c_Headers_kindAt_y {A : Nat → Option (Nat × (Nat → Int32))} {Q : Option Value → jm → Prop} {f f1 : Int → Int} {N : Int} {M : jm} (hC_M : CI M) {t : Nat} (k_t : kd t = 18) {x : Int} (h_x : (-2147483648) ≤ x ∧ x ≤ 2147483647) {C : Int} (g_C : M t 3 = C) (p0 : HS2 M t f f1 N) (q : ∀ (r : Int), (-1) ≤ r ∧ r ≤ 11 → (r = kA f N C x) → Q (some (.int (Int32.ofInt r))) M) : jc A 1 107 [.ref (t), .int (Int32.ofInt (x))] M Q := by
  refine jc_of (m := xm_107) rfl (Nat.le_of_ble_eq_true rfl) rfl ?_
  have b_C : 0 ≤ C ∧ C ≤ 12 := by rw [← g_C]; exact (CI.r hC_M k_t (by decide) 3)
  refine jr.iload_n rfl rfl ?_
  refine jr.if_lt rfl rfl (by omega) (fun h1 => ?_) (fun h1 => ?_)
  · refine jr.iconst rfl ?_
    exact jr.ireturn rfl rfl rfl (q _ (by omega) (by unfold kA; first | (rw [if_neg (by omega)]) | (have hr := p0.2.2.2.1.2.1 x (by omega) (by omega); rw [if_pos (by omega)]; omega)))
  · refine jr.iload_n rfl rfl ?_
    refine jr.aload_n rfl rfl ?_
    refine jr.getf (i := 3) (x := C) (v := .int (Int32.ofInt (C))) rfl rfl (Nat.lt_trans (kx_18 k_t).1 (by decide)) (kx_18 k_t).2 (by decide) rfl rfl g_C rfl ?_
    refine jr.icmp_ge rfl rfl (by omega) (by omega) (fun h9 => ?_) (fun h9 => ?_)
    · refine jr.iconst rfl ?_
      exact jr.ireturn rfl rfl rfl (q _ (by omega) (by unfold kA; first | (rw [if_neg (by omega)]) | (have hr := p0.2.2.2.1.2.1 x (by omega) (by omega); rw [if_pos (by omega)]; omega)))
    · refine jr.aload_n rfl rfl ?_
      have k1 := kf_18_0 k_t
      refine jr.getf (i := 0) (v := .ref (t + 1)) rfl rfl (Nat.lt_trans (kx_18 k_t).1 (by decide)) (kx_18 k_t).2 (by decide) rfl rfl rfl (jval_ref rfl k1.1) ?_
      refine jr.iload_n rfl rfl ?_
      obtain ⟨v2, e2⟩ : ∃ z_, M ((t + 1)) x = z_ := ⟨_, rfl⟩
      have b2 : 0 ≤ v2 ∧ v2 ≤ 11 := by rw [← e2]; exact (CI.r hC_M k1.2 (by decide) x)
      refine jr.iald (i := x) (x := v2) rfl (Nat.lt_trans (kx_19 k1.2).1 (by decide)) (kx_19 k1.2).2 (by decide) (by omega) (by omega) e2 ?_
      refine jr.goto rfl rfl ?_
      exact jr.ireturn rfl rfl rfl (q _ (by omega) (by unfold kA; first | (rw [if_neg (by omega)]) | (have hr := p0.2.2.2.1.2.1 x (by omega) (by omega); rw [if_pos (by omega)]; omega)))
theorem c_Headers_endOf_y {A : Nat → Option (Nat × (Nat → Int32))} {Q : Option Value → jm → Prop} {f f1 : Int → Int} {N : Int} {M : jm} (hC_M : CI M) {t : Nat} (k_t : kd t = 18) {x : Int} (h_x : (-2147483648) ≤ x ∧ x ≤ 2147483647) {C : Int} (g_C : M t 3 = C) (p0 : HS2 M t f f1 N) (q : ∀ (r : Int), (-400) ≤ r ∧ r ≤ 2448 → (r = enf f N C x) → Q (some (.int (Int32.ofInt r))) M) : jc A 2 118 [.ref (t), .int (Int32.ofInt (x))] M Q := by
  refine jc_of (m := xm_118) rfl (Nat.le_of_ble_eq_true rfl) rfl ?_
  have b_C : 0 ≤ C ∧ C ≤ 12 := by rw [← g_C]; exact (CI.r hC_M k_t (by decide) 3)
  refine jr.aload_n rfl rfl ?_
  refine jr.iload_n rfl rfl ?_
  refine jr_v rfl rfl (Or.inl rfl) rfl rfl (Nat.lt_trans (kx_18 k_t).1 (by decide)) (kx_18 k_t).2 ⟨rfl, Nat.le_of_ble_eq_true rfl, Nat.le_of_ble_eq_true rfl⟩ rfl (jc.deep (c_Headers_hasHeader hC_M k_t (by omega) (fun r1 z1 w1_0 w1_1 => ?_)) (by decide))
  refine jr.if_eq rfl rfl (by omega) (fun h5 => ?_) (fun h5 => ?_)
  · refine jr.iconst rfl ?_
    exact jr.ireturn rfl rfl rfl (q _ (by omega) (by unfold enf; first | (rw [if_neg (by omega)]) | (have hr := p0.2.2.2.1.2.1 x (by omega) (by omega); rw [if_pos (by omega)]; omega)))
  · have sx5 : (1 : Int) ≤ r1 := by omega
    clear h5
    refine jr.aload_n rfl rfl ?_
    have k2 := kf_18_1 k_t
    refine jr.getf (i := 1) (v := .ref (t + 2)) rfl rfl (Nat.lt_trans (kx_18 k_t).1 (by decide)) (kx_18 k_t).2 (by decide) rfl rfl rfl (jval_ref rfl k2.1) ?_
    refine jr.iload_n rfl rfl ?_
    obtain ⟨v3, e3⟩ : ∃ z_, M ((t + 2)) x = z_ := ⟨_, rfl⟩
    have b3 : 0 ≤ v3 ∧ v3 ≤ 400 := by rw [← e3]; exact (CI.r hC_M k2.2 (by decide) x)
    refine jr.iald (i := x) (x := v3) rfl (Nat.lt_trans (kx_20 k2.2).1 (by decide)) (kx_20 k2.2).2 (by decide) (by omega) (by omega) e3 ?_
    refine jr.aload_n rfl rfl ?_
    have k4 := kf_18_2 k_t
    refine jr.getf (i := 2) (v := .ref (t + 3)) rfl rfl (Nat.lt_trans (kx_18 k_t).1 (by decide)) (kx_18 k_t).2 (by decide) rfl rfl rfl (jval_ref rfl k4.1) ?_
    refine jr.iload_n rfl rfl ?_
    obtain ⟨v5, e5⟩ : ∃ z_, M ((t + 3)) x = z_ := ⟨_, rfl⟩
    have b5 : (-400) ≤ v5 ∧ v5 ≤ 2048 := by rw [← e5]; exact (CI.r hC_M k4.2 (by decide) x)
    refine jr.iald (i := x) (x := v5) rfl (Nat.lt_trans (kx_21 k4.2).1 (by decide)) (kx_21 k4.2).2 (by decide) (by omega) (by omega) e5 ?_
    refine jr.iadd rfl ?_
    refine jr.goto rfl rfl ?_
    exact jr.ireturn rfl rfl rfl (q _ (by omega) (by unfold enf; first | (rw [if_neg (by omega)]) | (have hr := p0.2.2.2.1.2.1 x (by omega) (by omega); rw [if_pos (by omega)]; omega)))
end
