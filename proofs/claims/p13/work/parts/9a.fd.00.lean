section
/-! ===== the class: ends, sides, the flow of ends ===== -/
noncomputable def sdF (M : jm) (t x : Nat) : Int := if M t 0 = 0 ∨ M t 1 ≠ M x 1 ∨ M t 2 ≠ M x 2 then -1 else if (M (x + 1) 0 = M (t + 1) 0 ∧ M (x + 2) 0 = M (t + 2) 0) ∧ (M (x + 1) 1 = M (t + 1) 1 ∧ M (x + 2) 1 = M (t + 2) 1) then 0 else if ((M t 13 = -1 ∧ M (x + 1) 1 = M (t + 1) 0 ∧ M (x + 2) 1 = M (t + 2) 0) ∨ (M t 13 ≠ -1 ∧ M (x + 1) 1 = M t 14 ∧ M (x + 2) 1 = M t 15)) ∧ (M (x + 1) 0 = M (t + 1) 1 ∧ M (x + 2) 0 = M (t + 2) 1) then 1 else -1
theorem sd_n {M : jm} {t x : Nat} (h : M t 0 = 0 ∨ M t 1 ≠ M x 1 ∨ M t 2 ≠ M x 2) : sdF M t x = -1 := by
  unfold sdF
  rw [if_pos h]
theorem sd_0 {M : jm} {t x : Nat} (h : ¬ (M t 0 = 0 ∨ M t 1 ≠ M x 1 ∨ M t 2 ≠ M x 2)) (h1 : (M (x + 1) 0 = M (t + 1) 0 ∧ M (x + 2) 0 = M (t + 2) 0) ∧ (M (x + 1) 1 = M (t + 1) 1 ∧ M (x + 2) 1 = M (t + 2) 1)) : sdF M t x = 0 := by
  unfold sdF
  rw [if_neg h, if_pos h1]
theorem sd_1 {M : jm} {t x : Nat} (h : ¬ (M t 0 = 0 ∨ M t 1 ≠ M x 1 ∨ M t 2 ≠ M x 2)) (h1 : ¬ ((M (x + 1) 0 = M (t + 1) 0 ∧ M (x + 2) 0 = M (t + 2) 0) ∧ (M (x + 1) 1 = M (t + 1) 1 ∧ M (x + 2) 1 = M (t + 2) 1))) (h2 : (M t 13 = -1 ∧ M (x + 1) 1 = M (t + 1) 0 ∧ M (x + 2) 1 = M (t + 2) 0) ∨ (M t 13 ≠ -1 ∧ M (x + 1) 1 = M t 14 ∧ M (x + 2) 1 = M t 15)) (h3 : M (x + 1) 0 = M (t + 1) 1 ∧ M (x + 2) 0 = M (t + 2) 1) : sdF M t x = 1 := by
  unfold sdF
  rw [if_neg h, if_neg h1, if_pos ⟨h2, h3⟩]
theorem sd_m {M : jm} {t x : Nat} (h : ¬ (M t 0 = 0 ∨ M t 1 ≠ M x 1 ∨ M t 2 ≠ M x 2)) (h1 : ¬ ((M (x + 1) 0 = M (t + 1) 0 ∧ M (x + 2) 0 = M (t + 2) 0) ∧ (M (x + 1) 1 = M (t + 1) 1 ∧ M (x + 2) 1 = M (t + 2) 1))) (h2 : ¬ (((M t 13 = -1 ∧ M (x + 1) 1 = M (t + 1) 0 ∧ M (x + 2) 1 = M (t + 2) 0) ∨ (M t 13 ≠ -1 ∧ M (x + 1) 1 = M t 14 ∧ M (x + 2) 1 = M t 15)) ∧ (M (x + 1) 0 = M (t + 1) 1 ∧ M (x + 2) 0 = M (t + 2) 1))) : sdF M t x = -1 := by
  unfold sdF
  rw [if_neg h, if_neg h1, if_neg h2]
theorem sd_r (M : jm) (t x : Nat) : sdF M t x = -1 ∨ (M t 0 ≠ 0 ∧ M t 2 = M x 2 ∧ (sdF M t x = 0 ∨ sdF M t x = 1)) := by
  unfold sdF
  (repeat' split) <;> omega
/-- the first flow that has these ends -/
noncomputable def feF (M : jm) (V : Nat) : Nat → Int → Int
  | 0, _ => -1
  | n + 1, i => if sdF M (xe V i) 18 ≠ -1 then i else feF M V n (i + 1)
theorem feF_s {M : jm} {V : Nat} {i : Int} (h : i < 24) : feF M V (24 - i).toNat i = if sdF M (xe V i) 18 ≠ -1 then i else feF M V (24 - (i + 1)).toNat (i + 1) := by
  obtain ⟨n, hn⟩ : ∃ n : Nat, i = 23 - n := ⟨(23 - i).toNat, by omega⟩
  subst hn
  rw [show (24 - (23 - (n : Int))).toNat = n + 1 by omega, show (24 - (23 - (n : Int) + 1)).toNat = n by omega]
  rfl
theorem c_Flow_hasEnd_x {A : Nat → Option (Nat × (Nat → Int32))} {Q : Option Value → jm → Prop} {M : jm} (hC_M : CI M) {x : Nat} (k_x : kd x = 1) {y : Int} (h_y : 0 ≤ y ∧ y ≤ 1) {z : Int} (h_z : (-9223372036854775808) ≤ z ∧ z ≤ 9223372036854775807) {u : Int} (h_u : (-2147483648) ≤ u ∧ u ≤ 2147483647) (q : ∀ (r : Int), 0 ≤ r ∧ r ≤ 1 → ((r = 1 ∧ (M (x + 1) y = z ∧ M (x + 2) y = u)) ∨ (r = 0 ∧ ¬ (M (x + 1) y = z ∧ M (x + 2) y = u))) → Q (some (.int (Int32.ofInt r))) M) : jc A 1 66 [.ref (x), .int (Int32.ofInt (y)), .long (Int64.ofInt (z)), .int (Int32.ofInt (u))] M Q := by
  refine jc_of (m := xm_66) rfl (Nat.le_of_ble_eq_true rfl) rfl ?_
  refine jr.aload_n rfl rfl ?_
  have k1 := kf_1_3 k_x
  refine jr.getf (i := 3) (v := .ref (x + 1)) rfl rfl (Nat.lt_trans (kx_1 k_x).1 (by decide)) (kx_1 k_x).2 (by decide) rfl rfl rfl (jval_ref rfl k1.1) ?_
  refine jr.iload_n rfl rfl ?_
  obtain ⟨v2, e2⟩ : ∃ z_, M ((x + 1)) y = z_ := ⟨_, rfl⟩
  have b2 : (-9223372036854775808) ≤ v2 ∧ v2 ≤ 9223372036854775807 := by rw [← e2]; exact (CI.r hC_M k1.2 (by decide) y)
  refine jr.lald (i := y) (x := v2) rfl (Nat.lt_trans (kx_2 k1.2).1 (by decide)) (kx_2 k1.2).2 (by decide) (by omega) (by omega) e2 ?_
  refine jr.lload_n rfl rfl ?_
  refine jr.lcmp_ne rfl rfl rfl (by omega) (by omega) (fun h7 => ?_) (fun h7 => ?_)
  · refine jr.iconst rfl ?_
    exact jr.ireturn rfl rfl rfl (q _ (by omega) (by omega))
  · refine jr.aload_n rfl rfl ?_
    have k3 := kf_1_4 k_x
    refine jr.getf (i := 4) (v := .ref (x + 2)) rfl rfl (Nat.lt_trans (kx_1 k_x).1 (by decide)) (kx_1 k_x).2 (by decide) rfl rfl rfl (jval_ref rfl k3.1) ?_
    refine jr.iload_n rfl rfl ?_
    obtain ⟨v4, e4⟩ : ∃ z_, M ((x + 2)) y = z_ := ⟨_, rfl⟩
    have b4 : (-2147483648) ≤ v4 ∧ v4 ≤ 2147483647 := by rw [← e4]; exact (CI.r hC_M k3.2 (by decide) y)
    refine jr.iald (i := y) (x := v4) rfl (Nat.lt_trans (kx_7 k3.2).1 (by decide)) (kx_7 k3.2).2 (by decide) (by omega) (by omega) e4 ?_
    refine jr.iload rfl rfl ?_
    refine jr.icmp_ne rfl rfl (by omega) (by omega) (fun h19 => ?_) (fun h19 => ?_)
    · refine jr.iconst rfl ?_
      exact jr.ireturn rfl rfl rfl (q _ (by omega) (by omega))
    · refine jr.iconst rfl ?_
      refine jr.goto rfl rfl ?_
      exact jr.ireturn rfl rfl rfl (q _ (by omega) (by omega))
end
