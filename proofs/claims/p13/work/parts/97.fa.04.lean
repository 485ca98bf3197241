section
theorem c_Flows_layPool_x_L44 {A : Nat → Option (Nat × (Nat → Int32))} {Q : Option Value → jm → Prop} {T : jm} {V : Int} {u : Int} {x : Int} {y : Int} {z : Int} (q : ∀ (r : Int) (M' : jm), CI M' → FR W_c_Flows_layPool_x T M' → (-2147483648) ≤ r ∧ r ≤ 2147483647 → ((¬ ((0 ≤ x ∧ x ≤ 3) ∧ (1 ≤ u ∧ u ≤ 32) ∧ (1 ≤ z ∧ z + u ≤ 65536)) ∧ r = -3 ∧ M' = T) ∨ (((0 ≤ x ∧ x ≤ 3) ∧ (1 ≤ u ∧ u ≤ 32) ∧ (1 ≤ z ∧ z + u ≤ 65536)) ∧ pu T V.toNat x 24 0 = 1 ∧ r = -4 ∧ M' = T) ∨ (((0 ≤ x ∧ x ≤ 3) ∧ (1 ≤ u ∧ u ≤ 32) ∧ (1 ≤ z ∧ z + u ≤ 65536)) ∧ pu T V.toNat x 24 0 ≠ 1 ∧ r = u ∧ M' = ju (ju (ju T 26 x y) 27 x z) 28 x u)) → Q (some (.int (Int32.ofInt r))) M') : ∀ (nM : Nat) (M : jm) (i : Int), CI M → FR W_c_Flows_layPool_x T M → 0 ≤ x ∧ x ≤ 3 → (-9223372036854775808) ≤ y ∧ y ≤ 9223372036854775807 → 1 ≤ z ∧ z ≤ 65535 → 1 ≤ u ∧ u ≤ 32 → 0 ≤ i ∧ i ≤ 24 → M 15 0 = V → (pu T V.toNat x 24 0 = pu T V.toNat x (24 - i).toNat i) → (M = T) → (z + u ≤ 65536) → 24 - i ≤ nM → jr A 0 xm_80 44 [(1, .int (Int32.ofInt (x))), (2, .long (Int64.ofInt (y))), (4, .int (Int32.ofInt (z))), (5, .int (Int32.ofInt (u))), (6, .int (Int32.ofInt (i))), (0, .ref (15))] [] M Q := by
  intro nM
  induction nM using Nat.strongRecOn with
  | ind nM ih =>
    intro M i hC_M ht_M h_x h_y h_z h_u h_i g_V hy0 hy1 hy2 hm
    have b_V : 16 ≤ V ∧ V ≤ 17 := by rw [← g_V]; exact (CI.r hC_M (show kd 15 = 9 from rfl) (by decide) 0)
    refine jr.iload rfl rfl ?_
    refine jr.bipush rfl (by decide) ?_
    refine jr.icmp_ge rfl rfl (by omega) (by omega) (fun h48 => ?_) (fun h48 => ?_)
    · refine jr.aload_n rfl rfl ?_
      refine jr.getf (i := 6) (v := .ref 26) rfl rfl (by decide) rfl (by decide) rfl rfl rfl rfl ?_
      refine jr.iload_n rfl rfl ?_
      refine jr.lload_n rfl rfl ?_
      refine jr.last (i := x) (x := y) rfl (by decide) rfl (by decide) (by omega) (by omega) ?_
      refine jr.aload_n rfl rfl ?_
      refine jr.getf (i := 7) (v := .ref 27) rfl rfl (by decide) rfl (by decide) rfl rfl rfl rfl ?_
      refine jr.iload_n rfl rfl ?_
      refine jr.iload rfl rfl ?_
      refine jr.iast (i := x) (x := z) rfl (by decide) rfl (by decide) (by omega) (by omega) ?_
      refine jr.aload_n rfl rfl ?_
      refine jr.getf (i := 8) (v := .ref 28) rfl rfl (by decide) rfl (by decide) rfl rfl rfl rfl ?_
      refine jr.iload_n rfl rfl ?_
      refine jr.iload rfl rfl ?_
      refine jr.iast (i := x) (x := u) rfl (by decide) rfl (by decide) (by omega) (by omega) ?_
      refine jr.iload rfl rfl ?_
      exact jr.ireturn rfl rfl rfl (q _ _ (CI.u (CI.u (CI.u hC_M (i := x) (show kd 26 = 10 from rfl) (show (-9223372036854775808 : Int) ≤ _ ∧ _ ≤ (9223372036854775807 : Int) from by omega) rfl) (i := x) (show kd 27 = 11 from rfl) (show (-2147483648 : Int) ≤ _ ∧ _ ≤ (2147483647 : Int) from by omega) rfl) (i := x) (show kd 28 = 12 from rfl) (show (0 : Int) ≤ _ ∧ _ ≤ (32 : Int) from by omega) rfl) (FR.o (FR.o (FR.o ht_M (show kd 26 = 10 from rfl) rfl) (show kd 27 = 11 from rfl) rfl) (show kd 28 = 12 from rfl) rfl) (by omega) (Or.inr (Or.inr ⟨by omega, by rw [hy0, show (24 - i).toNat = 0 from by omega]; show (0 : Int) ≠ 1; decide, by omega, by rw [hy1]⟩)))
    · refine jr.aload_n rfl rfl ?_
      have k1 : kd (V).toNat = 13 := by rcases (show V = 16 ∨ V = 17 by omega) with h | h <;> (rw [h]; rfl)
      refine jr.getf (i := 0) (x := V) (v := .ref (V.toNat)) rfl rfl (by decide) rfl (by decide) rfl rfl g_V rfl ?_
      refine jr.iload rfl rfl ?_
      have k2 := kxe_13 k1 (i := i) (by omega) (by omega)
      refine jr.aald (c := (xe ((V.toNat)) i)) rfl (Nat.lt_trans (kx_13 k1).1 (by decide)) (kx_13 k1).2 (by decide) (by decide) rfl (by decide) (by omega) (by omega) k2.1 ?_
      obtain ⟨v3, e3⟩ : ∃ z_, M ((xe ((V.toNat)) i)) 0 = z_ := ⟨_, rfl⟩
      have b3 : 0 ≤ v3 ∧ v3 ≤ 1 := by rw [← e3]; exact (CI.r hC_M k2.2 (by decide) 0)
      refine jr.getf (i := 0) (x := v3) (v := .int (Int32.ofInt (v3))) rfl rfl (Nat.lt_trans (kx_1 k2.2).1 (by decide)) (kx_1 k2.2).2 (by decide) rfl rfl e3 rfl ?_
      refine jr.if_eq rfl rfl (by omega) (fun h61 => ?_) (fun h61 => ?_)
      · refine jr.iinc (ls' := [_, _, _, _, _, _]) rfl rfl (by decide) rfl ?_
        refine jr.goto rfl rfl ?_
        refine jr.pick (ls := [_, _, _, _, _, _]) [1, 2, 3, 4, 0, 5] rfl rfl ?_
        exact ih (nM - 1) (by omega) M (i + 1) hC_M ht_M (by omega) (by omega) (by omega) (by omega) (by omega) g_V (by rw [hy0, ← hy1, pu_s (by omega), if_neg (by omega)]) hy1 (by omega) (by omega)
      · have sx61 : (1 : Int) ≤ v3 := by omega
        clear h61
        refine jr.aload_n rfl rfl ?_
        have k4 : kd (V).toNat = 13 := by rcases (show V = 16 ∨ V = 17 by omega) with h | h <;> (rw [h]; rfl)
        refine jr.getf (i := 0) (x := V) (v := .ref (V.toNat)) rfl rfl (by decide) rfl (by decide) rfl rfl g_V rfl ?_
        refine jr.iload rfl rfl ?_
        have k5 := kxe_13 k4 (i := i) (by omega) (by omega)
        refine jr.aald (c := (xe ((V.toNat)) i)) rfl (Nat.lt_trans (kx_13 k4).1 (by decide)) (kx_13 k4).2 (by decide) (by decide) rfl (by decide) (by omega) (by omega) k5.1 ?_
        obtain ⟨v6, e6⟩ : ∃ z_, M ((xe ((V.toNat)) i)) 13 = z_ := ⟨_, rfl⟩
        have b6 : (-2147483648) ≤ v6 ∧ v6 ≤ 2147483647 := by rw [← e6]; exact (CI.r hC_M k5.2 (by decide) 13)
        refine jr.getf (i := 13) (x := v6) (v := .int (Int32.ofInt (v6))) rfl rfl (Nat.lt_trans (kx_1 k5.2).1 (by decide)) (kx_1 k5.2).2 (by decide) rfl rfl e6 rfl ?_
        refine jr.iload_n rfl rfl ?_
        refine jr.icmp_ne rfl rfl (by omega) (by omega) (fun h75 => ?_) (fun h75 => ?_)
        · refine jr.iinc (ls' := [_, _, _, _, _, _]) rfl rfl (by decide) rfl ?_
          refine jr.goto rfl rfl ?_
          refine jr.pick (ls := [_, _, _, _, _, _]) [1, 2, 3, 4, 0, 5] rfl rfl ?_
          exact ih (nM - 1) (by omega) M (i + 1) hC_M ht_M (by omega) (by omega) (by omega) (by omega) (by omega) g_V (by rw [hy0, ← hy1, pu_s (by omega), if_neg (by omega)]) hy1 (by omega) (by omega)
        · refine jr.bipush rfl (by decide) ?_
          exact jr.ireturn rfl rfl rfl (q _ _ hC_M ht_M (by omega) (Or.inr (Or.inl ⟨by omega, by rw [hy0, ← hy1, pu_s (by omega), if_pos (by omega)], by omega, hy1⟩)))
theorem c_Flows_layPool_x {A : Nat → Option (Nat × (Nat → Int32))} {Q : Option Value → jm → Prop} {T : jm} {M : jm} (hC_M : CI M) (ht_M : FR W_c_Flows_layPool_x T M) {x : Int} (h_x : (-2147483648) ≤ x ∧ x ≤ 2147483647) {y : Int} (h_y : (-9223372036854775808) ≤ y ∧ y ≤ 9223372036854775807) {z : Int} (h_z : (-2147483648) ≤ z ∧ z ≤ 2147483647) {u : Int} (h_u : (-2147483648) ≤ u ∧ u ≤ 2147483647) {V : Int} (g_V : M 15 0 = V) (p0 : T = M) (q : ∀ (r : Int) (M' : jm), CI M' → FR W_c_Flows_layPool_x T M' → (-2147483648) ≤ r ∧ r ≤ 2147483647 → ((¬ ((0 ≤ x ∧ x ≤ 3) ∧ (1 ≤ u ∧ u ≤ 32) ∧ (1 ≤ z ∧ z + u ≤ 65536)) ∧ r = -3 ∧ M' = T) ∨ (((0 ≤ x ∧ x ≤ 3) ∧ (1 ≤ u ∧ u ≤ 32) ∧ (1 ≤ z ∧ z + u ≤ 65536)) ∧ pu T V.toNat x 24 0 = 1 ∧ r = -4 ∧ M' = T) ∨ (((0 ≤ x ∧ x ≤ 3) ∧ (1 ≤ u ∧ u ≤ 32) ∧ (1 ≤ z ∧ z + u ≤ 65536)) ∧ pu T V.toNat x 24 0 ≠ 1 ∧ r = u ∧ M' = ju (ju (ju T 26 x y) 27 x z) 28 x u)) → Q (some (.int (Int32.ofInt r))) M') : jc A 1 80 [.ref (15), .int (Int32.ofInt (x)), .long (Int64.ofInt (y)), .int (Int32.ofInt (z)), .int (Int32.ofInt (u))] M Q := by
  refine jc_of (m := xm_80) rfl (Nat.le_of_ble_eq_true rfl) rfl ?_
  have b_V : 16 ≤ V ∧ V ≤ 17 := by rw [← g_V]; exact (CI.r hC_M (show kd 15 = 9 from rfl) (by decide) 0)
  refine jr.iload_n rfl rfl ?_
  refine jr.if_lt rfl rfl (by omega) (fun h1 => ?_) (fun h1 => ?_)
  · refine jr.bipush rfl (by decide) ?_
    exact jr.ireturn rfl rfl rfl (q _ _ hC_M ht_M (by omega) (Or.inl ⟨by omega, by omega, p0.symm⟩))
  · refine jr.iload_n rfl rfl ?_
    refine jr.iconst rfl ?_
    refine jr.icmp_ge rfl rfl (by omega) (by omega) (fun h6 => ?_) (fun h6 => ?_)
    · refine jr.bipush rfl (by decide) ?_
      exact jr.ireturn rfl rfl rfl (q _ _ hC_M ht_M (by omega) (Or.inl ⟨by omega, by omega, p0.symm⟩))
    · refine jr.iload rfl rfl ?_
      refine jr.iconst rfl ?_
      refine jr.icmp_lt rfl rfl (by omega) (by omega) (fun h12 => ?_) (fun h12 => ?_)
      · refine jr.bipush rfl (by decide) ?_
        exact jr.ireturn rfl rfl rfl (q _ _ hC_M ht_M (by omega) (Or.inl ⟨by omega, by omega, p0.symm⟩))
      · refine jr.iload rfl rfl ?_
        refine jr.bipush rfl (by decide) ?_
        refine jr.icmp_gt rfl rfl (by omega) (by omega) (fun h19 => ?_) (fun h19 => ?_)
        · refine jr.bipush rfl (by decide) ?_
          exact jr.ireturn rfl rfl rfl (q _ _ hC_M ht_M (by omega) (Or.inl ⟨by omega, by omega, p0.symm⟩))
        · refine jr.iload rfl rfl ?_
          refine jr.iconst rfl ?_
          refine jr.icmp_lt rfl rfl (by omega) (by omega) (fun h25 => ?_) (fun h25 => ?_)
          · refine jr.bipush rfl (by decide) ?_
            exact jr.ireturn rfl rfl rfl (q _ _ hC_M ht_M (by omega) (Or.inl ⟨by omega, by omega, p0.symm⟩))
          · refine jr.iload rfl rfl ?_
            refine jr.ldc (x := 65536) rfl rfl (by decide) ?_
            refine jr.iload rfl rfl ?_
            refine jr.isub rfl ?_
            refine jr.icmp_le rfl rfl (by omega) (by omega) (fun h35 => ?_) (fun h35 => ?_)
            · refine jr.iconst rfl ?_
              refine jr.istore (ls' := [_, _, _, _, _, _]) rfl (by decide) rfl ?_
              refine jr.pick (ls := [_, _, _, _, _, _]) [2, 3, 4, 5, 0, 1] rfl rfl ?_
              exact c_Flows_layPool_x_L44  q 24 M 0 hC_M ht_M (by omega) (by omega) (by omega) (by omega) (by omega) g_V rfl p0.symm (by omega) (by omega)
            · refine jr.bipush rfl (by decide) ?_
              exact jr.ireturn rfl rfl rfl (q _ _ hC_M ht_M (by omega) (Or.inl ⟨by omega, by omega, p0.symm⟩))
theorem jl_and_32 (x : Int) : jl_and x 4294967295 = x % 4294967296 := by
  unfold jl_and
  have hN : (Int64.ofInt x &&& Int64.ofInt 4294967295).toBitVec.toNat = (x % 18446744073709551616).toNat % 2 ^ 32 := by
    rw [Int64.toBitVec_and, BitVec.toNat_and, jbl_tn, jbl_tn]
    exact Nat.and_two_pow_sub_one_eq_mod _ 32
  rw [jbl_ti, hN]
  split <;> omega
end
