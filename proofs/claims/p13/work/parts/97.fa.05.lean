section
/-- the first port of a pool that is free, from i on -/
noncomputable def chf (M : jm) (V : Nat) (a p : Int) : Nat → Int → Int
  | 0, _ => -1
  | n + 1, i => if tk M V a (p + i) 24 0 = 0 then i else chf M V a p n (i + 1)
theorem chf_s {M : jm} {V : Nat} {a p L i : Int} (h : i < L) : chf M V a p (L - i).toNat i = if tk M V a (p + i) 24 0 = 0 then i else chf M V a p (L - (i + 1)).toNat (i + 1) := by
  obtain ⟨n, hn⟩ : ∃ n : Nat, L = i + 1 + n := ⟨(L - i - 1).toNat, by omega⟩
  subst hn
  rw [show (i + 1 + (n : Int) - i).toNat = n + 1 by omega, show (i + 1 + (n : Int) - (i + 1)).toNat = n by omega]
  rfl
theorem chf_e {M : jm} {V : Nat} {a p L i : Int} (h : L ≤ i) : chf M V a p (L - i).toNat i = -1 := by
  rw [show (L - i).toNat = 0 by omega]
  rfl
noncomputable def W_c_PacketWall_pool_x : List (Nat × Nat) := [(10, 1000), (11, 1000), (12, 1000)]
theorem c_PacketWall_pool_x {A : Nat → Option (Nat × (Nat → Int32))} {Q : Option Value → jm → Prop} {T : jm} {M : jm} (hC_M : CI M) (ht_M : FR W_c_PacketWall_pool_x T M) {x : Int} (h_x : (-2147483648) ≤ x ∧ x ≤ 2147483647) {y : Int} (h_y : (-2147483648) ≤ y ∧ y ≤ 2147483647) {z : Int} (h_z : (-2147483648) ≤ z ∧ z ≤ 2147483647) {u : Int} (h_u : (-2147483648) ≤ u ∧ u ≤ 2147483647) {V : Int} (g_V : M 15 0 = V) (p0 : T = M) (q : ∀ (r : Int) (M' : jm), CI M' → FR W_c_PacketWall_pool_x T M' → (-2147483648) ≤ r ∧ r ≤ 2147483647 → ((¬ ((0 ≤ x ∧ x ≤ 3) ∧ (1 ≤ u ∧ u ≤ 32) ∧ (1 ≤ z ∧ z + u ≤ 65536)) ∧ r = -3 ∧ M' = T) ∨ (((0 ≤ x ∧ x ≤ 3) ∧ (1 ≤ u ∧ u ≤ 32) ∧ (1 ≤ z ∧ z + u ≤ 65536)) ∧ pu T V.toNat x 24 0 = 1 ∧ r = -4 ∧ M' = T) ∨ (((0 ≤ x ∧ x ≤ 3) ∧ (1 ≤ u ∧ u ≤ 32) ∧ (1 ≤ z ∧ z + u ≤ 65536)) ∧ pu T V.toNat x 24 0 ≠ 1 ∧ r = u ∧ M' = ju (ju (ju T 26 x (y % 4294967296)) 27 x z) 28 x u)) → Q (some (.int (Int32.ofInt r))) M') : jc A 2 23 [.ref (0), .int (Int32.ofInt (x)), .int (Int32.ofInt (y)), .int (Int32.ofInt (z)), .int (Int32.ofInt (u))] M Q := by
  refine jc_of (m := xm_23) rfl (Nat.le_of_ble_eq_true rfl) rfl ?_
  have b_V : 16 ≤ V ∧ V ≤ 17 := by rw [← g_V]; exact (CI.r hC_M (show kd 15 = 9 from rfl) (by decide) 0)
  refine jr.aload_n rfl rfl ?_
  refine jr.getf (i := 9) (v := .ref 15) rfl rfl (by decide) rfl (by decide) rfl rfl rfl rfl ?_
  refine jr.iload_n rfl rfl ?_
  refine jr.iload_n rfl rfl ?_
  refine jr.i2l rfl (by omega) ?_
  refine jr.ldc2 (x := 4294967295) rfl rfl (by decide) ?_
  refine jr.land rfl ?_
  have b1 : jl_and y 4294967295 = y % 4294967296 ∧ 0 ≤ jl_and y 4294967295 ∧ jl_and y 4294967295 ≤ 4294967295 := ⟨jl_and_32 _, by rw [jl_and_32]; omega⟩
  generalize jl_and y 4294967295 = v1 at b1 ⊢
  refine jr.iload_n rfl rfl ?_
  refine jr.iload rfl rfl ?_
  refine jr_v rfl rfl (Or.inl rfl) rfl rfl (by decide) rfl ⟨rfl, Nat.le_of_ble_eq_true rfl, Nat.le_of_ble_eq_true rfl⟩ rfl (jc.deep (c_Flows_layPool_x hC_M (FR.rfl _ M) (by omega) (by omega) (by omega) (by omega) g_V rfl (fun r2 M2 hC_M2 hf_M2 z2 w2_0 => ?_)) (by decide))
  have ht_M2 : FR W_c_PacketWall_pool_x T M2 := FR.t ht_M hf_M2 (kw_sub rfl)
  exact jr.ireturn rfl rfl rfl (q _ _ hC_M2 ht_M2 (by omega) (by have h9 := w2_0; rw [p0]; first | (rw [b1.1] at h9; exact h9) | exact h9))
theorem c_Flows_isPortTaken_x_L3 {A : Nat → Option (Nat × (Nat → Int32))} {Q : Option Value → jm → Prop} {M : jm} (hC_M : CI M) {V : Int} {x : Int} {y : Int} (q : ∀ (r : Int), 0 ≤ r ∧ r ≤ 1 → (r = tk M V.toNat x y 24 0) → Q (some (.int (Int32.ofInt r))) M) : ∀ (nM : Nat) (i : Int), (-9223372036854775808) ≤ x ∧ x ≤ 9223372036854775807 → (-2147483648) ≤ y ∧ y ≤ 2147483647 → 0 ≤ i ∧ i ≤ 24 → M 15 0 = V → (tk M V.toNat x y 24 0 = tk M V.toNat x y (24 - i).toNat i) → 24 - i ≤ nM → jr A 0 xm_86 3 [(1, .long (Int64.ofInt (x))), (3, .int (Int32.ofInt (y))), (4, .int (Int32.ofInt (i))), (0, .ref (15))] [] M Q := by
  intro nM
  induction nM using Nat.strongRecOn with
  | ind nM ih =>
    intro i h_x h_y h_i g_V hy0 hm
    have b_V : 16 ≤ V ∧ V ≤ 17 := by rw [← g_V]; exact (CI.r hC_M (show kd 15 = 9 from rfl) (by decide) 0)
    refine jr.iload rfl rfl ?_
    refine jr.bipush rfl (by decide) ?_
    refine jr.icmp_ge rfl rfl (by omega) (by omega) (fun h7 => ?_) (fun h7 => ?_)
    · refine jr.iconst rfl ?_
      exact jr.ireturn rfl rfl rfl (q _ (by omega) (by rw [hy0, show (24 - i).toNat = 0 from by omega]; rfl))
    · refine jr.aload_n rfl rfl ?_
      have k1 : kd (V).toNat = 13 := by rcases (show V = 16 ∨ V = 17 by omega) with h | h <;> (rw [h]; rfl)
      refine jr.getf (i := 0) (x := V) (v := .ref (V.toNat)) rfl rfl (by decide) rfl (by decide) rfl rfl g_V rfl ?_
      refine jr.iload rfl rfl ?_
      have k2 := kxe_13 k1 (i := i) (by omega) (by omega)
      refine jr.aald (c := (xe ((V.toNat)) i)) rfl (Nat.lt_trans (kx_13 k1).1 (by decide)) (kx_13 k1).2 (by decide) (by decide) rfl (by decide) (by omega) (by omega) k2.1 ?_
      refine jr.astore (ls' := [_, _, _, _, _]) rfl (by decide) rfl ?_
      refine jr.aload rfl rfl ?_
      obtain ⟨v3, e3⟩ : ∃ z_, M ((xe ((V.toNat)) i)) 0 = z_ := ⟨_, rfl⟩
      have b3 : 0 ≤ v3 ∧ v3 ≤ 1 := by rw [← e3]; exact (CI.r hC_M k2.2 (by decide) 0)
      refine jr.getf (i := 0) (x := v3) (v := .int (Int32.ofInt (v3))) rfl rfl (Nat.lt_trans (kx_1 k2.2).1 (by decide)) (kx_1 k2.2).2 (by decide) rfl rfl e3 rfl ?_
      refine jr.if_eq rfl rfl (by omega) (fun h24 => ?_) (fun h24 => ?_)
      · refine jr.iinc (ls' := [_, _, _, _, _]) rfl rfl (by decide) rfl ?_
        refine jr.goto rfl rfl ?_
        refine jr.pick (ls := [_, _, _, _]) [2, 3, 0, 4] rfl rfl ?_
        exact ih (nM - 1) (by omega) (i + 1) (by omega) (by omega) (by omega) g_V (by rw [hy0, tk_s (by omega), if_neg (by omega)]) (by omega)
      · refine jr.aload rfl rfl ?_
        obtain ⟨v4, e4⟩ : ∃ z_, M ((xe ((V.toNat)) i)) 13 = z_ := ⟨_, rfl⟩
        have b4 : (-2147483648) ≤ v4 ∧ v4 ≤ 2147483647 := by rw [← e4]; exact (CI.r hC_M k2.2 (by decide) 13)
        refine jr.getf (i := 13) (x := v4) (v := .int (Int32.ofInt (v4))) rfl rfl (Nat.lt_trans (kx_1 k2.2).1 (by decide)) (kx_1 k2.2).2 (by decide) rfl rfl e4 rfl ?_
        refine jr.iconst rfl ?_
        refine jr.icmp_eq rfl rfl (by omega) (by omega) (fun h33 => ?_) (fun h33 => ?_)
        · refine jr.iinc (ls' := [_, _, _, _, _]) rfl rfl (by decide) rfl ?_
          refine jr.goto rfl rfl ?_
          refine jr.pick (ls := [_, _, _, _]) [2, 3, 0, 4] rfl rfl ?_
          exact ih (nM - 1) (by omega) (i + 1) (by omega) (by omega) (by omega) g_V (by rw [hy0, tk_s (by omega), if_neg (by omega)]) (by omega)
        · refine jr.aload rfl rfl ?_
          obtain ⟨v5, e5⟩ : ∃ z_, M ((xe ((V.toNat)) i)) 14 = z_ := ⟨_, rfl⟩
          have b5 : (-9223372036854775808) ≤ v5 ∧ v5 ≤ 9223372036854775807 := by rw [← e5]; exact (CI.r hC_M k2.2 (by decide) 14)
          refine jr.getf (i := 14) (x := v5) (v := .long (Int64.ofInt (v5))) rfl rfl (Nat.lt_trans (kx_1 k2.2).1 (by decide)) (kx_1 k2.2).2 (by decide) rfl rfl e5 rfl ?_
          refine jr.lload_n rfl rfl ?_
          refine jr.lcmp_ne rfl rfl rfl (by omega) (by omega) (fun h42 => ?_) (fun h42 => ?_)
          · refine jr.iinc (ls' := [_, _, _, _, _]) rfl rfl (by decide) rfl ?_
            refine jr.goto rfl rfl ?_
            refine jr.pick (ls := [_, _, _, _]) [2, 3, 0, 4] rfl rfl ?_
            exact ih (nM - 1) (by omega) (i + 1) (by omega) (by omega) (by omega) g_V (by rw [hy0, tk_s (by omega), if_neg (by omega)]) (by omega)
          · refine jr.aload rfl rfl ?_
            obtain ⟨v6, e6⟩ : ∃ z_, M ((xe ((V.toNat)) i)) 15 = z_ := ⟨_, rfl⟩
            have b6 : (-2147483648) ≤ v6 ∧ v6 ≤ 2147483647 := by rw [← e6]; exact (CI.r hC_M k2.2 (by decide) 15)
            refine jr.getf (i := 15) (x := v6) (v := .int (Int32.ofInt (v6))) rfl rfl (Nat.lt_trans (kx_1 k2.2).1 (by decide)) (kx_1 k2.2).2 (by decide) rfl rfl e6 rfl ?_
            refine jr.iload_n rfl rfl ?_
            refine jr.icmp_ne rfl rfl (by omega) (by omega) (fun h52 => ?_) (fun h52 => ?_)
            · refine jr.iinc (ls' := [_, _, _, _, _]) rfl rfl (by decide) rfl ?_
              refine jr.goto rfl rfl ?_
              refine jr.pick (ls := [_, _, _, _]) [2, 3, 0, 4] rfl rfl ?_
              exact ih (nM - 1) (by omega) (i + 1) (by omega) (by omega) (by omega) g_V (by rw [hy0, tk_s (by omega), if_neg (by omega)]) (by omega)
            · refine jr.iconst rfl ?_
              exact jr.ireturn rfl rfl rfl (q _ (by omega) (by rw [hy0, tk_s (by omega), if_pos (by omega)]))
theorem c_Flows_isPortTaken_x {A : Nat → Option (Nat × (Nat → Int32))} {Q : Option Value → jm → Prop} {M : jm} (hC_M : CI M) {x : Int} (h_x : (-9223372036854775808) ≤ x ∧ x ≤ 9223372036854775807) {y : Int} (h_y : (-2147483648) ≤ y ∧ y ≤ 2147483647) {V : Int} (g_V : M 15 0 = V) (q : ∀ (r : Int), 0 ≤ r ∧ r ≤ 1 → (r = tk M V.toNat x y 24 0) → Q (some (.int (Int32.ofInt r))) M) : jc A 1 86 [.ref (15), .long (Int64.ofInt (x)), .int (Int32.ofInt (y))] M Q := by
  refine jc_of (m := xm_86) rfl (Nat.le_of_ble_eq_true rfl) rfl ?_
  have b_V : 16 ≤ V ∧ V ≤ 17 := by rw [← g_V]; exact (CI.r hC_M (show kd 15 = 9 from rfl) (by decide) 0)
  refine jr.iconst rfl ?_
  refine jr.istore (ls' := [_, _, _, _]) rfl (by decide) rfl ?_
  refine jr.pick (ls := [_, _, _, _]) [2, 3, 0, 1] rfl rfl ?_
  exact c_Flows_isPortTaken_x_L3 hC_M  q 24 0 (by omega) (by omega) (by omega) g_V rfl (by omega)
noncomputable def W_c_Flows_changeBy_x : List (Nat × Nat) := [(1, 13), (1, 14), (1, 15)]
end
