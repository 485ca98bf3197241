section
theorem c_PacketWall_export_x {A : Nat → Option (Nat × (Nat → Int32))} {Q : Option Value → jm → Prop} {T : jm} {M : jm} (hC_M : CI M) (ht_M : FR W_c_PacketWall_export_x T M) {Z : Int} (g_Z : M 0 8 = Z) {V : Int} (g_V : M 15 0 = V) (p0 : T = M) (p1 : 0 ≤ Z ∧ Z ≤ 2000000000) (q : ∀ (r : Int) (M' : jm), CI M' → FR W_c_PacketWall_export_x T M' → 0 ≤ r ∧ r ≤ 1152 → ((M' 1 = (exL (uC T V.toNat) (bC T V.toNat Z) (T 1) 24).1 ∧ r = (exL (uC T V.toNat) (bC T V.toNat Z) (T 1) 24).2) ∧ M' 0 1 = r ∧ (∀ k : Int, k ≠ 1 → M' 0 k = T 0 k) ∧ ∀ (b : Nat) (k : Int), b ≠ 0 → b ≠ 1 → M' b k = T b k) → Q (some (.int (Int32.ofInt r))) M') : jc A 5 37 [.ref (0)] M Q := by
  refine jc_of (m := xm_37) rfl (Nat.le_of_ble_eq_true rfl) rfl ?_
  have b_Z : (-2147483648) ≤ Z ∧ Z ≤ 2147483647 := by rw [← g_Z]; exact (CI.r hC_M (show kd 0 = 35 from rfl) (by decide) 8)
  have b_V : 16 ≤ V ∧ V ≤ 17 := by rw [← g_V]; exact (CI.r hC_M (show kd 15 = 9 from rfl) (by decide) 0)
  refine jr.aload_n rfl rfl ?_
  refine jr.aload_n rfl rfl ?_
  refine jr.getf (i := 9) (v := .ref 15) rfl rfl (by decide) rfl (by decide) rfl rfl rfl rfl ?_
  refine jr.aload_n rfl rfl ?_
  refine jr.getf (i := 0) (v := .ref 1) rfl rfl (by decide) rfl (by decide) rfl rfl rfl rfl ?_
  refine jr.aload_n rfl rfl ?_
  refine jr.getf (i := 8) (x := Z) (v := .int (Int32.ofInt (Z))) rfl rfl (by decide) rfl (by decide) rfl rfl g_Z rfl ?_
  refine jr_v rfl rfl (Or.inl rfl) rfl rfl (by decide) rfl ⟨rfl, Nat.le_of_ble_eq_true rfl, Nat.le_of_ble_eq_true rfl⟩ rfl (jc.deep (c_Flows_layTable_x hC_M (FR.rfl _ M) (by omega) g_V rfl (fun r1 M1 hC_M1 hf_M1 z1 w1_0 => ?_)) (by decide))
  have ht_M1 : FR W_c_PacketWall_export_x T M1 := FR.t ht_M hf_M1 (kw_sub rfl)
  refine jr.putf (i := 1) (x := r1) rfl rfl (by decide) rfl (by decide) rfl rfl rfl rfl rfl ?_
  refine jr.aload_n rfl rfl ?_
  refine jr.getf (i := 1) (x := r1) (v := .int (Int32.ofInt (r1))) rfl rfl (by decide) rfl (by decide) rfl rfl (ju_same _ _ _ _) rfl ?_
  exact jr.ireturn rfl rfl rfl (q _ _ (CI.u hC_M1 (i := 1) (show kd 0 = 35 from rfl) (show (0 : Int) ≤ _ ∧ _ ≤ (1600 : Int) from by omega) rfl) (FR.o ht_M1 (show kd 0 = 35 from rfl) rfl) (by omega) (by rw [p0]; exact ⟨⟨by rw [ju1_row (by decide)]; exact w1_0.1.1, w1_0.1.2⟩, ju_same _ _ _ _, fun k hk => by rw [ju_i _ _ hk]; exact w1_0.2 0 k (by decide), fun b k h0 h1 => by rw [ju_c _ _ h0]; exact w1_0.2 b k h1⟩))
end

