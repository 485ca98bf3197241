section
theorem c_PacketWall_restore_x {A : Nat → Option (Nat × (Nat → Int32))} {Q : Option Value → jm → Prop} {T : jm} {M : jm} (hC_M : CI M) (ht_M : FR W_c_PacketWall_restore_x T M) {S : Int} (g_S : M 0 1 = S) {Z : Int} (g_Z : M 0 8 = Z) {V : Int} (g_V : M 15 0 = V) {W_ : Int} (g_W_ : M 15 1 = W_) (p0 : T = M) (p1 : 0 ≤ Z ∧ Z ≤ 2000000000) (p2 : V + W_ = 33) (q : ∀ (r : Int) (M' : jm), CI M' → FR W_c_PacketWall_restore_x T M' → (-50) ≤ r ∧ r ≤ 34 → (RTQ (ju T 0 1 0) M' V W_ S Z r) → (M' 0 1 = 0) → Q (some (.int (Int32.ofInt r))) M') : jc A 5 38 [.ref (0)] M Q := by
  refine jc_of (m := xm_38) rfl (Nat.le_of_ble_eq_true rfl) rfl ?_
  have b_S : 0 ≤ S ∧ S ≤ 1600 := by rw [← g_S]; exact (CI.r hC_M (show kd 0 = 35 from rfl) (by decide) 1)
  have b_Z : (-2147483648) ≤ Z ∧ Z ≤ 2147483647 := by rw [← g_Z]; exact (CI.r hC_M (show kd 0 = 35 from rfl) (by decide) 8)
  have b_V : 16 ≤ V ∧ V ≤ 17 := by rw [← g_V]; exact (CI.r hC_M (show kd 15 = 9 from rfl) (by decide) 0)
  have b_W_ : 16 ≤ W_ ∧ W_ ≤ 17 := by rw [← g_W_]; exact (CI.r hC_M (show kd 15 = 9 from rfl) (by decide) 1)
  refine jr.aload_n rfl rfl ?_
  refine jr.getf (i := 1) (x := S) (v := .int (Int32.ofInt (S))) rfl rfl (by decide) rfl (by decide) rfl rfl g_S rfl ?_
  refine jr.istore_n (ls' := [_, _]) rfl (by decide) rfl ?_
  refine jr.aload_n rfl rfl ?_
  refine jr.iconst rfl ?_
  refine jr.putf (i := 1) (x := 0) rfl rfl (by decide) rfl (by decide) rfl rfl rfl rfl rfl ?_
  refine jr.aload_n rfl rfl ?_
  refine jr.getf (i := 9) (v := .ref 15) rfl rfl (by decide) rfl (by decide) rfl rfl rfl rfl ?_
  refine jr.aload_n rfl rfl ?_
  refine jr.getf (i := 0) (v := .ref 1) rfl rfl (by decide) rfl (by decide) rfl rfl rfl rfl ?_
  refine jr.iload_n rfl rfl ?_
  refine jr.aload_n rfl rfl ?_
  refine jr.getf (i := 8) (x := Z) (v := .int (Int32.ofInt (Z))) rfl rfl (by decide) rfl (by decide) rfl rfl ((ju_i _ _ (by decide)).trans g_Z) rfl ?_
  refine jr_v rfl rfl (Or.inl rfl) rfl rfl (by decide) rfl ⟨rfl, Nat.le_of_ble_eq_true rfl, Nat.le_of_ble_eq_true rfl⟩ rfl (jc.deep (c_Flows_readTable_x (CI.u hC_M (i := 1) (show kd 0 = 35 from rfl) (show (0 : Int) ≤ _ ∧ _ ≤ (1600 : Int) from by omega) rfl) (FR.rfl _ ((ju M 0 1 0))) (by omega) (by omega) ((ju_c _ _ (by decide)).trans g_V) ((ju_c _ _ (by decide)).trans g_W_) rfl (by omega) (fun r1 M1 hC_M1 hf_M1 z1 w1_0 => ?_)) (by decide))
  have ht_M1 : FR W_c_PacketWall_restore_x T M1 := FR.t (FR.o ht_M (show kd 0 = 35 from rfl) rfl) hf_M1 (kw_sub rfl)
  have e2 : M1 0 1 = 0 := (hf_M1.g (show kd 0 = 35 from rfl) rfl).trans (ju_same _ _ _ _)
  exact jr.ireturn rfl rfl rfl (q _ _ hC_M1 ht_M1 (by omega) (by rw [p0]; exact w1_0) (by have hq0 : M1 0 1 = 0 := e2; omega))
end
section
/-! ===== the reference: restore ===== -/
theorem rLike_x {f : Int → Int} {a b : Int} : rLike f a b ↔ ((f a = f b ∧ f (a + 1) / 16 % 2 = f (b + 1) / 16 % 2) ∧ (((tw f (a + 2) = tw f (b + 2) ∧ tw f (a + 4) = tw f (b + 4)) ∧ jl_w (nbs f (a + 10) 8) = jl_w (nbs f (b + 10) 8) ∧ jl_w (nbs f (a + 18) 8) = jl_w (nbs f (b + 18) 8)) ∨ ((tw f (a + 2) = tw f (b + 4) ∧ tw f (a + 4) = tw f (b + 2)) ∧ jl_w (nbs f (a + 10) 8) = jl_w (nbs f (b + 18) 8) ∧ jl_w (nbs f (a + 18) 8) = jl_w (nbs f (b + 10) 8)))) := by
  unfold rLike tPt tAd
  rw [show a + 2 + 2 * 0 = a + 2 by omega, show b + 2 + 2 * 0 = b + 2 by omega, show a + 2 + 2 * 1 = a + 4 by omega, show b + 2 + 2 * 1 = b + 4 by omega, show a + 10 + 8 * 0 = a + 10 by omega, show b + 10 + 8 * 0 = b + 10 by omega, show a + 10 + 8 * 1 = a + 18 by omega, show b + 10 + 8 * 1 = b + 18 by omega]
theorem adOK_x {f : Int → Int} {y : Int} : adOK f y ↔ (f (y + 1) / 16 % 2 = 1 ∨ ((0 ≤ jl_w (nbs f (y + 10) 8) ∧ jl_w (nbs f (y + 10) 8) ≤ 4294967295) ∧ (0 ≤ jl_w (nbs f (y + 18) 8) ∧ jl_w (nbs f (y + 18) 8) ≤ 4294967295))) := by
  unfold adOK tAd
  rw [show y + 10 + 8 * 0 = y + 10 by omega, show y + 10 + 8 * 1 = y + 18 by omega]
noncomputable def alg (f : Int → Int) (a b : Int) : Prop := (tw f (a + 2) = tw f (b + 2) ∧ tw f (a + 4) = tw f (b + 4)) ∧ jl_w (nbs f (a + 10) 8) = jl_w (nbs f (b + 10) 8) ∧ jl_w (nbs f (a + 18) 8) = jl_w (nbs f (b + 18) 8)
end
