section
noncomputable def W_c_Flows_readTable_x : List (Nat × Nat) := [(1, 0), (1, 1), (1, 2), (1, 5), (1, 6), (1, 12), (1, 13), (1, 15), (2, 1000), (3, 1000), (4, 1000), (5, 1000), (6, 1000), (7, 1000), (8, 1000), (9, 0), (9, 1)]
theorem c_Flows_readTable_x_L96 {A : Nat → Option (Nat × (Nat → Int32))} {Q : Option Value → jm → Prop} {T : jm} {V : Int} {W_ : Int} {y : Int} {z : Int} (q : ∀ (r : Int) (M' : jm), CI M' → FR W_c_Flows_readTable_x T M' → (-50) ≤ r ∧ r ≤ 34 → (RTQ T M' V W_ y z r) → Q (some (.int (Int32.ofInt r))) M') : ∀ (nM : Nat) (M : jm) (w : Int) (i : Int), CI M → FR W_c_Flows_readTable_x T M → 0 ≤ w ∧ w ≤ 24 → 0 ≤ i ∧ i ≤ 24 → M 15 0 = V → M 15 1 = W_ → (TBZ T M W_ y z w i) → (w ≤ i) → (w = (y + 47) / 48) → 24 - i ≤ nM → jr A 3 xm_84 96 [(4, .int (Int32.ofInt (w))), (5, .int (Int32.ofInt (i))), (0, .ref (15)), (1, .ref (1))] [] M Q := by
  intro nM
  induction nM using Nat.strongRecOn with
  | ind nM ih =>
    intro M w i hC_M ht_M h_w h_i g_V g_W_ hy0 hy1 hy2 hm
    have b_V : 16 ≤ V ∧ V ≤ 17 := by rw [← g_V]; exact (CI.r hC_M (show kd 15 = 9 from rfl) (by decide) 0)
    have b_W_ : 16 ≤ W_ ∧ W_ ≤ 17 := by rw [← g_W_]; exact (CI.r hC_M (show kd 15 = 9 from rfl) (by decide) 1)
    refine jr.iload rfl rfl ?_
    refine jr.bipush rfl (by decide) ?_
    refine jr.icmp_ge rfl rfl (by omega) (by omega) (fun h100 => ?_) (fun h100 => ?_)
    · refine jr.aload_n rfl rfl ?_
      have k1 : kd (V).toNat = 13 := by rcases (show V = 16 ∨ V = 17 by omega) with h | h <;> (rw [h]; rfl)
      refine jr.getf (i := 0) (x := V) (v := .ref (V.toNat)) rfl rfl (by decide) rfl (by decide) rfl rfl g_V rfl ?_
      refine jr.astore (ls' := [_, _, _, _]) rfl (by decide) rfl ?_
      refine jr.aload_n rfl rfl ?_
      refine jr.aload_n rfl rfl ?_
      have k2 : kd (W_).toNat = 13 := by rcases (show W_ = 16 ∨ W_ = 17 by omega) with h | h <;> (rw [h]; rfl)
      refine jr.getf (i := 1) (x := W_) (v := .ref (W_.toNat)) rfl rfl (by decide) rfl (by decide) rfl rfl g_W_ rfl ?_
      refine jr.putf (i := 0) (x := W_) rfl rfl (by decide) rfl (by decide) rfl rfl rfl rfl rfl ?_
      refine jr.aload_n rfl rfl ?_
      refine jr.aload rfl rfl ?_
      refine jr.putf (i := 1) (x := V) rfl rfl (by decide) rfl (by decide) rfl rfl rfl rfl rfl ?_
      refine jr.iload rfl rfl ?_
      exact jr.ireturn rfl rfl rfl (q _ _ (CI.u (CI.u hC_M (i := 0) (show kd 15 = 9 from rfl) (show (16 : Int) ≤ _ ∧ _ ≤ (17 : Int) from by omega) rfl) (i := 1) (show kd 15 = 9 from rfl) (show (16 : Int) ≤ _ ∧ _ ≤ (17 : Int) from by omega) rfl) (FR.o (FR.o ht_M (show kd 15 = 9 from rfl) rfl) (show kd 15 = 9 from rfl) rfl) (by omega) (by have h9 := hy0; rw [show i = 24 from by omega] at h9; exact TBZ.q h9 (by omega) (by omega) (by omega)))
    · refine jr.aload_n rfl rfl ?_
      have k3 : kd (W_).toNat = 13 := by rcases (show W_ = 16 ∨ W_ = 17 by omega) with h | h <;> (rw [h]; rfl)
      refine jr.getf (i := 1) (x := W_) (v := .ref (W_.toNat)) rfl rfl (by decide) rfl (by decide) rfl rfl g_W_ rfl ?_
      refine jr.iload rfl rfl ?_
      have k4 := kxe_13 k3 (i := i) (by omega) (by omega)
      refine jr.aald (c := (xe ((W_.toNat)) i)) rfl (Nat.lt_trans (kx_13 k3).1 (by decide)) (kx_13 k3).2 (by decide) (by decide) rfl (by decide) (by omega) (by omega) k4.1 ?_
      refine jr.iconst rfl ?_
      refine jr.putf (i := 0) (x := 0) rfl rfl (Nat.lt_trans (kx_1 k4.2).1 (by decide)) (kx_1 k4.2).2 (by decide) rfl rfl rfl rfl rfl ?_
      refine jr.iinc (ls' := [_, _, _, _]) rfl rfl (by decide) rfl ?_
      refine jr.goto rfl rfl ?_
      refine jr.pick (ls := [_, _, _, _]) [1, 0, 2, 3] rfl rfl ?_
      exact ih (nM - 1) (by omega) ((ju M ((xe ((W_.toNat)) i)) 0 0)) w (i + 1) (CI.u hC_M (i := 0) k4.2 (show (0 : Int) ≤ _ ∧ _ ≤ (1 : Int) from by omega) rfl) (FR.o ht_M k4.2 rfl) (by omega) (by omega) ((ju_c _ _ (kd_ne (by rw [(show kd 15 = 9 from rfl), k4.2]; decide))).trans g_V) ((ju_i _ _ (by decide)).trans g_W_) (TBZ.s hy0 (by omega) (by omega) (by omega)) (by omega) (by omega) (by omega)
end
