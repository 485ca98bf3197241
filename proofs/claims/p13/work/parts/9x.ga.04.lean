section
theorem c_Flow_readRow_x_L66 {A : Nat → Option (Nat × (Nat → Int32))} {Q : Option Value → jm → Prop} {T : jm} {t : Nat} (k_t : kd t = 1) {y : Int} {z : Int} (q : ∀ (r : Int) (M' : jm), CI M' → FR W_c_Flow_readRow_x T M' → 0 ≤ r ∧ r ≤ 1 → (RRD M' t (T 1) y z ∧ fr7 T M' t ∧ ((r = 1 ∧ rGood (T 1) y) ∨ (r = 0 ∧ ¬ rGood (T 1) y))) → Q (some (.int (Int32.ofInt r))) M') : ∀ (nM : Nat) (M : jm) (a_ : Int) (i : Int), CI M → FR W_c_Flow_readRow_x T M → 0 ≤ y ∧ y ≤ 1552 → 0 ≤ z ∧ z ≤ 2000000000 → 0 ≤ a_ ∧ a_ ≤ 255 → 0 ≤ i ∧ i ≤ 2 → (RWS T M t (T 1) y i) → (a_ = T 1 (y + 1)) → 2 - i ≤ nM → jr A 2 xm_65 66 [(2, .int (Int32.ofInt (y))), (3, .int (Int32.ofInt (z))), (4, .int (Int32.ofInt (a_))), (5, .int (Int32.ofInt (i))), (0, .ref (t)), (1, .ref (1))] [] M Q := by
  intro nM
  induction nM using Nat.strongRecOn with
  | ind nM ih =>
    intro M a_ i hC_M ht_M h_y h_z h_a_ h_i hy0 hy1 hm
    refine jr.iload rfl rfl ?_
    refine jr.iconst rfl ?_
    refine jr.icmp_ge rfl rfl (by omega) (by omega) (fun h69 => ?_) (fun h69 => ?_)
    · refine jr.aload_n rfl rfl ?_
      refine jr.iload rfl rfl ?_
      refine jr.sipush rfl (by decide) ?_
      refine jr.iand rfl ?_
      have b1 : j_and a_ 128 = a_ / 128 % 2 * 128 ∧ 0 ≤ j_and a_ 128 ∧ j_and a_ 128 ≤ 128 := ⟨(jbx (by omega)).2.2, by rw [(jbx (by omega)).2.2]; omega⟩
      generalize j_and a_ 128 = v1 at b1 ⊢
      refine jr.if_eq rfl rfl (by omega) (fun h260 => ?_) (fun h260 => ?_)
      · refine jr.iconst rfl ?_
        refine jr.putf (i := 12) (x := 0) rfl rfl (Nat.lt_trans (kx_1 k_t).1 (by decide)) (kx_1 k_t).2 (by decide) rfl rfl rfl rfl rfl ?_
        refine jr.pick (ls := [_, _, _, _]) [0, 1, 4, 5] rfl rfl ?_
        exact c_Flow_readRow_x_L271 k_t q 0 ((ju M t 12 0))  (CI.u hC_M (i := 12) k_t (show (0 : Int) ≤ _ ∧ _ ≤ (1 : Int) from by omega) rfl) (FR.o ht_M k_t rfl) (by omega) (by omega) (RWS.e (by have h9 := hy0; rw [show i = 2 from by omega] at h9; exact h9) (k1_18 k_t) (by rw [← hy1]; have h9 := b1.1; omega)) (by omega)
      · have sx260 : (1 : Int) ≤ v1 := by omega
        clear h260
        refine jr.iconst rfl ?_
        refine jr.goto rfl rfl ?_
        refine jr.putf (i := 12) (x := 1) rfl rfl (Nat.lt_trans (kx_1 k_t).1 (by decide)) (kx_1 k_t).2 (by decide) rfl rfl rfl rfl rfl ?_
        refine jr.pick (ls := [_, _, _, _]) [0, 1, 4, 5] rfl rfl ?_
        exact c_Flow_readRow_x_L271 k_t q 0 ((ju M t 12 1))  (CI.u hC_M (i := 12) k_t (show (0 : Int) ≤ _ ∧ _ ≤ (1 : Int) from by omega) rfl) (FR.o ht_M k_t rfl) (by omega) (by omega) (RWS.e (by have h9 := hy0; rw [show i = 2 from by omega] at h9; exact h9) (k1_18 k_t) (by rw [← hy1]; have h9 := b1.1; omega)) (by omega)
    · refine jr.aload_n rfl rfl ?_
      have k2 := kf_1_4 k_t
      refine jr.getf (i := 4) (v := .ref (t + 2)) rfl rfl (Nat.lt_trans (kx_1 k_t).1 (by decide)) (kx_1 k_t).2 (by decide) rfl rfl rfl (jval_ref rfl k2.1) ?_
      refine jr.iload rfl rfl ?_
      refine jr.aload_n rfl rfl ?_
      refine jr.iload_n rfl rfl ?_
      refine jr.iconst rfl ?_
      refine jr.iadd rfl ?_
      refine jr.iconst rfl ?_
      refine jr.iload rfl rfl ?_
      refine jr.imul rfl ?_
      refine jr.iadd rfl ?_
      refine jr.iconst rfl ?_
      refine jr_s rfl rfl (Or.inr rfl) ⟨Nat.le_of_ble_eq_true rfl, Nat.le_of_ble_eq_true rfl⟩ rfl rfl (jc.deep (c_PacketWall_numberAt_tx hC_M (by omega) (by omega) (by omega) (fun r3 z3 w3_0 => ?_)) (by decide))
      have hv3 := tp2 (f := T 1) (r := r3) (fun i => by rw [← hy0.1]; exact tpb hC_M i) (by have h9 := w3_0; rw [(show M 1 = T 1 from (rfl).trans hy0.1)] at h9; exact h9)
      refine jr.l2i rfl ?_
      refine jr.iast (i := i) (x := r3) rfl (Nat.lt_trans (kx_7 k2.2).1 (by decide)) (kx_7 k2.2).2 (by decide) (by omega) (by omega) ?_
      refine jr.aload_n rfl rfl ?_
      have k4 := kf_1_9 k_t
      refine jr.getf (i := 9) (v := .ref (t + 5)) rfl rfl (Nat.lt_trans (kx_1 k_t).1 (by decide)) (kx_1 k_t).2 (by decide) rfl rfl rfl (jval_ref rfl k4.1) ?_
      refine jr.iload rfl rfl ?_
      refine jr.aload_n rfl rfl ?_
      refine jr.iload_n rfl rfl ?_
      refine jr.bipush rfl (by decide) ?_
      refine jr.iadd rfl ?_
      refine jr.iconst rfl ?_
      refine jr.iload rfl rfl ?_
      refine jr.imul rfl ?_
      refine jr.iadd rfl ?_
      refine jr.iconst rfl ?_
      refine jr_s rfl rfl (Or.inr rfl) ⟨Nat.le_of_ble_eq_true rfl, Nat.le_of_ble_eq_true rfl⟩ rfl rfl (jc.deep (c_PacketWall_numberAt_tx (CI.u hC_M (i := i) k2.2 (show (-2147483648 : Int) ≤ _ ∧ _ ≤ (2147483647 : Int) from by omega) rfl) (by omega) (by omega) (by omega) (fun r5 z5 w5_0 => ?_)) (by decide))
      have hv5 := tp2 (f := T 1) (r := r5) (fun i => by rw [← hy0.1]; exact tpb hC_M i) (by have h9 := w5_0; rw [(show ((ju M ((t + 2)) i r3)) 1 = T 1 from (((ju1_row (kd_ne (by rw [k2.2]; decide))).trans rfl)).trans hy0.1)] at h9; exact h9)
      refine jr.l2i rfl ?_
      refine jr.iast (i := i) (x := r5) rfl (Nat.lt_trans (kx_8 k4.2).1 (by decide)) (kx_8 k4.2).2 (by decide) (by omega) (by omega) ?_
      refine jr.aload_n rfl rfl ?_
      have k6 := kf_1_3 k_t
      refine jr.getf (i := 3) (v := .ref (t + 1)) rfl rfl (Nat.lt_trans (kx_1 k_t).1 (by decide)) (kx_1 k_t).2 (by decide) rfl rfl rfl (jval_ref rfl k6.1) ?_
      refine jr.iload rfl rfl ?_
      refine jr.aload_n rfl rfl ?_
      refine jr.iload_n rfl rfl ?_
      refine jr.bipush rfl (by decide) ?_
      refine jr.iadd rfl ?_
      refine jr.bipush rfl (by decide) ?_
      refine jr.iload rfl rfl ?_
      refine jr.imul rfl ?_
      refine jr.iadd rfl ?_
      refine jr.bipush rfl (by decide) ?_
      refine jr_s rfl rfl (Or.inr rfl) ⟨Nat.le_of_ble_eq_true rfl, Nat.le_of_ble_eq_true rfl⟩ rfl rfl (jc.deep (c_PacketWall_numberAt_tx (CI.u (CI.u hC_M (i := i) k2.2 (show (-2147483648 : Int) ≤ _ ∧ _ ≤ (2147483647 : Int) from by omega) rfl) (i := i) k4.2 (show (-2147483648 : Int) ≤ _ ∧ _ ≤ (2147483647 : Int) from by omega) rfl) (by omega) (by omega) (by omega) (fun r7 z7 w7_0 => ?_)) (by decide))
      have hv7 : r7 = jl_w (nbs (T 1) _ (8 : Int).toNat) := (by have h9 := w7_0; rw [(show ((ju (ju M ((t + 2)) i r3) ((t + 5)) i r5)) 1 = T 1 from (((ju1_row (kd_ne (by rw [k4.2]; decide))).trans ((ju1_row (kd_ne (by rw [k2.2]; decide))).trans rfl))).trans hy0.1)] at h9; exact h9)
      refine jr.last (i := i) (x := r7) rfl (Nat.lt_trans (kx_2 k6.2).1 (by decide)) (kx_2 k6.2).2 (by decide) (by omega) (by omega) ?_
      refine jr.aload_n rfl rfl ?_
      have k8 := kf_1_8 k_t
      refine jr.getf (i := 8) (v := .ref (t + 4)) rfl rfl (Nat.lt_trans (kx_1 k_t).1 (by decide)) (kx_1 k_t).2 (by decide) rfl rfl rfl (jval_ref rfl k8.1) ?_
      refine jr.iload rfl rfl ?_
      refine jr.iload rfl rfl ?_
      refine jr.bipush rfl (by decide) ?_
      refine jr.iload rfl rfl ?_
      refine jr.ishl rfl ?_
      refine jr.iand rfl ?_
      have b9 : j_and a_ (j_shl 32 i) = (if i = 0 then a_ / 32 % 2 * 32 else a_ / 64 % 2 * 64) ∧ 0 ≤ j_and a_ (j_shl 32 i) ∧ j_and a_ (j_shl 32 i) ≤ 64 := hl_and (by omega) (by omega)
      generalize j_and a_ (j_shl 32 i) = v9 at b9 ⊢
      refine jr.if_eq rfl rfl (by omega) (fun h152 => ?_) (fun h152 => ?_)
      · refine jr.iconst rfl ?_
        refine jr.zast (i := i) (x := 0) rfl (Nat.lt_trans (kx_4 k8.2).1 (by decide)) (kx_4 k8.2).2 (by decide) (by omega) (by omega) (j_zn (by omega)) ?_
        refine jr.pick (ls := [_, _, _, _, _, _]) [0, 1, 2, 3, 4, 5] rfl rfl ?_
        exact c_Flow_readRow_x_L161 k_t q (ih (nM - 1) (by omega)) 0 ((ju (ju (ju (ju M ((t + 2)) i r3) ((t + 5)) i r5) ((t + 1)) i r7) ((t + 4)) i 0)) a_ i (CI.u (CI.u (CI.u (CI.u hC_M (i := i) k2.2 (show (-2147483648 : Int) ≤ _ ∧ _ ≤ (2147483647 : Int) from by omega) rfl) (i := i) k4.2 (show (-2147483648 : Int) ≤ _ ∧ _ ≤ (2147483647 : Int) from by omega) rfl) (i := i) k6.2 (show (-9223372036854775808 : Int) ≤ _ ∧ _ ≤ (9223372036854775807 : Int) from by omega) rfl) (i := i) k8.2 (show (0 : Int) ≤ _ ∧ _ ≤ (1 : Int) from by omega) rfl) (FR.o (FR.o (FR.o (FR.o ht_M k2.2 rfl) k4.2 rfl) k6.2 rfl) k8.2 rfl) (by omega) (by omega) (by omega) (by omega) (RWS.b hy0 (k1_18 k_t) hv3.1 hv5.1 hv7 (by unfold tHl; rw [← hy1]; have h9 := b9.1; split at h9 <;> first | (rw [if_pos (by assumption)]; omega) | (rw [if_neg (by assumption)]; omega))) hy1 (by omega) (by omega)
      · have sx152 : (1 : Int) ≤ v9 := by omega
        clear h152
        refine jr.iconst rfl ?_
        refine jr.goto rfl rfl ?_
        refine jr.zast (i := i) (x := 1) rfl (Nat.lt_trans (kx_4 k8.2).1 (by decide)) (kx_4 k8.2).2 (by decide) (by omega) (by omega) (j_zn (by omega)) ?_
        refine jr.pick (ls := [_, _, _, _, _, _]) [0, 1, 2, 3, 4, 5] rfl rfl ?_
        exact c_Flow_readRow_x_L161 k_t q (ih (nM - 1) (by omega)) 0 ((ju (ju (ju (ju M ((t + 2)) i r3) ((t + 5)) i r5) ((t + 1)) i r7) ((t + 4)) i 1)) a_ i (CI.u (CI.u (CI.u (CI.u hC_M (i := i) k2.2 (show (-2147483648 : Int) ≤ _ ∧ _ ≤ (2147483647 : Int) from by omega) rfl) (i := i) k4.2 (show (-2147483648 : Int) ≤ _ ∧ _ ≤ (2147483647 : Int) from by omega) rfl) (i := i) k6.2 (show (-9223372036854775808 : Int) ≤ _ ∧ _ ≤ (9223372036854775807 : Int) from by omega) rfl) (i := i) k8.2 (show (0 : Int) ≤ _ ∧ _ ≤ (1 : Int) from by omega) rfl) (FR.o (FR.o (FR.o (FR.o ht_M k2.2 rfl) k4.2 rfl) k6.2 rfl) k8.2 rfl) (by omega) (by omega) (by omega) (by omega) (RWS.b hy0 (k1_18 k_t) hv3.1 hv5.1 hv7 (by unfold tHl; rw [← hy1]; have h9 := b9.1; split at h9 <;> first | (rw [if_pos (by assumption)]; omega) | (rw [if_neg (by assumption)]; omega))) hy1 (by omega) (by omega)
end
