section
theorem c_Flow_readRow_x_L222 {A : Nat → Option (Nat × (Nat → Int32))} {Q : Option Value → jm → Prop} {T : jm} {t : Nat} (k_t : kd t = 1) {y : Int} {z : Int} (q : ∀ (r : Int) (M' : jm), CI M' → FR W_c_Flow_readRow_x T M' → 0 ≤ r ∧ r ≤ 1 → (RRD M' t (T 1) y z ∧ fr7 T M' t ∧ ((r = 1 ∧ rGood (T 1) y) ∨ (r = 0 ∧ ¬ rGood (T 1) y))) → Q (some (.int (Int32.ofInt r))) M') {kM : Nat} (hK : ∀ (M : jm) (a_ : Int) (i : Int), CI M → FR W_c_Flow_readRow_x T M → 0 ≤ y ∧ y ≤ 1552 → 0 ≤ z ∧ z ≤ 2000000000 → 0 ≤ a_ ∧ a_ ≤ 255 → 0 ≤ i ∧ i ≤ 2 → (RWS T M t (T 1) y i) → (a_ = T 1 (y + 1)) → 2 - i ≤ kM → jr A 2 xm_65 66 [(2, .int (Int32.ofInt (y))), (3, .int (Int32.ofInt (z))), (4, .int (Int32.ofInt (a_))), (5, .int (Int32.ofInt (i))), (0, .ref (t)), (1, .ref (1))] [] M Q) : ∀ (nM : Nat) (M : jm) (a_ : Int) (i : Int), CI M → FR W_c_Flow_readRow_x T M → 0 ≤ y ∧ y ≤ 1552 → 0 ≤ z ∧ z ≤ 2000000000 → 0 ≤ a_ ∧ a_ ≤ 255 → 0 ≤ i ∧ i ≤ 1 → (RWD T M t (T 1) y i) → (a_ = T 1 (y + 1)) → (2 - (i + 1) ≤ kM) → 0 ≤ nM → jr A 2 xm_65 222 [(2, .int (Int32.ofInt (y))), (3, .int (Int32.ofInt (z))), (4, .int (Int32.ofInt (a_))), (5, .int (Int32.ofInt (i))), (0, .ref (t)), (1, .ref (1))] [] M Q := by
  intro nM
  induction nM using Nat.strongRecOn with
  | ind nM ih =>
    intro M a_ i hC_M ht_M h_y h_z h_a_ h_i hy0 hy1 hy2 hm
    refine jr.aload_n rfl rfl ?_
    have k1 := kf_1_11 k_t
    refine jr.getf (i := 11) (v := .ref (t + 7)) rfl rfl (Nat.lt_trans (kx_1 k_t).1 (by decide)) (kx_1 k_t).2 (by decide) rfl rfl rfl (jval_ref rfl k1.1) ?_
    refine jr.iload rfl rfl ?_
    refine jr.iload rfl rfl ?_
    refine jr.if_ne rfl rfl (by omega) (fun h230 => ?_) (fun h230 => ?_)
    · have sx230 : (1 : Int) ≤ i := by omega
      clear h230
      refine jr.lconst (x := 0) rfl (by decide) ?_
      refine jr.last (i := i) (x := 0) rfl (Nat.lt_trans (kx_3 k1.2).1 (by decide)) (kx_3 k1.2).2 (by decide) (by omega) (by omega) ?_
      refine jr.iinc (ls' := [_, _, _, _, _, _]) rfl rfl (by decide) rfl ?_
      refine jr.goto rfl rfl ?_
      refine jr.pick (ls := [_, _, _, _, _, _]) [1, 2, 3, 0, 4, 5] rfl rfl ?_
      exact hK ((ju M ((t + 7)) i 0)) a_ (i + 1) (CI.u hC_M (i := i) k1.2 (show (-9223372036854775808 : Int) ≤ _ ∧ _ ≤ (9223372036854775807 : Int) from by omega) rfl) (FR.o ht_M k1.2 rfl) (by omega) (by omega) (by omega) (by omega) (RWD.e hy0 (k1_18 k_t) (by unfold tBy; rw [if_neg (by omega)])) hy1 (by omega)
    · refine jr.aload_n rfl rfl ?_
      refine jr.iload_n rfl rfl ?_
      refine jr.bipush rfl (by decide) ?_
      refine jr.iadd rfl ?_
      refine jr.iconst rfl ?_
      refine jr_s rfl rfl (Or.inr rfl) ⟨Nat.le_of_ble_eq_true rfl, Nat.le_of_ble_eq_true rfl⟩ rfl rfl (jc.deep (c_PacketWall_numberAt_tx hC_M (by omega) (by omega) (by omega) (fun r2 z2 w2_0 => ?_)) (by decide))
      have hv2 := tp4 (f := T 1) (r := r2) (fun i => by rw [← hy0.1.1.1.1]; exact tpb hC_M i) (by have h9 := w2_0; rw [(show M 1 = T 1 from (rfl).trans hy0.1.1.1.1)] at h9; exact h9)
      refine jr.goto rfl rfl ?_
      refine jr.last (i := i) (x := r2) rfl (Nat.lt_trans (kx_3 k1.2).1 (by decide)) (kx_3 k1.2).2 (by decide) (by omega) (by omega) ?_
      refine jr.iinc (ls' := [_, _, _, _, _, _]) rfl rfl (by decide) rfl ?_
      refine jr.goto rfl rfl ?_
      refine jr.pick (ls := [_, _, _, _, _, _]) [1, 2, 3, 0, 4, 5] rfl rfl ?_
      exact hK ((ju M ((t + 7)) i r2)) a_ (i + 1) (CI.u hC_M (i := i) k1.2 (show (-9223372036854775808 : Int) ≤ _ ∧ _ ≤ (9223372036854775807 : Int) from by omega) rfl) (FR.o ht_M k1.2 rfl) (by omega) (by omega) (by omega) (by omega) (RWD.e hy0 (k1_18 k_t) (by unfold tBy; rw [if_pos (by omega)]; exact hv2.1)) hy1 (by omega)
theorem c_Flow_readRow_x_L197 {A : Nat → Option (Nat × (Nat → Int32))} {Q : Option Value → jm → Prop} {T : jm} {t : Nat} (k_t : kd t = 1) {y : Int} {z : Int} (q : ∀ (r : Int) (M' : jm), CI M' → FR W_c_Flow_readRow_x T M' → 0 ≤ r ∧ r ≤ 1 → (RRD M' t (T 1) y z ∧ fr7 T M' t ∧ ((r = 1 ∧ rGood (T 1) y) ∨ (r = 0 ∧ ¬ rGood (T 1) y))) → Q (some (.int (Int32.ofInt r))) M') {kM : Nat} (hK : ∀ (M : jm) (a_ : Int) (i : Int), CI M → FR W_c_Flow_readRow_x T M → 0 ≤ y ∧ y ≤ 1552 → 0 ≤ z ∧ z ≤ 2000000000 → 0 ≤ a_ ∧ a_ ≤ 255 → 0 ≤ i ∧ i ≤ 2 → (RWS T M t (T 1) y i) → (a_ = T 1 (y + 1)) → 2 - i ≤ kM → jr A 2 xm_65 66 [(2, .int (Int32.ofInt (y))), (3, .int (Int32.ofInt (z))), (4, .int (Int32.ofInt (a_))), (5, .int (Int32.ofInt (i))), (0, .ref (t)), (1, .ref (1))] [] M Q) : ∀ (nM : Nat) (M : jm) (a_ : Int) (i : Int), CI M → FR W_c_Flow_readRow_x T M → 0 ≤ y ∧ y ≤ 1552 → 0 ≤ z ∧ z ≤ 2000000000 → 0 ≤ a_ ∧ a_ ≤ 255 → 0 ≤ i ∧ i ≤ 1 → (RWC T M t (T 1) y i) → (a_ = T 1 (y + 1)) → (2 - (i + 1) ≤ kM) → 0 ≤ nM → jr A 2 xm_65 197 [(2, .int (Int32.ofInt (y))), (3, .int (Int32.ofInt (z))), (4, .int (Int32.ofInt (a_))), (5, .int (Int32.ofInt (i))), (0, .ref (t)), (1, .ref (1))] [] M Q := by
  intro nM
  induction nM using Nat.strongRecOn with
  | ind nM ih =>
    intro M a_ i hC_M ht_M h_y h_z h_a_ h_i hy0 hy1 hy2 hm
    refine jr.aload_n rfl rfl ?_
    have k1 := kf_1_10 k_t
    refine jr.getf (i := 10) (v := .ref (t + 6)) rfl rfl (Nat.lt_trans (kx_1 k_t).1 (by decide)) (kx_1 k_t).2 (by decide) rfl rfl rfl (jval_ref rfl k1.1) ?_
    refine jr.iload rfl rfl ?_
    refine jr.iload rfl rfl ?_
    refine jr.if_ne rfl rfl (by omega) (fun h205 => ?_) (fun h205 => ?_)
    · have sx205 : (1 : Int) ≤ i := by omega
      clear h205
      refine jr.lconst (x := 0) rfl (by decide) ?_
      refine jr.last (i := i) (x := 0) rfl (Nat.lt_trans (kx_6 k1.2).1 (by decide)) (kx_6 k1.2).2 (by decide) (by omega) (by omega) ?_
      refine jr.pick (ls := [_, _, _, _, _, _]) [0, 1, 2, 3, 4, 5] rfl rfl ?_
      exact c_Flow_readRow_x_L222 k_t q hK 0 ((ju M ((t + 6)) i 0)) a_ i (CI.u hC_M (i := i) k1.2 (show (-9223372036854775808 : Int) ≤ _ ∧ _ ≤ (9223372036854775807 : Int) from by omega) rfl) (FR.o ht_M k1.2 rfl) (by omega) (by omega) (by omega) (by omega) (RWC.d hy0 (k1_18 k_t) (by unfold tPk; rw [if_neg (by omega)])) hy1 (by omega) (by omega)
    · refine jr.aload_n rfl rfl ?_
      refine jr.iload_n rfl rfl ?_
      refine jr.bipush rfl (by decide) ?_
      refine jr.iadd rfl ?_
      refine jr.iconst rfl ?_
      refine jr_s rfl rfl (Or.inr rfl) ⟨Nat.le_of_ble_eq_true rfl, Nat.le_of_ble_eq_true rfl⟩ rfl rfl (jc.deep (c_PacketWall_numberAt_tx hC_M (by omega) (by omega) (by omega) (fun r2 z2 w2_0 => ?_)) (by decide))
      have hv2 := tp4 (f := T 1) (r := r2) (fun i => by rw [← hy0.1.1.1]; exact tpb hC_M i) (by have h9 := w2_0; rw [(show M 1 = T 1 from (rfl).trans hy0.1.1.1)] at h9; exact h9)
      refine jr.goto rfl rfl ?_
      refine jr.last (i := i) (x := r2) rfl (Nat.lt_trans (kx_6 k1.2).1 (by decide)) (kx_6 k1.2).2 (by decide) (by omega) (by omega) ?_
      refine jr.pick (ls := [_, _, _, _, _, _]) [0, 1, 2, 3, 4, 5] rfl rfl ?_
      exact c_Flow_readRow_x_L222 k_t q hK 0 ((ju M ((t + 6)) i r2)) a_ i (CI.u hC_M (i := i) k1.2 (show (-9223372036854775808 : Int) ≤ _ ∧ _ ≤ (9223372036854775807 : Int) from by omega) rfl) (FR.o ht_M k1.2 rfl) (by omega) (by omega) (by omega) (by omega) (RWC.d hy0 (k1_18 k_t) (by unfold tPk; rw [if_pos (by omega)]; exact hv2.1)) hy1 (by omega) (by omega)
end
