section
theorem c_Flow_readRow_x_L161 {A : Nat → Option (Nat × (Nat → Int32))} {Q : Option Value → jm → Prop} {T : jm} {t : Nat} (k_t : kd t = 1) {y : Int} {z : Int} (q : ∀ (r : Int) (M' : jm), CI M' → FR W_c_Flow_readRow_x T M' → 0 ≤ r ∧ r ≤ 1 → (RRD M' t (T 1) y z ∧ fr7 T M' t ∧ ((r = 1 ∧ rGood (T 1) y) ∨ (r = 0 ∧ ¬ rGood (T 1) y))) → Q (some (.int (Int32.ofInt r))) M') {kM : Nat} (hK : ∀ (M : jm) (a_ : Int) (i : Int), CI M → FR W_c_Flow_readRow_x T M → 0 ≤ y ∧ y ≤ 1552 → 0 ≤ z ∧ z ≤ 2000000000 → 0 ≤ a_ ∧ a_ ≤ 255 → 0 ≤ i ∧ i ≤ 2 → (RWS T M t (T 1) y i) → (a_ = T 1 (y + 1)) → 2 - i ≤ kM → jr A 2 xm_65 66 [(2, .int (Int32.ofInt (y))), (3, .int (Int32.ofInt (z))), (4, .int (Int32.ofInt (a_))), (5, .int (Int32.ofInt (i))), (0, .ref (t)), (1, .ref (1))] [] M Q) : ∀ (nM : Nat) (M : jm) (a_ : Int) (i : Int), CI M → FR W_c_Flow_readRow_x T M → 0 ≤ y ∧ y ≤ 1552 → 0 ≤ z ∧ z ≤ 2000000000 → 0 ≤ a_ ∧ a_ ≤ 255 → 0 ≤ i ∧ i ≤ 1 → (RWB T M t (T 1) y i) → (a_ = T 1 (y + 1)) → (2 - (i + 1) ≤ kM) → 0 ≤ nM → jr A 2 xm_65 161 [(2, .int (Int32.ofInt (y))), (3, .int (Int32.ofInt (z))), (4, .int (Int32.ofInt (a_))), (5, .int (Int32.ofInt (i))), (0, .ref (t)), (1, .ref (1))] [] M Q := by
  intro nM
  induction nM using Nat.strongRecOn with
  | ind nM ih =>
    intro M a_ i hC_M ht_M h_y h_z h_a_ h_i hy0 hy1 hy2 hm
    refine jr.aload_n rfl rfl ?_
    have k1 := kf_1_7 k_t
    refine jr.getf (i := 7) (v := .ref (t + 3)) rfl rfl (Nat.lt_trans (kx_1 k_t).1 (by decide)) (kx_1 k_t).2 (by decide) rfl rfl rfl (jval_ref rfl k1.1) ?_
    refine jr.iload rfl rfl ?_
    refine jr.aload_n rfl rfl ?_
    have k2 := kf_1_8 k_t
    refine jr.getf (i := 8) (v := .ref (t + 4)) rfl rfl (Nat.lt_trans (kx_1 k_t).1 (by decide)) (kx_1 k_t).2 (by decide) rfl rfl rfl (jval_ref rfl k2.1) ?_
    refine jr.iload rfl rfl ?_
    obtain ⟨v3, e3⟩ : ∃ z_, M ((t + 4)) i = z_ := ⟨_, rfl⟩
    have b3 : 0 ≤ v3 ∧ v3 ≤ 1 := by rw [← e3]; exact (CI.r hC_M k2.2 (by decide) i)
    refine jr.zald (i := i) (x := v3) rfl (Nat.lt_trans (kx_4 k2.2).1 (by decide)) (kx_4 k2.2).2 (by decide) (by omega) (by omega) e3 ?_
    refine jr.if_eq rfl rfl (by omega) (fun h174 => ?_) (fun h174 => ?_)
    · refine jr.iconst rfl ?_
      refine jr.iast (i := i) (x := 0) rfl (Nat.lt_trans (kx_5 k1.2).1 (by decide)) (kx_5 k1.2).2 (by decide) (by omega) (by omega) ?_
      refine jr.pick (ls := [_, _, _, _, _, _]) [0, 1, 2, 3, 4, 5] rfl rfl ?_
      exact c_Flow_readRow_x_L197 k_t q hK 0 ((ju M ((t + 3)) i 0)) a_ i (CI.u hC_M (i := i) k1.2 (show (-2147483648 : Int) ≤ _ ∧ _ ≤ (2147483647 : Int) from by omega) rfl) (FR.o ht_M k1.2 rfl) (by omega) (by omega) (by omega) (by omega) (RWB.c hy0 (k1_18 k_t) (by unfold tLa; rw [(show tHl (T 1) y i = _ from hy0.2.2.2.2.symm.trans e3), if_pos (by omega)])) hy1 (by omega) (by omega)
    · have sx174 : (1 : Int) ≤ v3 := by omega
      clear h174
      refine jr.aload_n rfl rfl ?_
      refine jr.iload_n rfl rfl ?_
      refine jr.bipush rfl (by decide) ?_
      refine jr.iadd rfl ?_
      refine jr.iconst rfl ?_
      refine jr.iload rfl rfl ?_
      refine jr.imul rfl ?_
      refine jr.iadd rfl ?_
      refine jr.iconst rfl ?_
      refine jr_s rfl rfl (Or.inr rfl) ⟨Nat.le_of_ble_eq_true rfl, Nat.le_of_ble_eq_true rfl⟩ rfl rfl (jc.deep (c_PacketWall_numberAt_tx hC_M (by omega) (by omega) (by omega) (fun r4 z4 w4_0 => ?_)) (by decide))
      have hv4 := tp4 (f := T 1) (r := r4) (fun i => by rw [← hy0.1.1]; exact tpb hC_M i) (by have h9 := w4_0; rw [(show M 1 = T 1 from (rfl).trans hy0.1.1)] at h9; exact h9)
      refine jr.l2i rfl ?_
      refine jr.iw (j_w r4) (j_w_eq _) ?_
      have b5 : -2147483648 ≤ j_w r4 ∧ j_w r4 ≤ 2147483647 := jb_any _
      refine jr.goto rfl rfl ?_
      refine jr.iast (i := i) (x := (j_w r4)) rfl (Nat.lt_trans (kx_5 k1.2).1 (by decide)) (kx_5 k1.2).2 (by decide) (by omega) (by omega) ?_
      refine jr.pick (ls := [_, _, _, _, _, _]) [0, 1, 2, 3, 4, 5] rfl rfl ?_
      exact c_Flow_readRow_x_L197 k_t q hK 0 ((ju M ((t + 3)) i (j_w r4))) a_ i (CI.u hC_M (i := i) k1.2 (show (-2147483648 : Int) ≤ _ ∧ _ ≤ (2147483647 : Int) from by omega) rfl) (FR.o ht_M k1.2 rfl) (by omega) (by omega) (by omega) (by omega) (RWB.c hy0 (k1_18 k_t) (by unfold tLa; rw [(show tHl (T 1) y i = _ from hy0.2.2.2.2.symm.trans e3), if_neg (by omega), ← hv4.1])) hy1 (by omega) (by omega)
end
