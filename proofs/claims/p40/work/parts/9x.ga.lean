section
/-! ===== the class: a row is read ===== -/
theorem c_Flow_hasRightState_x {A : Nat → Option (Nat × (Nat → Int32))} {Q : Option Value → jm → Prop} {M : jm} (hC_M : CI M) {t : Nat} (k_t : kd t = 1) {N_ : Int} (g_N_ : M t 2 = N_) {S_ : Int} (g_S_ : M t 5 = S_) (q : ∀ (r : Int), 0 ≤ r ∧ r ≤ 1 → ((r = 1 ∧ stOK N_ S_) ∨ (r = 0 ∧ ¬ stOK N_ S_)) → Q (some (.int (Int32.ofInt r))) M) : jc A 1 67 [.ref (t)] M Q := by
  refine jc_of (m := xm_67) rfl (Nat.le_of_ble_eq_true rfl) rfl ?_
  have b_N_ : (-2147483648) ≤ N_ ∧ N_ ≤ 2147483647 := by rw [← g_N_]; exact (CI.r hC_M k_t (by decide) 2)
  have b_S_ : (-2147483648) ≤ S_ ∧ S_ ≤ 2147483647 := by rw [← g_S_]; exact (CI.r hC_M k_t (by decide) 5)
  refine jr.aload_n rfl rfl ?_
  refine jr.getf (i := 2) (x := N_) (v := .int (Int32.ofInt (N_))) rfl rfl (Nat.lt_trans (kx_1 k_t).1 (by decide)) (kx_1 k_t).2 (by decide) rfl rfl g_N_ rfl ?_
  rcases (show N_ = 1 ∨ N_ = 6 ∨ N_ = 17 ∨ (N_ ≠ 1 ∧ N_ ≠ 6 ∧ N_ ≠ 17) by omega) with h4 | h4 | h4 | h4
  · refine jr.lsw_k 1 rfl h4 rfl ?_
    refine jr.aload_n rfl rfl ?_
    refine jr.getf (i := 5) (x := S_) (v := .int (Int32.ofInt (S_))) rfl rfl (Nat.lt_trans (kx_1 k_t).1 (by decide)) (kx_1 k_t).2 (by decide) rfl rfl g_S_ rfl ?_
    refine jr.if_ne rfl rfl (by first | (refine rgb (by assumption) ?_; exact rfl) | omega) (fun h44 => ?_) (fun h44 => ?_)
    · refine jr.iconst rfl ?_
      exact jr.ireturn rfl rfl rfl (q _ (by first | exact rgq rfl | omega) (by first | exact Or.inl ⟨rfl, by unfold stOK; omega⟩ | exact Or.inr ⟨rfl, by unfold stOK; omega⟩))
    · refine jr.iconst rfl ?_
      refine jr.goto rfl rfl ?_
      exact jr.ireturn rfl rfl rfl (q _ (by first | exact rgq rfl | omega) (by first | exact Or.inl ⟨rfl, by unfold stOK; omega⟩ | exact Or.inr ⟨rfl, by unfold stOK; omega⟩))
  · refine jr.lsw_k 6 rfl h4 rfl ?_
    refine jr.aload_n rfl rfl ?_
    refine jr.getf (i := 5) (x := S_) (v := .int (Int32.ofInt (S_))) rfl rfl (Nat.lt_trans (kx_1 k_t).1 (by decide)) (kx_1 k_t).2 (by decide) rfl rfl g_S_ rfl ?_
    refine jr.iconst rfl ?_
    refine jr.icmp_lt rfl rfl (by first | (refine rgb (by assumption) ?_; exact rfl) | omega) (rgl rfl) (fun h58 => ?_) (fun h58 => ?_)
    · refine jr.iconst rfl ?_
      exact jr.ireturn rfl rfl rfl (q _ (by first | exact rgq rfl | omega) (by first | exact Or.inl ⟨rfl, by unfold stOK; omega⟩ | exact Or.inr ⟨rfl, by unfold stOK; omega⟩))
    · refine jr.aload_n rfl rfl ?_
      refine jr.getf (i := 5) (x := S_) (v := .int (Int32.ofInt (S_))) rfl rfl (Nat.lt_trans (kx_1 k_t).1 (by decide)) (kx_1 k_t).2 (by decide) rfl rfl g_S_ rfl ?_
      refine jr.bipush rfl (jbp _ (nlt rfl)) ?_
      refine jr.icmp_gt rfl rfl (by first | (refine rgb (by assumption) ?_; exact rfl) | omega) (rgl rfl) (fun h67 => ?_) (fun h67 => ?_)
      · refine jr.iconst rfl ?_
        exact jr.ireturn rfl rfl rfl (q _ (by first | exact rgq rfl | omega) (by first | exact Or.inl ⟨rfl, by unfold stOK; omega⟩ | exact Or.inr ⟨rfl, by unfold stOK; omega⟩))
      · refine jr.iconst rfl ?_
        refine jr.goto rfl rfl ?_
        exact jr.ireturn rfl rfl rfl (q _ (by first | exact rgq rfl | omega) (by first | exact Or.inl ⟨rfl, by unfold stOK; omega⟩ | exact Or.inr ⟨rfl, by unfold stOK; omega⟩))
  · refine jr.lsw_k 17 rfl h4 rfl ?_
    refine jr.aload_n rfl rfl ?_
    refine jr.getf (i := 5) (x := S_) (v := .int (Int32.ofInt (S_))) rfl rfl (Nat.lt_trans (kx_1 k_t).1 (by decide)) (kx_1 k_t).2 (by decide) rfl rfl g_S_ rfl ?_
    refine jr.iconst rfl ?_
    refine jr.icmp_gt rfl rfl (by first | (refine rgb (by assumption) ?_; exact rfl) | omega) (rgl rfl) (fun h81 => ?_) (fun h81 => ?_)
    · refine jr.iconst rfl ?_
      exact jr.ireturn rfl rfl rfl (q _ (by first | exact rgq rfl | omega) (by first | exact Or.inl ⟨rfl, by unfold stOK; omega⟩ | exact Or.inr ⟨rfl, by unfold stOK; omega⟩))
    · refine jr.iconst rfl ?_
      refine jr.goto rfl rfl ?_
      exact jr.ireturn rfl rfl rfl (q _ (by first | exact rgq rfl | omega) (by first | exact Or.inl ⟨rfl, by unfold stOK; omega⟩ | exact Or.inr ⟨rfl, by unfold stOK; omega⟩))
  · refine jr.lsw_d rfl (by omega) rfl (fun q hq => by simp only [List.mem_cons, List.not_mem_nil, or_false] at hq; rcases hq with rfl | rfl | rfl <;> (simp only; omega)) rfl ?_
    refine jr.iconst rfl ?_
    exact jr.ireturn rfl rfl rfl (q _ (by first | exact rgq rfl | omega) (by first | exact Or.inl ⟨rfl, by unfold stOK; omega⟩ | exact Or.inr ⟨rfl, by unfold stOK; omega⟩))
theorem c_Flow_hasRightAddresses_x {A : Nat → Option (Nat × (Nat → Int32))} {Q : Option Value → jm → Prop} {M : jm} (hC_M : CI M) {t : Nat} (k_t : kd t = 1) {X_ : Int} (g_X_ : M t 1 = X_) (q : ∀ (r : Int), 0 ≤ r ∧ r ≤ 1 → ((r = 1 ∧ (X_ ≠ 0 ∨ ((0 ≤ M (t + 1) 0 ∧ M (t + 1) 0 ≤ 4294967295) ∧ (0 ≤ M (t + 1) 1 ∧ M (t + 1) 1 ≤ 4294967295)))) ∨ (r = 0 ∧ ¬ (X_ ≠ 0 ∨ ((0 ≤ M (t + 1) 0 ∧ M (t + 1) 0 ≤ 4294967295) ∧ (0 ≤ M (t + 1) 1 ∧ M (t + 1) 1 ≤ 4294967295))))) → Q (some (.int (Int32.ofInt r))) M) : jc A 1 68 [.ref (t)] M Q := by
  refine jc_of (m := xm_68) rfl (Nat.le_of_ble_eq_true rfl) rfl ?_
  have b_X_ : 0 ≤ X_ ∧ X_ ≤ 1 := by rw [← g_X_]; exact (CI.r hC_M k_t (by decide) 1)
  refine jr.aload_n rfl rfl ?_
  refine jr.getf (i := 1) (x := X_) (v := .int (Int32.ofInt (X_))) rfl rfl (Nat.lt_trans (kx_1 k_t).1 (by decide)) (kx_1 k_t).2 (by decide) rfl rfl g_X_ rfl ?_
  refine jr.if_ne rfl rfl (by first | (refine rgb (by assumption) ?_; exact rfl) | omega) (fun h4 => ?_) (fun h4 => ?_)
  · refine jr.iconst rfl ?_
    refine jr.goto rfl rfl ?_
    exact jr.ireturn rfl rfl rfl (q _ (by first | exact rgq rfl | omega) (by first | exact Or.inl ⟨rfl, by omega⟩ | exact Or.inr ⟨rfl, by omega⟩))
  · refine jr.aload_n rfl rfl ?_
    have k1 := kf_1_3 k_t
    refine jr.getf (i := 3) (v := .ref (t + 1)) rfl rfl (Nat.lt_trans (kx_1 k_t).1 (by decide)) (kx_1 k_t).2 (by decide) rfl rfl rfl (jval_ref rfl k1.1) ?_
    refine jr.iconst rfl ?_
    obtain ⟨v2, e2⟩ : ∃ z_, M ((t + 1)) 0 = z_ := ⟨_, rfl⟩
    have b2 : (-9223372036854775808) ≤ v2 ∧ v2 ≤ 9223372036854775807 := by rw [← e2]; exact (CI.r hC_M k1.2 (by decide) 0)
    refine jr.lald (i := 0) (x := v2) rfl (Nat.lt_trans (kx_2 k1.2).1 (by decide)) (kx_2 k1.2).2 (by decide) (by omega) (by omega) e2 ?_
    refine jr.bipush rfl (jbp _ (nlt rfl)) ?_
    refine jr.lushr rfl ?_
    have b3 : jl_ushr v2 32 = v2 % 18446744073709551616 / 4294967296 ∧ 0 ≤ jl_ushr v2 32 ∧ jl_ushr v2 32 ≤ 4294967295 := ⟨jl_ushr_32 _, by rw [jl_ushr_32]; omega⟩
    generalize jl_ushr v2 32 = v3 at b3 ⊢
    refine jr.lconst (x := 0) rfl (by decide) ?_
    refine jr.lcmp_ne rfl rfl rfl (by omega) (by omega) (fun h17 => ?_) (fun h17 => ?_)
    · refine jr.iconst rfl ?_
      exact jr.ireturn rfl rfl rfl (q _ (by first | exact rgq rfl | omega) (by first | exact Or.inl ⟨rfl, by omega⟩ | exact Or.inr ⟨rfl, by omega⟩))
    · refine jr.aload_n rfl rfl ?_
      have k4 := kf_1_3 k_t
      refine jr.getf (i := 3) (v := .ref (t + 1)) rfl rfl (Nat.lt_trans (kx_1 k_t).1 (by decide)) (kx_1 k_t).2 (by decide) rfl rfl rfl (jval_ref rfl k4.1) ?_
      refine jr.iconst rfl ?_
      obtain ⟨v5, e5⟩ : ∃ z_, M ((t + 1)) 1 = z_ := ⟨_, rfl⟩
      have b5 : (-9223372036854775808) ≤ v5 ∧ v5 ≤ 9223372036854775807 := by rw [← e5]; exact (CI.r hC_M k4.2 (by decide) 1)
      refine jr.lald (i := 1) (x := v5) rfl (Nat.lt_trans (kx_2 k4.2).1 (by decide)) (kx_2 k4.2).2 (by decide) (by omega) (by omega) e5 ?_
      refine jr.bipush rfl (jbp _ (nlt rfl)) ?_
      refine jr.lushr rfl ?_
      have b6 : jl_ushr v5 32 = v5 % 18446744073709551616 / 4294967296 ∧ 0 ≤ jl_ushr v5 32 ∧ jl_ushr v5 32 ≤ 4294967295 := ⟨jl_ushr_32 _, by rw [jl_ushr_32]; omega⟩
      generalize jl_ushr v5 32 = v6 at b6 ⊢
      refine jr.lconst (x := 0) rfl (by decide) ?_
      refine jr.lcmp_ne rfl rfl rfl (by omega) (by omega) (fun h31 => ?_) (fun h31 => ?_)
      · refine jr.iconst rfl ?_
        exact jr.ireturn rfl rfl rfl (q _ (by first | exact rgq rfl | omega) (by first | exact Or.inl ⟨rfl, by omega⟩ | exact Or.inr ⟨rfl, by omega⟩))
      · refine jr.iconst rfl ?_
        refine jr.goto rfl rfl ?_
        exact jr.ireturn rfl rfl rfl (q _ (by first | exact rgq rfl | omega) (by first | exact Or.inl ⟨rfl, by omega⟩ | exact Or.inr ⟨rfl, by omega⟩))
theorem tbit (f : Int → Int) (y : Int) : f (y + 1) / 16 % 2 = 0 ∨ f (y + 1) / 16 % 2 = 1 := by omega
noncomputable def W_c_Flow_readRow_x : List (Nat × Nat) := [(1, 0), (1, 1), (1, 2), (1, 5), (1, 6), (1, 12), (1, 13), (1, 15), (2, 1000), (3, 1000), (4, 1000), (5, 1000), (6, 1000), (7, 1000), (8, 1000)]
theorem c_Flow_readRow_x_L271 {A : Nat → Option (Nat × (Nat → Int32))} {Q : Option Value → jm → Prop} {T : jm} {t : Nat} (k_t : kd t = 1) {y : Int} {z : Int} (q : ∀ (r : Int) (M' : jm), CI M' → FR W_c_Flow_readRow_x T M' → 0 ≤ r ∧ r ≤ 1 → (RRD M' t (T 1) y z ∧ fr7 T M' t ∧ ((r = 1 ∧ rGood (T 1) y) ∨ (r = 0 ∧ ¬ rGood (T 1) y))) → Q (some (.int (Int32.ofInt r))) M') : ∀ (nM : Nat) (M : jm), CI M → FR W_c_Flow_readRow_x T M → 0 ≤ y ∧ y ≤ 1552 → 0 ≤ z ∧ z ≤ 2000000000 → (RWE T M t (T 1) y) → 0 ≤ nM → jr A 2 xm_65 271 [(2, .int (Int32.ofInt (y))), (3, .int (Int32.ofInt (z))), (0, .ref (t)), (1, .ref (1))] [] M Q := by
  intro nM
  induction nM using Nat.strongRecOn with
  | ind nM ih =>
    intro M  hC_M ht_M h_y h_z hy0 hm
    refine jr.aload_n rfl rfl ?_
    refine jr.iload_n rfl rfl ?_
    refine jr.bipush rfl (jbp _ (nlt rfl)) ?_
    refine jr.iadd rfl ?_
    refine jr.iconst rfl ?_
    refine jr_s rfl rfl (Or.inr rfl) ⟨Nat.le_of_ble_eq_true rfl, Nat.le_of_ble_eq_true rfl⟩ rfl rfl (jc.deep (c_PacketWall_numberAt_tx hC_M (by omega) (by omega) (by omega) (fun r1 z1 w1_0 => ?_)) (Nat.le_of_ble_eq_true rfl))
    have hv1 := tp4 (f := T 1) (r := r1) (fun i => by rw [← hy0.1.1]; exact tpb hC_M i) (by have h9 := w1_0; rw [(show M 1 = T 1 from (rfl).trans hy0.1.1)] at h9; exact h9)
    refine jr.lstore (ls' := [_, _, _, _, _]) rfl (nlt rfl) rfl ?_
    refine jr.aload_n rfl rfl ?_
    refine jr.iload_n rfl rfl ?_
    refine jr.lload rfl rfl ?_
    refine jr.ldc2 (x := 200) rfl rfl (by decide) ?_
    refine jr.lmin rfl rfl (Nat.le_of_ble_eq_true rfl) (by omega) (by omega) ?_
    intro v2 d2 b2 c2
    refine jr.l2i rfl ?_
    refine jr.iadd rfl ?_
    refine jr.putf (i := 6) (x := (z + v2)) rfl rfl (Nat.lt_trans (kx_1 k_t).1 (by decide)) (kx_1 k_t).2 (by decide) rfl rfl rfl rfl rfl ?_
    refine jr.aload_n rfl rfl ?_
    refine jr.iload_n rfl rfl ?_
    refine jr.bipush rfl (jbp _ (nlt rfl)) ?_
    refine jr.iadd rfl ?_
    refine jr.iconst rfl ?_
    refine jr_s rfl rfl (Or.inr rfl) ⟨Nat.le_of_ble_eq_true rfl, Nat.le_of_ble_eq_true rfl⟩ rfl rfl (jc.deep (c_PacketWall_numberAt_tx (CI.u hC_M (i := 6) k_t (show (-2147483648 : Int) ≤ _ ∧ _ ≤ (2147483647 : Int) from by omega) rfl) (by omega) (by omega) (by omega) (fun r3 z3 w3_0 => ?_)) (Nat.le_of_ble_eq_true rfl))
    have hv3 := tp2 (f := T 1) (r := r3) (fun i => by rw [← hy0.1.1]; exact tpb hC_M i) (by have h9 := w3_0; rw [(show ((ju M t 6 (z + v2))) 1 = T 1 from (((ju1_row (kd_ne (by rw [k_t]; decide))).trans rfl)).trans hy0.1.1)] at h9; exact h9)
    refine jr.aload_n rfl rfl ?_
    refine jr.iload_n rfl rfl ?_
    refine jr.iload_n rfl rfl ?_
    refine jr.bipush rfl (jbp _ (nlt rfl)) ?_
    refine jr.iadd rfl ?_
    refine jr_s rfl rfl (Or.inr rfl) ⟨Nat.le_of_ble_eq_true rfl, Nat.le_of_ble_eq_true rfl⟩ rfl rfl (jc.deep (c_PacketWall_addedTwos_tx (CI.u hC_M (i := 6) k_t (show (-2147483648 : Int) ≤ _ ∧ _ ≤ (2147483647 : Int) from by omega) rfl) (by omega) (by omega) (by omega) (fun r4 z4 w4_0 => ?_)) (Nat.le_of_ble_eq_true rfl))
    refine jr_s rfl rfl (Or.inr rfl) ⟨Nat.le_of_ble_eq_true rfl, Nat.le_of_ble_eq_true rfl⟩ rfl rfl (jc.deep (c_PacketWall_foldedSum_x (CI.u hC_M (i := 6) k_t (show (-2147483648 : Int) ≤ _ ∧ _ ≤ (2147483647 : Int) from by omega) rfl) (by omega) (fun r5 z5 w5_0 => ?_)) (Nat.le_of_ble_eq_true rfl))
    refine jr.i2l rfl (by omega) ?_
    refine jr.lcmp_ne rfl rfl rfl (by omega) (by omega) (fun h319 => ?_) (fun h319 => ?_)
    · refine jr.iconst rfl ?_
      refine jr.istore (ls' := [_, _, _, _, _, _]) rfl (nlt rfl) rfl ?_
      refine jr.iload rfl rfl ?_
      refine jr.if_eq rfl rfl (by first | exact rgl rfl | omega) (fun _ => ?_) (fun h => absurd (by decide) h)
      refine jr.iconst rfl ?_
      exact jr.ireturn rfl rfl rfl (q _ _ (CI.u hC_M (i := 6) k_t (show (-2147483648 : Int) ≤ _ ∧ _ ≤ (2147483647 : Int) from by omega) rfl) (FR.o ht_M k_t rfl) (by omega) (by have hD := RWE.d (Z := z) hy0 (k1_18 k_t) (v := z + v2) (by rw [← hv1.1]; split <;> omega); have hsum : tn (sb (T 1) y 46) = r5 := (by rw [w5_0]; have h9 := w4_0; rw [(show ((ju M t 6 (z + v2))) 1 = T 1 from (((ju1_row (kd_ne (by rw [k_t]; decide))).trans rfl)).trans hy0.1.1), show (y + 46 - y).toNat = 46 from by omega] at h9; rw [h9]); exact ⟨hD.1, hD.2.1, Or.inr ⟨rfl, fun u => by obtain ⟨u1, u2, u3, u4⟩ := u; rw [hsum, ← hv3.1] at u1; rw [← hv1.1] at u4; first | omega⟩⟩))
    · refine jr.iconst rfl ?_
      refine jr.goto rfl rfl ?_
      refine jr.istore (ls' := [_, _, _, _, _, _]) rfl (nlt rfl) rfl ?_
      refine jr.iload rfl rfl ?_
      refine jr.if_eq rfl rfl (by first | exact rgl rfl | omega) (fun h => absurd h (by decide)) (fun _ => ?_)
      refine jr.aload_n rfl rfl ?_
      obtain ⟨v7, e7⟩ : ∃ z_, M t 2 = z_ := ⟨_, rfl⟩
      have b7 : (-2147483648) ≤ v7 ∧ v7 ≤ 2147483647 := by rw [← e7]; exact (CI.r hC_M k_t (by decide) 2)
      obtain ⟨v8, e8⟩ : ∃ z_, M t 5 = z_ := ⟨_, rfl⟩
      have b8 : (-2147483648) ≤ v8 ∧ v8 ≤ 2147483647 := by rw [← e8]; exact (CI.r hC_M k_t (by decide) 5)
      refine jr_v rfl rfl (Or.inl rfl) rfl rfl (Nat.lt_trans (kx_1 k_t).1 (by decide)) (kx_1 k_t).2 ⟨rfl, Nat.le_of_ble_eq_true rfl, Nat.le_of_ble_eq_true rfl⟩ rfl (jc.deep (c_Flow_hasRightState_x (CI.u hC_M (i := 6) k_t (show (-2147483648 : Int) ≤ _ ∧ _ ≤ (2147483647 : Int) from by omega) rfl) k_t ((ju_i _ _ (zne (by decide))).trans e7) ((ju_i _ _ (zne (by decide))).trans e8) (fun r6 z6 w6_0 => ?_)) (Nat.le_of_ble_eq_true rfl))
      skip
      refine jr.if_eq rfl rfl (by first | (refine rgb (by assumption) ?_; exact rfl) | omega) (fun h339 => ?_) (fun h339 => ?_)
      · refine jr.iconst rfl ?_
        exact jr.ireturn rfl rfl rfl (q _ _ (CI.u hC_M (i := 6) k_t (show (-2147483648 : Int) ≤ _ ∧ _ ≤ (2147483647 : Int) from by omega) rfl) (FR.o ht_M k_t rfl) (by omega) (by have hD := RWE.d (Z := z) hy0 (k1_18 k_t) (v := z + v2) (by rw [← hv1.1]; split <;> omega); have hsum : tn (sb (T 1) y 46) = r5 := (by rw [w5_0]; have h9 := w4_0; rw [(show ((ju M t 6 (z + v2))) 1 = T 1 from (((ju1_row (kd_ne (by rw [k_t]; decide))).trans rfl)).trans hy0.1.1), show (y + 46 - y).toNat = 46 from by omega] at h9; rw [h9]); have hst : (r6 = 1 ∧ stOK (T 1 y) (T 1 (y + 1) % 16)) ∨ (r6 = 0 ∧ ¬ stOK (T 1 y) (T 1 (y + 1) % 16)) := (by have h9 := w6_0; rw [← (show _ = T 1 y from hy0.1.2.1.2.2.1), ← (show _ = T 1 (y + 1) % 16 from hy0.1.2.1.2.2.2.1), e7, e8]; exact h9); exact ⟨hD.1, hD.2.1, Or.inr ⟨rfl, fun u => by obtain ⟨u1, u2, u3, u4⟩ := u; rw [hsum, ← hv3.1] at u1; rw [← hv1.1] at u4; first | omega | exact absurd u2 (hst.resolve_left (fun h => by omega)).2⟩⟩))
      · refine jr.aload_n rfl rfl ?_
        obtain ⟨v10, e10⟩ : ∃ z_, M t 1 = z_ := ⟨_, rfl⟩
        have b10 : 0 ≤ v10 ∧ v10 ≤ 1 := by rw [← e10]; exact (CI.r hC_M k_t (by decide) 1)
        refine jr_v rfl rfl (Or.inl rfl) rfl rfl (Nat.lt_trans (kx_1 k_t).1 (by decide)) (kx_1 k_t).2 ⟨rfl, Nat.le_of_ble_eq_true rfl, Nat.le_of_ble_eq_true rfl⟩ rfl (jc.deep (c_Flow_hasRightAddresses_x (CI.u hC_M (i := 6) k_t (show (-2147483648 : Int) ≤ _ ∧ _ ≤ (2147483647 : Int) from by omega) rfl) k_t ((ju_i _ _ (zne (by decide))).trans e10) (fun r9 z9 w9_0 => ?_)) (Nat.le_of_ble_eq_true rfl))
        skip
        refine jr.if_eq rfl rfl (by first | (refine rgb (by assumption) ?_; exact rfl) | omega) (fun h346 => ?_) (fun h346 => ?_)
        · refine jr.iconst rfl ?_
          exact jr.ireturn rfl rfl rfl (q _ _ (CI.u hC_M (i := 6) k_t (show (-2147483648 : Int) ≤ _ ∧ _ ≤ (2147483647 : Int) from by omega) rfl) (FR.o ht_M k_t rfl) (by omega) (by have hD := RWE.d (Z := z) hy0 (k1_18 k_t) (v := z + v2) (by rw [← hv1.1]; split <;> omega); have hsum : tn (sb (T 1) y 46) = r5 := (by rw [w5_0]; have h9 := w4_0; rw [(show ((ju M t 6 (z + v2))) 1 = T 1 from (((ju1_row (kd_ne (by rw [k_t]; decide))).trans rfl)).trans hy0.1.1), show (y + 46 - y).toNat = 46 from by omega] at h9; rw [h9]); have hst : (r6 = 1 ∧ stOK (T 1 y) (T 1 (y + 1) % 16)) ∨ (r6 = 0 ∧ ¬ stOK (T 1 y) (T 1 (y + 1) % 16)) := (by have h9 := w6_0; rw [← (show _ = T 1 y from hy0.1.2.1.2.2.1), ← (show _ = T 1 (y + 1) % 16 from hy0.1.2.1.2.2.2.1), e7, e8]; exact h9); have had : (r9 = 1 ∧ adOK (T 1) y) ∨ (r9 = 0 ∧ ¬ adOK (T 1) y) := (by have h9 := w9_0; have h8 := hy0.1.2.1.2.1; rw [e10] at h8; have a0 := (hy0.1.2.2.1 0 (by decide) (by decide)).1.2.2.1; have a1 := (hy0.1.2.2.1 1 (by decide) (by decide)).1.2.2.1; have j0 : ((ju M t 6 (z + v2))) (t + 1) 0 = M (t + 1) 0 := ju_c _ _ (by omega); have j1 : ((ju M t 6 (z + v2))) (t + 1) 1 = M (t + 1) 1 := ju_c _ _ (by omega); rw [j0, j1, a0, a1] at h9; unfold adOK; rw [← h8]; have hx := tbit (T 1) y; rcases h9 with h9 | h9; (exact Or.inl ⟨h9.1, by have h7 := h9.2; omega⟩); (exact Or.inr ⟨h9.1, by have h7 := h9.2; omega⟩)); exact ⟨hD.1, hD.2.1, Or.inr ⟨rfl, fun u => by obtain ⟨u1, u2, u3, u4⟩ := u; rw [hsum, ← hv3.1] at u1; rw [← hv1.1] at u4; first | omega | exact absurd u2 (hst.resolve_left (fun h => by omega)).2 | exact absurd u3 (had.resolve_left (fun h => by omega)).2⟩⟩))
        · refine jr.lload rfl rfl ?_
          refine jr.lconst (x := 1) rfl (by decide) ?_
          refine jr.lcmp_lt rfl rfl rfl (by omega) (by omega) (fun h352 => ?_) (fun h352 => ?_)
          · refine jr.iconst rfl ?_
            exact jr.ireturn rfl rfl rfl (q _ _ (CI.u hC_M (i := 6) k_t (show (-2147483648 : Int) ≤ _ ∧ _ ≤ (2147483647 : Int) from by omega) rfl) (FR.o ht_M k_t rfl) (by omega) (by have hD := RWE.d (Z := z) hy0 (k1_18 k_t) (v := z + v2) (by rw [← hv1.1]; split <;> omega); have hsum : tn (sb (T 1) y 46) = r5 := (by rw [w5_0]; have h9 := w4_0; rw [(show ((ju M t 6 (z + v2))) 1 = T 1 from (((ju1_row (kd_ne (by rw [k_t]; decide))).trans rfl)).trans hy0.1.1), show (y + 46 - y).toNat = 46 from by omega] at h9; rw [h9]); have hst : (r6 = 1 ∧ stOK (T 1 y) (T 1 (y + 1) % 16)) ∨ (r6 = 0 ∧ ¬ stOK (T 1 y) (T 1 (y + 1) % 16)) := (by have h9 := w6_0; rw [← (show _ = T 1 y from hy0.1.2.1.2.2.1), ← (show _ = T 1 (y + 1) % 16 from hy0.1.2.1.2.2.2.1), e7, e8]; exact h9); have had : (r9 = 1 ∧ adOK (T 1) y) ∨ (r9 = 0 ∧ ¬ adOK (T 1) y) := (by have h9 := w9_0; have h8 := hy0.1.2.1.2.1; rw [e10] at h8; have a0 := (hy0.1.2.2.1 0 (by decide) (by decide)).1.2.2.1; have a1 := (hy0.1.2.2.1 1 (by decide) (by decide)).1.2.2.1; have j0 : ((ju M t 6 (z + v2))) (t + 1) 0 = M (t + 1) 0 := ju_c _ _ (by omega); have j1 : ((ju M t 6 (z + v2))) (t + 1) 1 = M (t + 1) 1 := ju_c _ _ (by omega); rw [j0, j1, a0, a1] at h9; unfold adOK; rw [← h8]; have hx := tbit (T 1) y; rcases h9 with h9 | h9; (exact Or.inl ⟨h9.1, by have h7 := h9.2; omega⟩); (exact Or.inr ⟨h9.1, by have h7 := h9.2; omega⟩)); exact ⟨hD.1, hD.2.1, Or.inr ⟨rfl, fun u => by obtain ⟨u1, u2, u3, u4⟩ := u; rw [hsum, ← hv3.1] at u1; rw [← hv1.1] at u4; first | omega | exact absurd u2 (hst.resolve_left (fun h => by omega)).2 | exact absurd u3 (had.resolve_left (fun h => by omega)).2⟩⟩))
          · refine jr.lload rfl rfl ?_
            refine jr.ldc2 (x := 200) rfl rfl (by decide) ?_
            refine jr.lcmp_gt rfl rfl rfl (by omega) (by omega) (fun h361 => ?_) (fun h361 => ?_)
            · refine jr.iconst rfl ?_
              exact jr.ireturn rfl rfl rfl (q _ _ (CI.u hC_M (i := 6) k_t (show (-2147483648 : Int) ≤ _ ∧ _ ≤ (2147483647 : Int) from by omega) rfl) (FR.o ht_M k_t rfl) (by omega) (by have hD := RWE.d (Z := z) hy0 (k1_18 k_t) (v := z + v2) (by rw [← hv1.1]; split <;> omega); have hsum : tn (sb (T 1) y 46) = r5 := (by rw [w5_0]; have h9 := w4_0; rw [(show ((ju M t 6 (z + v2))) 1 = T 1 from (((ju1_row (kd_ne (by rw [k_t]; decide))).trans rfl)).trans hy0.1.1), show (y + 46 - y).toNat = 46 from by omega] at h9; rw [h9]); have hst : (r6 = 1 ∧ stOK (T 1 y) (T 1 (y + 1) % 16)) ∨ (r6 = 0 ∧ ¬ stOK (T 1 y) (T 1 (y + 1) % 16)) := (by have h9 := w6_0; rw [← (show _ = T 1 y from hy0.1.2.1.2.2.1), ← (show _ = T 1 (y + 1) % 16 from hy0.1.2.1.2.2.2.1), e7, e8]; exact h9); have had : (r9 = 1 ∧ adOK (T 1) y) ∨ (r9 = 0 ∧ ¬ adOK (T 1) y) := (by have h9 := w9_0; have h8 := hy0.1.2.1.2.1; rw [e10] at h8; have a0 := (hy0.1.2.2.1 0 (by decide) (by decide)).1.2.2.1; have a1 := (hy0.1.2.2.1 1 (by decide) (by decide)).1.2.2.1; have j0 : ((ju M t 6 (z + v2))) (t + 1) 0 = M (t + 1) 0 := ju_c _ _ (by omega); have j1 : ((ju M t 6 (z + v2))) (t + 1) 1 = M (t + 1) 1 := ju_c _ _ (by omega); rw [j0, j1, a0, a1] at h9; unfold adOK; rw [← h8]; have hx := tbit (T 1) y; rcases h9 with h9 | h9; (exact Or.inl ⟨h9.1, by have h7 := h9.2; omega⟩); (exact Or.inr ⟨h9.1, by have h7 := h9.2; omega⟩)); exact ⟨hD.1, hD.2.1, Or.inr ⟨rfl, fun u => by obtain ⟨u1, u2, u3, u4⟩ := u; rw [hsum, ← hv3.1] at u1; rw [← hv1.1] at u4; first | omega | exact absurd u2 (hst.resolve_left (fun h => by omega)).2 | exact absurd u3 (had.resolve_left (fun h => by omega)).2⟩⟩))
            · refine jr.iconst rfl ?_
              refine jr.goto rfl rfl ?_
              exact jr.ireturn rfl rfl rfl (q _ _ (CI.u hC_M (i := 6) k_t (show (-2147483648 : Int) ≤ _ ∧ _ ≤ (2147483647 : Int) from by omega) rfl) (FR.o ht_M k_t rfl) (by omega) (by have hD := RWE.d (Z := z) hy0 (k1_18 k_t) (v := z + v2) (by rw [← hv1.1]; split <;> omega); have hsum : tn (sb (T 1) y 46) = r5 := (by rw [w5_0]; have h9 := w4_0; rw [(show ((ju M t 6 (z + v2))) 1 = T 1 from (((ju1_row (kd_ne (by rw [k_t]; decide))).trans rfl)).trans hy0.1.1), show (y + 46 - y).toNat = 46 from by omega] at h9; rw [h9]); have hst : (r6 = 1 ∧ stOK (T 1 y) (T 1 (y + 1) % 16)) ∨ (r6 = 0 ∧ ¬ stOK (T 1 y) (T 1 (y + 1) % 16)) := (by have h9 := w6_0; rw [← (show _ = T 1 y from hy0.1.2.1.2.2.1), ← (show _ = T 1 (y + 1) % 16 from hy0.1.2.1.2.2.2.1), e7, e8]; exact h9); have had : (r9 = 1 ∧ adOK (T 1) y) ∨ (r9 = 0 ∧ ¬ adOK (T 1) y) := (by have h9 := w9_0; have h8 := hy0.1.2.1.2.1; rw [e10] at h8; have a0 := (hy0.1.2.2.1 0 (by decide) (by decide)).1.2.2.1; have a1 := (hy0.1.2.2.1 1 (by decide) (by decide)).1.2.2.1; have j0 : ((ju M t 6 (z + v2))) (t + 1) 0 = M (t + 1) 0 := ju_c _ _ (by omega); have j1 : ((ju M t 6 (z + v2))) (t + 1) 1 = M (t + 1) 1 := ju_c _ _ (by omega); rw [j0, j1, a0, a1] at h9; unfold adOK; rw [← h8]; have hx := tbit (T 1) y; rcases h9 with h9 | h9; (exact Or.inl ⟨h9.1, by have h7 := h9.2; omega⟩); (exact Or.inr ⟨h9.1, by have h7 := h9.2; omega⟩)); exact ⟨hD.1, hD.2.1, Or.inl ⟨rfl, by rw [hsum, ← hv3.1]; omega, (hst.resolve_right (fun h => by omega)).2, (had.resolve_right (fun h => by omega)).2, by rw [← hv1.1]; omega⟩⟩))
theorem c_Flow_readRow_x_L222 {A : Nat → Option (Nat × (Nat → Int32))} {Q : Option Value → jm → Prop} {T : jm} {t : Nat} (k_t : kd t = 1) {y : Int} {z : Int} (q : ∀ (r : Int) (M' : jm), CI M' → FR W_c_Flow_readRow_x T M' → 0 ≤ r ∧ r ≤ 1 → (RRD M' t (T 1) y z ∧ fr7 T M' t ∧ ((r = 1 ∧ rGood (T 1) y) ∨ (r = 0 ∧ ¬ rGood (T 1) y))) → Q (some (.int (Int32.ofInt r))) M') {kM : Nat} (hK : ∀ (M : jm) (a_ : Int) (i : Int), CI M → FR W_c_Flow_readRow_x T M → 0 ≤ y ∧ y ≤ 1552 → 0 ≤ z ∧ z ≤ 2000000000 → 0 ≤ a_ ∧ a_ ≤ 255 → 0 ≤ i ∧ i ≤ 2 → (RWS T M t (T 1) y i) → (a_ = T 1 (y + 1)) → 2 - i ≤ kM → jr A 2 xm_65 66 [(2, .int (Int32.ofInt (y))), (3, .int (Int32.ofInt (z))), (4, .int (Int32.ofInt (a_))), (5, .int (Int32.ofInt (i))), (0, .ref (t)), (1, .ref (1))] [] M Q) : ∀ (nM : Nat) (M : jm) (a_ : Int) (i : Int), CI M → FR W_c_Flow_readRow_x T M → 0 ≤ y ∧ y ≤ 1552 → 0 ≤ z ∧ z ≤ 2000000000 → 0 ≤ a_ ∧ a_ ≤ 255 → 0 ≤ i ∧ i ≤ 1 → (RWD T M t (T 1) y i) → (a_ = T 1 (y + 1)) → (2 - (i + 1) ≤ kM) → 0 ≤ nM → jr A 2 xm_65 222 [(2, .int (Int32.ofInt (y))), (3, .int (Int32.ofInt (z))), (4, .int (Int32.ofInt (a_))), (5, .int (Int32.ofInt (i))), (0, .ref (t)), (1, .ref (1))] [] M Q := by
  intro nM
  induction nM using Nat.strongRecOn with
  | ind nM ih =>
    intro M a_ i hC_M ht_M h_y h_z h_a_ h_i hy0 hy1 hy2 hm
    refine jr.aload_n rfl rfl ?_
    have k1 := kf_1_11 k_t
    refine jr.getf (i := 11) (v := .ref (t + 7)) rfl rfl (Nat.lt_trans (kx_1 k_t).1 (by decide)) (kx_1 k_t).2 (by decide) rfl rfl rfl (jval_ref rfl k1.1) ?_
    refine jr.iload rfl rfl ?_
    refine jr.iload rfl rfl ?_
    refine jr.if_ne rfl rfl (by first | (refine rgb (by assumption) ?_; exact rfl) | omega) (fun h230 => ?_) (fun h230 => ?_)
    · have sx230 : (1 : Int) ≤ i := by omega
      clear h230
      refine jr.lconst (x := 0) rfl (by decide) ?_
      refine jr.last (i := i) (x := 0) rfl (Nat.lt_trans (kx_3 k1.2).1 (by decide)) (kx_3 k1.2).2 (by decide) (by omega) (by omega) ?_
      refine jr.iinc (ls' := [_, _, _, _, _, _]) rfl rfl (nlt rfl) rfl ?_
      refine jr.goto rfl rfl ?_
      refine jr.pick (ls := [_, _, _, _, _, _]) [1, 2, 3, 0, 4, 5] rfl rfl ?_
      exact hK ((ju M ((t + 7)) i 0)) a_ (i + 1) (CI.u hC_M (i := i) k1.2 (show (-9223372036854775808 : Int) ≤ _ ∧ _ ≤ (9223372036854775807 : Int) from by omega) rfl) (FR.o ht_M k1.2 rfl) (by omega) (by omega) (by omega) (by omega) (RWD.e hy0 (k1_18 k_t) (by unfold tBy; rw [if_neg (by omega)])) hy1 (by omega)
    · refine jr.aload_n rfl rfl ?_
      refine jr.iload_n rfl rfl ?_
      refine jr.bipush rfl (jbp _ (nlt rfl)) ?_
      refine jr.iadd rfl ?_
      refine jr.iconst rfl ?_
      refine jr_s rfl rfl (Or.inr rfl) ⟨Nat.le_of_ble_eq_true rfl, Nat.le_of_ble_eq_true rfl⟩ rfl rfl (jc.deep (c_PacketWall_numberAt_tx hC_M (by omega) (by omega) (by omega) (fun r2 z2 w2_0 => ?_)) (Nat.le_of_ble_eq_true rfl))
      have hv2 := tp4 (f := T 1) (r := r2) (fun i => by rw [← hy0.1.1.1.1]; exact tpb hC_M i) (by have h9 := w2_0; rw [(show M 1 = T 1 from (rfl).trans hy0.1.1.1.1)] at h9; exact h9)
      refine jr.goto rfl rfl ?_
      refine jr.last (i := i) (x := r2) rfl (Nat.lt_trans (kx_3 k1.2).1 (by decide)) (kx_3 k1.2).2 (by decide) (by omega) (by omega) ?_
      refine jr.iinc (ls' := [_, _, _, _, _, _]) rfl rfl (nlt rfl) rfl ?_
      refine jr.goto rfl rfl ?_
      refine jr.pick (ls := [_, _, _, _, _, _]) [1, 2, 3, 0, 4, 5] rfl rfl ?_
      exact hK ((ju M ((t + 7)) i r2)) a_ (i + 1) (CI.u hC_M (i := i) k1.2 (show (-9223372036854775808 : Int) ≤ _ ∧ _ ≤ (9223372036854775807 : Int) from by omega) rfl) (FR.o ht_M k1.2 rfl) (by omega) (by omega) (by omega) (by omega) (RWD.e hy0 (k1_18 k_t) (by unfold tBy; rw [if_pos (by omega)]; exact hv2.1)) hy1 (by omega)
theorem c_Flow_readRow_x_L197 {A : Nat → Option (Nat × (Nat → Int32))} {Q : Option Value → jm → Prop} {T : jm} {t : Nat} (k_t : kd t = 1) {y : Int} {z : Int} (q : ∀ (r : Int) (M' : jm), CI M' → FR W_c_Flow_readRow_x T M' → 0 ≤ r ∧ r ≤ 1 → (RRD M' t (T 1) y z ∧ fr7 T M' t ∧ ((r = 1 ∧ rGood (T 1) y) ∨ (r = 0 ∧ ¬ rGood (T 1) y))) → Q (some (.int (Int32.ofInt r))) M') {kM : Nat} (hK : ∀ (M : jm) (a_ : Int) (i : Int), CI M → FR W_c_Flow_readRow_x T M → 0 ≤ y ∧ y ≤ 1552 → 0 ≤ z ∧ z ≤ 2000000000 → 0 ≤ a_ ∧ a_ ≤ 255 → 0 ≤ i ∧ i ≤ 2 → (RWS T M t (T 1) y i) → (a_ = T 1 (y + 1)) → 2 - i ≤ kM → jr A 2 xm_65 66 [(2, .int (Int32.ofInt (y))), (3, .int (Int32.ofInt (z))), (4, .int (Int32.ofInt (a_))), (5, .int (Int32.ofInt (i))), (0, .ref (t)), (1, .ref (1))] [] M Q) : ∀ (nM : Nat) (M : jm) (a_ : Int) (i : Int), CI M → FR W_c_Flow_readRow_x T M → 0 ≤ y ∧ y ≤ 1552 → 0 ≤ z ∧ z ≤ 2000000000 → 0 ≤ a_ ∧ a_ ≤ 255 → 0 ≤ i ∧ i ≤ 1 → (RWC T M t (T 1) y i) → (a_ = T 1 (y + 1)) → (2 - (i + 1) ≤ kM) → 0 ≤ nM → jr A 2 xm_65 197 [(2, .int (Int32.ofInt (y))), (3, .int (Int32.ofInt (z))), (4, .int (Int32.ofInt (a_))), (5, .int (Int32.ofInt (i))), (0, .ref (t)), (1, .ref (1))] [] M Q := by
  intro nM
  induction nM using Nat.strongRecOn with
  | ind nM ih =>
    intro M a_ i hC_M ht_M h_y h_z h_a_ h_i hy0 hy1 hy2 hm
    refine jr.aload_n rfl rfl ?_
    have k1 := kf_1_10 k_t
    refine jr.getf (i := 10) (v := .ref (t + 6)) rfl rfl (Nat.lt_trans (kx_1 k_t).1 (by decide)) (kx_1 k_t).2 (by decide) rfl rfl rfl (jval_ref rfl k1.1) ?_
    refine jr.iload rfl rfl ?_
    refine jr.iload rfl rfl ?_
    refine jr.if_ne rfl rfl (by first | (refine rgb (by assumption) ?_; exact rfl) | omega) (fun h205 => ?_) (fun h205 => ?_)
    · have sx205 : (1 : Int) ≤ i := by omega
      clear h205
      refine jr.lconst (x := 0) rfl (by decide) ?_
      refine jr.last (i := i) (x := 0) rfl (Nat.lt_trans (kx_6 k1.2).1 (by decide)) (kx_6 k1.2).2 (by decide) (by omega) (by omega) ?_
      refine jr.pick (ls := [_, _, _, _, _, _]) [0, 1, 2, 3, 4, 5] rfl rfl ?_
      exact c_Flow_readRow_x_L222 k_t q hK 0 ((ju M ((t + 6)) i 0)) a_ i (CI.u hC_M (i := i) k1.2 (show (-9223372036854775808 : Int) ≤ _ ∧ _ ≤ (9223372036854775807 : Int) from by omega) rfl) (FR.o ht_M k1.2 rfl) (by omega) (by omega) (by omega) (by omega) (RWC.d hy0 (k1_18 k_t) (by unfold tPk; rw [if_neg (by omega)])) hy1 (by omega) (by omega)
    · refine jr.aload_n rfl rfl ?_
      refine jr.iload_n rfl rfl ?_
      refine jr.bipush rfl (jbp _ (nlt rfl)) ?_
      refine jr.iadd rfl ?_
      refine jr.iconst rfl ?_
      refine jr_s rfl rfl (Or.inr rfl) ⟨Nat.le_of_ble_eq_true rfl, Nat.le_of_ble_eq_true rfl⟩ rfl rfl (jc.deep (c_PacketWall_numberAt_tx hC_M (by omega) (by omega) (by omega) (fun r2 z2 w2_0 => ?_)) (Nat.le_of_ble_eq_true rfl))
      have hv2 := tp4 (f := T 1) (r := r2) (fun i => by rw [← hy0.1.1.1]; exact tpb hC_M i) (by have h9 := w2_0; rw [(show M 1 = T 1 from (rfl).trans hy0.1.1.1)] at h9; exact h9)
      refine jr.goto rfl rfl ?_
      refine jr.last (i := i) (x := r2) rfl (Nat.lt_trans (kx_6 k1.2).1 (by decide)) (kx_6 k1.2).2 (by decide) (by omega) (by omega) ?_
      refine jr.pick (ls := [_, _, _, _, _, _]) [0, 1, 2, 3, 4, 5] rfl rfl ?_
      exact c_Flow_readRow_x_L222 k_t q hK 0 ((ju M ((t + 6)) i r2)) a_ i (CI.u hC_M (i := i) k1.2 (show (-9223372036854775808 : Int) ≤ _ ∧ _ ≤ (9223372036854775807 : Int) from by omega) rfl) (FR.o ht_M k1.2 rfl) (by omega) (by omega) (by omega) (by omega) (RWC.d hy0 (k1_18 k_t) (by unfold tPk; rw [if_pos (by omega)]; exact hv2.1)) hy1 (by omega) (by omega)
theorem c_Flow_readRow_x_L161 {A : Nat → Option (Nat × (Nat → Int32))} {Q : Option Value → jm → Prop} {T : jm} {t : Nat} (k_t : kd t = 1) {y : Int} {z : Int} (q : ∀ (r : Int) (M' : jm), CI M' → FR W_c_Flow_readRow_x T M' → 0 ≤ r ∧ r ≤ 1 → (RRD M' t (T 1) y z ∧ fr7 T M' t ∧ ((r = 1 ∧ rGood (T 1) y) ∨ (r = 0 ∧ ¬ rGood (T 1) y))) → Q (some (.int (Int32.ofInt r))) M') {kM : Nat} (hK : ∀ (M : jm) (a_ : Int) (i : Int), CI M → FR W_c_Flow_readRow_x T M → 0 ≤ y ∧ y ≤ 1552 → 0 ≤ z ∧ z ≤ 2000000000 → 0 ≤ a_ ∧ a_ ≤ 255 → 0 ≤ i ∧ i ≤ 2 → (RWS T M t (T 1) y i) → (a_ = T 1 (y + 1)) → 2 - i ≤ kM → jr A 2 xm_65 66 [(2, .int (Int32.ofInt (y))), (3, .int (Int32.ofInt (z))), (4, .int (Int32.ofInt (a_))), (5, .int (Int32.ofInt (i))), (0, .ref (t)), (1, .ref (1))] [] M Q) : ∀ (nM : Nat) (M : jm) (a_ : Int) (i : Int), CI M → FR W_c_Flow_readRow_x T M → 0 ≤ y ∧ y ≤ 1552 → 0 ≤ z ∧ z ≤ 2000000000 → 0 ≤ a_ ∧ a_ ≤ 255 → 0 ≤ i ∧ i ≤ 1 → (RWB T M t (T 1) y i) → (a_ = T 1 (y + 1)) → (2 - (i + 1) ≤ kM) → 0 ≤ nM → jr A 2 xm_65 161 [(2, .int (Int32.ofInt (y))), (3, .int (Int32.ofInt (z))), (4, .int (Int32.ofInt (a_))), (5, .int (Int32.ofInt (i))), (0, .ref (t)), (1, .ref (1))] [] M Q := by
  intro nM
  induction nM using Nat.strongRecOn with
  | ind nM ih =>
    intro M a_ i hC_M ht_M h_y h_z h_a_ h_i hy0 hy1 hy2 hm
    refine jr.aload_n rfl rfl ?_
    have k1 := kf_1_7 k_t
    refine jr.getf (i := 7) (v := .ref (t + 3)) rfl rfl (Nat.lt_trans (kx_1 k_t).1 (by decide)) (kx_1 k_t).2 (by decide) rfl rfl rfl (jval_ref rfl k1.1) ?_
    refine jr.iload rfl rfl ?_
    refine jr.aload_n rfl rfl ?_
    have k2 := kf_1_8 k_t
    refine jr.getf (i := 8) (v := .ref (t + 4)) rfl rfl (Nat.lt_trans (kx_1 k_t).1 (by decide)) (kx_1 k_t).2 (by decide) rfl rfl rfl (jval_ref rfl k2.1) ?_
    refine jr.iload rfl rfl ?_
    obtain ⟨v3, e3⟩ : ∃ z_, M ((t + 4)) i = z_ := ⟨_, rfl⟩
    have b3 : 0 ≤ v3 ∧ v3 ≤ 1 := by rw [← e3]; exact (CI.r hC_M k2.2 (by decide) i)
    refine jr.zald (i := i) (x := v3) rfl (Nat.lt_trans (kx_4 k2.2).1 (by decide)) (kx_4 k2.2).2 (by decide) (by omega) (by omega) e3 ?_
    refine jr.if_eq rfl rfl (by first | (refine rgb (by assumption) ?_; exact rfl) | omega) (fun h174 => ?_) (fun h174 => ?_)
    · refine jr.iconst rfl ?_
      refine jr.iast (i := i) (x := 0) rfl (Nat.lt_trans (kx_5 k1.2).1 (by decide)) (kx_5 k1.2).2 (by decide) (by omega) (by omega) ?_
      refine jr.pick (ls := [_, _, _, _, _, _]) [0, 1, 2, 3, 4, 5] rfl rfl ?_
      exact c_Flow_readRow_x_L197 k_t q hK 0 ((ju M ((t + 3)) i 0)) a_ i (CI.u hC_M (i := i) k1.2 (show (-2147483648 : Int) ≤ _ ∧ _ ≤ (2147483647 : Int) from by omega) rfl) (FR.o ht_M k1.2 rfl) (by omega) (by omega) (by omega) (by omega) (RWB.c hy0 (k1_18 k_t) (by unfold tLa; rw [(show tHl (T 1) y i = _ from hy0.2.2.2.2.symm.trans e3), if_pos (by omega)])) hy1 (by omega) (by omega)
    · have sx174 : (1 : Int) ≤ v3 := by omega
      clear h174
      refine jr.aload_n rfl rfl ?_
      refine jr.iload_n rfl rfl ?_
      refine jr.bipush rfl (jbp _ (nlt rfl)) ?_
      refine jr.iadd rfl ?_
      refine jr.iconst rfl ?_
      refine jr.iload rfl rfl ?_
      refine jr.imul rfl ?_
      refine jr.iadd rfl ?_
      refine jr.iconst rfl ?_
      refine jr_s rfl rfl (Or.inr rfl) ⟨Nat.le_of_ble_eq_true rfl, Nat.le_of_ble_eq_true rfl⟩ rfl rfl (jc.deep (c_PacketWall_numberAt_tx hC_M (by omega) (by omega) (by omega) (fun r4 z4 w4_0 => ?_)) (Nat.le_of_ble_eq_true rfl))
      have hv4 := tp4 (f := T 1) (r := r4) (fun i => by rw [← hy0.1.1]; exact tpb hC_M i) (by have h9 := w4_0; rw [(show M 1 = T 1 from (rfl).trans hy0.1.1)] at h9; exact h9)
      refine jr.l2i rfl ?_
      refine jr.iw (j_w r4) (j_w_eq _) ?_
      have b5 : -2147483648 ≤ j_w r4 ∧ j_w r4 ≤ 2147483647 := jb_any _
      refine jr.goto rfl rfl ?_
      refine jr.iast (i := i) (x := (j_w r4)) rfl (Nat.lt_trans (kx_5 k1.2).1 (by decide)) (kx_5 k1.2).2 (by decide) (by omega) (by omega) ?_
      refine jr.pick (ls := [_, _, _, _, _, _]) [0, 1, 2, 3, 4, 5] rfl rfl ?_
      exact c_Flow_readRow_x_L197 k_t q hK 0 ((ju M ((t + 3)) i (j_w r4))) a_ i (CI.u hC_M (i := i) k1.2 (show (-2147483648 : Int) ≤ _ ∧ _ ≤ (2147483647 : Int) from by omega) rfl) (FR.o ht_M k1.2 rfl) (by omega) (by omega) (by omega) (by omega) (RWB.c hy0 (k1_18 k_t) (by unfold tLa; rw [(show tHl (T 1) y i = _ from hy0.2.2.2.2.symm.trans e3), if_neg (by omega), ← hv4.1])) hy1 (by omega) (by omega)
theorem c_Flow_readRow_x_L66 {A : Nat → Option (Nat × (Nat → Int32))} {Q : Option Value → jm → Prop} {T : jm} {t : Nat} (k_t : kd t = 1) {y : Int} {z : Int} (q : ∀ (r : Int) (M' : jm), CI M' → FR W_c_Flow_readRow_x T M' → 0 ≤ r ∧ r ≤ 1 → (RRD M' t (T 1) y z ∧ fr7 T M' t ∧ ((r = 1 ∧ rGood (T 1) y) ∨ (r = 0 ∧ ¬ rGood (T 1) y))) → Q (some (.int (Int32.ofInt r))) M') : ∀ (nM : Nat) (M : jm) (a_ : Int) (i : Int), CI M → FR W_c_Flow_readRow_x T M → 0 ≤ y ∧ y ≤ 1552 → 0 ≤ z ∧ z ≤ 2000000000 → 0 ≤ a_ ∧ a_ ≤ 255 → 0 ≤ i ∧ i ≤ 2 → (RWS T M t (T 1) y i) → (a_ = T 1 (y + 1)) → 2 - i ≤ nM → jr A 2 xm_65 66 [(2, .int (Int32.ofInt (y))), (3, .int (Int32.ofInt (z))), (4, .int (Int32.ofInt (a_))), (5, .int (Int32.ofInt (i))), (0, .ref (t)), (1, .ref (1))] [] M Q := by
  intro nM
  induction nM using Nat.strongRecOn with
  | ind nM ih =>
    intro M a_ i hC_M ht_M h_y h_z h_a_ h_i hy0 hy1 hm
    refine jr.iload rfl rfl ?_
    refine jr.iconst rfl ?_
    refine jr.icmp_ge rfl rfl (by first | (refine rgb (by assumption) ?_; exact rfl) | omega) (rgl rfl) (fun h69 => ?_) (fun h69 => ?_)
    · refine jr.aload_n rfl rfl ?_
      refine jr.iload rfl rfl ?_
      refine jr.sipush rfl (by decide) ?_
      refine jr.iand rfl ?_
      have b1 : j_and a_ 128 = a_ / 128 % 2 * 128 ∧ 0 ≤ j_and a_ 128 ∧ j_and a_ 128 ≤ 128 := ⟨(jbx (by omega)).2.2, by rw [(jbx (by omega)).2.2]; omega⟩
      generalize j_and a_ 128 = v1 at b1 ⊢
      refine jr.if_eq rfl rfl (by first | (refine rgb (by assumption) ?_; exact rfl) | omega) (fun h260 => ?_) (fun h260 => ?_)
      · refine jr.iconst rfl ?_
        refine jr.putf (i := 12) (x := 0) rfl rfl (Nat.lt_trans (kx_1 k_t).1 (by decide)) (kx_1 k_t).2 (by decide) rfl rfl rfl rfl rfl ?_
        refine jr.pick (ls := [_, _, _, _]) [0, 1, 4, 5] rfl rfl ?_
        exact c_Flow_readRow_x_L271 k_t q 0 ((ju M t 12 0))  (CI.u hC_M (i := 12) k_t (show (0 : Int) ≤ _ ∧ _ ≤ (1 : Int) from by omega) rfl) (FR.o ht_M k_t rfl) (by omega) (by omega) (RWS.e (by have h9 := hy0; rw [show i = 2 from by omega] at h9; exact h9) (k1_18 k_t) (by rw [← hy1]; have h9 := b1.1; omega)) (by omega)
      · have sx260 : (1 : Int) ≤ v1 := by omega
        clear h260
        refine jr.iconst rfl ?_
        refine jr.goto rfl rfl ?_
        refine jr.putf (i := 12) (x := 1) rfl rfl (Nat.lt_trans (kx_1 k_t).1 (by decide)) (kx_1 k_t).2 (by decide) rfl rfl rfl rfl rfl ?_
        refine jr.pick (ls := [_, _, _, _]) [0, 1, 4, 5] rfl rfl ?_
        exact c_Flow_readRow_x_L271 k_t q 0 ((ju M t 12 1))  (CI.u hC_M (i := 12) k_t (show (0 : Int) ≤ _ ∧ _ ≤ (1 : Int) from by omega) rfl) (FR.o ht_M k_t rfl) (by omega) (by omega) (RWS.e (by have h9 := hy0; rw [show i = 2 from by omega] at h9; exact h9) (k1_18 k_t) (by rw [← hy1]; have h9 := b1.1; omega)) (by omega)
    · refine jr.aload_n rfl rfl ?_
      have k2 := kf_1_4 k_t
      refine jr.getf (i := 4) (v := .ref (t + 2)) rfl rfl (Nat.lt_trans (kx_1 k_t).1 (by decide)) (kx_1 k_t).2 (by decide) rfl rfl rfl (jval_ref rfl k2.1) ?_
      refine jr.iload rfl rfl ?_
      refine jr.aload_n rfl rfl ?_
      refine jr.iload_n rfl rfl ?_
      refine jr.iconst rfl ?_
      refine jr.iadd rfl ?_
      refine jr.iconst rfl ?_
      refine jr.iload rfl rfl ?_
      refine jr.imul rfl ?_
      refine jr.iadd rfl ?_
      refine jr.iconst rfl ?_
      refine jr_s rfl rfl (Or.inr rfl) ⟨Nat.le_of_ble_eq_true rfl, Nat.le_of_ble_eq_true rfl⟩ rfl rfl (jc.deep (c_PacketWall_numberAt_tx hC_M (by omega) (by omega) (by omega) (fun r3 z3 w3_0 => ?_)) (Nat.le_of_ble_eq_true rfl))
      have hv3 := tp2 (f := T 1) (r := r3) (fun i => by rw [← hy0.1]; exact tpb hC_M i) (by have h9 := w3_0; rw [(show M 1 = T 1 from (rfl).trans hy0.1)] at h9; exact h9)
      refine jr.l2i rfl ?_
      refine jr.iast (i := i) (x := r3) rfl (Nat.lt_trans (kx_7 k2.2).1 (by decide)) (kx_7 k2.2).2 (by decide) (by omega) (by omega) ?_
      refine jr.aload_n rfl rfl ?_
      have k4 := kf_1_9 k_t
      refine jr.getf (i := 9) (v := .ref (t + 5)) rfl rfl (Nat.lt_trans (kx_1 k_t).1 (by decide)) (kx_1 k_t).2 (by decide) rfl rfl rfl (jval_ref rfl k4.1) ?_
      refine jr.iload rfl rfl ?_
      refine jr.aload_n rfl rfl ?_
      refine jr.iload_n rfl rfl ?_
      refine jr.bipush rfl (jbp _ (nlt rfl)) ?_
      refine jr.iadd rfl ?_
      refine jr.iconst rfl ?_
      refine jr.iload rfl rfl ?_
      refine jr.imul rfl ?_
      refine jr.iadd rfl ?_
      refine jr.iconst rfl ?_
      refine jr_s rfl rfl (Or.inr rfl) ⟨Nat.le_of_ble_eq_true rfl, Nat.le_of_ble_eq_true rfl⟩ rfl rfl (jc.deep (c_PacketWall_numberAt_tx (CI.u hC_M (i := i) k2.2 (show (-2147483648 : Int) ≤ _ ∧ _ ≤ (2147483647 : Int) from by omega) rfl) (by omega) (by omega) (by omega) (fun r5 z5 w5_0 => ?_)) (Nat.le_of_ble_eq_true rfl))
      have hv5 := tp2 (f := T 1) (r := r5) (fun i => by rw [← hy0.1]; exact tpb hC_M i) (by have h9 := w5_0; rw [(show ((ju M ((t + 2)) i r3)) 1 = T 1 from (((ju1_row (kd_ne (by rw [k2.2]; decide))).trans rfl)).trans hy0.1)] at h9; exact h9)
      refine jr.l2i rfl ?_
      refine jr.iast (i := i) (x := r5) rfl (Nat.lt_trans (kx_8 k4.2).1 (by decide)) (kx_8 k4.2).2 (by decide) (by omega) (by omega) ?_
      refine jr.aload_n rfl rfl ?_
      have k6 := kf_1_3 k_t
      refine jr.getf (i := 3) (v := .ref (t + 1)) rfl rfl (Nat.lt_trans (kx_1 k_t).1 (by decide)) (kx_1 k_t).2 (by decide) rfl rfl rfl (jval_ref rfl k6.1) ?_
      refine jr.iload rfl rfl ?_
      refine jr.aload_n rfl rfl ?_
      refine jr.iload_n rfl rfl ?_
      refine jr.bipush rfl (jbp _ (nlt rfl)) ?_
      refine jr.iadd rfl ?_
      refine jr.bipush rfl (jbp _ (nlt rfl)) ?_
      refine jr.iload rfl rfl ?_
      refine jr.imul rfl ?_
      refine jr.iadd rfl ?_
      refine jr.bipush rfl (jbp _ (nlt rfl)) ?_
      refine jr_s rfl rfl (Or.inr rfl) ⟨Nat.le_of_ble_eq_true rfl, Nat.le_of_ble_eq_true rfl⟩ rfl rfl (jc.deep (c_PacketWall_numberAt_tx (CI.u (CI.u hC_M (i := i) k2.2 (show (-2147483648 : Int) ≤ _ ∧ _ ≤ (2147483647 : Int) from by omega) rfl) (i := i) k4.2 (show (-2147483648 : Int) ≤ _ ∧ _ ≤ (2147483647 : Int) from by omega) rfl) (by omega) (by omega) (by omega) (fun r7 z7 w7_0 => ?_)) (Nat.le_of_ble_eq_true rfl))
      have hv7 : r7 = jl_w (nbs (T 1) _ (8 : Int).toNat) := (by have h9 := w7_0; rw [(show ((ju (ju M ((t + 2)) i r3) ((t + 5)) i r5)) 1 = T 1 from (((ju1_row (kd_ne (by rw [k4.2]; decide))).trans ((ju1_row (kd_ne (by rw [k2.2]; decide))).trans rfl))).trans hy0.1)] at h9; exact h9)
      refine jr.last (i := i) (x := r7) rfl (Nat.lt_trans (kx_2 k6.2).1 (by decide)) (kx_2 k6.2).2 (by decide) (by omega) (by omega) ?_
      refine jr.aload_n rfl rfl ?_
      have k8 := kf_1_8 k_t
      refine jr.getf (i := 8) (v := .ref (t + 4)) rfl rfl (Nat.lt_trans (kx_1 k_t).1 (by decide)) (kx_1 k_t).2 (by decide) rfl rfl rfl (jval_ref rfl k8.1) ?_
      refine jr.iload rfl rfl ?_
      refine jr.iload rfl rfl ?_
      refine jr.bipush rfl (jbp _ (nlt rfl)) ?_
      refine jr.iload rfl rfl ?_
      refine jr.ishl rfl ?_
      refine jr.iand rfl ?_
      have b9 : j_and a_ (j_shl 32 i) = (if i = 0 then a_ / 32 % 2 * 32 else a_ / 64 % 2 * 64) ∧ 0 ≤ j_and a_ (j_shl 32 i) ∧ j_and a_ (j_shl 32 i) ≤ 64 := hl_and (by omega) (by omega)
      generalize j_and a_ (j_shl 32 i) = v9 at b9 ⊢
      refine jr.if_eq rfl rfl (by first | (refine rgb (by assumption) ?_; exact rfl) | omega) (fun h152 => ?_) (fun h152 => ?_)
      · refine jr.iconst rfl ?_
        refine jr.zast (i := i) (x := 0) rfl (Nat.lt_trans (kx_4 k8.2).1 (by decide)) (kx_4 k8.2).2 (by decide) (by omega) (by omega) (j_zn (by omega)) ?_
        refine jr.pick (ls := [_, _, _, _, _, _]) [0, 1, 2, 3, 4, 5] rfl rfl ?_
        exact c_Flow_readRow_x_L161 k_t q (ih (nM - 1) (by omega)) 0 ((ju (ju (ju (ju M ((t + 2)) i r3) ((t + 5)) i r5) ((t + 1)) i r7) ((t + 4)) i 0)) a_ i (CI.u (CI.u (CI.u (CI.u hC_M (i := i) k2.2 (show (-2147483648 : Int) ≤ _ ∧ _ ≤ (2147483647 : Int) from by omega) rfl) (i := i) k4.2 (show (-2147483648 : Int) ≤ _ ∧ _ ≤ (2147483647 : Int) from by omega) rfl) (i := i) k6.2 (show (-9223372036854775808 : Int) ≤ _ ∧ _ ≤ (9223372036854775807 : Int) from by omega) rfl) (i := i) k8.2 (show (0 : Int) ≤ _ ∧ _ ≤ (1 : Int) from by omega) rfl) (FR.o (FR.o (FR.o (FR.o ht_M k2.2 rfl) k4.2 rfl) k6.2 rfl) k8.2 rfl) (by omega) (by omega) (by omega) (by omega) (RWS.b hy0 (k1_18 k_t) hv3.1 hv5.1 hv7 (by unfold tHl; rw [← hy1]; have h9 := b9.1; split at h9 <;> first | (rw [if_pos (by assumption)]; omega) | (rw [if_neg (by assumption)]; omega))) hy1 (by omega) (by omega)
      · have sx152 : (1 : Int) ≤ v9 := by omega
        clear h152
        refine jr.iconst rfl ?_
        refine jr.goto rfl rfl ?_
        refine jr.zast (i := i) (x := 1) rfl (Nat.lt_trans (kx_4 k8.2).1 (by decide)) (kx_4 k8.2).2 (by decide) (by omega) (by omega) (j_zn (by omega)) ?_
        refine jr.pick (ls := [_, _, _, _, _, _]) [0, 1, 2, 3, 4, 5] rfl rfl ?_
        exact c_Flow_readRow_x_L161 k_t q (ih (nM - 1) (by omega)) 0 ((ju (ju (ju (ju M ((t + 2)) i r3) ((t + 5)) i r5) ((t + 1)) i r7) ((t + 4)) i 1)) a_ i (CI.u (CI.u (CI.u (CI.u hC_M (i := i) k2.2 (show (-2147483648 : Int) ≤ _ ∧ _ ≤ (2147483647 : Int) from by omega) rfl) (i := i) k4.2 (show (-2147483648 : Int) ≤ _ ∧ _ ≤ (2147483647 : Int) from by omega) rfl) (i := i) k6.2 (show (-9223372036854775808 : Int) ≤ _ ∧ _ ≤ (9223372036854775807 : Int) from by omega) rfl) (i := i) k8.2 (show (0 : Int) ≤ _ ∧ _ ≤ (1 : Int) from by omega) rfl) (FR.o (FR.o (FR.o (FR.o ht_M k2.2 rfl) k4.2 rfl) k6.2 rfl) k8.2 rfl) (by omega) (by omega) (by omega) (by omega) (RWS.b hy0 (k1_18 k_t) hv3.1 hv5.1 hv7 (by unfold tHl; rw [← hy1]; have h9 := b9.1; split at h9 <;> first | (rw [if_pos (by assumption)]; omega) | (rw [if_neg (by assumption)]; omega))) hy1 (by omega) (by omega)
theorem c_Flow_readRow_x {A : Nat → Option (Nat × (Nat → Int32))} {Q : Option Value → jm → Prop} {T : jm} {M : jm} (hC_M : CI M) (ht_M : FR W_c_Flow_readRow_x T M) {t : Nat} (k_t : kd t = 1) {y : Int} (h_y : 0 ≤ y ∧ y ≤ 1552) {z : Int} (h_z : 0 ≤ z ∧ z ≤ 2000000000) (p0 : T = M) (q : ∀ (r : Int) (M' : jm), CI M' → FR W_c_Flow_readRow_x T M' → 0 ≤ r ∧ r ≤ 1 → (RRD M' t (T 1) y z ∧ fr7 T M' t ∧ ((r = 1 ∧ rGood (T 1) y) ∨ (r = 0 ∧ ¬ rGood (T 1) y))) → Q (some (.int (Int32.ofInt r))) M') : jc A 3 65 [.ref (t), .ref (1), .int (Int32.ofInt (y)), .int (Int32.ofInt (z))] M Q := by
  refine jc_of (m := xm_65) rfl (Nat.le_of_ble_eq_true rfl) rfl ?_
  refine jr.aload_n rfl rfl ?_
  refine jr.iload_n rfl rfl ?_
  refine jr.iconst rfl ?_
  refine jr.iadd rfl ?_
  refine jr.iconst rfl ?_
  refine jr_s rfl rfl (Or.inr rfl) ⟨Nat.le_of_ble_eq_true rfl, Nat.le_of_ble_eq_true rfl⟩ rfl rfl (jc.deep (c_PacketWall_numberAt_tx hC_M (by omega) (by omega) (by omega) (fun r1 z1 w1_0 => ?_)) (Nat.le_of_ble_eq_true rfl))
  have hv1 := tp1 (f := M 1) (r := r1) (tpb hC_M) (by have h9 := w1_0; rw [(show M 1 = M 1 from (rfl).trans rfl)] at h9; exact h9)
  refine jr.l2i rfl ?_
  refine jr.istore (ls' := [_, _, _, _, _]) rfl (nlt rfl) rfl ?_
  refine jr.aload_n rfl rfl ?_
  refine jr.aload_n rfl rfl ?_
  refine jr.iload_n rfl rfl ?_
  refine jr.iconst rfl ?_
  refine jr_s rfl rfl (Or.inr rfl) ⟨Nat.le_of_ble_eq_true rfl, Nat.le_of_ble_eq_true rfl⟩ rfl rfl (jc.deep (c_PacketWall_numberAt_tx hC_M (by omega) (by omega) (by omega) (fun r2 z2 w2_0 => ?_)) (Nat.le_of_ble_eq_true rfl))
  have hv2 := tp1 (f := M 1) (r := r2) (tpb hC_M) (by have h9 := w2_0; rw [(show M 1 = M 1 from (rfl).trans rfl)] at h9; exact h9)
  refine jr.l2i rfl ?_
  refine jr.putf (i := 2) (x := r2) rfl rfl (Nat.lt_trans (kx_1 k_t).1 (by decide)) (kx_1 k_t).2 (by decide) rfl rfl rfl rfl rfl ?_
  refine jr.aload_n rfl rfl ?_
  refine jr.iload rfl rfl ?_
  refine jr.bipush rfl (jbp _ (nlt rfl)) ?_
  refine jr.iand rfl ?_
  have b3 : j_and r1 16 = r1 / 16 % 2 * 16 ∧ 0 ≤ j_and r1 16 ∧ j_and r1 16 ≤ 16 := ⟨(jbt (by omega)).2.2.2, by rw [(jbt (by omega)).2.2.2]; omega⟩
  generalize j_and r1 16 = v3 at b3 ⊢
  refine jr.if_eq rfl rfl (by first | (refine rgb (by assumption) ?_; exact rfl) | omega) (fun h28 => ?_) (fun h28 => ?_)
  · refine jr.iconst rfl ?_
    refine jr.putf (i := 1) (x := 0) rfl rfl (Nat.lt_trans (kx_1 k_t).1 (by decide)) (kx_1 k_t).2 (by decide) rfl rfl rfl rfl rfl ?_
    refine jr.aload_n rfl rfl ?_
    refine jr.iload rfl rfl ?_
    refine jr.bipush rfl (jbp _ (nlt rfl)) ?_
    refine jr.iand rfl ?_
    have b4 : j_and r1 15 = r1 % 16 ∧ 0 ≤ j_and r1 15 ∧ j_and r1 15 ≤ 15 := ⟨j_and_m 4 (by decide) _, by rw [show (15 : Int) = ((2 ^ 4 - 1 : Nat) : Int) from rfl, j_and_m 4 (by decide)]; omega⟩
    generalize j_and r1 15 = v4 at b4 ⊢
    refine jr.putf (i := 5) (x := v4) rfl rfl (Nat.lt_trans (kx_1 k_t).1 (by decide)) (kx_1 k_t).2 (by decide) rfl rfl rfl rfl rfl ?_
    refine jr.aload_n rfl rfl ?_
    refine jr.iconst rfl ?_
    refine jr.putf (i := 0) (x := 1) rfl rfl (Nat.lt_trans (kx_1 k_t).1 (by decide)) (kx_1 k_t).2 (by decide) rfl rfl rfl rfl rfl ?_
    refine jr.aload_n rfl rfl ?_
    refine jr.iconst rfl ?_
    refine jr.putf (i := 13) (x := (-1)) rfl rfl (Nat.lt_trans (kx_1 k_t).1 (by decide)) (kx_1 k_t).2 (by decide) rfl rfl rfl rfl rfl ?_
    refine jr.aload_n rfl rfl ?_
    refine jr.iconst rfl ?_
    refine jr.putf (i := 15) (x := (-1)) rfl rfl (Nat.lt_trans (kx_1 k_t).1 (by decide)) (kx_1 k_t).2 (by decide) rfl rfl rfl rfl rfl ?_
    refine jr.iconst rfl ?_
    refine jr.istore (ls' := [_, _, _, _, _, _]) rfl (nlt rfl) rfl ?_
    refine jr.pick (ls := [_, _, _, _, _, _]) [4, 5, 1, 0, 2, 3] rfl rfl ?_
    exact c_Flow_readRow_x_L66 k_t q 2 ((ju (ju (ju (ju (ju (ju M t 2 r2) t 1 0) t 5 v4) t 0 1) t 13 (-1)) t 15 (-1))) r1 0 (CI.u (CI.u (CI.u (CI.u (CI.u (CI.u hC_M (i := 2) k_t (show (-2147483648 : Int) ≤ _ ∧ _ ≤ (2147483647 : Int) from by omega) rfl) (i := 1) k_t (show (0 : Int) ≤ _ ∧ _ ≤ (1 : Int) from by omega) rfl) (i := 5) k_t (show (-2147483648 : Int) ≤ _ ∧ _ ≤ (2147483647 : Int) from by omega) rfl) (i := 0) k_t (show (0 : Int) ≤ _ ∧ _ ≤ (1 : Int) from by omega) rfl) (i := 13) k_t (show (-2147483648 : Int) ≤ _ ∧ _ ≤ (2147483647 : Int) from by omega) rfl) (i := 15) k_t (show (-2147483648 : Int) ≤ _ ∧ _ ≤ (2147483647 : Int) from by omega) rfl) (FR.o (FR.o (FR.o (FR.o (FR.o (FR.o ht_M k_t rfl) k_t rfl) k_t rfl) k_t rfl) k_t rfl) k_t rfl) (by omega) (by omega) (by omega) (by omega) (RWS.z p0 (k1_18 k_t) (by have h9 := hv2; omega) (by have h9 := hv1; omega) (by have h9 := hv1; omega)) (by rw [p0]; have h9 := hv1; omega) (by omega)
  · have sx28 : (1 : Int) ≤ v3 := by omega
    clear h28
    refine jr.iconst rfl ?_
    refine jr.goto rfl rfl ?_
    refine jr.putf (i := 1) (x := 1) rfl rfl (Nat.lt_trans (kx_1 k_t).1 (by decide)) (kx_1 k_t).2 (by decide) rfl rfl rfl rfl rfl ?_
    refine jr.aload_n rfl rfl ?_
    refine jr.iload rfl rfl ?_
    refine jr.bipush rfl (jbp _ (nlt rfl)) ?_
    refine jr.iand rfl ?_
    have b5 : j_and r1 15 = r1 % 16 ∧ 0 ≤ j_and r1 15 ∧ j_and r1 15 ≤ 15 := ⟨j_and_m 4 (by decide) _, by rw [show (15 : Int) = ((2 ^ 4 - 1 : Nat) : Int) from rfl, j_and_m 4 (by decide)]; omega⟩
    generalize j_and r1 15 = v5 at b5 ⊢
    refine jr.putf (i := 5) (x := v5) rfl rfl (Nat.lt_trans (kx_1 k_t).1 (by decide)) (kx_1 k_t).2 (by decide) rfl rfl rfl rfl rfl ?_
    refine jr.aload_n rfl rfl ?_
    refine jr.iconst rfl ?_
    refine jr.putf (i := 0) (x := 1) rfl rfl (Nat.lt_trans (kx_1 k_t).1 (by decide)) (kx_1 k_t).2 (by decide) rfl rfl rfl rfl rfl ?_
    refine jr.aload_n rfl rfl ?_
    refine jr.iconst rfl ?_
    refine jr.putf (i := 13) (x := (-1)) rfl rfl (Nat.lt_trans (kx_1 k_t).1 (by decide)) (kx_1 k_t).2 (by decide) rfl rfl rfl rfl rfl ?_
    refine jr.aload_n rfl rfl ?_
    refine jr.iconst rfl ?_
    refine jr.putf (i := 15) (x := (-1)) rfl rfl (Nat.lt_trans (kx_1 k_t).1 (by decide)) (kx_1 k_t).2 (by decide) rfl rfl rfl rfl rfl ?_
    refine jr.iconst rfl ?_
    refine jr.istore (ls' := [_, _, _, _, _, _]) rfl (nlt rfl) rfl ?_
    refine jr.pick (ls := [_, _, _, _, _, _]) [4, 5, 1, 0, 2, 3] rfl rfl ?_
    exact c_Flow_readRow_x_L66 k_t q 2 ((ju (ju (ju (ju (ju (ju M t 2 r2) t 1 1) t 5 v5) t 0 1) t 13 (-1)) t 15 (-1))) r1 0 (CI.u (CI.u (CI.u (CI.u (CI.u (CI.u hC_M (i := 2) k_t (show (-2147483648 : Int) ≤ _ ∧ _ ≤ (2147483647 : Int) from by omega) rfl) (i := 1) k_t (show (0 : Int) ≤ _ ∧ _ ≤ (1 : Int) from by omega) rfl) (i := 5) k_t (show (-2147483648 : Int) ≤ _ ∧ _ ≤ (2147483647 : Int) from by omega) rfl) (i := 0) k_t (show (0 : Int) ≤ _ ∧ _ ≤ (1 : Int) from by omega) rfl) (i := 13) k_t (show (-2147483648 : Int) ≤ _ ∧ _ ≤ (2147483647 : Int) from by omega) rfl) (i := 15) k_t (show (-2147483648 : Int) ≤ _ ∧ _ ≤ (2147483647 : Int) from by omega) rfl) (FR.o (FR.o (FR.o (FR.o (FR.o (FR.o ht_M k_t rfl) k_t rfl) k_t rfl) k_t rfl) k_t rfl) k_t rfl) (by omega) (by omega) (by omega) (by omega) (RWS.z p0 (k1_18 k_t) (by have h9 := hv2; omega) (by have h9 := hv1; omega) (by have h9 := hv1; omega)) (by rw [p0]; have h9 := hv1; omega) (by omega)
theorem c_Flows_isTold_x_L2 {A : Nat → Option (Nat × (Nat → Int32))} {Q : Option Value → jm → Prop} {M : jm} (hC_M : CI M) {W_ : Int} {x : Int} (q : ∀ (r : Int), 0 ≤ r ∧ r ≤ 1 → ((r = 1 ∧ ∃ a : Int, 0 ≤ a ∧ a < x ∧ sdF M (xe W_.toNat a) (xe W_.toNat x) ≠ -1) ∨ (r = 0 ∧ ∀ a : Int, 0 ≤ a → a < x → sdF M (xe W_.toNat a) (xe W_.toNat x) = -1)) → Q (some (.int (Int32.ofInt r))) M) : ∀ (nM : Nat) (i : Int), 0 ≤ x ∧ x ≤ 23 → 0 ≤ i ∧ i ≤ 24 → M 15 1 = W_ → (∀ a : Int, 0 ≤ a → a < i → sdF M (xe W_.toNat a) (xe W_.toNat x) = -1) → 24 - i ≤ nM → jr A 2 xm_85 2 [(1, .int (Int32.ofInt (x))), (2, .int (Int32.ofInt (i))), (0, .ref (15))] [] M Q := by
  intro nM
  induction nM using Nat.strongRecOn with
  | ind nM ih =>
    intro i h_x h_i g_W_ hy0 hm
    have b_W_ : 16 ≤ W_ ∧ W_ ≤ 17 := by rw [← g_W_]; exact (CI.r hC_M (show kd 15 = 9 from rfl) (by decide) 1)
    refine jr.iload_n rfl rfl ?_
    refine jr.iload_n rfl rfl ?_
    refine jr.icmp_ge rfl rfl (by first | (refine rgb (by assumption) ?_; exact rfl) | omega) (by first | (refine rgb (by assumption) ?_; exact rfl) | omega) (fun h4 => ?_) (fun h4 => ?_)
    · refine jr.iconst rfl ?_
      exact jr.ireturn rfl rfl rfl (q _ (by first | exact rgq rfl | omega) (Or.inr ⟨rfl, fun a a0 a1 => hy0 a a0 (by omega)⟩))
    · refine jr.aload_n rfl rfl ?_
      have k1 : kd (W_).toNat = 13 := by rcases (show W_ = 16 ∨ W_ = 17 by omega) with h | h <;> (rw [h]; rfl)
      refine jr.getf (i := 1) (x := W_) (v := .ref (W_.toNat)) rfl rfl (nlt rfl) rfl (nlt rfl) rfl rfl g_W_ rfl ?_
      refine jr.iload_n rfl rfl ?_
      have k2 := kxe_13 k1 (i := i) (by omega) (by omega)
      refine jr.aald (c := (xe ((W_.toNat)) i)) rfl (Nat.lt_trans (kx_13 k1).1 (by decide)) (kx_13 k1).2 (by decide) (by decide) rfl (by decide) (by omega) (by omega) k2.1 ?_
      refine jr.aload_n rfl rfl ?_
      have k3 : kd (W_).toNat = 13 := by rcases (show W_ = 16 ∨ W_ = 17 by omega) with h | h <;> (rw [h]; rfl)
      refine jr.getf (i := 1) (x := W_) (v := .ref (W_.toNat)) rfl rfl (nlt rfl) rfl (nlt rfl) rfl rfl g_W_ rfl ?_
      refine jr.iload_n rfl rfl ?_
      have k4 := kxe_13 k3 (i := x) (by omega) (by omega)
      refine jr.aald (c := (xe ((W_.toNat)) x)) rfl (Nat.lt_trans (kx_13 k3).1 (by decide)) (kx_13 k3).2 (by decide) (by decide) rfl (by decide) (by omega) (by omega) k4.1 ?_
      refine jr_v rfl rfl (Or.inl rfl) rfl rfl (Nat.lt_trans (kx_1 k2.2).1 (by decide)) (kx_1 k2.2).2 ⟨rfl, Nat.le_of_ble_eq_true rfl, Nat.le_of_ble_eq_true rfl⟩ rfl (jc.deep (c_Flow_sideOf_x hC_M k2.2 k4.2 (fun r5 z5 w5_0 => ?_)) (Nat.le_of_ble_eq_true rfl))
      refine jr.iconst rfl ?_
      refine jr.icmp_eq rfl rfl (by first | (refine rgb (by assumption) ?_; exact rfl) | omega) (rgl rfl) (fun h23 => ?_) (fun h23 => ?_)
      · refine jr.iinc (ls' := [_, _, _]) rfl rfl (nlt rfl) rfl ?_
        refine jr.goto rfl rfl ?_
        refine jr.pick (ls := [_, _, _]) [1, 0, 2] rfl rfl ?_
        exact ih (nM - 1) (by omega) (i + 1) (by omega) (by omega) g_W_ (fun a a0 a1 => by by_cases q : a = i; (subst q; rw [← w5_0]; omega); (exact hy0 a a0 (by omega))) (by omega)
      · have sx23 : (0 : Int) ≤ r5 := by omega
        clear h23
        refine jr.iconst rfl ?_
        exact jr.ireturn rfl rfl rfl (q _ (by first | exact rgq rfl | omega) (Or.inl ⟨rfl, i, by omega, by omega, by rw [← w5_0]; omega⟩))
theorem c_Flows_isTold_x {A : Nat → Option (Nat × (Nat → Int32))} {Q : Option Value → jm → Prop} {M : jm} (hC_M : CI M) {x : Int} (h_x : 0 ≤ x ∧ x ≤ 23) {W_ : Int} (g_W_ : M 15 1 = W_) (q : ∀ (r : Int), 0 ≤ r ∧ r ≤ 1 → ((r = 1 ∧ ∃ a : Int, 0 ≤ a ∧ a < x ∧ sdF M (xe W_.toNat a) (xe W_.toNat x) ≠ -1) ∨ (r = 0 ∧ ∀ a : Int, 0 ≤ a → a < x → sdF M (xe W_.toNat a) (xe W_.toNat x) = -1)) → Q (some (.int (Int32.ofInt r))) M) : jc A 3 85 [.ref (15), .int (Int32.ofInt (x))] M Q := by
  refine jc_of (m := xm_85) rfl (Nat.le_of_ble_eq_true rfl) rfl ?_
  have b_W_ : 16 ≤ W_ ∧ W_ ≤ 17 := by rw [← g_W_]; exact (CI.r hC_M (show kd 15 = 9 from rfl) (by decide) 1)
  refine jr.iconst rfl ?_
  refine jr.istore_n (ls' := [_, _, _]) rfl (nlt rfl) rfl ?_
  refine jr.pick (ls := [_, _, _]) [2, 0, 1] rfl rfl ?_
  exact c_Flows_isTold_x_L2 hC_M  q 24 0 (by omega) (by omega) g_W_ (fun a a0 a1 => absurd a1 (by omega)) (by omega)
end
section
/-! ===== the class: restore ===== -/
/-- cells of the flows of W -/
noncomputable def inF (W : Int) (b : Nat) : Prop := ∃ i : Int, (0 ≤ i ∧ i < 24) ∧ xe W.toNat i ≤ b ∧ b ≤ xe W.toNat i + 7
theorem inF_n {W : Int} {b : Nat} (hW : 16 ≤ W ∧ W ≤ 17) (hb : b < 29) : ¬ inF W b := by
  rintro ⟨i, h0, h1, h2⟩
  have q := xfl hW h0
  omega
theorem fr7.n {T M : jm} {W i : Int} (h : fr7 T M (xe W.toNat i)) (hi : 0 ≤ i ∧ i < 24) {b : Nat} (hb : ¬ inF W b) (k : Int) : M b k = T b k := by
  refine h b k ?_
  rcases Nat.lt_or_ge b (xe W.toNat i) with q | q
  · exact Or.inl q
  · right
    rcases Nat.lt_or_ge (xe W.toNat i + 7) b with q2 | q2
    · exact q2
    · exact absurd ⟨i, hi, q, q2⟩ hb
theorem xfl_d {W i k : Int} (hW : 16 ≤ W ∧ W ≤ 17) (hi : 0 ≤ i ∧ i < 24) (hk : 0 ≤ k ∧ k < 24) (h : k ≠ i) : xe W.toNat k + 7 < xe W.toNat i ∨ xe W.toNat i + 7 < xe W.toNat k := by
  have q := xfl hW hi
  have q2 := xfl hW hk
  omega
/-- rows below i are read -/
noncomputable def TBS (T M : jm) (W y z i : Int) : Prop := (∀ k : Int, 0 ≤ k → k < i → okR (T 1) y k ∧ RRD M (xe W.toNat k) (T 1) (48 * k) z) ∧ ∀ (b : Nat) (k : Int), ¬ inF W b → M b k = T b k
theorem TBS.le {T M : jm} {W y z i : Int} (h : TBS T M W y z i) : i ≤ 24 := by
  by_cases q : i ≤ 0
  · omega
  · have := (h.1 (i - 1) (by omega) (by omega)).1.1.2
    omega
theorem TBS.t {T M : jm} {W y z i : Int} (h : TBS T M W y z i) (hW : 16 ≤ W ∧ W ≤ 17) : M 1 = T 1 := funext (fun k => h.2 1 k (inF_n hW (by decide)))
theorem TBS.f {T M M2 : jm} {W y z i j : Int} (h : TBS T M W y z i) (hW : 16 ≤ W ∧ W ≤ 17) (hi : 0 ≤ i ∧ i < 24) (hj : j = i * 48) (g : fr7 M M2 (xe W.toNat i)) (hr : RRD M2 (xe W.toNat i) (M 1) j z) : (∀ k : Int, 0 ≤ k → k < i + 1 → RRD M2 (xe W.toNat k) (T 1) (48 * k) z) ∧ ∀ (b : Nat) (k : Int), ¬ inF W b → M2 b k = T b k := by
  refine ⟨fun k k0 k1 => ?_, fun b k hb => (g.n hi hb k).trans (h.2 b k hb)⟩
  by_cases e : k = i
  · subst e
    rw [h.t hW, hj, Int.mul_comm] at hr
    exact hr
  · exact (h.1 k k0 (by omega)).2.fr g (xfl_d hW hi (by omega) e)
theorem TBS.ok {T M M2 : jm} {W y z i j : Int} (h : TBS T M W y z i) (hW : 16 ≤ W ∧ W ≤ 17) (hi : 0 ≤ i ∧ i < 24) (hj : j = i * 48) (g : fr7 M M2 (xe W.toNat i)) (hr : RRD M2 (xe W.toNat i) (M 1) j z) (hl : (i + 1) * 48 ≤ y) (hg : rGood (M 1) j) (ht : ∀ a : Int, 0 ≤ a → a < i → sdF M2 (xe W.toNat a) (xe W.toNat i) = -1) : TBS T M2 W y z (i + 1) := by
  have q := h.f hW hi hj g hr
  refine ⟨fun k k0 k1 => ⟨?_, q.1 k k0 k1⟩, q.2⟩
  by_cases e : k = i
  · subst e
    rw [h.t hW, hj, Int.mul_comm] at hg
    refine ⟨⟨by omega, hi.2⟩, hg, fun a a0 a1 u => ?_⟩
    exact (RRD.like (q.1 a a0 (by omega)) (q.1 k k0 k1)).2 u (ht a a0 a1)
  · exact (h.1 k k0 (by omega)).1
theorem TBS.no {T M M2 : jm} {W y z i j : Int} (h : TBS T M W y z i) (hW : 16 ≤ W ∧ W ≤ 17) (hi : 0 ≤ i ∧ i < 24) (hj : j = i * 48) (g : fr7 M M2 (xe W.toNat i)) (hr : RRD M2 (xe W.toNat i) (M 1) j z) (ht : ∃ a : Int, 0 ≤ a ∧ a < i ∧ sdF M2 (xe W.toNat a) (xe W.toNat i) ≠ -1) : ¬ okR (T 1) y i := by
  have q := h.f hW hi hj g hr
  obtain ⟨a, a0, a1, a2⟩ := ht
  exact fun u => u.2.2 a a0 a1 ((RRD.like (q.1 a a0 (by omega)) (q.1 i hi.1 (by omega))).1 a2)
theorem TBS.bad {T M : jm} {W y z i j : Int} (h : TBS T M W y z i) (hW : 16 ≤ W ∧ W ≤ 17) (hj : j = i * 48) (hg : ¬ rGood (M 1) j) : ¬ okR (T 1) y i := by
  rw [h.t hW, hj, Int.mul_comm] at hg
  exact fun u => hg u.2.1
noncomputable def TBZ (T M : jm) (W y z w i : Int) : Prop := (∀ k : Int, 0 ≤ k → k < w → okR (T 1) y k ∧ RRD M (xe W.toNat k) (T 1) (48 * k) z) ∧ ∀ k : Int, w ≤ k → k < i → M (xe W.toNat k) 0 = 0
theorem TBZ.s {T M : jm} {W y z w i : Int} (h : TBZ T M W y z w i) (hW : 16 ≤ W ∧ W ≤ 17) (hi : 0 ≤ i ∧ i < 24) (hw : 0 ≤ w ∧ w ≤ i) : TBZ T (ju M (xe W.toNat i) 0 0) W y z w (i + 1) := by
  have g : fr7 M (ju M (xe W.toNat i) 0 0) (xe W.toNat i) := fr7.u (fun _ _ _ => rfl) (by omega)
  refine ⟨fun k k0 k1 => ⟨(h.1 k k0 k1).1, (h.1 k k0 k1).2.fr g (xfl_d hW hi (by omega) (by omega))⟩, fun k k0 k1 => ?_⟩
  by_cases e : k = i
  · subst e
    exact ju_same _ _ _ _
  · have d := xfl_d hW hi (k := k) (by omega) e
    rw [ju_c _ _ (by omega)]
    exact h.2 k k0 (by omega)
theorem RRD.o {T M : jm} {t : Nat} {f : Int → Int} {y Z : Int} (h : RRD T t f y Z) (ht : 15 < t) (g : ∀ (b : Nat) (k : Int), b ≠ 15 → M b k = T b k) : RRD M t f y Z := by
  unfold RRD RR0 rSA rS1 at h ⊢
  simp only [g t _ (by omega), g (t + 1) _ (by omega), g (t + 2) _ (by omega), g (t + 3) _ (by omega), g (t + 4) _ (by omega), g (t + 5) _ (by omega), g (t + 6) _ (by omega), g (t + 7) _ (by omega)]
  exact h
/-- what readTable leaves behind -/
noncomputable def RTQ (T M : jm) (V W y z r : Int) : Prop := RTR (T 1) y r ∧ ((r < 0 ∧ ∀ (b : Nat) (k : Int), ¬ inF W b → M b k = T b k) ∨ ((0 ≤ r ∧ r ≤ 24) ∧ (M 15 0 = W ∧ M 15 1 = V) ∧ (∀ k : Int, 0 ≤ k → k < r → (0 ≤ k ∧ okR (T 1) y k) ∧ RRD M (xe W.toNat k) (T 1) (48 * k) z) ∧ ∀ k : Int, r ≤ k → k < 24 → M (xe W.toNat k) 0 = 0))
theorem TBZ.q {T M : jm} {V W y z w : Int} (h : TBZ T M W y z w 24) (hW : 16 ≤ W ∧ W ≤ 17) (hw : 0 ≤ w ∧ w ≤ 24) (hy : w = (y + 47) / 48) : RTQ T (ju (ju M 15 0 W) 15 1 V) V W y z w := by
  have g : ∀ (b : Nat) (k : Int), b ≠ 15 → ju (ju M 15 0 W) 15 1 V b k = M b k := fun b k hb => by rw [ju_c _ _ hb, ju_c _ _ hb]
  refine ⟨Or.inr ⟨fun k k0 k1 => (h.1 k k0 (by omega)).1, hy⟩, Or.inr ⟨hw, ⟨by rw [ju_i _ _ (zne (by decide)), ju_same], ju_same _ _ _ _⟩, fun k k0 k1 => ⟨⟨k0, (h.1 k k0 k1).1⟩, (h.1 k k0 k1).2.o (by have q := xfl (V := W) (i := k) hW (by omega); omega) g⟩, fun k k0 k1 => ?_⟩⟩
  rw [g _ _ (by have q := xfl (V := W) (i := k) hW (by omega); omega)]
  exact h.2 k k0 k1
theorem TBS.r {T M : jm} {V W y z i : Int} (h : TBS T M W y z i) (hi : 0 ≤ i) (hw : i < (y + 47) / 48) (hn : ¬ okR (T 1) y i) {M2 : jm} (g : ∀ (b : Nat) (k : Int), ¬ inF W b → M2 b k = T b k) : RTQ T M2 V W y z (-10 - i) := ⟨Or.inl ⟨i, ⟨hi, hw⟩, fun k k0 k1 => (h.1 k k0 k1).1, hn, rfl⟩, Or.inl ⟨by omega, g⟩⟩
noncomputable def W_c_Flows_readTable_x : List (Nat × Nat) := [(1, 0), (1, 1), (1, 2), (1, 5), (1, 6), (1, 12), (1, 13), (1, 15), (2, 1000), (3, 1000), (4, 1000), (5, 1000), (6, 1000), (7, 1000), (8, 1000), (9, 0), (9, 1)]
theorem c_Flows_readTable_x_L96 {A : Nat → Option (Nat × (Nat → Int32))} {Q : Option Value → jm → Prop} {T : jm} {V : Int} {W_ : Int} {y : Int} {z : Int} (q : ∀ (r : Int) (M' : jm), CI M' → FR W_c_Flows_readTable_x T M' → (-50) ≤ r ∧ r ≤ 34 → (RTQ T M' V W_ y z r) → Q (some (.int (Int32.ofInt r))) M') : ∀ (nM : Nat) (M : jm) (w : Int) (i : Int), CI M → FR W_c_Flows_readTable_x T M → 0 ≤ w ∧ w ≤ 24 → 0 ≤ i ∧ i ≤ 24 → M 15 0 = V → M 15 1 = W_ → (TBZ T M W_ y z w i) → (w ≤ i) → (w = (y + 47) / 48) → 24 - i ≤ nM → jr A 3 xm_84 96 [(4, .int (Int32.ofInt (w))), (5, .int (Int32.ofInt (i))), (0, .ref (15)), (1, .ref (1))] [] M Q := by
  intro nM
  induction nM using Nat.strongRecOn with
  | ind nM ih =>
    intro M w i hC_M ht_M h_w h_i g_V g_W_ hy0 hy1 hy2 hm
    have b_V : 16 ≤ V ∧ V ≤ 17 := by rw [← g_V]; exact (CI.r hC_M (show kd 15 = 9 from rfl) (by decide) 0)
    have b_W_ : 16 ≤ W_ ∧ W_ ≤ 17 := by rw [← g_W_]; exact (CI.r hC_M (show kd 15 = 9 from rfl) (by decide) 1)
    refine jr.iload rfl rfl ?_
    refine jr.bipush rfl (jbp _ (nlt rfl)) ?_
    refine jr.icmp_ge rfl rfl (by first | (refine rgb (by assumption) ?_; exact rfl) | omega) (rgl rfl) (fun h100 => ?_) (fun h100 => ?_)
    · refine jr.aload_n rfl rfl ?_
      have k1 : kd (V).toNat = 13 := by rcases (show V = 16 ∨ V = 17 by omega) with h | h <;> (rw [h]; rfl)
      refine jr.getf (i := 0) (x := V) (v := .ref (V.toNat)) rfl rfl (nlt rfl) rfl (nlt rfl) rfl rfl g_V rfl ?_
      refine jr.astore (ls' := [_, _, _, _]) rfl (nlt rfl) rfl ?_
      refine jr.aload_n rfl rfl ?_
      refine jr.aload_n rfl rfl ?_
      have k2 : kd (W_).toNat = 13 := by rcases (show W_ = 16 ∨ W_ = 17 by omega) with h | h <;> (rw [h]; rfl)
      refine jr.getf (i := 1) (x := W_) (v := .ref (W_.toNat)) rfl rfl (nlt rfl) rfl (nlt rfl) rfl rfl g_W_ rfl ?_
      refine jr.putf (i := 0) (x := W_) rfl rfl (nlt rfl) rfl (nlt rfl) rfl rfl rfl rfl rfl ?_
      refine jr.aload_n rfl rfl ?_
      refine jr.aload rfl rfl ?_
      refine jr.putf (i := 1) (x := V) rfl rfl (nlt rfl) rfl (nlt rfl) rfl rfl rfl rfl rfl ?_
      refine jr.iload rfl rfl ?_
      exact jr.ireturn rfl rfl rfl (q _ _ (CI.u (CI.u hC_M (i := 0) (show kd 15 = 9 from rfl) (show (16 : Int) ≤ _ ∧ _ ≤ (17 : Int) from by omega) rfl) (i := 1) (show kd 15 = 9 from rfl) (show (16 : Int) ≤ _ ∧ _ ≤ (17 : Int) from by omega) rfl) (FR.o (FR.o ht_M (show kd 15 = 9 from rfl) rfl) (show kd 15 = 9 from rfl) rfl) (by omega) (by have h9 := hy0; rw [show i = 24 from by omega] at h9; exact TBZ.q h9 (by omega) (by omega) (by omega)))
    · refine jr.aload_n rfl rfl ?_
      have k3 : kd (W_).toNat = 13 := by rcases (show W_ = 16 ∨ W_ = 17 by omega) with h | h <;> (rw [h]; rfl)
      refine jr.getf (i := 1) (x := W_) (v := .ref (W_.toNat)) rfl rfl (nlt rfl) rfl (nlt rfl) rfl rfl g_W_ rfl ?_
      refine jr.iload rfl rfl ?_
      have k4 := kxe_13 k3 (i := i) (by omega) (by omega)
      refine jr.aald (c := (xe ((W_.toNat)) i)) rfl (Nat.lt_trans (kx_13 k3).1 (by decide)) (kx_13 k3).2 (by decide) (by decide) rfl (by decide) (by omega) (by omega) k4.1 ?_
      refine jr.iconst rfl ?_
      refine jr.putf (i := 0) (x := 0) rfl rfl (Nat.lt_trans (kx_1 k4.2).1 (by decide)) (kx_1 k4.2).2 (by decide) rfl rfl rfl rfl rfl ?_
      refine jr.iinc (ls' := [_, _, _, _]) rfl rfl (nlt rfl) rfl ?_
      refine jr.goto rfl rfl ?_
      refine jr.pick (ls := [_, _, _, _]) [1, 0, 2, 3] rfl rfl ?_
      exact ih (nM - 1) (by omega) ((ju M ((xe ((W_.toNat)) i)) 0 0)) w (i + 1) (CI.u hC_M (i := 0) k4.2 (show (0 : Int) ≤ _ ∧ _ ≤ (1 : Int) from by omega) rfl) (FR.o ht_M k4.2 rfl) (by omega) (by omega) ((ju_c _ _ (kd_ne (by rw [(show kd 15 = 9 from rfl), k4.2]; decide))).trans g_V) ((ju_i _ _ (zne (by decide))).trans g_W_) (TBZ.s hy0 (by omega) (by omega) (by omega)) (by omega) (by omega) (by omega)
theorem c_Flows_readTable_x_L14 {A : Nat → Option (Nat × (Nat → Int32))} {Q : Option Value → jm → Prop} {T : jm} {V : Int} {W_ : Int} {y : Int} {z : Int} (q : ∀ (r : Int) (M' : jm), CI M' → FR W_c_Flows_readTable_x T M' → (-50) ≤ r ∧ r ≤ 34 → (RTQ T M' V W_ y z r) → Q (some (.int (Int32.ofInt r))) M') : ∀ (nM : Nat) (M : jm) (w : Int) (i : Int), CI M → FR W_c_Flows_readTable_x T M → 0 ≤ y ∧ y ≤ 1600 → 0 ≤ z ∧ z ≤ 2000000000 → 0 ≤ w ∧ w ≤ 34 → 0 ≤ i ∧ i ≤ 34 → M 15 0 = V → M 15 1 = W_ → (w = (y + 47) / 48) → (i ≤ w) → (TBS T M W_ y z i) → (V + W_ = 33) → 34 - i ≤ nM → jr A 3 xm_84 14 [(2, .int (Int32.ofInt (y))), (3, .int (Int32.ofInt (z))), (4, .int (Int32.ofInt (w))), (5, .int (Int32.ofInt (i))), (0, .ref (15)), (1, .ref (1))] [] M Q := by
  intro nM
  induction nM using Nat.strongRecOn with
  | ind nM ih =>
    intro M w i hC_M ht_M h_y h_z h_w h_i g_V g_W_ hy0 hy1 hy2 hy3 hm
    have b_V : 16 ≤ V ∧ V ≤ 17 := by rw [← g_V]; exact (CI.r hC_M (show kd 15 = 9 from rfl) (by decide) 0)
    have b_W_ : 16 ≤ W_ ∧ W_ ≤ 17 := by rw [← g_W_]; exact (CI.r hC_M (show kd 15 = 9 from rfl) (by decide) 1)
    have hi24 := TBS.le hy2
    refine jr.iload rfl rfl ?_
    refine jr.iload rfl rfl ?_
    refine jr.icmp_ge rfl rfl (by first | (refine rgb (by assumption) ?_; exact rfl) | omega) (by first | (refine rgb (by assumption) ?_; exact rfl) | omega) (fun h18 => ?_) (fun h18 => ?_)
    · refine jr.iload rfl rfl ?_
      refine jr.istore (ls' := [_, _, _, _, _, _]) rfl (nlt rfl) rfl ?_
      refine jr.pick (ls := [_, _, _, _]) [3, 0, 4, 5] rfl rfl ?_
      exact c_Flows_readTable_x_L96  q 24 M w w hC_M ht_M (by omega) (by omega) g_V g_W_ ⟨fun k k0 k1 => hy2.1 k k0 (by omega), fun k k0 k1 => absurd k1 (by omega)⟩ (by omega) (by omega) (by omega)
    · refine jr.iload rfl rfl ?_
      refine jr.iconst rfl ?_
      refine jr.iadd rfl ?_
      refine jr.bipush rfl (jbp _ (nlt rfl)) ?_
      refine jr.imul rfl ?_
      refine jr.iload_n rfl rfl ?_
      refine jr.icmp_gt rfl rfl (by first | (refine rgb (by assumption) ?_; exact rfl) | omega) (by first | (refine rgb (by assumption) ?_; exact rfl) | omega) (fun h29 => ?_) (fun h29 => ?_)
      · refine jr.iconst rfl ?_
        refine jr.istore (ls' := [_, _, _, _, _, _, _]) rfl (nlt rfl) rfl ?_
        refine jr.iload rfl rfl ?_
        refine jr.bipush rfl (jbp _ (nlt rfl)) ?_
        refine jr.icmp_ge rfl rfl (by first | (refine rgb (by assumption) ?_; exact rfl) | omega) (rgl rfl) (fun h43 => ?_) (fun h43 => ?_)
        · refine jr.bipush rfl (by decide) ?_
          refine jr.iload rfl rfl ?_
          refine jr.isub rfl ?_
          exact jr.ireturn rfl rfl rfl (q _ _ hC_M ht_M (by omega) (TBS.r hy2 (by omega) (by omega) (fun u => by have u1 := u.1; omega) hy2.2))
        · refine jr.iload rfl rfl ?_
          refine jr.if_eq rfl rfl (by first | exact rgl rfl | omega) (fun _ => ?_) (fun h => absurd (by decide) h)
          refine jr.bipush rfl (by decide) ?_
          refine jr.iload rfl rfl ?_
          refine jr.isub rfl ?_
          exact jr.ireturn rfl rfl rfl (q _ _ hC_M ht_M (by omega) (TBS.r hy2 (by omega) (by omega) (fun u => by have u1 := u.1; omega) hy2.2))
      · refine jr.iconst rfl ?_
        refine jr.goto rfl rfl ?_
        refine jr.istore (ls' := [_, _, _, _, _, _, _]) rfl (nlt rfl) rfl ?_
        refine jr.iload rfl rfl ?_
        refine jr.bipush rfl (jbp _ (nlt rfl)) ?_
        refine jr.icmp_ge rfl rfl (by first | (refine rgb (by assumption) ?_; exact rfl) | omega) (rgl rfl) (fun h43 => ?_) (fun h43 => ?_)
        · refine jr.bipush rfl (by decide) ?_
          refine jr.iload rfl rfl ?_
          refine jr.isub rfl ?_
          exact jr.ireturn rfl rfl rfl (q _ _ hC_M ht_M (by omega) (TBS.r hy2 (by omega) (by omega) (fun u => by have u1 := u.1; omega) hy2.2))
        · refine jr.iload rfl rfl ?_
          refine jr.if_eq rfl rfl (by first | exact rgl rfl | omega) (fun h => absurd h (by decide)) (fun _ => ?_)
          refine jr.aload_n rfl rfl ?_
          have k1 : kd (W_).toNat = 13 := by rcases (show W_ = 16 ∨ W_ = 17 by omega) with h | h <;> (rw [h]; rfl)
          refine jr.getf (i := 1) (x := W_) (v := .ref (W_.toNat)) rfl rfl (nlt rfl) rfl (nlt rfl) rfl rfl g_W_ rfl ?_
          refine jr.iload rfl rfl ?_
          have k2 := kxe_13 k1 (i := i) (by omega) (by omega)
          refine jr.aald (c := (xe ((W_.toNat)) i)) rfl (Nat.lt_trans (kx_13 k1).1 (by decide)) (kx_13 k1).2 (by decide) (by decide) rfl (by decide) (by omega) (by omega) k2.1 ?_
          refine jr.aload_n rfl rfl ?_
          refine jr.iload rfl rfl ?_
          refine jr.bipush rfl (jbp _ (nlt rfl)) ?_
          refine jr.imul rfl ?_
          refine jr.iload_n rfl rfl ?_
          refine jr_v rfl rfl (Or.inl rfl) rfl rfl (Nat.lt_trans (kx_1 k2.2).1 (by decide)) (kx_1 k2.2).2 ⟨rfl, Nat.le_of_ble_eq_true rfl, Nat.le_of_ble_eq_true rfl⟩ rfl (jc.deep (c_Flow_readRow_x hC_M (FR.rfl _ M) k2.2 (by omega) (by omega) rfl (fun r3 M3 hC_M3 hf_M3 z3 w3_0 => ?_)) (Nat.le_of_ble_eq_true rfl))
          have ht_M3 : FR W_c_Flows_readTable_x T M3 := FR.t ht_M hf_M3 (kw_sub rfl)
          refine jr.if_eq rfl rfl (by first | (refine rgb (by assumption) ?_; exact rfl) | omega) (fun h68 => ?_) (fun h68 => ?_)
          · refine jr.bipush rfl (by decide) ?_
            refine jr.iload rfl rfl ?_
            refine jr.isub rfl ?_
            exact jr.ireturn rfl rfl rfl (q _ _ hC_M3 ht_M3 (by omega) (TBS.r hy2 (by omega) (by omega) (TBS.bad hy2 (by omega) rfl ((w3_0.2.2.resolve_left (fun h => by omega)).2)) (TBS.f hy2 (by omega) (by omega) rfl w3_0.2.1 w3_0.1).2))
          · have sx68 : (1 : Int) ≤ r3 := by omega
            clear h68
            refine jr.aload_n rfl rfl ?_
            refine jr.iload rfl rfl ?_
            have e5 : M3 15 1 = W_ := (hf_M3.g (show kd 15 = 9 from rfl) rfl).trans g_W_
            refine jr_v rfl rfl (Or.inl rfl) rfl rfl (nlt rfl) rfl ⟨rfl, Nat.le_of_ble_eq_true rfl, Nat.le_of_ble_eq_true rfl⟩ rfl (jc.deep (c_Flows_isTold_x hC_M3 (by omega) e5 (fun r4 z4 w4_0 => ?_)) (Nat.le_of_ble_eq_true rfl))
            refine jr.if_eq rfl rfl (by first | (refine rgb (by assumption) ?_; exact rfl) | omega) (fun h77 => ?_) (fun h77 => ?_)
            · refine jr.iinc (ls' := [_, _, _, _, _, _, _]) rfl rfl (nlt rfl) rfl ?_
              refine jr.goto rfl rfl ?_
              have e6 : M3 15 0 = V := (hf_M3.g (show kd 15 = 9 from rfl) rfl).trans g_V
              refine jr.pick (ls := [_, _, _, _, _, _]) [2, 3, 4, 0, 5, 6] rfl rfl ?_
              exact ih (nM - 1) (by omega) M3 w (i + 1) hC_M3 ht_M3 (by omega) (by omega) (by omega) (by omega) e6 e5 (by omega) (by omega) (TBS.ok hy2 (by omega) (by omega) rfl w3_0.2.1 w3_0.1 (by omega) ((w3_0.2.2.resolve_right (fun h => by omega)).2) ((w4_0.resolve_left (fun h => by omega)).2)) (by omega) (by omega)
            · have sx77 : (1 : Int) ≤ r4 := by omega
              clear h77
              refine jr.bipush rfl (by decide) ?_
              refine jr.iload rfl rfl ?_
              refine jr.isub rfl ?_
              exact jr.ireturn rfl rfl rfl (q _ _ hC_M3 ht_M3 (by omega) (TBS.r hy2 (by omega) (by omega) (TBS.no hy2 (by omega) (by omega) rfl w3_0.2.1 w3_0.1 ((w4_0.resolve_right (fun h => by omega)).2)) (TBS.f hy2 (by omega) (by omega) rfl w3_0.2.1 w3_0.1).2))
theorem c_Flows_readTable_x {A : Nat → Option (Nat × (Nat → Int32))} {Q : Option Value → jm → Prop} {T : jm} {M : jm} (hC_M : CI M) (ht_M : FR W_c_Flows_readTable_x T M) {y : Int} (h_y : 0 ≤ y ∧ y ≤ 1600) {z : Int} (h_z : 0 ≤ z ∧ z ≤ 2000000000) {V : Int} (g_V : M 15 0 = V) {W_ : Int} (g_W_ : M 15 1 = W_) (p0 : T = M) (p1 : V + W_ = 33) (q : ∀ (r : Int) (M' : jm), CI M' → FR W_c_Flows_readTable_x T M' → (-50) ≤ r ∧ r ≤ 34 → (RTQ T M' V W_ y z r) → Q (some (.int (Int32.ofInt r))) M') : jc A 4 84 [.ref (15), .ref (1), .int (Int32.ofInt (y)), .int (Int32.ofInt (z))] M Q := by
  refine jc_of (m := xm_84) rfl (Nat.le_of_ble_eq_true rfl) rfl ?_
  have b_V : 16 ≤ V ∧ V ≤ 17 := by rw [← g_V]; exact (CI.r hC_M (show kd 15 = 9 from rfl) (by decide) 0)
  have b_W_ : 16 ≤ W_ ∧ W_ ≤ 17 := by rw [← g_W_]; exact (CI.r hC_M (show kd 15 = 9 from rfl) (by decide) 1)
  refine jr.iload_n rfl rfl ?_
  refine jr.bipush rfl (jbp _ (nlt rfl)) ?_
  refine jr.iadd rfl ?_
  refine jr.iconst rfl ?_
  refine jr.isub rfl ?_
  refine jr.bipush rfl (jbp _ (nlt rfl)) ?_
  refine jr.idiv rfl (by decide) ?_
  have b1 : j_div ((y + 48) - 1) 48 = ((y + 48) - 1) / 48 := j_div_ex (by omega) (by omega)
  generalize j_div ((y + 48) - 1) 48 = v1 at b1 ⊢
  refine jr.istore (ls' := [_, _, _, _, _]) rfl (nlt rfl) rfl ?_
  refine jr.iconst rfl ?_
  refine jr.istore (ls' := [_, _, _, _, _, _]) rfl (nlt rfl) rfl ?_
  refine jr.pick (ls := [_, _, _, _, _, _]) [4, 5, 1, 0, 2, 3] rfl rfl ?_
  exact c_Flows_readTable_x_L14  q 34 M v1 0 hC_M ht_M (by omega) (by omega) (by omega) (by omega) g_V g_W_ (by omega) (by omega) ⟨fun k k0 k1 => absurd k1 (by omega), fun _ _ _ => by rw [p0]⟩ (by omega) (by omega)
noncomputable def W_c_PacketWall_restore_x : List (Nat × Nat) := [(1, 0), (1, 1), (1, 2), (1, 5), (1, 6), (1, 12), (1, 13), (1, 15), (2, 1000), (3, 1000), (4, 1000), (5, 1000), (6, 1000), (7, 1000), (8, 1000), (9, 0), (9, 1), (35, 1)]
theorem c_PacketWall_restore_x {A : Nat → Option (Nat × (Nat → Int32))} {Q : Option Value → jm → Prop} {T : jm} {M : jm} (hC_M : CI M) (ht_M : FR W_c_PacketWall_restore_x T M) {S : Int} (g_S : M 0 1 = S) {Z : Int} (g_Z : M 0 8 = Z) {V : Int} (g_V : M 15 0 = V) {W_ : Int} (g_W_ : M 15 1 = W_) (p0 : T = M) (p1 : 0 ≤ Z ∧ Z ≤ 2000000000) (p2 : V + W_ = 33) (q : ∀ (r : Int) (M' : jm), CI M' → FR W_c_PacketWall_restore_x T M' → (-50) ≤ r ∧ r ≤ 34 → (RTQ (ju T 0 1 0) M' V W_ S Z r) → (M' 0 1 = 0) → Q (some (.int (Int32.ofInt r))) M') : jc A 5 38 [.ref (0)] M Q := by
  refine jc_of (m := xm_38) rfl (Nat.le_of_ble_eq_true rfl) rfl ?_
  have b_S : 0 ≤ S ∧ S ≤ 1600 := by rw [← g_S]; exact (CI.r hC_M (show kd 0 = 35 from rfl) (by decide) 1)
  have b_Z : (-2147483648) ≤ Z ∧ Z ≤ 2147483647 := by rw [← g_Z]; exact (CI.r hC_M (show kd 0 = 35 from rfl) (by decide) 8)
  have b_V : 16 ≤ V ∧ V ≤ 17 := by rw [← g_V]; exact (CI.r hC_M (show kd 15 = 9 from rfl) (by decide) 0)
  have b_W_ : 16 ≤ W_ ∧ W_ ≤ 17 := by rw [← g_W_]; exact (CI.r hC_M (show kd 15 = 9 from rfl) (by decide) 1)
  refine jr.aload_n rfl rfl ?_
  refine jr.getf (i := 1) (x := S) (v := .int (Int32.ofInt (S))) rfl rfl (nlt rfl) rfl (nlt rfl) rfl rfl g_S rfl ?_
  refine jr.istore_n (ls' := [_, _]) rfl (nlt rfl) rfl ?_
  refine jr.aload_n rfl rfl ?_
  refine jr.iconst rfl ?_
  refine jr.putf (i := 1) (x := 0) rfl rfl (nlt rfl) rfl (nlt rfl) rfl rfl rfl rfl rfl ?_
  refine jr.aload_n rfl rfl ?_
  refine jr.getf (i := 9) (v := .ref 15) rfl rfl (nlt rfl) rfl (nlt rfl) rfl rfl rfl rfl ?_
  refine jr.aload_n rfl rfl ?_
  refine jr.getf (i := 0) (v := .ref 1) rfl rfl (nlt rfl) rfl (nlt rfl) rfl rfl rfl rfl ?_
  refine jr.iload_n rfl rfl ?_
  refine jr.aload_n rfl rfl ?_
  refine jr.getf (i := 8) (x := Z) (v := .int (Int32.ofInt (Z))) rfl rfl (nlt rfl) rfl (nlt rfl) rfl rfl ((ju_i _ _ (zne (by decide))).trans g_Z) rfl ?_
  refine jr_v rfl rfl (Or.inl rfl) rfl rfl (nlt rfl) rfl ⟨rfl, Nat.le_of_ble_eq_true rfl, Nat.le_of_ble_eq_true rfl⟩ rfl (jc.deep (c_Flows_readTable_x (CI.u hC_M (i := 1) (show kd 0 = 35 from rfl) (show (0 : Int) ≤ _ ∧ _ ≤ (1600 : Int) from by omega) rfl) (FR.rfl _ ((ju M 0 1 0))) (by omega) (by omega) ((ju_c _ _ (by decide)).trans g_V) ((ju_c _ _ (by decide)).trans g_W_) rfl (by omega) (fun r1 M1 hC_M1 hf_M1 z1 w1_0 => ?_)) (Nat.le_of_ble_eq_true rfl))
  have ht_M1 : FR W_c_PacketWall_restore_x T M1 := FR.t (FR.o ht_M (show kd 0 = 35 from rfl) rfl) hf_M1 (kw_sub rfl)
  have e2 : M1 0 1 = 0 := (hf_M1.g (show kd 0 = 35 from rfl) rfl).trans (ju_same _ _ _ _)
  exact jr.ireturn rfl rfl rfl (q _ _ hC_M1 ht_M1 (by omega) (by rw [p0]; exact w1_0) (by have hq0 : M1 0 1 = 0 := e2; omega))
end
section
/-! ===== the reference: restore ===== -/
theorem rLike_x {f : Int → Int} {a b : Int} : rLike f a b ↔ ((f a = f b ∧ f (a + 1) / 16 % 2 = f (b + 1) / 16 % 2) ∧ (((tw f (a + 2) = tw f (b + 2) ∧ tw f (a + 4) = tw f (b + 4)) ∧ jl_w (nbs f (a + 10) 8) = jl_w (nbs f (b + 10) 8) ∧ jl_w (nbs f (a + 18) 8) = jl_w (nbs f (b + 18) 8)) ∨ ((tw f (a + 2) = tw f (b + 4) ∧ tw f (a + 4) = tw f (b + 2)) ∧ jl_w (nbs f (a + 10) 8) = jl_w (nbs f (b + 18) 8) ∧ jl_w (nbs f (a + 18) 8) = jl_w (nbs f (b + 10) 8)))) := by
  unfold rLike tPt tAd
  rw [show a + 2 + 2 * 0 = a + 2 by omega, show b + 2 + 2 * 0 = b + 2 by omega, show a + 2 + 2 * 1 = a + 4 by omega, show b + 2 + 2 * 1 = b + 4 by omega, show a + 10 + 8 * 0 = a + 10 by omega, show b + 10 + 8 * 0 = b + 10 by omega, show a + 10 + 8 * 1 = a + 18 by omega, show b + 10 + 8 * 1 = b + 18 by omega]
theorem adOK_x {f : Int → Int} {y : Int} : adOK f y ↔ (f (y + 1) / 16 % 2 = 1 ∨ ((0 ≤ jl_w (nbs f (y + 10) 8) ∧ jl_w (nbs f (y + 10) 8) ≤ 4294967295) ∧ (0 ≤ jl_w (nbs f (y + 18) 8) ∧ jl_w (nbs f (y + 18) 8) ≤ 4294967295))) := by
  unfold adOK tAd
  rw [show y + 10 + 8 * 0 = y + 10 by omega, show y + 10 + 8 * 1 = y + 18 by omega]
noncomputable def alg (f : Int → Int) (a b : Int) : Prop := (tw f (a + 2) = tw f (b + 2) ∧ tw f (a + 4) = tw f (b + 4)) ∧ jl_w (nbs f (a + 10) 8) = jl_w (nbs f (b + 10) 8) ∧ jl_w (nbs f (a + 18) 8) = jl_w (nbs f (b + 18) 8)
theorem r_haveLikeEnds_L138_x {A : Nat → Option (Nat × (Nat → Int32))} {Q : Option Value → jm → Prop} {a0 : Int} {b0 : Int} {M : jm} (hI_M : RI M) (hH_M : RH M) (hS_M : RF M) (q : ∀ (r : Int), 0 ≤ r ∧ r ≤ 1 → ((r = 1 ∧ rLike (M 599) (48 * a0) (48 * b0)) ∨ (r = 0 ∧ ¬ rLike (M 599) (48 * a0) (48 * b0))) → Q (some (.int (Int32.ofInt r))) M) : ∀ (d : Int) (c : Int) (b : Int) (a : Int) (z : Int), 0 ≤ d ∧ d ≤ 1104 → 0 ≤ c ∧ c ≤ 1104 → 0 ≤ b ∧ b ≤ 23 → 0 ≤ a ∧ a ≤ 23 → 0 ≤ z ∧ z ≤ 1 → ((z = 1 ∧ alg (M 599) c d) ∨ (z = 0 ∧ ¬ alg (M 599) c d)) → (M 599 c = M 599 d ∧ M 599 (c + 1) / 16 % 2 = M 599 (d + 1) / 16 % 2) → c = 48 * a → d = 48 * b → a = a0 → b = b0 → jr A 3 xm_330 138 [(4, .int (Int32.ofInt (d))), (3, .int (Int32.ofInt (c))), (2, .int (Int32.ofInt (b))), (1, .int (Int32.ofInt (a))), (0, .ref (598))] [.int (Int32.ofInt (z))] M Q := by
    intro d c b a z h_d h_c h_b h_a h_z hy0 hy1 hy2 hy3 hy4 hy5
    subst hy4
    subst hy5
    refine jr.istore (ls' := [_, _, _, _, _, _]) rfl (nlt rfl) rfl ?_
    refine jr.aload_n rfl rfl ?_
    refine jr.iload_n rfl rfl ?_
    refine jr.iconst rfl ?_
    refine jr.iadd rfl ?_
    refine jr_v rfl rfl (Or.inl rfl) rfl rfl (nlt rfl) rfl ⟨rfl, Nat.le_of_ble_eq_true rfl, Nat.le_of_ble_eq_true rfl⟩ rfl (jc.deep (r_takenTwo_x hI_M hH_M hS_M  (by omega)  (fun r1 z1 w1_0 => ?_)) (Nat.le_of_ble_eq_true rfl))
    refine jr.aload_n rfl rfl ?_
    refine jr.iload rfl rfl ?_
    refine jr.iconst rfl ?_
    refine jr.iadd rfl ?_
    refine jr_v rfl rfl (Or.inl rfl) rfl rfl (nlt rfl) rfl ⟨rfl, Nat.le_of_ble_eq_true rfl, Nat.le_of_ble_eq_true rfl⟩ rfl (jc.deep (r_takenTwo_x hI_M hH_M hS_M  (by omega)  (fun r2 z2 w2_0 => ?_)) (Nat.le_of_ble_eq_true rfl))
    refine jr.icmp_ne rfl rfl (by first | (refine rgb (by assumption) ?_; exact rfl) | omega) (by first | (refine rgb (by assumption) ?_; exact rfl) | omega) (fun h155 => ?_) (fun h155 => ?_)
    · refine jr.iconst rfl ?_
      refine jr.istore (ls' := [_, _, _, _, _, _, _]) rfl (nlt rfl) rfl ?_
      refine jr.iload rfl rfl ?_
      refine jr.if_ne rfl rfl (by first | (refine rgb (by assumption) ?_; exact rfl) | omega) (fun h227 => ?_) (fun h227 => ?_)
      · refine jr.iconst rfl ?_
        refine jr.goto rfl rfl ?_
        exact jr.ireturn rfl rfl rfl (q _ (by first | exact rgq rfl | omega) (by rw [← hy2, ← hy3, rLike_x]; unfold alg at hy0; have t1 := w1_0; have t2 := w2_0; first | exact Or.inl ⟨rfl, by omega⟩ | exact Or.inr ⟨rfl, by omega⟩))
      · refine jr.iload rfl rfl ?_
        refine jr.if_eq rfl rfl (by first | exact rgl rfl | omega) (fun _ => ?_) (fun h => absurd (by decide) h)
        refine jr.iconst rfl ?_
        exact jr.ireturn rfl rfl rfl (q _ (by first | exact rgq rfl | omega) (by rw [← hy2, ← hy3, rLike_x]; unfold alg at hy0; have t1 := w1_0; have t2 := w2_0; first | exact Or.inl ⟨rfl, by omega⟩ | exact Or.inr ⟨rfl, by omega⟩))
    · refine jr.aload_n rfl rfl ?_
      refine jr.iload_n rfl rfl ?_
      refine jr.iconst rfl ?_
      refine jr.iadd rfl ?_
      refine jr_v rfl rfl (Or.inl rfl) rfl rfl (nlt rfl) rfl ⟨rfl, Nat.le_of_ble_eq_true rfl, Nat.le_of_ble_eq_true rfl⟩ rfl (jc.deep (r_takenTwo_x hI_M hH_M hS_M  (by omega)  (fun r3 z3 w3_0 => ?_)) (Nat.le_of_ble_eq_true rfl))
      refine jr.aload_n rfl rfl ?_
      refine jr.iload rfl rfl ?_
      refine jr.iconst rfl ?_
      refine jr.iadd rfl ?_
      refine jr_v rfl rfl (Or.inl rfl) rfl rfl (nlt rfl) rfl ⟨rfl, Nat.le_of_ble_eq_true rfl, Nat.le_of_ble_eq_true rfl⟩ rfl (jc.deep (r_takenTwo_x hI_M hH_M hS_M  (by omega)  (fun r4 z4 w4_0 => ?_)) (Nat.le_of_ble_eq_true rfl))
      refine jr.icmp_ne rfl rfl (by first | (refine rgb (by assumption) ?_; exact rfl) | omega) (by first | (refine rgb (by assumption) ?_; exact rfl) | omega) (fun h173 => ?_) (fun h173 => ?_)
      · refine jr.iconst rfl ?_
        refine jr.istore (ls' := [_, _, _, _, _, _, _]) rfl (nlt rfl) rfl ?_
        refine jr.iload rfl rfl ?_
        refine jr.if_ne rfl rfl (by first | (refine rgb (by assumption) ?_; exact rfl) | omega) (fun h227 => ?_) (fun h227 => ?_)
        · refine jr.iconst rfl ?_
          refine jr.goto rfl rfl ?_
          exact jr.ireturn rfl rfl rfl (q _ (by first | exact rgq rfl | omega) (by rw [← hy2, ← hy3, rLike_x]; unfold alg at hy0; have t1 := w1_0; have t2 := w2_0; have t3 := w3_0; have t4 := w4_0; first | exact Or.inl ⟨rfl, by omega⟩ | exact Or.inr ⟨rfl, by omega⟩))
        · refine jr.iload rfl rfl ?_
          refine jr.if_eq rfl rfl (by first | exact rgl rfl | omega) (fun _ => ?_) (fun h => absurd (by decide) h)
          refine jr.iconst rfl ?_
          exact jr.ireturn rfl rfl rfl (q _ (by first | exact rgq rfl | omega) (by rw [← hy2, ← hy3, rLike_x]; unfold alg at hy0; have t1 := w1_0; have t2 := w2_0; have t3 := w3_0; have t4 := w4_0; first | exact Or.inl ⟨rfl, by omega⟩ | exact Or.inr ⟨rfl, by omega⟩))
      · refine jr.aload_n rfl rfl ?_
        refine jr.iload_n rfl rfl ?_
        refine jr.bipush rfl (jbp _ (nlt rfl)) ?_
        refine jr.iadd rfl ?_
        refine jr_v rfl rfl (Or.inl rfl) rfl rfl (nlt rfl) rfl ⟨rfl, Nat.le_of_ble_eq_true rfl, Nat.le_of_ble_eq_true rfl⟩ rfl (jc.deep (r_takenEight_x hI_M hH_M hS_M  (by omega)  (fun r5 z5 w5_0 => ?_)) (Nat.le_of_ble_eq_true rfl))
        refine jr.aload_n rfl rfl ?_
        refine jr.iload rfl rfl ?_
        refine jr.bipush rfl (jbp _ (nlt rfl)) ?_
        refine jr.iadd rfl ?_
        refine jr_v rfl rfl (Or.inl rfl) rfl rfl (nlt rfl) rfl ⟨rfl, Nat.le_of_ble_eq_true rfl, Nat.le_of_ble_eq_true rfl⟩ rfl (jc.deep (r_takenEight_x hI_M hH_M hS_M  (by omega)  (fun r6 z6 w6_0 => ?_)) (Nat.le_of_ble_eq_true rfl))
        refine jr.lcmp_ne rfl rfl rfl (by omega) (by omega) (fun h193 => ?_) (fun h193 => ?_)
        · refine jr.iconst rfl ?_
          refine jr.istore (ls' := [_, _, _, _, _, _, _]) rfl (nlt rfl) rfl ?_
          refine jr.iload rfl rfl ?_
          refine jr.if_ne rfl rfl (by first | (refine rgb (by assumption) ?_; exact rfl) | omega) (fun h227 => ?_) (fun h227 => ?_)
          · refine jr.iconst rfl ?_
            refine jr.goto rfl rfl ?_
            exact jr.ireturn rfl rfl rfl (q _ (by first | exact rgq rfl | omega) (by rw [← hy2, ← hy3, rLike_x]; unfold alg at hy0; have t1 := w1_0; have t2 := w2_0; have t3 := w3_0; have t4 := w4_0; have t5 := w5_0; have t6 := w6_0; first | exact Or.inl ⟨rfl, by omega⟩ | exact Or.inr ⟨rfl, by omega⟩))
          · refine jr.iload rfl rfl ?_
            refine jr.if_eq rfl rfl (by first | exact rgl rfl | omega) (fun _ => ?_) (fun h => absurd (by decide) h)
            refine jr.iconst rfl ?_
            exact jr.ireturn rfl rfl rfl (q _ (by first | exact rgq rfl | omega) (by rw [← hy2, ← hy3, rLike_x]; unfold alg at hy0; have t1 := w1_0; have t2 := w2_0; have t3 := w3_0; have t4 := w4_0; have t5 := w5_0; have t6 := w6_0; first | exact Or.inl ⟨rfl, by omega⟩ | exact Or.inr ⟨rfl, by omega⟩))
        · refine jr.aload_n rfl rfl ?_
          refine jr.iload_n rfl rfl ?_
          refine jr.bipush rfl (jbp _ (nlt rfl)) ?_
          refine jr.iadd rfl ?_
          refine jr_v rfl rfl (Or.inl rfl) rfl rfl (nlt rfl) rfl ⟨rfl, Nat.le_of_ble_eq_true rfl, Nat.le_of_ble_eq_true rfl⟩ rfl (jc.deep (r_takenEight_x hI_M hH_M hS_M  (by omega)  (fun r7 z7 w7_0 => ?_)) (Nat.le_of_ble_eq_true rfl))
          refine jr.aload_n rfl rfl ?_
          refine jr.iload rfl rfl ?_
          refine jr.bipush rfl (jbp _ (nlt rfl)) ?_
          refine jr.iadd rfl ?_
          refine jr_v rfl rfl (Or.inl rfl) rfl rfl (nlt rfl) rfl ⟨rfl, Nat.le_of_ble_eq_true rfl, Nat.le_of_ble_eq_true rfl⟩ rfl (jc.deep (r_takenEight_x hI_M hH_M hS_M  (by omega)  (fun r8 z8 w8_0 => ?_)) (Nat.le_of_ble_eq_true rfl))
          refine jr.lcmp_ne rfl rfl rfl (by omega) (by omega) (fun h214 => ?_) (fun h214 => ?_)
          · refine jr.iconst rfl ?_
            refine jr.istore (ls' := [_, _, _, _, _, _, _]) rfl (nlt rfl) rfl ?_
            refine jr.iload rfl rfl ?_
            refine jr.if_ne rfl rfl (by first | (refine rgb (by assumption) ?_; exact rfl) | omega) (fun h227 => ?_) (fun h227 => ?_)
            · refine jr.iconst rfl ?_
              refine jr.goto rfl rfl ?_
              exact jr.ireturn rfl rfl rfl (q _ (by first | exact rgq rfl | omega) (by rw [← hy2, ← hy3, rLike_x]; unfold alg at hy0; have t1 := w1_0; have t2 := w2_0; have t3 := w3_0; have t4 := w4_0; have t5 := w5_0; have t6 := w6_0; have t7 := w7_0; have t8 := w8_0; first | exact Or.inl ⟨rfl, by omega⟩ | exact Or.inr ⟨rfl, by omega⟩))
            · refine jr.iload rfl rfl ?_
              refine jr.if_eq rfl rfl (by first | exact rgl rfl | omega) (fun _ => ?_) (fun h => absurd (by decide) h)
              refine jr.iconst rfl ?_
              exact jr.ireturn rfl rfl rfl (q _ (by first | exact rgq rfl | omega) (by rw [← hy2, ← hy3, rLike_x]; unfold alg at hy0; have t1 := w1_0; have t2 := w2_0; have t3 := w3_0; have t4 := w4_0; have t5 := w5_0; have t6 := w6_0; have t7 := w7_0; have t8 := w8_0; first | exact Or.inl ⟨rfl, by omega⟩ | exact Or.inr ⟨rfl, by omega⟩))
          · refine jr.iconst rfl ?_
            refine jr.goto rfl rfl ?_
            refine jr.istore (ls' := [_, _, _, _, _, _, _]) rfl (nlt rfl) rfl ?_
            refine jr.iload rfl rfl ?_
            refine jr.if_ne rfl rfl (by first | (refine rgb (by assumption) ?_; exact rfl) | omega) (fun h227 => ?_) (fun h227 => ?_)
            · refine jr.iconst rfl ?_
              refine jr.goto rfl rfl ?_
              exact jr.ireturn rfl rfl rfl (q _ (by first | exact rgq rfl | omega) (by rw [← hy2, ← hy3, rLike_x]; unfold alg at hy0; have t1 := w1_0; have t2 := w2_0; have t3 := w3_0; have t4 := w4_0; have t5 := w5_0; have t6 := w6_0; have t7 := w7_0; have t8 := w8_0; first | exact Or.inl ⟨rfl, by omega⟩ | exact Or.inr ⟨rfl, by omega⟩))
            · refine jr.iload rfl rfl ?_
              refine jr.if_eq rfl rfl (by first | exact rgl rfl | omega) (fun h => absurd h (by decide)) (fun _ => ?_)
              refine jr.iconst rfl ?_
              refine jr.goto rfl rfl ?_
              exact jr.ireturn rfl rfl rfl (q _ (by first | exact rgq rfl | omega) (by rw [← hy2, ← hy3, rLike_x]; unfold alg at hy0; have t1 := w1_0; have t2 := w2_0; have t3 := w3_0; have t4 := w4_0; have t5 := w5_0; have t6 := w6_0; have t7 := w7_0; have t8 := w8_0; first | exact Or.inl ⟨rfl, by omega⟩ | exact Or.inr ⟨rfl, by omega⟩))
theorem r_haveLikeEnds_x {A : Nat → Option (Nat × (Nat → Int32))} {Q : Option Value → jm → Prop} {M : jm} (hI_M : RI M) (hH_M : RH M) (hS_M : RF M) {a : Int} (h_a : 0 ≤ a ∧ a ≤ 23) {b : Int} (h_b : 0 ≤ b ∧ b ≤ 23) (q : ∀ (r : Int), 0 ≤ r ∧ r ≤ 1 → ((r = 1 ∧ rLike (M 599) (48 * a) (48 * b)) ∨ (r = 0 ∧ ¬ rLike (M 599) (48 * a) (48 * b))) → Q (some (.int (Int32.ofInt r))) M) : jc A 4 330 [.ref (598), .int (Int32.ofInt (a)), .int (Int32.ofInt (b))] M Q := by
  refine jc_of (m := xm_330) rfl (Nat.le_of_ble_eq_true rfl) rfl ?_
  refine jr.bipush rfl (jbp _ (nlt rfl)) ?_
  refine jr.iload_n rfl rfl ?_
  refine jr.imul rfl ?_
  refine jr.istore_n (ls' := [_, _, _, _]) rfl (nlt rfl) rfl ?_
  refine jr.bipush rfl (jbp _ (nlt rfl)) ?_
  refine jr.iload_n rfl rfl ?_
  refine jr.imul rfl ?_
  refine jr.istore (ls' := [_, _, _, _, _]) rfl (nlt rfl) rfl ?_
  refine jr.aload_n rfl rfl ?_
  refine jr.getf (i := 0) (v := .ref 599) rfl rfl (nlt rfl) rfl (nlt rfl) rfl rfl rfl rfl ?_
  refine jr.iload_n rfl rfl ?_
  obtain ⟨v1, e1⟩ : ∃ z, M 599 (48 * a) = z := ⟨_, rfl⟩
  have b1 : 0 ≤ v1 ∧ v1 ≤ 255 := by rw [← e1]; exact (by have q := hI_M 599 (48 * a) (Nat.le_of_ble_eq_true rfl); rw [xri_row rfl rfl] at q; exact q)
  refine jr.iald (i := (48 * a)) (x := v1) rfl (nlt rfl) rfl (Nat.le_of_ble_eq_true rfl) (by omega) (by omega) e1 ?_
  refine jr.aload_n rfl rfl ?_
  refine jr.getf (i := 0) (v := .ref 599) rfl rfl (nlt rfl) rfl (nlt rfl) rfl rfl rfl rfl ?_
  refine jr.iload rfl rfl ?_
  obtain ⟨v2, e2⟩ : ∃ z, M 599 (48 * b) = z := ⟨_, rfl⟩
  have b2 : 0 ≤ v2 ∧ v2 ≤ 255 := by rw [← e2]; exact (by have q := hI_M 599 (48 * b) (Nat.le_of_ble_eq_true rfl); rw [xri_row rfl rfl] at q; exact q)
  refine jr.iald (i := (48 * b)) (x := v2) rfl (nlt rfl) rfl (Nat.le_of_ble_eq_true rfl) (by omega) (by omega) e2 ?_
  refine jr.icmp_ne rfl rfl (by first | (refine rgb (by assumption) ?_; exact rfl) | omega) (by first | (refine rgb (by assumption) ?_; exact rfl) | omega) (fun h24 => ?_) (fun h24 => ?_)
  · refine jr.iconst rfl ?_
    exact jr.ireturn rfl rfl rfl (q _ (by first | exact rgq rfl | omega) (Or.inr ⟨rfl, fun u => by rw [rLike_x] at u; have u1 := u.1; rw [e1, e2] at u1; omega⟩))
  · refine jr.aload_n rfl rfl ?_
    refine jr.getf (i := 0) (v := .ref 599) rfl rfl (nlt rfl) rfl (nlt rfl) rfl rfl rfl rfl ?_
    refine jr.iload_n rfl rfl ?_
    refine jr.iconst rfl ?_
    refine jr.iadd rfl ?_
    obtain ⟨v3, e3⟩ : ∃ z, M 599 ((48 * a) + 1) = z := ⟨_, rfl⟩
    have b3 : 0 ≤ v3 ∧ v3 ≤ 255 := by rw [← e3]; exact (by have q := hI_M 599 ((48 * a) + 1) (by decide); rw [xri_row rfl rfl] at q; exact q)
    refine jr.iald (i := ((48 * a) + 1)) (x := v3) rfl (nlt rfl) rfl (Nat.le_of_ble_eq_true rfl) (by omega) (by omega) e3 ?_
    refine jr.bipush rfl (jbp _ (nlt rfl)) ?_
    refine jr.iand rfl ?_
    have b4 : j_and v3 16 = v3 / 16 % 2 * 16 ∧ 0 ≤ j_and v3 16 ∧ j_and v3 16 ≤ 16 := ⟨(jbt (by omega)).2.2.2, by rw [(jbt (by omega)).2.2.2]; omega⟩
    generalize j_and v3 16 = v4 at b4 ⊢
    refine jr.aload_n rfl rfl ?_
    refine jr.getf (i := 0) (v := .ref 599) rfl rfl (nlt rfl) rfl (nlt rfl) rfl rfl rfl rfl ?_
    refine jr.iload rfl rfl ?_
    refine jr.iconst rfl ?_
    refine jr.iadd rfl ?_
    obtain ⟨v5, e5⟩ : ∃ z, M 599 ((48 * b) + 1) = z := ⟨_, rfl⟩
    have b5 : 0 ≤ v5 ∧ v5 ≤ 255 := by rw [← e5]; exact (by have q := hI_M 599 ((48 * b) + 1) (by decide); rw [xri_row rfl rfl] at q; exact q)
    refine jr.iald (i := ((48 * b) + 1)) (x := v5) rfl (nlt rfl) rfl (Nat.le_of_ble_eq_true rfl) (by omega) (by omega) e5 ?_
    refine jr.bipush rfl (jbp _ (nlt rfl)) ?_
    refine jr.iand rfl ?_
    have b6 : j_and v5 16 = v5 / 16 % 2 * 16 ∧ 0 ≤ j_and v5 16 ∧ j_and v5 16 ≤ 16 := ⟨(jbt (by omega)).2.2.2, by rw [(jbt (by omega)).2.2.2]; omega⟩
    generalize j_and v5 16 = v6 at b6 ⊢
    refine jr.icmp_eq rfl rfl (by first | (refine rgb (by assumption) ?_; exact rfl) | omega) (by first | (refine rgb (by assumption) ?_; exact rfl) | omega) (fun h50 => ?_) (fun h50 => ?_)
    · refine jr.aload_n rfl rfl ?_
      refine jr.iload_n rfl rfl ?_
      refine jr.iconst rfl ?_
      refine jr.iadd rfl ?_
      refine jr_v rfl rfl (Or.inl rfl) rfl rfl (nlt rfl) rfl ⟨rfl, Nat.le_of_ble_eq_true rfl, Nat.le_of_ble_eq_true rfl⟩ rfl (jc.deep (r_takenTwo_x hI_M hH_M hS_M  (by omega)  (fun r7 z7 w7_0 => ?_)) (Nat.le_of_ble_eq_true rfl))
      refine jr.aload_n rfl rfl ?_
      refine jr.iload rfl rfl ?_
      refine jr.iconst rfl ?_
      refine jr.iadd rfl ?_
      refine jr_v rfl rfl (Or.inl rfl) rfl rfl (nlt rfl) rfl ⟨rfl, Nat.le_of_ble_eq_true rfl, Nat.le_of_ble_eq_true rfl⟩ rfl (jc.deep (r_takenTwo_x hI_M hH_M hS_M  (by omega)  (fun r8 z8 w8_0 => ?_)) (Nat.le_of_ble_eq_true rfl))
      refine jr.icmp_ne rfl rfl (by first | (refine rgb (by assumption) ?_; exact rfl) | omega) (by first | (refine rgb (by assumption) ?_; exact rfl) | omega) (fun h70 => ?_) (fun h70 => ?_)
      · refine jr.iconst rfl ?_
        refine jr.pick (ls := [_, _, _, _, _]) [0, 1, 4, 3, 2] rfl rfl ?_
        exact r_haveLikeEnds_L138_x hI_M hH_M hS_M q (48 * b) (48 * a) b a 0 (by omega) (by omega) (by omega) (by omega) (by omega) (by unfold alg; have t7 := w7_0; have t8 := w8_0; first | exact Or.inl ⟨rfl, by omega⟩ | exact Or.inr ⟨rfl, by omega⟩) (by have bA := e1; have bB := e2; have bC := e3; have bD := e5; rw [bA, bB, bC, bD]; omega) (by omega) (by omega) (by omega) (by omega)
      · refine jr.aload_n rfl rfl ?_
        refine jr.iload_n rfl rfl ?_
        refine jr.iconst rfl ?_
        refine jr.iadd rfl ?_
        refine jr_v rfl rfl (Or.inl rfl) rfl rfl (nlt rfl) rfl ⟨rfl, Nat.le_of_ble_eq_true rfl, Nat.le_of_ble_eq_true rfl⟩ rfl (jc.deep (r_takenTwo_x hI_M hH_M hS_M  (by omega)  (fun r9 z9 w9_0 => ?_)) (Nat.le_of_ble_eq_true rfl))
        refine jr.aload_n rfl rfl ?_
        refine jr.iload rfl rfl ?_
        refine jr.iconst rfl ?_
        refine jr.iadd rfl ?_
        refine jr_v rfl rfl (Or.inl rfl) rfl rfl (nlt rfl) rfl ⟨rfl, Nat.le_of_ble_eq_true rfl, Nat.le_of_ble_eq_true rfl⟩ rfl (jc.deep (r_takenTwo_x hI_M hH_M hS_M  (by omega)  (fun r10 z10 w10_0 => ?_)) (Nat.le_of_ble_eq_true rfl))
        refine jr.icmp_ne rfl rfl (by first | (refine rgb (by assumption) ?_; exact rfl) | omega) (by first | (refine rgb (by assumption) ?_; exact rfl) | omega) (fun h88 => ?_) (fun h88 => ?_)
        · refine jr.iconst rfl ?_
          refine jr.pick (ls := [_, _, _, _, _]) [0, 1, 4, 3, 2] rfl rfl ?_
          exact r_haveLikeEnds_L138_x hI_M hH_M hS_M q (48 * b) (48 * a) b a 0 (by omega) (by omega) (by omega) (by omega) (by omega) (by unfold alg; have t7 := w7_0; have t8 := w8_0; have t9 := w9_0; have t10 := w10_0; first | exact Or.inl ⟨rfl, by omega⟩ | exact Or.inr ⟨rfl, by omega⟩) (by have bA := e1; have bB := e2; have bC := e3; have bD := e5; rw [bA, bB, bC, bD]; omega) (by omega) (by omega) (by omega) (by omega)
        · refine jr.aload_n rfl rfl ?_
          refine jr.iload_n rfl rfl ?_
          refine jr.bipush rfl (jbp _ (nlt rfl)) ?_
          refine jr.iadd rfl ?_
          refine jr_v rfl rfl (Or.inl rfl) rfl rfl (nlt rfl) rfl ⟨rfl, Nat.le_of_ble_eq_true rfl, Nat.le_of_ble_eq_true rfl⟩ rfl (jc.deep (r_takenEight_x hI_M hH_M hS_M  (by omega)  (fun r11 z11 w11_0 => ?_)) (Nat.le_of_ble_eq_true rfl))
          refine jr.aload_n rfl rfl ?_
          refine jr.iload rfl rfl ?_
          refine jr.bipush rfl (jbp _ (nlt rfl)) ?_
          refine jr.iadd rfl ?_
          refine jr_v rfl rfl (Or.inl rfl) rfl rfl (nlt rfl) rfl ⟨rfl, Nat.le_of_ble_eq_true rfl, Nat.le_of_ble_eq_true rfl⟩ rfl (jc.deep (r_takenEight_x hI_M hH_M hS_M  (by omega)  (fun r12 z12 w12_0 => ?_)) (Nat.le_of_ble_eq_true rfl))
          refine jr.lcmp_ne rfl rfl rfl (by omega) (by omega) (fun h108 => ?_) (fun h108 => ?_)
          · refine jr.iconst rfl ?_
            refine jr.pick (ls := [_, _, _, _, _]) [0, 1, 4, 3, 2] rfl rfl ?_
            exact r_haveLikeEnds_L138_x hI_M hH_M hS_M q (48 * b) (48 * a) b a 0 (by omega) (by omega) (by omega) (by omega) (by omega) (by unfold alg; have t7 := w7_0; have t8 := w8_0; have t9 := w9_0; have t10 := w10_0; have t11 := w11_0; have t12 := w12_0; first | exact Or.inl ⟨rfl, by omega⟩ | exact Or.inr ⟨rfl, by omega⟩) (by have bA := e1; have bB := e2; have bC := e3; have bD := e5; rw [bA, bB, bC, bD]; omega) (by omega) (by omega) (by omega) (by omega)
          · refine jr.aload_n rfl rfl ?_
            refine jr.iload_n rfl rfl ?_
            refine jr.bipush rfl (jbp _ (nlt rfl)) ?_
            refine jr.iadd rfl ?_
            refine jr_v rfl rfl (Or.inl rfl) rfl rfl (nlt rfl) rfl ⟨rfl, Nat.le_of_ble_eq_true rfl, Nat.le_of_ble_eq_true rfl⟩ rfl (jc.deep (r_takenEight_x hI_M hH_M hS_M  (by omega)  (fun r13 z13 w13_0 => ?_)) (Nat.le_of_ble_eq_true rfl))
            refine jr.aload_n rfl rfl ?_
            refine jr.iload rfl rfl ?_
            refine jr.bipush rfl (jbp _ (nlt rfl)) ?_
            refine jr.iadd rfl ?_
            refine jr_v rfl rfl (Or.inl rfl) rfl rfl (nlt rfl) rfl ⟨rfl, Nat.le_of_ble_eq_true rfl, Nat.le_of_ble_eq_true rfl⟩ rfl (jc.deep (r_takenEight_x hI_M hH_M hS_M  (by omega)  (fun r14 z14 w14_0 => ?_)) (Nat.le_of_ble_eq_true rfl))
            refine jr.lcmp_ne rfl rfl rfl (by omega) (by omega) (fun h129 => ?_) (fun h129 => ?_)
            · refine jr.iconst rfl ?_
              refine jr.pick (ls := [_, _, _, _, _]) [0, 1, 4, 3, 2] rfl rfl ?_
              exact r_haveLikeEnds_L138_x hI_M hH_M hS_M q (48 * b) (48 * a) b a 0 (by omega) (by omega) (by omega) (by omega) (by omega) (by unfold alg; have t7 := w7_0; have t8 := w8_0; have t9 := w9_0; have t10 := w10_0; have t11 := w11_0; have t12 := w12_0; have t13 := w13_0; have t14 := w14_0; first | exact Or.inl ⟨rfl, by omega⟩ | exact Or.inr ⟨rfl, by omega⟩) (by have bA := e1; have bB := e2; have bC := e3; have bD := e5; rw [bA, bB, bC, bD]; omega) (by omega) (by omega) (by omega) (by omega)
            · refine jr.iconst rfl ?_
              refine jr.goto rfl rfl ?_
              refine jr.pick (ls := [_, _, _, _, _]) [0, 1, 4, 3, 2] rfl rfl ?_
              exact r_haveLikeEnds_L138_x hI_M hH_M hS_M q (48 * b) (48 * a) b a 1 (by omega) (by omega) (by omega) (by omega) (by omega) (by unfold alg; have t7 := w7_0; have t8 := w8_0; have t9 := w9_0; have t10 := w10_0; have t11 := w11_0; have t12 := w12_0; have t13 := w13_0; have t14 := w14_0; first | exact Or.inl ⟨rfl, by omega⟩ | exact Or.inr ⟨rfl, by omega⟩) (by have bA := e1; have bB := e2; have bC := e3; have bD := e5; rw [bA, bB, bC, bD]; omega) (by omega) (by omega) (by omega) (by omega)
    · refine jr.iconst rfl ?_
      exact jr.ireturn rfl rfl rfl (q _ (by first | exact rgq rfl | omega) (Or.inr ⟨rfl, fun u => by rw [rLike_x] at u; have u1 := u.1; rw [e1, e2, e3, e5] at u1; omega⟩))
theorem r_isRow_L228_x {A : Nat → Option (Nat × (Nat → Int32))} {Q : Option Value → jm → Prop} {o0 : Int} {n0 : Int} {M : jm} (hI_M : RI M) (hH_M : RH M) (hS_M : RF M) (q : ∀ (r : Int), 0 ≤ r ∧ r ≤ 1 → ((r = 1 ∧ okR (M 599) n0 o0) ∨ (r = 0 ∧ ¬ (okR (M 599) n0 o0))) → Q (some (.int (Int32.ofInt r))) M) : ∀ (nM : Nat) (k : Int) (w : Int) (n : Int) (o : Int), 0 ≤ k ∧ k ≤ 24 → 0 ≤ w ∧ w ≤ 1 → 0 ≤ n ∧ n ≤ 1600 → 0 ≤ o ∧ o ≤ 23 → ((w = 1 ∧ rGood (M 599) (48 * o) ∧ (∀ j : Int, 0 ≤ j → j < k → ¬ rLike (M 599) (48 * j) (48 * o))) ∨ (w = 0 ∧ ¬ okR (M 599) n o)) → 48 * o + 48 ≤ n → k ≤ o → o = o0 → n = n0 → 24 - k ≤ nM → jr A 4 xm_331 228 [(8, .int (Int32.ofInt (k))), (6, .int (Int32.ofInt (w))), (2, .int (Int32.ofInt (n))), (1, .int (Int32.ofInt (o))), (0, .ref (598))] [] M Q := by
  intro nM
  induction nM using Nat.strongRecOn with
  | ind nM ih =>
    intro k w n o h_k h_w h_n h_o hy0 hy1 hy2 hy3 hy4 hm
    subst hy3
    subst hy4
    refine jr.iload rfl rfl ?_
    refine jr.iload_n rfl rfl ?_
    refine jr.icmp_ge rfl rfl (by first | (refine rgb (by assumption) ?_; exact rfl) | omega) (by first | (refine rgb (by assumption) ?_; exact rfl) | omega) (fun h231 => ?_) (fun h231 => ?_)
    · refine jr.iload rfl rfl ?_
      exact jr.ireturn rfl rfl (j_zr (by omega)) (q _ (by omega) (by rcases hy0 with h9 | h9; (exact Or.inl ⟨h9.1, ⟨by omega, by omega⟩, h9.2.1, fun j j0 j1 => h9.2.2 j j0 (by omega)⟩); (exact Or.inr h9)))
    · refine jr.iload rfl rfl ?_
      refine jr.if_eq rfl rfl (by first | (refine rgb (by assumption) ?_; exact rfl) | omega) (fun h236 => ?_) (fun h236 => ?_)
      · refine jr.iload rfl rfl ?_
        exact jr.ireturn rfl rfl (j_zr (by omega)) (q _ (by omega) (by rcases hy0 with h9 | h9; (exact Or.inl ⟨h9.1, ⟨by omega, by omega⟩, h9.2.1, fun j j0 j1 => h9.2.2 j j0 (by omega)⟩); (exact Or.inr h9)))
      · have sx236 : (1 : Int) ≤ w := by omega
        clear h236
        refine jr.aload_n rfl rfl ?_
        refine jr.iload rfl rfl ?_
        refine jr.iload_n rfl rfl ?_
        refine jr_v rfl rfl (Or.inl rfl) rfl rfl (nlt rfl) rfl ⟨rfl, Nat.le_of_ble_eq_true rfl, Nat.le_of_ble_eq_true rfl⟩ rfl (jc.deep (r_haveLikeEnds_x hI_M hH_M hS_M  (by omega) (by omega)  (fun r1 z1 w1_0 => ?_)) (Nat.le_of_ble_eq_true rfl))
        refine jr.if_ne rfl rfl (by first | (refine rgb (by assumption) ?_; exact rfl) | omega) (fun h246 => ?_) (fun h246 => ?_)
        · have sx246 : (1 : Int) ≤ r1 := by omega
          clear h246
          refine jr.iconst rfl ?_
          refine jr.istore (ls' := [_, _, _, _, _]) rfl (nlt rfl) rfl ?_
          refine jr.iinc (ls' := [_, _, _, _, _]) rfl rfl (nlt rfl) rfl ?_
          refine jr.goto rfl rfl ?_
          refine jr.pick (ls := [_, _, _, _, _]) [0, 1, 2, 3, 4] rfl rfl ?_
          exact ih (nM - 1) (by omega) (k + 1) 0 n o (by omega) (by omega) (by omega) (by omega) (Or.inr ⟨rfl, fun u => u.2.2 k (by omega) (by omega) (w1_0.resolve_right (fun h => by omega)).2⟩) (by omega) (by omega) (by omega) (by omega) (by omega)
        · refine jr.iconst rfl ?_
          refine jr.goto rfl rfl ?_
          refine jr.istore (ls' := [_, _, _, _, _]) rfl (nlt rfl) rfl ?_
          refine jr.iinc (ls' := [_, _, _, _, _]) rfl rfl (nlt rfl) rfl ?_
          refine jr.goto rfl rfl ?_
          refine jr.pick (ls := [_, _, _, _, _]) [0, 1, 2, 3, 4] rfl rfl ?_
          exact ih (nM - 1) (by omega) (k + 1) 1 n o (by omega) (by omega) (by omega) (by omega) (Or.inl ⟨rfl, (hy0.resolve_right (fun h => by omega)).2.1, fun j j0 j1 => by by_cases e : j = k; (subst e; exact (w1_0.resolve_left (fun h => by omega)).2); (exact (hy0.resolve_right (fun h => by omega)).2.2 j j0 (by omega))⟩) (by omega) (by omega) (by omega) (by omega) (by omega)
theorem r_isRow_L225_x {A : Nat → Option (Nat × (Nat → Int32))} {Q : Option Value → jm → Prop} {o0 : Int} {n0 : Int} {M : jm} (hI_M : RI M) (hH_M : RH M) (hS_M : RF M) (q : ∀ (r : Int), 0 ≤ r ∧ r ≤ 1 → ((r = 1 ∧ okR (M 599) n0 o0) ∨ (r = 0 ∧ ¬ (okR (M 599) n0 o0))) → Q (some (.int (Int32.ofInt r))) M) : ∀ (w : Int) (n : Int) (o : Int), 0 ≤ w ∧ w ≤ 1 → 0 ≤ n ∧ n ≤ 1600 → 0 ≤ o ∧ o ≤ 23 → ((w = 1 ∧ (stOK (M 599 (48 * o)) (M 599 (48 * o + 1) % 16) ∧ adOK (M 599) (48 * o)) ∧ (1 ≤ nbs (M 599) (48 * o + 34) 4 ∧ nbs (M 599) (48 * o + 34) 4 ≤ 200)) ∨ (w = 0 ∧ ¬ ((stOK (M 599 (48 * o)) (M 599 (48 * o + 1) % 16) ∧ adOK (M 599) (48 * o)) ∧ (1 ≤ nbs (M 599) (48 * o + 34) 4 ∧ nbs (M 599) (48 * o + 34) 4 ≤ 200)))) → tw (M 599) (48 * o + 46) = tn (sb (M 599) (48 * o) 46) → 48 * o + 48 ≤ n → o = o0 → n = n0 → jr A 4 xm_331 225 [(6, .int (Int32.ofInt (w))), (2, .int (Int32.ofInt (n))), (1, .int (Int32.ofInt (o))), (3, .int (Int32.ofInt (48 * o))), (0, .ref (598))] [] M Q := by
    intro w n o h_w h_n h_o hy0 hy1 hy2 hy3 hy4
    subst hy3
    subst hy4
    refine jr.iconst rfl ?_
    refine jr.istore (ls' := [_, _, _, _, _, _]) rfl (nlt rfl) rfl ?_
    refine jr.pick (ls := [_, _, _, _, _]) [0, 1, 2, 3, 5] rfl rfl ?_
    exact r_isRow_L228_x hI_M hH_M hS_M q 24 0 w n o (by omega) (by omega) (by omega) (by omega) (by rcases hy0 with h9 | h9; (exact Or.inl ⟨h9.1, ⟨hy1, h9.2.1.1, h9.2.1.2, h9.2.2⟩, fun j j0 j1 => absurd j1 (by omega)⟩); (exact Or.inr ⟨h9.1, fun u => h9.2 ⟨⟨u.2.1.2.1, u.2.1.2.2.1⟩, u.2.1.2.2.2⟩⟩)) (by omega) (by omega) (by omega) (by omega) (by omega)
theorem r_isRow_L195_x {A : Nat → Option (Nat × (Nat → Int32))} {Q : Option Value → jm → Prop} {o0 : Int} {n0 : Int} {M : jm} (hI_M : RI M) (hH_M : RH M) (hS_M : RF M) (q : ∀ (r : Int), 0 ≤ r ∧ r ≤ 1 → ((r = 1 ∧ okR (M 599) n0 o0) ∨ (r = 0 ∧ ¬ (okR (M 599) n0 o0))) → Q (some (.int (Int32.ofInt r))) M) : ∀ (w : Int) (n : Int) (o : Int), 0 ≤ w ∧ w ≤ 1 → 0 ≤ n ∧ n ≤ 1600 → 0 ≤ o ∧ o ≤ 23 → ((w = 1 ∧ stOK (M 599 (48 * o)) (M 599 (48 * o + 1) % 16) ∧ adOK (M 599) (48 * o)) ∨ (w = 0 ∧ ¬ (stOK (M 599 (48 * o)) (M 599 (48 * o + 1) % 16) ∧ adOK (M 599) (48 * o)))) → tw (M 599) (48 * o + 46) = tn (sb (M 599) (48 * o) 46) → 48 * o + 48 ≤ n → o = o0 → n = n0 → jr A 4 xm_331 195 [(6, .int (Int32.ofInt (w))), (2, .int (Int32.ofInt (n))), (1, .int (Int32.ofInt (o))), (3, .int (Int32.ofInt (48 * o))), (0, .ref (598))] [] M Q := by
    intro w n o h_w h_n h_o hy0 hy1 hy2 hy3 hy4
    subst hy3
    subst hy4
    refine jr.iload rfl rfl ?_
    refine jr.if_eq rfl rfl (by first | (refine rgb (by assumption) ?_; exact rfl) | omega) (fun h197 => ?_) (fun h197 => ?_)
    · refine jr.iconst rfl ?_
      refine jr.istore (ls' := [_, _, _, _, _]) rfl (nlt rfl) rfl ?_
      refine jr.pick (ls := [_, _, _, _, _]) [0, 1, 2, 3, 4] rfl rfl ?_
      exact r_isRow_L225_x hI_M hH_M hS_M q 0 n o (by omega) (by omega) (by omega) (by have hs := hy0; first | exact Or.inl ⟨rfl, (hs.resolve_right (fun h => by omega)).2, by omega⟩ | exact Or.inr ⟨rfl, fun u => by have u2 := u.2; omega⟩ | exact Or.inr ⟨rfl, fun u => (hs.resolve_left (fun h => by omega)).2 u.1⟩) hy1 (by omega) (by omega) (by omega)
    · have sx197 : (1 : Int) ≤ w := by omega
      clear h197
      refine jr.aload_n rfl rfl ?_
      refine jr.iload_n rfl rfl ?_
      refine jr.bipush rfl (jbp _ (nlt rfl)) ?_
      refine jr.iadd rfl ?_
      refine jr_v rfl rfl (Or.inl rfl) rfl rfl (nlt rfl) rfl ⟨rfl, Nat.le_of_ble_eq_true rfl, Nat.le_of_ble_eq_true rfl⟩ rfl (jc.deep (r_takenFour_x hI_M hH_M hS_M  (by omega)  (fun r1 z1 w1_0 => ?_)) (Nat.le_of_ble_eq_true rfl))
      refine jr.lconst (x := 1) rfl (by decide) ?_
      refine jr.ldc2 (x := 200) rfl rfl (by decide) ?_
      refine jr_s rfl rfl (Or.inl rfl) ⟨Nat.le_of_ble_eq_true rfl, Nat.le_of_ble_eq_true rfl⟩ rfl rfl (jc.deep (c_within (by omega) (by omega) (by omega) (fun l212 u212 => ?_) (fun n212 => ?_)) (Nat.le_of_ble_eq_true rfl))
      · refine jr.if_eq rfl rfl (by first | exact rgl rfl | omega) (fun h => absurd h (by decide)) (fun _ => ?_)
        refine jr.iconst rfl ?_
        refine jr.goto rfl rfl ?_
        refine jr.istore (ls' := [_, _, _, _, _]) rfl (nlt rfl) rfl ?_
        refine jr.pick (ls := [_, _, _, _, _]) [0, 1, 2, 3, 4] rfl rfl ?_
        exact r_isRow_L225_x hI_M hH_M hS_M q 1 n o (by omega) (by omega) (by omega) (by have hs := hy0; have t1 := w1_0; first | exact Or.inl ⟨rfl, (hs.resolve_right (fun h => by omega)).2, by omega⟩ | exact Or.inr ⟨rfl, fun u => by have u2 := u.2; omega⟩ | exact Or.inr ⟨rfl, fun u => (hs.resolve_left (fun h => by omega)).2 u.1⟩) hy1 (by omega) (by omega) (by omega)
      · refine jr.if_eq rfl rfl (by first | exact rgl rfl | omega) (fun _ => ?_) (fun h => absurd (by decide) h)
        refine jr.iconst rfl ?_
        refine jr.istore (ls' := [_, _, _, _, _]) rfl (nlt rfl) rfl ?_
        refine jr.pick (ls := [_, _, _, _, _]) [0, 1, 2, 3, 4] rfl rfl ?_
        exact r_isRow_L225_x hI_M hH_M hS_M q 0 n o (by omega) (by omega) (by omega) (by have hs := hy0; have t1 := w1_0; first | exact Or.inl ⟨rfl, (hs.resolve_right (fun h => by omega)).2, by omega⟩ | exact Or.inr ⟨rfl, fun u => by have u2 := u.2; omega⟩ | exact Or.inr ⟨rfl, fun u => (hs.resolve_left (fun h => by omega)).2 u.1⟩) hy1 (by omega) (by omega) (by omega)
theorem r_isRow_L142_x {A : Nat → Option (Nat × (Nat → Int32))} {Q : Option Value → jm → Prop} {o0 : Int} {n0 : Int} {M : jm} (hI_M : RI M) (hH_M : RH M) (hS_M : RF M) (q : ∀ (r : Int), 0 ≤ r ∧ r ≤ 1 → ((r = 1 ∧ okR (M 599) n0 o0) ∨ (r = 0 ∧ ¬ (okR (M 599) n0 o0))) → Q (some (.int (Int32.ofInt r))) M) : ∀ (b : Int) (w : Int) (n : Int) (o : Int), 0 ≤ b ∧ b ≤ 1 → 0 ≤ w ∧ w ≤ 1 → 0 ≤ n ∧ n ≤ 1600 → 0 ≤ o ∧ o ≤ 23 → ((w = 1 ∧ stOK (M 599 (48 * o)) (M 599 (48 * o + 1) % 16)) ∨ (w = 0 ∧ ¬ (stOK (M 599 (48 * o)) (M 599 (48 * o + 1) % 16)))) → tw (M 599) (48 * o + 46) = tn (sb (M 599) (48 * o) 46) → 48 * o + 48 ≤ n → ((b = 1 ∧ M 599 (48 * o + 1) / 16 % 2 = 0) ∨ (b = 0 ∧ M 599 (48 * o + 1) / 16 % 2 = 1)) → o = o0 → n = n0 → jr A 4 xm_331 142 [(7, .int (Int32.ofInt (b))), (6, .int (Int32.ofInt (w))), (2, .int (Int32.ofInt (n))), (1, .int (Int32.ofInt (o))), (3, .int (Int32.ofInt (48 * o))), (0, .ref (598))] [] M Q := by
    intro b w n o h_b h_w h_n h_o hy0 hy1 hy2 hy3 hy4 hy5
    subst hy4
    subst hy5
    refine jr.iload rfl rfl ?_
    refine jr.if_eq rfl rfl (by first | (refine rgb (by assumption) ?_; exact rfl) | omega) (fun h144 => ?_) (fun h144 => ?_)
    · refine jr.iconst rfl ?_
      refine jr.istore (ls' := [_, _, _, _, _, _]) rfl (nlt rfl) rfl ?_
      refine jr.pick (ls := [_, _, _, _, _]) [0, 2, 3, 4, 5] rfl rfl ?_
      exact r_isRow_L195_x hI_M hH_M hS_M q 0 n o (by omega) (by omega) (by omega) (by have hs := hy0; rw [adOK_x]; first | exact Or.inl ⟨rfl, (hs.resolve_right (fun h => by omega)).2, by omega⟩ | exact Or.inr ⟨rfl, fun u => by have u2 := u.2; omega⟩ | exact Or.inr ⟨rfl, fun u => (hs.resolve_left (fun h => by omega)).2 u.1⟩) hy1 (by omega) (by omega) (by omega)
    · have sx144 : (1 : Int) ≤ w := by omega
      clear h144
      refine jr.iload rfl rfl ?_
      refine jr.if_eq rfl rfl (by first | (refine rgb (by assumption) ?_; exact rfl) | omega) (fun h149 => ?_) (fun h149 => ?_)
      · refine jr.iconst rfl ?_
        refine jr.goto rfl rfl ?_
        refine jr.istore (ls' := [_, _, _, _, _, _]) rfl (nlt rfl) rfl ?_
        refine jr.pick (ls := [_, _, _, _, _]) [0, 2, 3, 4, 5] rfl rfl ?_
        exact r_isRow_L195_x hI_M hH_M hS_M q 1 n o (by omega) (by omega) (by omega) (by have hs := hy0; rw [adOK_x]; first | exact Or.inl ⟨rfl, (hs.resolve_right (fun h => by omega)).2, by omega⟩ | exact Or.inr ⟨rfl, fun u => by have u2 := u.2; omega⟩ | exact Or.inr ⟨rfl, fun u => (hs.resolve_left (fun h => by omega)).2 u.1⟩) hy1 (by omega) (by omega) (by omega)
      · have sx149 : (1 : Int) ≤ b := by omega
        clear h149
        refine jr.aload_n rfl rfl ?_
        refine jr.iload_n rfl rfl ?_
        refine jr.bipush rfl (jbp _ (nlt rfl)) ?_
        refine jr.iadd rfl ?_
        refine jr_v rfl rfl (Or.inl rfl) rfl rfl (nlt rfl) rfl ⟨rfl, Nat.le_of_ble_eq_true rfl, Nat.le_of_ble_eq_true rfl⟩ rfl (jc.deep (r_takenEight_x hI_M hH_M hS_M  (by omega)  (fun r1 z1 w1_0 => ?_)) (Nat.le_of_ble_eq_true rfl))
        refine jr.lconst (x := 0) rfl (by decide) ?_
        refine jr.ldc2 (x := 4294967295) rfl rfl (by decide) ?_
        refine jr_s rfl rfl (Or.inl rfl) ⟨Nat.le_of_ble_eq_true rfl, Nat.le_of_ble_eq_true rfl⟩ rfl rfl (jc.deep (c_within (by omega) (by omega) (by omega) (fun l164 u164 => ?_) (fun n164 => ?_)) (Nat.le_of_ble_eq_true rfl))
        · refine jr.if_eq rfl rfl (by first | exact rgl rfl | omega) (fun h => absurd h (by decide)) (fun _ => ?_)
          refine jr.aload_n rfl rfl ?_
          refine jr.iload_n rfl rfl ?_
          refine jr.bipush rfl (jbp _ (nlt rfl)) ?_
          refine jr.iadd rfl ?_
          refine jr_v rfl rfl (Or.inl rfl) rfl rfl (nlt rfl) rfl ⟨rfl, Nat.le_of_ble_eq_true rfl, Nat.le_of_ble_eq_true rfl⟩ rfl (jc.deep (r_takenEight_x hI_M hH_M hS_M  (by omega)  (fun r2 z2 w2_0 => ?_)) (Nat.le_of_ble_eq_true rfl))
          refine jr.lconst (x := 0) rfl (by decide) ?_
          refine jr.ldc2 (x := 4294967295) rfl rfl (by decide) ?_
          refine jr_s rfl rfl (Or.inl rfl) ⟨Nat.le_of_ble_eq_true rfl, Nat.le_of_ble_eq_true rfl⟩ rfl rfl (jc.deep (c_within (by omega) (by omega) (by omega) (fun l182 u182 => ?_) (fun n182 => ?_)) (Nat.le_of_ble_eq_true rfl))
          · refine jr.if_eq rfl rfl (by first | exact rgl rfl | omega) (fun h => absurd h (by decide)) (fun _ => ?_)
            refine jr.iconst rfl ?_
            refine jr.goto rfl rfl ?_
            refine jr.istore (ls' := [_, _, _, _, _, _]) rfl (nlt rfl) rfl ?_
            refine jr.pick (ls := [_, _, _, _, _]) [0, 2, 3, 4, 5] rfl rfl ?_
            exact r_isRow_L195_x hI_M hH_M hS_M q 1 n o (by omega) (by omega) (by omega) (by have hs := hy0; rw [adOK_x]; have t1 := w1_0; have t2 := w2_0; first | exact Or.inl ⟨rfl, (hs.resolve_right (fun h => by omega)).2, by omega⟩ | exact Or.inr ⟨rfl, fun u => by have u2 := u.2; omega⟩ | exact Or.inr ⟨rfl, fun u => (hs.resolve_left (fun h => by omega)).2 u.1⟩) hy1 (by omega) (by omega) (by omega)
          · refine jr.if_eq rfl rfl (by first | exact rgl rfl | omega) (fun _ => ?_) (fun h => absurd (by decide) h)
            refine jr.iconst rfl ?_
            refine jr.istore (ls' := [_, _, _, _, _, _]) rfl (nlt rfl) rfl ?_
            refine jr.pick (ls := [_, _, _, _, _]) [0, 2, 3, 4, 5] rfl rfl ?_
            exact r_isRow_L195_x hI_M hH_M hS_M q 0 n o (by omega) (by omega) (by omega) (by have hs := hy0; rw [adOK_x]; have t1 := w1_0; have t2 := w2_0; first | exact Or.inl ⟨rfl, (hs.resolve_right (fun h => by omega)).2, by omega⟩ | exact Or.inr ⟨rfl, fun u => by have u2 := u.2; omega⟩ | exact Or.inr ⟨rfl, fun u => (hs.resolve_left (fun h => by omega)).2 u.1⟩) hy1 (by omega) (by omega) (by omega)
        · refine jr.if_eq rfl rfl (by first | exact rgl rfl | omega) (fun _ => ?_) (fun h => absurd (by decide) h)
          refine jr.iconst rfl ?_
          refine jr.istore (ls' := [_, _, _, _, _, _]) rfl (nlt rfl) rfl ?_
          refine jr.pick (ls := [_, _, _, _, _]) [0, 2, 3, 4, 5] rfl rfl ?_
          exact r_isRow_L195_x hI_M hH_M hS_M q 0 n o (by omega) (by omega) (by omega) (by have hs := hy0; rw [adOK_x]; have t1 := w1_0; first | exact Or.inl ⟨rfl, (hs.resolve_right (fun h => by omega)).2, by omega⟩ | exact Or.inr ⟨rfl, fun u => by have u2 := u.2; omega⟩ | exact Or.inr ⟨rfl, fun u => (hs.resolve_left (fun h => by omega)).2 u.1⟩) hy1 (by omega) (by omega) (by omega)
theorem r_isRow_L121_x {A : Nat → Option (Nat × (Nat → Int32))} {Q : Option Value → jm → Prop} {o0 : Int} {n0 : Int} {M : jm} (hI_M : RI M) (hH_M : RH M) (hS_M : RF M) (q : ∀ (r : Int), 0 ≤ r ∧ r ≤ 1 → ((r = 1 ∧ okR (M 599) n0 o0) ∨ (r = 0 ∧ ¬ (okR (M 599) n0 o0))) → Q (some (.int (Int32.ofInt r))) M) : ∀ (w : Int) (n : Int) (o : Int), 0 ≤ w ∧ w ≤ 1 → 0 ≤ n ∧ n ≤ 1600 → 0 ≤ o ∧ o ≤ 23 → ((w = 1 ∧ stOK (M 599 (48 * o)) (M 599 (48 * o + 1) % 16)) ∨ (w = 0 ∧ ¬ (stOK (M 599 (48 * o)) (M 599 (48 * o + 1) % 16)))) → tw (M 599) (48 * o + 46) = tn (sb (M 599) (48 * o) 46) → 48 * o + 48 ≤ n → o = o0 → n = n0 → jr A 4 xm_331 121 [(6, .int (Int32.ofInt (w))), (2, .int (Int32.ofInt (n))), (1, .int (Int32.ofInt (o))), (3, .int (Int32.ofInt (48 * o))), (0, .ref (598))] [] M Q := by
    intro w n o h_w h_n h_o hy0 hy1 hy2 hy3 hy4
    subst hy3
    subst hy4
    refine jr.aload_n rfl rfl ?_
    refine jr.getf (i := 0) (v := .ref 599) rfl rfl (nlt rfl) rfl (nlt rfl) rfl rfl rfl rfl ?_
    refine jr.iload_n rfl rfl ?_
    refine jr.iconst rfl ?_
    refine jr.iadd rfl ?_
    obtain ⟨v1, e1⟩ : ∃ z, M 599 ((48 * o) + 1) = z := ⟨_, rfl⟩
    have b1 : 0 ≤ v1 ∧ v1 ≤ 255 := by rw [← e1]; exact (by have q := hI_M 599 ((48 * o) + 1) (by decide); rw [xri_row rfl rfl] at q; exact q)
    refine jr.iald (i := ((48 * o) + 1)) (x := v1) rfl (nlt rfl) rfl (Nat.le_of_ble_eq_true rfl) (by omega) (by omega) e1 ?_
    refine jr.bipush rfl (jbp _ (nlt rfl)) ?_
    refine jr.iand rfl ?_
    have b2 : j_and v1 16 = v1 / 16 % 2 * 16 ∧ 0 ≤ j_and v1 16 ∧ j_and v1 16 ≤ 16 := ⟨(jbt (by omega)).2.2.2, by rw [(jbt (by omega)).2.2.2]; omega⟩
    generalize j_and v1 16 = v2 at b2 ⊢
    refine jr.if_ne rfl rfl (by first | (refine rgb (by assumption) ?_; exact rfl) | omega) (fun h132 => ?_) (fun h132 => ?_)
    · have sx132 : (1 : Int) ≤ v2 := by omega
      clear h132
      refine jr.iconst rfl ?_
      refine jr.istore (ls' := [_, _, _, _, _, _]) rfl (nlt rfl) rfl ?_
      refine jr.pick (ls := [_, _, _, _, _, _]) [0, 1, 2, 3, 4, 5] rfl rfl ?_
      exact r_isRow_L142_x hI_M hH_M hS_M q 0 w n o (by omega) (by omega) (by omega) (by omega) hy0 hy1 (by omega) (by rw [e1]; first | exact Or.inl ⟨rfl, by omega⟩ | exact Or.inr ⟨rfl, by omega⟩) (by omega) (by omega)
    · refine jr.iconst rfl ?_
      refine jr.goto rfl rfl ?_
      refine jr.istore (ls' := [_, _, _, _, _, _]) rfl (nlt rfl) rfl ?_
      refine jr.pick (ls := [_, _, _, _, _, _]) [0, 1, 2, 3, 4, 5] rfl rfl ?_
      exact r_isRow_L142_x hI_M hH_M hS_M q 1 w n o (by omega) (by omega) (by omega) (by omega) hy0 hy1 (by omega) (by rw [e1]; first | exact Or.inl ⟨rfl, by omega⟩ | exact Or.inr ⟨rfl, by omega⟩) (by omega) (by omega)
theorem r_isRow_x {A : Nat → Option (Nat × (Nat → Int32))} {Q : Option Value → jm → Prop} {M : jm} (hI_M : RI M) (hH_M : RH M) (hS_M : RF M) {o : Int} (h_o : 0 ≤ o ∧ o ≤ 33) {n : Int} (h_n : 0 ≤ n ∧ n ≤ 1600) (q : ∀ (r : Int), 0 ≤ r ∧ r ≤ 1 → ((r = 1 ∧ okR (M 599) n o) ∨ (r = 0 ∧ ¬ (okR (M 599) n o))) → Q (some (.int (Int32.ofInt r))) M) : jc A 5 331 [.ref (598), .int (Int32.ofInt (o)), .int (Int32.ofInt (n))] M Q := by
  refine jc_of (m := xm_331) rfl (Nat.le_of_ble_eq_true rfl) rfl ?_
  refine jr.bipush rfl (jbp _ (nlt rfl)) ?_
  refine jr.iload_n rfl rfl ?_
  refine jr.imul rfl ?_
  refine jr.istore_n (ls' := [_, _, _, _]) rfl (nlt rfl) rfl ?_
  refine jr.iload_n rfl rfl ?_
  refine jr.bipush rfl (jbp _ (nlt rfl)) ?_
  refine jr.iadd rfl ?_
  refine jr.iload_n rfl rfl ?_
  refine jr.icmp_gt rfl rfl (by first | (refine rgb (by assumption) ?_; exact rfl) | omega) (by first | (refine rgb (by assumption) ?_; exact rfl) | omega) (fun h10 => ?_) (fun h10 => ?_)
  · refine jr.iconst rfl ?_
    exact jr.ireturn rfl rfl rfl (q _ (by first | exact rgq rfl | omega) (Or.inr ⟨rfl, fun u => by have u1 := u.1; have u2 := u.2.1.1; omega⟩))
  · refine jr.iload_n rfl rfl ?_
    refine jr.bipush rfl (jbp _ (nlt rfl)) ?_
    refine jr.icmp_ge rfl rfl (by first | (refine rgb (by assumption) ?_; exact rfl) | omega) (rgl rfl) (fun h16 => ?_) (fun h16 => ?_)
    · refine jr.iconst rfl ?_
      exact jr.ireturn rfl rfl rfl (q _ (by first | exact rgq rfl | omega) (Or.inr ⟨rfl, fun u => by have u1 := u.1; have u2 := u.2.1.1; omega⟩))
    · refine jr.aload_n rfl rfl ?_
      refine jr.iload_n rfl rfl ?_
      refine jr.iload_n rfl rfl ?_
      refine jr.bipush rfl (jbp _ (nlt rfl)) ?_
      refine jr.iadd rfl ?_
      refine jr_v rfl rfl (Or.inl rfl) rfl rfl (nlt rfl) rfl ⟨rfl, Nat.le_of_ble_eq_true rfl, Nat.le_of_ble_eq_true rfl⟩ rfl (jc.deep (r_sumOfTape_x hI_M hH_M hS_M  (by omega) (by omega) (by omega) (fun r1 z1 w1_0 => ?_)) (Nat.le_of_ble_eq_true rfl))
      refine jr.aload_n rfl rfl ?_
      refine jr.iload_n rfl rfl ?_
      refine jr.bipush rfl (jbp _ (nlt rfl)) ?_
      refine jr.iadd rfl ?_
      refine jr_v rfl rfl (Or.inl rfl) rfl rfl (nlt rfl) rfl ⟨rfl, Nat.le_of_ble_eq_true rfl, Nat.le_of_ble_eq_true rfl⟩ rfl (jc.deep (r_takenTwo_x hI_M hH_M hS_M  (by omega)  (fun r2 z2 w2_0 => ?_)) (Nat.le_of_ble_eq_true rfl))
      refine jr.icmp_eq rfl rfl (by first | (refine rgb (by assumption) ?_; exact rfl) | omega) (by first | (refine rgb (by assumption) ?_; exact rfl) | omega) (fun h36 => ?_) (fun h36 => ?_)
      · refine jr.aload_n rfl rfl ?_
        refine jr.getf (i := 0) (v := .ref 599) rfl rfl (nlt rfl) rfl (nlt rfl) rfl rfl rfl rfl ?_
        refine jr.iload_n rfl rfl ?_
        obtain ⟨v3, e3⟩ : ∃ z, M 599 (48 * o) = z := ⟨_, rfl⟩
        have b3 : 0 ≤ v3 ∧ v3 ≤ 255 := by rw [← e3]; exact (by have q := hI_M 599 (48 * o) (Nat.le_of_ble_eq_true rfl); rw [xri_row rfl rfl] at q; exact q)
        refine jr.iald (i := (48 * o)) (x := v3) rfl (nlt rfl) rfl (Nat.le_of_ble_eq_true rfl) (by omega) (by omega) e3 ?_
        refine jr.istore (ls' := [_, _, _, _, _]) rfl (nlt rfl) rfl ?_
        refine jr.aload_n rfl rfl ?_
        refine jr.getf (i := 0) (v := .ref 599) rfl rfl (nlt rfl) rfl (nlt rfl) rfl rfl rfl rfl ?_
        refine jr.iload_n rfl rfl ?_
        refine jr.iconst rfl ?_
        refine jr.iadd rfl ?_
        obtain ⟨v4, e4⟩ : ∃ z, M 599 ((48 * o) + 1) = z := ⟨_, rfl⟩
        have b4 : 0 ≤ v4 ∧ v4 ≤ 255 := by rw [← e4]; exact (by have q := hI_M 599 ((48 * o) + 1) (by decide); rw [xri_row rfl rfl] at q; exact q)
        refine jr.iald (i := ((48 * o) + 1)) (x := v4) rfl (nlt rfl) rfl (Nat.le_of_ble_eq_true rfl) (by omega) (by omega) e4 ?_
        refine jr.bipush rfl (jbp _ (nlt rfl)) ?_
        refine jr.iand rfl ?_
        have b5 : j_and v4 15 = v4 % 16 := j_and_mask 4 (by decide) (by omega) (by omega)
        generalize j_and v4 15 = v5 at b5 ⊢
        refine jr.istore (ls' := [_, _, _, _, _, _]) rfl (nlt rfl) rfl ?_
        refine jr.iload rfl rfl ?_
        refine jr.iconst rfl ?_
        refine jr.icmp_ne rfl rfl (by first | (refine rgb (by assumption) ?_; exact rfl) | omega) (rgl rfl) (fun h65 => ?_) (fun h65 => ?_)
        · refine jr.iload rfl rfl ?_
          refine jr.bipush rfl (jbp _ (nlt rfl)) ?_
          refine jr.icmp_ne rfl rfl (by first | (refine rgb (by assumption) ?_; exact rfl) | omega) (rgl rfl) (fun h85 => ?_) (fun h85 => ?_)
          · refine jr.iload rfl rfl ?_
            refine jr.bipush rfl (jbp _ (nlt rfl)) ?_
            refine jr.icmp_ne rfl rfl (by first | (refine rgb (by assumption) ?_; exact rfl) | omega) (rgl rfl) (fun h105 => ?_) (fun h105 => ?_)
            · refine jr.iconst rfl ?_
              refine jr.istore (ls' := [_, _, _, _, _, _, _]) rfl (nlt rfl) rfl ?_
              refine jr.pick (ls := [_, _, _, _, _]) [0, 6, 5, 3, 4] rfl rfl ?_
              exact r_isRow_L121_x hI_M hH_M hS_M q 0 n o (by omega) (by omega) (by omega) (by unfold stOK; rw [e3, e4]; first | exact Or.inl ⟨rfl, by omega⟩ | exact Or.inr ⟨rfl, by omega⟩ | omega) (by have t1 := w1_0; have t2 := w2_0; rw [show ((48 * o) + 46 - (48 * o)).toNat = 46 from by omega] at t1; omega) (by omega) (by omega) (by omega)
            · refine jr.iload rfl rfl ?_
              refine jr.iconst rfl ?_
              refine jr.icmp_gt rfl rfl (by first | (refine rgb (by assumption) ?_; exact rfl) | omega) (rgl rfl) (fun h111 => ?_) (fun h111 => ?_)
              · refine jr.iconst rfl ?_
                refine jr.istore (ls' := [_, _, _, _, _, _, _]) rfl (nlt rfl) rfl ?_
                refine jr.pick (ls := [_, _, _, _, _]) [0, 6, 5, 3, 4] rfl rfl ?_
                exact r_isRow_L121_x hI_M hH_M hS_M q 0 n o (by omega) (by omega) (by omega) (by unfold stOK; rw [e3, e4]; first | exact Or.inl ⟨rfl, by omega⟩ | exact Or.inr ⟨rfl, by omega⟩ | omega) (by have t1 := w1_0; have t2 := w2_0; rw [show ((48 * o) + 46 - (48 * o)).toNat = 46 from by omega] at t1; omega) (by omega) (by omega) (by omega)
              · refine jr.iconst rfl ?_
                refine jr.goto rfl rfl ?_
                refine jr.istore (ls' := [_, _, _, _, _, _, _]) rfl (nlt rfl) rfl ?_
                refine jr.pick (ls := [_, _, _, _, _]) [0, 6, 5, 3, 4] rfl rfl ?_
                exact r_isRow_L121_x hI_M hH_M hS_M q 1 n o (by omega) (by omega) (by omega) (by unfold stOK; rw [e3, e4]; first | exact Or.inl ⟨rfl, by omega⟩ | exact Or.inr ⟨rfl, by omega⟩ | omega) (by have t1 := w1_0; have t2 := w2_0; rw [show ((48 * o) + 46 - (48 * o)).toNat = 46 from by omega] at t1; omega) (by omega) (by omega) (by omega)
          · refine jr.iload rfl rfl ?_
            refine jr.i2l rfl (by omega) ?_
            refine jr.lconst (x := 1) rfl (by decide) ?_
            refine jr.ldc2 (x := 10) rfl rfl (by decide) ?_
            refine jr_s rfl rfl (Or.inl rfl) ⟨Nat.le_of_ble_eq_true rfl, Nat.le_of_ble_eq_true rfl⟩ rfl rfl (jc.deep (c_within (by omega) (by omega) (by omega) (fun l95 u95 => ?_) (fun n95 => ?_)) (Nat.le_of_ble_eq_true rfl))
            · refine jr.goto rfl rfl ?_
              refine jr.istore (ls' := [_, _, _, _, _, _, _]) rfl (nlt rfl) rfl ?_
              refine jr.pick (ls := [_, _, _, _, _]) [0, 6, 5, 3, 4] rfl rfl ?_
              exact r_isRow_L121_x hI_M hH_M hS_M q 1 n o (by omega) (by omega) (by omega) (by unfold stOK; rw [e3, e4]; first | exact Or.inl ⟨rfl, by omega⟩ | exact Or.inr ⟨rfl, by omega⟩ | omega) (by have t1 := w1_0; have t2 := w2_0; rw [show ((48 * o) + 46 - (48 * o)).toNat = 46 from by omega] at t1; omega) (by omega) (by omega) (by omega)
            · refine jr.goto rfl rfl ?_
              refine jr.istore (ls' := [_, _, _, _, _, _, _]) rfl (nlt rfl) rfl ?_
              refine jr.pick (ls := [_, _, _, _, _]) [0, 6, 5, 3, 4] rfl rfl ?_
              exact r_isRow_L121_x hI_M hH_M hS_M q 0 n o (by omega) (by omega) (by omega) (by unfold stOK; rw [e3, e4]; first | exact Or.inl ⟨rfl, by omega⟩ | exact Or.inr ⟨rfl, by omega⟩ | omega) (by have t1 := w1_0; have t2 := w2_0; rw [show ((48 * o) + 46 - (48 * o)).toNat = 46 from by omega] at t1; omega) (by omega) (by omega) (by omega)
        · refine jr.iload rfl rfl ?_
          refine jr.if_ne rfl rfl (by first | (refine rgb (by assumption) ?_; exact rfl) | omega) (fun h70 => ?_) (fun h70 => ?_)
          · have sx70 : (1 : Int) ≤ v5 := by omega
            clear h70
            refine jr.iconst rfl ?_
            refine jr.goto rfl rfl ?_
            refine jr.istore (ls' := [_, _, _, _, _, _, _]) rfl (nlt rfl) rfl ?_
            refine jr.pick (ls := [_, _, _, _, _]) [0, 6, 5, 3, 4] rfl rfl ?_
            exact r_isRow_L121_x hI_M hH_M hS_M q 0 n o (by omega) (by omega) (by omega) (by unfold stOK; rw [e3, e4]; first | exact Or.inl ⟨rfl, by omega⟩ | exact Or.inr ⟨rfl, by omega⟩ | omega) (by have t1 := w1_0; have t2 := w2_0; rw [show ((48 * o) + 46 - (48 * o)).toNat = 46 from by omega] at t1; omega) (by omega) (by omega) (by omega)
          · refine jr.iconst rfl ?_
            refine jr.goto rfl rfl ?_
            refine jr.istore (ls' := [_, _, _, _, _, _, _]) rfl (nlt rfl) rfl ?_
            refine jr.pick (ls := [_, _, _, _, _]) [0, 6, 5, 3, 4] rfl rfl ?_
            exact r_isRow_L121_x hI_M hH_M hS_M q 1 n o (by omega) (by omega) (by omega) (by unfold stOK; rw [e3, e4]; first | exact Or.inl ⟨rfl, by omega⟩ | exact Or.inr ⟨rfl, by omega⟩ | omega) (by have t1 := w1_0; have t2 := w2_0; rw [show ((48 * o) + 46 - (48 * o)).toNat = 46 from by omega] at t1; omega) (by omega) (by omega) (by omega)
      · refine jr.iconst rfl ?_
        exact jr.ireturn rfl rfl rfl (q _ (by first | exact rgq rfl | omega) (Or.inr ⟨rfl, fun u => by have t1 := w1_0; have t2 := w2_0; rw [show ((48 * o) + 46 - (48 * o)).toNat = 46 from by omega] at t1; have u1 := u.1; have u2 := u.2.1.1; omega⟩))
end
