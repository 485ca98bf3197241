/-! ===== the class: a row is read ===== -/
theorem c_Flow_hasRightState_x {A : Nat → Option (Nat × (Nat → Int32))} {Q : Option Value → jm → Prop} {M : jm} (hC_M : CI M) {t : Nat} (k_t : kd t = 1) {N_ : Int} (g_N_ : M t 2 = N_) {S_ : Int} (g_S_ : M t 5 = S_) (q : ∀ (r : Int), 0 ≤ r ∧ r ≤ 1 → ((r = 1 ∧ stOK N_ S_) ∨ (r = 0 ∧ ¬ stOK N_ S_)) → Q (some (.int (Int32.ofInt r))) M) : jc A 1 67 [.ref (t)] M Q := by
  refine jc_of (m := xm_67) rfl (Nat.le_of_ble_eq_true rfl) rfl ?_
  have b_N_ : (-2147483648) ≤ N_ ∧ N_ ≤ 2147483647 := by rw [← g_N_]; exact (CI.r hC_M k_t (by decide) 2)
  have b_S_ : (-2147483648) ≤ S_ ∧ S_ ≤ 2147483647 := by rw [← g_S_]; exact (CI.r hC_M k_t (by decide) 5)
  refine jr.aload_n rfl rfl ?_
  refine jr.getf (i := 2) (x := N_) (v := .int (Int32.ofInt (N_))) rfl rfl (Nat.lt_trans (kx_1 k_t).1 (by decide)) (kx_1 k_t).2 (by decide) rfl rfl g_N_ rfl ?_
  rcases (show N_ = 1 ∨ N_ = 6 ∨ N_ = 17 ∨ (N_ ≠ 1 ∧ N_ ≠ 6 ∧ N_ ≠ 17) by omega) with h4 | h4 | h4 | h4
  · refine jr.lsw_k 1 rfl h4 rfl ?_
    refine jr.aload_n rfl rfl ?_
    refine jr.getf (i := 5) (x := S_) (v := .int (Int32.ofInt (S_))) rfl rfl (Nat.lt_trans (kx_1 k_t).1 (by decide)) (kx_1 k_t).2 (by decide) rfl rfl g_S_ rfl ?_
    refine jr.if_ne rfl rfl (by omega) (fun h44 => ?_) (fun h44 => ?_)
    · refine jr.iconst rfl ?_
      exact jr.ireturn rfl rfl rfl (q _ (by omega) (by first | exact Or.inl ⟨rfl, by unfold stOK; omega⟩ | exact Or.inr ⟨rfl, by unfold stOK; omega⟩))
    · refine jr.iconst rfl ?_
      refine jr.goto rfl rfl ?_
      exact jr.ireturn rfl rfl rfl (q _ (by omega) (by first | exact Or.inl ⟨rfl, by unfold stOK; omega⟩ | exact Or.inr ⟨rfl, by unfold stOK; omega⟩))
  · refine jr.lsw_k 6 rfl h4 rfl ?_
    refine jr.aload_n rfl rfl ?_
    refine jr.getf (i := 5) (x := S_) (v := .int (Int32.ofInt (S_))) rfl rfl (Nat.lt_trans (kx_1 k_t).1 (by decide)) (kx_1 k_t).2 (by decide) rfl rfl g_S_ rfl ?_
    refine jr.iconst rfl ?_
    refine jr.icmp_lt rfl rfl (by omega) (by omega) (fun h58 => ?_) (fun h58 => ?_)
    · refine jr.iconst rfl ?_
      exact jr.ireturn rfl rfl rfl (q _ (by omega) (by first | exact Or.inl ⟨rfl, by unfold stOK; omega⟩ | exact Or.inr ⟨rfl, by unfold stOK; omega⟩))
    · refine jr.aload_n rfl rfl ?_
      refine jr.getf (i := 5) (x := S_) (v := .int (Int32.ofInt (S_))) rfl rfl (Nat.lt_trans (kx_1 k_t).1 (by decide)) (kx_1 k_t).2 (by decide) rfl rfl g_S_ rfl ?_
      refine jr.bipush rfl (by decide) ?_
      refine jr.icmp_gt rfl rfl (by omega) (by omega) (fun h67 => ?_) (fun h67 => ?_)
      · refine jr.iconst rfl ?_
        exact jr.ireturn rfl rfl rfl (q _ (by omega) (by first | exact Or.inl ⟨rfl, by unfold stOK; omega⟩ | exact Or.inr ⟨rfl, by unfold stOK; omega⟩))
      · refine jr.iconst rfl ?_
        refine jr.goto rfl rfl ?_
        exact jr.ireturn rfl rfl rfl (q _ (by omega) (by first | exact Or.inl ⟨rfl, by unfold stOK; omega⟩ | exact Or.inr ⟨rfl, by unfold stOK; omega⟩))
  · refine jr.lsw_k 17 rfl h4 rfl ?_
    refine jr.aload_n rfl rfl ?_
    refine jr.getf (i := 5) (x := S_) (v := .int (Int32.ofInt (S_))) rfl rfl (Nat.lt_trans (kx_1 k_t).1 (by decide)) (kx_1 k_t).2 (by decide) rfl rfl g_S_ rfl ?_
    refine jr.iconst rfl ?_
    refine jr.icmp_gt rfl rfl (by omega) (by omega) (fun h81 => ?_) (fun h81 => ?_)
    · refine jr.iconst rfl ?_
      exact jr.ireturn rfl rfl rfl (q _ (by omega) (by first | exact Or.inl ⟨rfl, by unfold stOK; omega⟩ | exact Or.inr ⟨rfl, by unfold stOK; omega⟩))
    · refine jr.iconst rfl ?_
      refine jr.goto rfl rfl ?_
      exact jr.ireturn rfl rfl rfl (q _ (by omega) (by first | exact Or.inl ⟨rfl, by unfold stOK; omega⟩ | exact Or.inr ⟨rfl, by unfold stOK; omega⟩))
  · refine jr.lsw_d rfl (by omega) rfl (fun q hq => by simp only [List.mem_cons, List.not_mem_nil, or_false] at hq; rcases hq with rfl | rfl | rfl <;> (simp only; omega)) rfl ?_
    refine jr.iconst rfl ?_
    exact jr.ireturn rfl rfl rfl (q _ (by omega) (by first | exact Or.inl ⟨rfl, by unfold stOK; omega⟩ | exact Or.inr ⟨rfl, by unfold stOK; omega⟩))
theorem c_Flow_hasRightAddresses_x {A : Nat → Option (Nat × (Nat → Int32))} {Q : Option Value → jm → Prop} {M : jm} (hC_M : CI M) {t : Nat} (k_t : kd t = 1) {X_ : Int} (g_X_ : M t 1 = X_) (q : ∀ (r : Int), 0 ≤ r ∧ r ≤ 1 → ((r = 1 ∧ (X_ ≠ 0 ∨ ((0 ≤ M (t + 1) 0 ∧ M (t + 1) 0 ≤ 4294967295) ∧ (0 ≤ M (t + 1) 1 ∧ M (t + 1) 1 ≤ 4294967295)))) ∨ (r = 0 ∧ ¬ (X_ ≠ 0 ∨ ((0 ≤ M (t + 1) 0 ∧ M (t + 1) 0 ≤ 4294967295) ∧ (0 ≤ M (t + 1) 1 ∧ M (t + 1) 1 ≤ 4294967295))))) → Q (some (.int (Int32.ofInt r))) M) : jc A 1 68 [.ref (t)] M Q := by
  refine jc_of (m := xm_68) rfl (Nat.le_of_ble_eq_true rfl) rfl ?_
  have b_X_ : 0 ≤ X_ ∧ X_ ≤ 1 := by rw [← g_X_]; exact (CI.r hC_M k_t (by decide) 1)
  refine jr.aload_n rfl rfl ?_
  refine jr.getf (i := 1) (x := X_) (v := .int (Int32.ofInt (X_))) rfl rfl (Nat.lt_trans (kx_1 k_t).1 (by decide)) (kx_1 k_t).2 (by decide) rfl rfl g_X_ rfl ?_
  refine jr.if_ne rfl rfl (by omega) (fun h4 => ?_) (fun h4 => ?_)
  · refine jr.iconst rfl ?_
    refine jr.goto rfl rfl ?_
    exact jr.ireturn rfl rfl rfl (q _ (by omega) (by first | exact Or.inl ⟨rfl, by omega⟩ | exact Or.inr ⟨rfl, by omega⟩))
  · refine jr.aload_n rfl rfl ?_
    have k1 := kf_1_3 k_t
    refine jr.getf (i := 3) (v := .ref (t + 1)) rfl rfl (Nat.lt_trans (kx_1 k_t).1 (by decide)) (kx_1 k_t).2 (by decide) rfl rfl rfl (jval_ref rfl k1.1) ?_
    refine jr.iconst rfl ?_
    obtain ⟨v2, e2⟩ : ∃ z_, M ((t + 1)) 0 = z_ := ⟨_, rfl⟩
    have b2 : (-9223372036854775808) ≤ v2 ∧ v2 ≤ 9223372036854775807 := by rw [← e2]; exact (CI.r hC_M k1.2 (by decide) 0)
    refine jr.lald (i := 0) (x := v2) rfl (Nat.lt_trans (kx_2 k1.2).1 (by decide)) (kx_2 k1.2).2 (by decide) (by omega) (by omega) e2 ?_
    refine jr.bipush rfl (by decide) ?_
    refine jr.lushr rfl ?_
    have b3 : jl_ushr v2 32 = v2 % 18446744073709551616 / 4294967296 ∧ 0 ≤ jl_ushr v2 32 ∧ jl_ushr v2 32 ≤ 4294967295 := ⟨jl_ushr_32 _, by rw [jl_ushr_32]; omega⟩
    generalize jl_ushr v2 32 = v3 at b3 ⊢
    refine jr.lconst (x := 0) rfl (by decide) ?_
    refine jr.lcmp_ne rfl rfl rfl (by omega) (by omega) (fun h17 => ?_) (fun h17 => ?_)
    · refine jr.iconst rfl ?_
      exact jr.ireturn rfl rfl rfl (q _ (by omega) (by first | exact Or.inl ⟨rfl, by omega⟩ | exact Or.inr ⟨rfl, by omega⟩))
    · refine jr.aload_n rfl rfl ?_
      have k4 := kf_1_3 k_t
      refine jr.getf (i := 3) (v := .ref (t + 1)) rfl rfl (Nat.lt_trans (kx_1 k_t).1 (by decide)) (kx_1 k_t).2 (by decide) rfl rfl rfl (jval_ref rfl k4.1) ?_
      refine jr.iconst rfl ?_
      obtain ⟨v5, e5⟩ : ∃ z_, M ((t + 1)) 1 = z_ := ⟨_, rfl⟩
      have b5 : (-9223372036854775808) ≤ v5 ∧ v5 ≤ 9223372036854775807 := by rw [← e5]; exact (CI.r hC_M k4.2 (by decide) 1)
      refine jr.lald (i := 1) (x := v5) rfl (Nat.lt_trans (kx_2 k4.2).1 (by decide)) (kx_2 k4.2).2 (by decide) (by omega) (by omega) e5 ?_
      refine jr.bipush rfl (by decide) ?_
      refine jr.lushr rfl ?_
      have b6 : jl_ushr v5 32 = v5 % 18446744073709551616 / 4294967296 ∧ 0 ≤ jl_ushr v5 32 ∧ jl_ushr v5 32 ≤ 4294967295 := ⟨jl_ushr_32 _, by rw [jl_ushr_32]; omega⟩
      generalize jl_ushr v5 32 = v6 at b6 ⊢
      refine jr.lconst (x := 0) rfl (by decide) ?_
      refine jr.lcmp_ne rfl rfl rfl (by omega) (by omega) (fun h31 => ?_) (fun h31 => ?_)
      · refine jr.iconst rfl ?_
        exact jr.ireturn rfl rfl rfl (q _ (by omega) (by first | exact Or.inl ⟨rfl, by omega⟩ | exact Or.inr ⟨rfl, by omega⟩))
      · refine jr.iconst rfl ?_
        refine jr.goto rfl rfl ?_
        exact jr.ireturn rfl rfl rfl (q _ (by omega) (by first | exact Or.inl ⟨rfl, by omega⟩ | exact Or.inr ⟨rfl, by omega⟩))
theorem tbit (f : Int → Int) (y : Int) : f (y + 1) / 16 % 2 = 0 ∨ f (y + 1) / 16 % 2 = 1 := by omega
def W_c_Flow_readRow_x : List (Nat × Nat) := [(1, 0), (1, 1), (1, 2), (1, 5), (1, 6), (1, 12), (1, 13), (1, 15), (2, 1000), (3, 1000), (4, 1000), (5, 1000), (6, 1000), (7, 1000), (8, 1000)]
theorem c_Flow_readRow_x_L271 {A : Nat → Option (Nat × (Nat → Int32))} {Q : Option Value → jm → Prop} {T : jm} {t : Nat} (k_t : kd t = 1) {y : Int} {z : Int} (q : ∀ (r : Int) (M' : jm), CI M' → FR W_c_Flow_readRow_x T M' → 0 ≤ r ∧ r ≤ 1 → (RRD M' t (T 1) y z ∧ fr7 T M' t ∧ ((r = 1 ∧ rGood (T 1) y) ∨ (r = 0 ∧ ¬ rGood (T 1) y))) → Q (some (.int (Int32.ofInt r))) M') : ∀ (nM : Nat) (M : jm), CI M → FR W_c_Flow_readRow_x T M → 0 ≤ y ∧ y ≤ 1552 → 0 ≤ z ∧ z ≤ 2000000000 → (RWE T M t (T 1) y) → 0 ≤ nM → jr A 2 xm_65 271 [(2, .int (Int32.ofInt (y))), (3, .int (Int32.ofInt (z))), (0, .ref (t)), (1, .ref (1))] [] M Q := by
  intro nM
  induction nM using Nat.strongRecOn with
  | ind nM ih =>
    intro M  hC_M ht_M h_y h_z hy0 hm
    refine jr.aload_n rfl rfl ?_
    refine jr.iload_n rfl rfl ?_
    refine jr.bipush rfl (by decide) ?_
    refine jr.iadd rfl ?_
    refine jr.iconst rfl ?_
    refine jr_s rfl rfl (Or.inr rfl) ⟨Nat.le_of_ble_eq_true rfl, Nat.le_of_ble_eq_true rfl⟩ rfl rfl (jc.deep (c_PacketWall_numberAt_tx hC_M (by omega) (by omega) (by omega) (fun r1 z1 w1_0 => ?_)) (by decide))
    have hv1 := tp4 (f := T 1) (r := r1) (fun i => by rw [← hy0.1.1]; exact tpb hC_M i) (by have h9 := w1_0; rw [(show M 1 = T 1 from (rfl).trans hy0.1.1)] at h9; exact h9)
    refine jr.lstore rfl (by decide) rfl ?_
    refine jr.aload_n rfl rfl ?_
    refine jr.iload_n rfl rfl ?_
    refine jr.lload rfl rfl ?_
    refine jr.ldc2 (x := 200) rfl rfl (by decide) ?_
    refine jr.lmin rfl rfl (Nat.le_of_ble_eq_true rfl) (by omega) (by omega) ?_
    intro v2 d2 b2 c2
    refine jr.l2i rfl ?_
    refine jr.iadd rfl ?_
    refine jr.putf (i := 6) (x := (z + v2)) rfl rfl (Nat.lt_trans (kx_1 k_t).1 (by decide)) (kx_1 k_t).2 (by decide) rfl rfl rfl rfl rfl ?_
    refine jr.aload_n rfl rfl ?_
    refine jr.iload_n rfl rfl ?_
    refine jr.bipush rfl (by decide) ?_
    refine jr.iadd rfl ?_
    refine jr.iconst rfl ?_
    refine jr_s rfl rfl (Or.inr rfl) ⟨Nat.le_of_ble_eq_true rfl, Nat.le_of_ble_eq_true rfl⟩ rfl rfl (jc.deep (c_PacketWall_numberAt_tx (CI.u hC_M (i := 6) k_t (show (-2147483648 : Int) ≤ _ ∧ _ ≤ (2147483647 : Int) from by omega) rfl) (by omega) (by omega) (by omega) (fun r3 z3 w3_0 => ?_)) (by decide))
    have hv3 := tp2 (f := T 1) (r := r3) (fun i => by rw [← hy0.1.1]; exact tpb hC_M i) (by have h9 := w3_0; rw [(show ((ju M t 6 (z + v2))) 1 = T 1 from (((ju1_row (kd_ne (by rw [k_t]; decide))).trans rfl)).trans hy0.1.1)] at h9; exact h9)
    refine jr.aload_n rfl rfl ?_
    refine jr.iload_n rfl rfl ?_
    refine jr.iload_n rfl rfl ?_
    refine jr.bipush rfl (by decide) ?_
    refine jr.iadd rfl ?_
    refine jr_s rfl rfl (Or.inr rfl) ⟨Nat.le_of_ble_eq_true rfl, Nat.le_of_ble_eq_true rfl⟩ rfl rfl (jc.deep (c_PacketWall_addedTwos_tx (CI.u hC_M (i := 6) k_t (show (-2147483648 : Int) ≤ _ ∧ _ ≤ (2147483647 : Int) from by omega) rfl) (by omega) (by omega) (by omega) (fun r4 z4 w4_0 => ?_)) (by decide))
    refine jr_s rfl rfl (Or.inr rfl) ⟨Nat.le_of_ble_eq_true rfl, Nat.le_of_ble_eq_true rfl⟩ rfl rfl (jc.deep (c_PacketWall_foldedSum_x (CI.u hC_M (i := 6) k_t (show (-2147483648 : Int) ≤ _ ∧ _ ≤ (2147483647 : Int) from by omega) rfl) (by omega) (fun r5 z5 w5_0 => ?_)) (by decide))
    refine jr.i2l rfl (by omega) ?_
    refine jr.lcmp_ne rfl rfl rfl (by omega) (by omega) (fun h319 => ?_) (fun h319 => ?_)
    · refine jr.iconst rfl ?_
      refine jr.istore rfl (by decide) rfl ?_
      refine jr.iload rfl rfl ?_
      refine jr.if_eq rfl rfl (by omega) (fun _ => ?_) (fun h => absurd (by decide) h)
      refine jr.iconst rfl ?_
      exact jr.ireturn rfl rfl rfl (q _ _ (CI.u hC_M (i := 6) k_t (show (-2147483648 : Int) ≤ _ ∧ _ ≤ (2147483647 : Int) from by omega) rfl) (FR.o ht_M k_t rfl) (by omega) (by have hD := RWE.d (Z := z) hy0 (k1_18 k_t) (v := z + v2) (by rw [← hv1.1]; split <;> omega); have hsum : tn (sb (T 1) y 46) = r5 := (by rw [w5_0]; have h9 := w4_0; rw [(show ((ju M t 6 (z + v2))) 1 = T 1 from (((ju1_row (kd_ne (by rw [k_t]; decide))).trans rfl)).trans hy0.1.1), show (y + 46 - y).toNat = 46 from by omega] at h9; rw [h9]); exact ⟨hD.1, hD.2.1, Or.inr ⟨rfl, fun u => by obtain ⟨u1, u2, u3, u4⟩ := u; rw [hsum, ← hv3.1] at u1; rw [← hv1.1] at u4; first | omega⟩⟩))
    · refine jr.iconst rfl ?_
      refine jr.goto rfl rfl ?_
      refine jr.istore rfl (by decide) rfl ?_
      refine jr.iload rfl rfl ?_
      refine jr.if_eq rfl rfl (by omega) (fun h => absurd h (by decide)) (fun _ => ?_)
      refine jr.aload_n rfl rfl ?_
      obtain ⟨v7, e7⟩ : ∃ z_, M t 2 = z_ := ⟨_, rfl⟩
      have b7 : (-2147483648) ≤ v7 ∧ v7 ≤ 2147483647 := by rw [← e7]; exact (CI.r hC_M k_t (by decide) 2)
      obtain ⟨v8, e8⟩ : ∃ z_, M t 5 = z_ := ⟨_, rfl⟩
      have b8 : (-2147483648) ≤ v8 ∧ v8 ≤ 2147483647 := by rw [← e8]; exact (CI.r hC_M k_t (by decide) 5)
      refine jr_v rfl rfl (Or.inl rfl) rfl rfl (Nat.lt_trans (kx_1 k_t).1 (by decide)) (kx_1 k_t).2 ⟨rfl, Nat.le_of_ble_eq_true rfl, Nat.le_of_ble_eq_true rfl⟩ rfl (jc.deep (c_Flow_hasRightState_x (CI.u hC_M (i := 6) k_t (show (-2147483648 : Int) ≤ _ ∧ _ ≤ (2147483647 : Int) from by omega) rfl) k_t ((ju_i _ _ (by decide)).trans e7) ((ju_i _ _ (by decide)).trans e8) (fun r6 z6 w6_0 => ?_)) (by decide))
      skip
      refine jr.if_eq rfl rfl (by omega) (fun h339 => ?_) (fun h339 => ?_)
      · refine jr.iconst rfl ?_
        exact jr.ireturn rfl rfl rfl (q _ _ (CI.u hC_M (i := 6) k_t (show (-2147483648 : Int) ≤ _ ∧ _ ≤ (2147483647 : Int) from by omega) rfl) (FR.o ht_M k_t rfl) (by omega) (by have hD := RWE.d (Z := z) hy0 (k1_18 k_t) (v := z + v2) (by rw [← hv1.1]; split <;> omega); have hsum : tn (sb (T 1) y 46) = r5 := (by rw [w5_0]; have h9 := w4_0; rw [(show ((ju M t 6 (z + v2))) 1 = T 1 from (((ju1_row (kd_ne (by rw [k_t]; decide))).trans rfl)).trans hy0.1.1), show (y + 46 - y).toNat = 46 from by omega] at h9; rw [h9]); have hst : (r6 = 1 ∧ stOK (T 1 y) (T 1 (y + 1) % 16)) ∨ (r6 = 0 ∧ ¬ stOK (T 1 y) (T 1 (y + 1) % 16)) := (by have h9 := w6_0; rw [← (show _ = T 1 y from hy0.1.2.1.2.2.1), ← (show _ = T 1 (y + 1) % 16 from hy0.1.2.1.2.2.2.1), e7, e8]; exact h9); exact ⟨hD.1, hD.2.1, Or.inr ⟨rfl, fun u => by obtain ⟨u1, u2, u3, u4⟩ := u; rw [hsum, ← hv3.1] at u1; rw [← hv1.1] at u4; first | omega | exact absurd u2 (hst.resolve_left (fun h => by omega)).2⟩⟩))
      · refine jr.aload_n rfl rfl ?_
        obtain ⟨v10, e10⟩ : ∃ z_, M t 1 = z_ := ⟨_, rfl⟩
        have b10 : 0 ≤ v10 ∧ v10 ≤ 1 := by rw [← e10]; exact (CI.r hC_M k_t (by decide) 1)
        refine jr_v rfl rfl (Or.inl rfl) rfl rfl (Nat.lt_trans (kx_1 k_t).1 (by decide)) (kx_1 k_t).2 ⟨rfl, Nat.le_of_ble_eq_true rfl, Nat.le_of_ble_eq_true rfl⟩ rfl (jc.deep (c_Flow_hasRightAddresses_x (CI.u hC_M (i := 6) k_t (show (-2147483648 : Int) ≤ _ ∧ _ ≤ (2147483647 : Int) from by omega) rfl) k_t ((ju_i _ _ (by decide)).trans e10) (fun r9 z9 w9_0 => ?_)) (by decide))
        skip
        refine jr.if_eq rfl rfl (by omega) (fun h346 => ?_) (fun h346 => ?_)
        · refine jr.iconst rfl ?_
          exact jr.ireturn rfl rfl rfl (q _ _ (CI.u hC_M (i := 6) k_t (show (-2147483648 : Int) ≤ _ ∧ _ ≤ (2147483647 : Int) from by omega) rfl) (FR.o ht_M k_t rfl) (by omega) (by have hD := RWE.d (Z := z) hy0 (k1_18 k_t) (v := z + v2) (by rw [← hv1.1]; split <;> omega); have hsum : tn (sb (T 1) y 46) = r5 := (by rw [w5_0]; have h9 := w4_0; rw [(show ((ju M t 6 (z + v2))) 1 = T 1 from (((ju1_row (kd_ne (by rw [k_t]; decide))).trans rfl)).trans hy0.1.1), show (y + 46 - y).toNat = 46 from by omega] at h9; rw [h9]); have hst : (r6 = 1 ∧ stOK (T 1 y) (T 1 (y + 1) % 16)) ∨ (r6 = 0 ∧ ¬ stOK (T 1 y) (T 1 (y + 1) % 16)) := (by have h9 := w6_0; rw [← (show _ = T 1 y from hy0.1.2.1.2.2.1), ← (show _ = T 1 (y + 1) % 16 from hy0.1.2.1.2.2.2.1), e7, e8]; exact h9); have had : (r9 = 1 ∧ adOK (T 1) y) ∨ (r9 = 0 ∧ ¬ adOK (T 1) y) := (by have h9 := w9_0; have h8 := hy0.1.2.1.2.1; rw [e10] at h8; have a0 := (hy0.1.2.2.1 0 (by decide) (by decide)).1.2.2.1; have a1 := (hy0.1.2.2.1 1 (by decide) (by decide)).1.2.2.1; have j0 : ((ju M t 6 (z + v2))) (t + 1) 0 = M (t + 1) 0 := ju_c _ _ (by omega); have j1 : ((ju M t 6 (z + v2))) (t + 1) 1 = M (t + 1) 1 := ju_c _ _ (by omega); rw [j0, j1, a0, a1] at h9; unfold adOK; rw [← h8]; have hx := tbit (T 1) y; rcases h9 with h9 | h9; (exact Or.inl ⟨h9.1, by have h7 := h9.2; omega⟩); (exact Or.inr ⟨h9.1, by have h7 := h9.2; omega⟩)); exact ⟨hD.1, hD.2.1, Or.inr ⟨rfl, fun u => by obtain ⟨u1, u2, u3, u4⟩ := u; rw [hsum, ← hv3.1] at u1; rw [← hv1.1] at u4; first | omega | exact absurd u2 (hst.resolve_left (fun h => by omega)).2 | exact absurd u3 (had.resolve_left (fun h => by omega)).2⟩⟩))
        · refine jr.lload rfl rfl ?_
          refine jr.lconst (x := 1) rfl (by decide) ?_
          refine jr.lcmp_lt rfl rfl rfl (by omega) (by omega) (fun h352 => ?_) (fun h352 => ?_)
          · refine jr.iconst rfl ?_
            exact jr.ireturn rfl rfl rfl (q _ _ (CI.u hC_M (i := 6) k_t (show (-2147483648 : Int) ≤ _ ∧ _ ≤ (2147483647 : Int) from by omega) rfl) (FR.o ht_M k_t rfl) (by omega) (by have hD := RWE.d (Z := z) hy0 (k1_18 k_t) (v := z + v2) (by rw [← hv1.1]; split <;> omega); have hsum : tn (sb (T 1) y 46) = r5 := (by rw [w5_0]; have h9 := w4_0; rw [(show ((ju M t 6 (z + v2))) 1 = T 1 from (((ju1_row (kd_ne (by rw [k_t]; decide))).trans rfl)).trans hy0.1.1), show (y + 46 - y).toNat = 46 from by omega] at h9; rw [h9]); have hst : (r6 = 1 ∧ stOK (T 1 y) (T 1 (y + 1) % 16)) ∨ (r6 = 0 ∧ ¬ stOK (T 1 y) (T 1 (y + 1) % 16)) := (by have h9 := w6_0; rw [← (show _ = T 1 y from hy0.1.2.1.2.2.1), ← (show _ = T 1 (y + 1) % 16 from hy0.1.2.1.2.2.2.1), e7, e8]; exact h9); have had : (r9 = 1 ∧ adOK (T 1) y) ∨ (r9 = 0 ∧ ¬ adOK (T 1) y) := (by have h9 := w9_0; have h8 := hy0.1.2.1.2.1; rw [e10] at h8; have a0 := (hy0.1.2.2.1 0 (by decide) (by decide)).1.2.2.1; have a1 := (hy0.1.2.2.1 1 (by decide) (by decide)).1.2.2.1; have j0 : ((ju M t 6 (z + v2))) (t + 1) 0 = M (t + 1) 0 := ju_c _ _ (by omega); have j1 : ((ju M t 6 (z + v2))) (t + 1) 1 = M (t + 1) 1 := ju_c _ _ (by omega); rw [j0, j1, a0, a1] at h9; unfold adOK; rw [← h8]; have hx := tbit (T 1) y; rcases h9 with h9 | h9; (exact Or.inl ⟨h9.1, by have h7 := h9.2; omega⟩); (exact Or.inr ⟨h9.1, by have h7 := h9.2; omega⟩)); exact ⟨hD.1, hD.2.1, Or.inr ⟨rfl, fun u => by obtain ⟨u1, u2, u3, u4⟩ := u; rw [hsum, ← hv3.1] at u1; rw [← hv1.1] at u4; first | omega | exact absurd u2 (hst.resolve_left (fun h => by omega)).2 | exact absurd u3 (had.resolve_left (fun h => by omega)).2⟩⟩))
          · refine jr.lload rfl rfl ?_
            refine jr.ldc2 (x := 200) rfl rfl (by decide) ?_
            refine jr.lcmp_gt rfl rfl rfl (by omega) (by omega) (fun h361 => ?_) (fun h361 => ?_)
            · refine jr.iconst rfl ?_
              exact jr.ireturn rfl rfl rfl (q _ _ (CI.u hC_M (i := 6) k_t (show (-2147483648 : Int) ≤ _ ∧ _ ≤ (2147483647 : Int) from by omega) rfl) (FR.o ht_M k_t rfl) (by omega) (by have hD := RWE.d (Z := z) hy0 (k1_18 k_t) (v := z + v2) (by rw [← hv1.1]; split <;> omega); have hsum : tn (sb (T 1) y 46) = r5 := (by rw [w5_0]; have h9 := w4_0; rw [(show ((ju M t 6 (z + v2))) 1 = T 1 from (((ju1_row (kd_ne (by rw [k_t]; decide))).trans rfl)).trans hy0.1.1), show (y + 46 - y).toNat = 46 from by omega] at h9; rw [h9]); have hst : (r6 = 1 ∧ stOK (T 1 y) (T 1 (y + 1) % 16)) ∨ (r6 = 0 ∧ ¬ stOK (T 1 y) (T 1 (y + 1) % 16)) := (by have h9 := w6_0; rw [← (show _ = T 1 y from hy0.1.2.1.2.2.1), ← (show _ = T 1 (y + 1) % 16 from hy0.1.2.1.2.2.2.1), e7, e8]; exact h9); have had : (r9 = 1 ∧ adOK (T 1) y) ∨ (r9 = 0 ∧ ¬ adOK (T 1) y) := (by have h9 := w9_0; have h8 := hy0.1.2.1.2.1; rw [e10] at h8; have a0 := (hy0.1.2.2.1 0 (by decide) (by decide)).1.2.2.1; have a1 := (hy0.1.2.2.1 1 (by decide) (by decide)).1.2.2.1; have j0 : ((ju M t 6 (z + v2))) (t + 1) 0 = M (t + 1) 0 := ju_c _ _ (by omega); have j1 : ((ju M t 6 (z + v2))) (t + 1) 1 = M (t + 1) 1 := ju_c _ _ (by omega); rw [j0, j1, a0, a1] at h9; unfold adOK; rw [← h8]; have hx := tbit (T 1) y; rcases h9 with h9 | h9; (exact Or.inl ⟨h9.1, by have h7 := h9.2; omega⟩); (exact Or.inr ⟨h9.1, by have h7 := h9.2; omega⟩)); exact ⟨hD.1, hD.2.1, Or.inr ⟨rfl, fun u => by obtain ⟨u1, u2, u3, u4⟩ := u; rw [hsum, ← hv3.1] at u1; rw [← hv1.1] at u4; first | omega | exact absurd u2 (hst.resolve_left (fun h => by omega)).2 | exact absurd u3 (had.resolve_left (fun h => by omega)).2⟩⟩))
            · refine jr.iconst rfl ?_
              refine jr.goto rfl rfl ?_
              exact jr.ireturn rfl rfl rfl (q _ _ (CI.u hC_M (i := 6) k_t (show (-2147483648 : Int) ≤ _ ∧ _ ≤ (2147483647 : Int) from by omega) rfl) (FR.o ht_M k_t rfl) (by omega) (by have hD := RWE.d (Z := z) hy0 (k1_18 k_t) (v := z + v2) (by rw [← hv1.1]; split <;> omega); have hsum : tn (sb (T 1) y 46) = r5 := (by rw [w5_0]; have h9 := w4_0; rw [(show ((ju M t 6 (z + v2))) 1 = T 1 from (((ju1_row (kd_ne (by rw [k_t]; decide))).trans rfl)).trans hy0.1.1), show (y + 46 - y).toNat = 46 from by omega] at h9; rw [h9]); have hst : (r6 = 1 ∧ stOK (T 1 y) (T 1 (y + 1) % 16)) ∨ (r6 = 0 ∧ ¬ stOK (T 1 y) (T 1 (y + 1) % 16)) := (by have h9 := w6_0; rw [← (show _ = T 1 y from hy0.1.2.1.2.2.1), ← (show _ = T 1 (y + 1) % 16 from hy0.1.2.1.2.2.2.1), e7, e8]; exact h9); have had : (r9 = 1 ∧ adOK (T 1) y) ∨ (r9 = 0 ∧ ¬ adOK (T 1) y) := (by have h9 := w9_0; have h8 := hy0.1.2.1.2.1; rw [e10] at h8; have a0 := (hy0.1.2.2.1 0 (by decide) (by decide)).1.2.2.1; have a1 := (hy0.1.2.2.1 1 (by decide) (by decide)).1.2.2.1; have j0 : ((ju M t 6 (z + v2))) (t + 1) 0 = M (t + 1) 0 := ju_c _ _ (by omega); have j1 : ((ju M t 6 (z + v2))) (t + 1) 1 = M (t + 1) 1 := ju_c _ _ (by omega); rw [j0, j1, a0, a1] at h9; unfold adOK; rw [← h8]; have hx := tbit (T 1) y; rcases h9 with h9 | h9; (exact Or.inl ⟨h9.1, by have h7 := h9.2; omega⟩); (exact Or.inr ⟨h9.1, by have h7 := h9.2; omega⟩)); exact ⟨hD.1, hD.2.1, Or.inl ⟨rfl, by rw [hsum, ← hv3.1]; omega, (hst.resolve_right (fun h => by omega)).2, (had.resolve_right (fun h => by omega)).2, by rw [← hv1.1]; omega⟩⟩))
theorem c_Flow_readRow_x_L222 {A : Nat → Option (Nat × (Nat → Int32))} {Q : Option Value → jm → Prop} {T : jm} {t : Nat} (k_t : kd t = 1) {y : Int} {z : Int} (q : ∀ (r : Int) (M' : jm), CI M' → FR W_c_Flow_readRow_x T M' → 0 ≤ r ∧ r ≤ 1 → (RRD M' t (T 1) y z ∧ fr7 T M' t ∧ ((r = 1 ∧ rGood (T 1) y) ∨ (r = 0 ∧ ¬ rGood (T 1) y))) → Q (some (.int (Int32.ofInt r))) M') {kM : Nat} (hK : ∀ (M : jm) (a_ : Int) (i : Int), CI M → FR W_c_Flow_readRow_x T M → 0 ≤ y ∧ y ≤ 1552 → 0 ≤ z ∧ z ≤ 2000000000 → 0 ≤ a_ ∧ a_ ≤ 255 → 0 ≤ i ∧ i ≤ 2 → (RWS T M t (T 1) y i) → (a_ = T 1 (y + 1)) → 2 - i ≤ kM → jr A 2 xm_65 66 [(2, .int (Int32.ofInt (y))), (3, .int (Int32.ofInt (z))), (4, .int (Int32.ofInt (a_))), (5, .int (Int32.ofInt (i))), (0, .ref (t)), (1, .ref (1))] [] M Q) : ∀ (nM : Nat) (M : jm) (a_ : Int) (i : Int), CI M → FR W_c_Flow_readRow_x T M → 0 ≤ y ∧ y ≤ 1552 → 0 ≤ z ∧ z ≤ 2000000000 → 0 ≤ a_ ∧ a_ ≤ 255 → 0 ≤ i ∧ i ≤ 1 → (RWD T M t (T 1) y i) → (a_ = T 1 (y + 1)) → (2 - (i + 1) ≤ kM) → 0 ≤ nM → jr A 2 xm_65 222 [(2, .int (Int32.ofInt (y))), (3, .int (Int32.ofInt (z))), (4, .int (Int32.ofInt (a_))), (5, .int (Int32.ofInt (i))), (0, .ref (t)), (1, .ref (1))] [] M Q := by
  intro nM
  induction nM using Nat.strongRecOn with
  | ind nM ih =>
    intro M a_ i hC_M ht_M h_y h_z h_a_ h_i hy0 hy1 hy2 hm
    refine jr.aload_n rfl rfl ?_
    have k1 := kf_1_11 k_t
    refine jr.getf (i := 11) (v := .ref (t + 7)) rfl rfl (Nat.lt_trans (kx_1 k_t).1 (by decide)) (kx_1 k_t).2 (by decide) rfl rfl rfl (jval_ref rfl k1.1) ?_
    refine jr.iload rfl rfl ?_
    refine jr.iload rfl rfl ?_
    refine jr.if_ne rfl rfl (by omega) (fun h230 => ?_) (fun h230 => ?_)
    · refine jr.lconst (x := 0) rfl (by decide) ?_
      refine jr.last (i := i) (x := 0) rfl (Nat.lt_trans (kx_3 k1.2).1 (by decide)) (kx_3 k1.2).2 (by decide) (by omega) (by omega) ?_
      refine jr.iinc rfl rfl (by decide) rfl ?_
      refine jr.goto rfl rfl ?_
      refine jr.pick [1, 2, 3, 0, 4, 5] rfl rfl ?_
      exact hK ((ju M ((t + 7)) i 0)) a_ (i + 1) (CI.u hC_M (i := i) k1.2 (show (-9223372036854775808 : Int) ≤ _ ∧ _ ≤ (9223372036854775807 : Int) from by omega) rfl) (FR.o ht_M k1.2 rfl) (by omega) (by omega) (by omega) (by omega) (RWD.e hy0 (k1_18 k_t) (by unfold tBy; rw [if_neg (by omega)])) hy1 (by omega)
    · refine jr.aload_n rfl rfl ?_
      refine jr.iload_n rfl rfl ?_
      refine jr.bipush rfl (by decide) ?_
      refine jr.iadd rfl ?_
      refine jr.iconst rfl ?_
      refine jr_s rfl rfl (Or.inr rfl) ⟨Nat.le_of_ble_eq_true rfl, Nat.le_of_ble_eq_true rfl⟩ rfl rfl (jc.deep (c_PacketWall_numberAt_tx hC_M (by omega) (by omega) (by omega) (fun r2 z2 w2_0 => ?_)) (by decide))
      have hv2 := tp4 (f := T 1) (r := r2) (fun i => by rw [← hy0.1.1.1.1]; exact tpb hC_M i) (by have h9 := w2_0; rw [(show M 1 = T 1 from (rfl).trans hy0.1.1.1.1)] at h9; exact h9)
      refine jr.goto rfl rfl ?_
      refine jr.last (i := i) (x := r2) rfl (Nat.lt_trans (kx_3 k1.2).1 (by decide)) (kx_3 k1.2).2 (by decide) (by omega) (by omega) ?_
      refine jr.iinc rfl rfl (by decide) rfl ?_
      refine jr.goto rfl rfl ?_
      refine jr.pick [1, 2, 3, 0, 4, 5] rfl rfl ?_
      exact hK ((ju M ((t + 7)) i r2)) a_ (i + 1) (CI.u hC_M (i := i) k1.2 (show (-9223372036854775808 : Int) ≤ _ ∧ _ ≤ (9223372036854775807 : Int) from by omega) rfl) (FR.o ht_M k1.2 rfl) (by omega) (by omega) (by omega) (by omega) (RWD.e hy0 (k1_18 k_t) (by unfold tBy; rw [if_pos (by omega)]; exact hv2.1)) hy1 (by omega)
theorem c_Flow_readRow_x_L197 {A : Nat → Option (Nat × (Nat → Int32))} {Q : Option Value → jm → Prop} {T : jm} {t : Nat} (k_t : kd t = 1) {y : Int} {z : Int} (q : ∀ (r : Int) (M' : jm), CI M' → FR W_c_Flow_readRow_x T M' → 0 ≤ r ∧ r ≤ 1 → (RRD M' t (T 1) y z ∧ fr7 T M' t ∧ ((r = 1 ∧ rGood (T 1) y) ∨ (r = 0 ∧ ¬ rGood (T 1) y))) → Q (some (.int (Int32.ofInt r))) M') {kM : Nat} (hK : ∀ (M : jm) (a_ : Int) (i : Int), CI M → FR W_c_Flow_readRow_x T M → 0 ≤ y ∧ y ≤ 1552 → 0 ≤ z ∧ z ≤ 2000000000 → 0 ≤ a_ ∧ a_ ≤ 255 → 0 ≤ i ∧ i ≤ 2 → (RWS T M t (T 1) y i) → (a_ = T 1 (y + 1)) → 2 - i ≤ kM → jr A 2 xm_65 66 [(2, .int (Int32.ofInt (y))), (3, .int (Int32.ofInt (z))), (4, .int (Int32.ofInt (a_))), (5, .int (Int32.ofInt (i))), (0, .ref (t)), (1, .ref (1))] [] M Q) : ∀ (nM : Nat) (M : jm) (a_ : Int) (i : Int), CI M → FR W_c_Flow_readRow_x T M → 0 ≤ y ∧ y ≤ 1552 → 0 ≤ z ∧ z ≤ 2000000000 → 0 ≤ a_ ∧ a_ ≤ 255 → 0 ≤ i ∧ i ≤ 1 → (RWC T M t (T 1) y i) → (a_ = T 1 (y + 1)) → (2 - (i + 1) ≤ kM) → 0 ≤ nM → jr A 2 xm_65 197 [(2, .int (Int32.ofInt (y))), (3, .int (Int32.ofInt (z))), (4, .int (Int32.ofInt (a_))), (5, .int (Int32.ofInt (i))), (0, .ref (t)), (1, .ref (1))] [] M Q := by
  intro nM
  induction nM using Nat.strongRecOn with
  | ind nM ih =>
    intro M a_ i hC_M ht_M h_y h_z h_a_ h_i hy0 hy1 hy2 hm
    refine jr.aload_n rfl rfl ?_
    have k1 := kf_1_10 k_t
    refine jr.getf (i := 10) (v := .ref (t + 6)) rfl rfl (Nat.lt_trans (kx_1 k_t).1 (by decide)) (kx_1 k_t).2 (by decide) rfl rfl rfl (jval_ref rfl k1.1) ?_
    refine jr.iload rfl rfl ?_
    refine jr.iload rfl rfl ?_
    refine jr.if_ne rfl rfl (by omega) (fun h205 => ?_) (fun h205 => ?_)
    · refine jr.lconst (x := 0) rfl (by decide) ?_
      refine jr.last (i := i) (x := 0) rfl (Nat.lt_trans (kx_6 k1.2).1 (by decide)) (kx_6 k1.2).2 (by decide) (by omega) (by omega) ?_
      refine jr.pick [0, 1, 2, 3, 4, 5] rfl rfl ?_
      exact c_Flow_readRow_x_L222 k_t q hK 0 ((ju M ((t + 6)) i 0)) a_ i (CI.u hC_M (i := i) k1.2 (show (-9223372036854775808 : Int) ≤ _ ∧ _ ≤ (9223372036854775807 : Int) from by omega) rfl) (FR.o ht_M k1.2 rfl) (by omega) (by omega) (by omega) (by omega) (RWC.d hy0 (k1_18 k_t) (by unfold tPk; rw [if_neg (by omega)])) hy1 (by omega) (by omega)
    · refine jr.aload_n rfl rfl ?_
      refine jr.iload_n rfl rfl ?_
      refine jr.bipush rfl (by decide) ?_
      refine jr.iadd rfl ?_
      refine jr.iconst rfl ?_
      refine jr_s rfl rfl (Or.inr rfl) ⟨Nat.le_of_ble_eq_true rfl, Nat.le_of_ble_eq_true rfl⟩ rfl rfl (jc.deep (c_PacketWall_numberAt_tx hC_M (by omega) (by omega) (by omega) (fun r2 z2 w2_0 => ?_)) (by decide))
      have hv2 := tp4 (f := T 1) (r := r2) (fun i => by rw [← hy0.1.1.1]; exact tpb hC_M i) (by have h9 := w2_0; rw [(show M 1 = T 1 from (rfl).trans hy0.1.1.1)] at h9; exact h9)
      refine jr.goto rfl rfl ?_
      refine jr.last (i := i) (x := r2) rfl (Nat.lt_trans (kx_6 k1.2).1 (by decide)) (kx_6 k1.2).2 (by decide) (by omega) (by omega) ?_
      refine jr.pick [0, 1, 2, 3, 4, 5] rfl rfl ?_
      exact c_Flow_readRow_x_L222 k_t q hK 0 ((ju M ((t + 6)) i r2)) a_ i (CI.u hC_M (i := i) k1.2 (show (-9223372036854775808 : Int) ≤ _ ∧ _ ≤ (9223372036854775807 : Int) from by omega) rfl) (FR.o ht_M k1.2 rfl) (by omega) (by omega) (by omega) (by omega) (RWC.d hy0 (k1_18 k_t) (by unfold tPk; rw [if_pos (by omega)]; exact hv2.1)) hy1 (by omega) (by omega)
theorem c_Flow_readRow_x_L161 {A : Nat → Option (Nat × (Nat → Int32))} {Q : Option Value → jm → Prop} {T : jm} {t : Nat} (k_t : kd t = 1) {y : Int} {z : Int} (q : ∀ (r : Int) (M' : jm), CI M' → FR W_c_Flow_readRow_x T M' → 0 ≤ r ∧ r ≤ 1 → (RRD M' t (T 1) y z ∧ fr7 T M' t ∧ ((r = 1 ∧ rGood (T 1) y) ∨ (r = 0 ∧ ¬ rGood (T 1) y))) → Q (some (.int (Int32.ofInt r))) M') {kM : Nat} (hK : ∀ (M : jm) (a_ : Int) (i : Int), CI M → FR W_c_Flow_readRow_x T M → 0 ≤ y ∧ y ≤ 1552 → 0 ≤ z ∧ z ≤ 2000000000 → 0 ≤ a_ ∧ a_ ≤ 255 → 0 ≤ i ∧ i ≤ 2 → (RWS T M t (T 1) y i) → (a_ = T 1 (y + 1)) → 2 - i ≤ kM → jr A 2 xm_65 66 [(2, .int (Int32.ofInt (y))), (3, .int (Int32.ofInt (z))), (4, .int (Int32.ofInt (a_))), (5, .int (Int32.ofInt (i))), (0, .ref (t)), (1, .ref (1))] [] M Q) : ∀ (nM : Nat) (M : jm) (a_ : Int) (i : Int), CI M → FR W_c_Flow_readRow_x T M → 0 ≤ y ∧ y ≤ 1552 → 0 ≤ z ∧ z ≤ 2000000000 → 0 ≤ a_ ∧ a_ ≤ 255 → 0 ≤ i ∧ i ≤ 1 → (RWB T M t (T 1) y i) → (a_ = T 1 (y + 1)) → (2 - (i + 1) ≤ kM) → 0 ≤ nM → jr A 2 xm_65 161 [(2, .int (Int32.ofInt (y))), (3, .int (Int32.ofInt (z))), (4, .int (Int32.ofInt (a_))), (5, .int (Int32.ofInt (i))), (0, .ref (t)), (1, .ref (1))] [] M Q := by
  intro nM
  induction nM using Nat.strongRecOn with
  | ind nM ih =>
    intro M a_ i hC_M ht_M h_y h_z h_a_ h_i hy0 hy1 hy2 hm
    refine jr.aload_n rfl rfl ?_
    have k1 := kf_1_7 k_t
    refine jr.getf (i := 7) (v := .ref (t + 3)) rfl rfl (Nat.lt_trans (kx_1 k_t).1 (by decide)) (kx_1 k_t).2 (by decide) rfl rfl rfl (jval_ref rfl k1.1) ?_
    refine jr.iload rfl rfl ?_
    refine jr.aload_n rfl rfl ?_
    have k2 := kf_1_8 k_t
    refine jr.getf (i := 8) (v := .ref (t + 4)) rfl rfl (Nat.lt_trans (kx_1 k_t).1 (by decide)) (kx_1 k_t).2 (by decide) rfl rfl rfl (jval_ref rfl k2.1) ?_
    refine jr.iload rfl rfl ?_
    obtain ⟨v3, e3⟩ : ∃ z_, M ((t + 4)) i = z_ := ⟨_, rfl⟩
    have b3 : 0 ≤ v3 ∧ v3 ≤ 1 := by rw [← e3]; exact (CI.r hC_M k2.2 (by decide) i)
    refine jr.zald (i := i) (x := v3) rfl (Nat.lt_trans (kx_4 k2.2).1 (by decide)) (kx_4 k2.2).2 (by decide) (by omega) (by omega) e3 ?_
    refine jr.if_eq rfl rfl (by omega) (fun h174 => ?_) (fun h174 => ?_)
    · refine jr.iconst rfl ?_
      refine jr.iast (i := i) (x := 0) rfl (Nat.lt_trans (kx_5 k1.2).1 (by decide)) (kx_5 k1.2).2 (by decide) (by omega) (by omega) ?_
      refine jr.pick [0, 1, 2, 3, 4, 5] rfl rfl ?_
      exact c_Flow_readRow_x_L197 k_t q hK 0 ((ju M ((t + 3)) i 0)) a_ i (CI.u hC_M (i := i) k1.2 (show (-2147483648 : Int) ≤ _ ∧ _ ≤ (2147483647 : Int) from by omega) rfl) (FR.o ht_M k1.2 rfl) (by omega) (by omega) (by omega) (by omega) (RWB.c hy0 (k1_18 k_t) (by unfold tLa; rw [(show tHl (T 1) y i = _ from hy0.2.2.2.2.symm.trans e3), if_pos (by omega)])) hy1 (by omega) (by omega)
    · refine jr.aload_n rfl rfl ?_
      refine jr.iload_n rfl rfl ?_
      refine jr.bipush rfl (by decide) ?_
      refine jr.iadd rfl ?_
      refine jr.iconst rfl ?_
      refine jr.iload rfl rfl ?_
      refine jr.imul rfl ?_
      refine jr.iadd rfl ?_
      refine jr.iconst rfl ?_
      refine jr_s rfl rfl (Or.inr rfl) ⟨Nat.le_of_ble_eq_true rfl, Nat.le_of_ble_eq_true rfl⟩ rfl rfl (jc.deep (c_PacketWall_numberAt_tx hC_M (by omega) (by omega) (by omega) (fun r4 z4 w4_0 => ?_)) (by decide))
      have hv4 := tp4 (f := T 1) (r := r4) (fun i => by rw [← hy0.1.1]; exact tpb hC_M i) (by have h9 := w4_0; rw [(show M 1 = T 1 from (rfl).trans hy0.1.1)] at h9; exact h9)
      refine jr.l2i rfl ?_
      refine jr.iw (j_w r4) (j_w_eq _) ?_
      have b5 : -2147483648 ≤ j_w r4 ∧ j_w r4 ≤ 2147483647 := jb_any _
      refine jr.goto rfl rfl ?_
      refine jr.iast (i := i) (x := (j_w r4)) rfl (Nat.lt_trans (kx_5 k1.2).1 (by decide)) (kx_5 k1.2).2 (by decide) (by omega) (by omega) ?_
      refine jr.pick [0, 1, 2, 3, 4, 5] rfl rfl ?_
      exact c_Flow_readRow_x_L197 k_t q hK 0 ((ju M ((t + 3)) i (j_w r4))) a_ i (CI.u hC_M (i := i) k1.2 (show (-2147483648 : Int) ≤ _ ∧ _ ≤ (2147483647 : Int) from by omega) rfl) (FR.o ht_M k1.2 rfl) (by omega) (by omega) (by omega) (by omega) (RWB.c hy0 (k1_18 k_t) (by unfold tLa; rw [(show tHl (T 1) y i = _ from hy0.2.2.2.2.symm.trans e3), if_neg (by omega), ← hv4.1])) hy1 (by omega) (by omega)
theorem c_Flow_readRow_x_L66 {A : Nat → Option (Nat × (Nat → Int32))} {Q : Option Value → jm → Prop} {T : jm} {t : Nat} (k_t : kd t = 1) {y : Int} {z : Int} (q : ∀ (r : Int) (M' : jm), CI M' → FR W_c_Flow_readRow_x T M' → 0 ≤ r ∧ r ≤ 1 → (RRD M' t (T 1) y z ∧ fr7 T M' t ∧ ((r = 1 ∧ rGood (T 1) y) ∨ (r = 0 ∧ ¬ rGood (T 1) y))) → Q (some (.int (Int32.ofInt r))) M') : ∀ (nM : Nat) (M : jm) (a_ : Int) (i : Int), CI M → FR W_c_Flow_readRow_x T M → 0 ≤ y ∧ y ≤ 1552 → 0 ≤ z ∧ z ≤ 2000000000 → 0 ≤ a_ ∧ a_ ≤ 255 → 0 ≤ i ∧ i ≤ 2 → (RWS T M t (T 1) y i) → (a_ = T 1 (y + 1)) → 2 - i ≤ nM → jr A 2 xm_65 66 [(2, .int (Int32.ofInt (y))), (3, .int (Int32.ofInt (z))), (4, .int (Int32.ofInt (a_))), (5, .int (Int32.ofInt (i))), (0, .ref (t)), (1, .ref (1))] [] M Q := by
  intro nM
  induction nM using Nat.strongRecOn with
  | ind nM ih =>
    intro M a_ i hC_M ht_M h_y h_z h_a_ h_i hy0 hy1 hm
    refine jr.iload rfl rfl ?_
    refine jr.iconst rfl ?_
    refine jr.icmp_ge rfl rfl (by omega) (by omega) (fun h69 => ?_) (fun h69 => ?_)
    · refine jr.aload_n rfl rfl ?_
      refine jr.iload rfl rfl ?_
      refine jr.sipush rfl (by decide) ?_
      refine jr.iand rfl ?_
      have b1 : j_and a_ 128 = a_ / 128 % 2 * 128 ∧ 0 ≤ j_and a_ 128 ∧ j_and a_ 128 ≤ 128 := ⟨(jbx (by omega)).2.2, by rw [(jbx (by omega)).2.2]; omega⟩
      generalize j_and a_ 128 = v1 at b1 ⊢
      refine jr.if_eq rfl rfl (by omega) (fun h260 => ?_) (fun h260 => ?_)
      · refine jr.iconst rfl ?_
        refine jr.putf (i := 12) (x := 0) rfl rfl (Nat.lt_trans (kx_1 k_t).1 (by decide)) (kx_1 k_t).2 (by decide) rfl rfl rfl rfl rfl ?_
        refine jr.pick [0, 1, 4, 5] rfl rfl ?_
        exact c_Flow_readRow_x_L271 k_t q 0 ((ju M t 12 0))  (CI.u hC_M (i := 12) k_t (show (0 : Int) ≤ _ ∧ _ ≤ (1 : Int) from by omega) rfl) (FR.o ht_M k_t rfl) (by omega) (by omega) (RWS.e (by have h9 := hy0; rw [show i = 2 from by omega] at h9; exact h9) (k1_18 k_t) (by rw [← hy1]; have h9 := b1.1; omega)) (by omega)
      · refine jr.iconst rfl ?_
        refine jr.goto rfl rfl ?_
        refine jr.putf (i := 12) (x := 1) rfl rfl (Nat.lt_trans (kx_1 k_t).1 (by decide)) (kx_1 k_t).2 (by decide) rfl rfl rfl rfl rfl ?_
        refine jr.pick [0, 1, 4, 5] rfl rfl ?_
        exact c_Flow_readRow_x_L271 k_t q 0 ((ju M t 12 1))  (CI.u hC_M (i := 12) k_t (show (0 : Int) ≤ _ ∧ _ ≤ (1 : Int) from by omega) rfl) (FR.o ht_M k_t rfl) (by omega) (by omega) (RWS.e (by have h9 := hy0; rw [show i = 2 from by omega] at h9; exact h9) (k1_18 k_t) (by rw [← hy1]; have h9 := b1.1; omega)) (by omega)
    · refine jr.aload_n rfl rfl ?_
      have k2 := kf_1_4 k_t
      refine jr.getf (i := 4) (v := .ref (t + 2)) rfl rfl (Nat.lt_trans (kx_1 k_t).1 (by decide)) (kx_1 k_t).2 (by decide) rfl rfl rfl (jval_ref rfl k2.1) ?_
      refine jr.iload rfl rfl ?_
      refine jr.aload_n rfl rfl ?_
      refine jr.iload_n rfl rfl ?_
      refine jr.iconst rfl ?_
      refine jr.iadd rfl ?_
      refine jr.iconst rfl ?_
      refine jr.iload rfl rfl ?_
      refine jr.imul rfl ?_
      refine jr.iadd rfl ?_
      refine jr.iconst rfl ?_
      refine jr_s rfl rfl (Or.inr rfl) ⟨Nat.le_of_ble_eq_true rfl, Nat.le_of_ble_eq_true rfl⟩ rfl rfl (jc.deep (c_PacketWall_numberAt_tx hC_M (by omega) (by omega) (by omega) (fun r3 z3 w3_0 => ?_)) (by decide))
      have hv3 := tp2 (f := T 1) (r := r3) (fun i => by rw [← hy0.1]; exact tpb hC_M i) (by have h9 := w3_0; rw [(show M 1 = T 1 from (rfl).trans hy0.1)] at h9; exact h9)
      refine jr.l2i rfl ?_
      refine jr.iast (i := i) (x := r3) rfl (Nat.lt_trans (kx_7 k2.2).1 (by decide)) (kx_7 k2.2).2 (by decide) (by omega) (by omega) ?_
      refine jr.aload_n rfl rfl ?_
      have k4 := kf_1_9 k_t
      refine jr.getf (i := 9) (v := .ref (t + 5)) rfl rfl (Nat.lt_trans (kx_1 k_t).1 (by decide)) (kx_1 k_t).2 (by decide) rfl rfl rfl (jval_ref rfl k4.1) ?_
      refine jr.iload rfl rfl ?_
      refine jr.aload_n rfl rfl ?_
      refine jr.iload_n rfl rfl ?_
      refine jr.bipush rfl (by decide) ?_
      refine jr.iadd rfl ?_
      refine jr.iconst rfl ?_
      refine jr.iload rfl rfl ?_
      refine jr.imul rfl ?_
      refine jr.iadd rfl ?_
      refine jr.iconst rfl ?_
      refine jr_s rfl rfl (Or.inr rfl) ⟨Nat.le_of_ble_eq_true rfl, Nat.le_of_ble_eq_true rfl⟩ rfl rfl (jc.deep (c_PacketWall_numberAt_tx (CI.u hC_M (i := i) k2.2 (show (-2147483648 : Int) ≤ _ ∧ _ ≤ (2147483647 : Int) from by omega) rfl) (by omega) (by omega) (by omega) (fun r5 z5 w5_0 => ?_)) (by decide))
      have hv5 := tp2 (f := T 1) (r := r5) (fun i => by rw [← hy0.1]; exact tpb hC_M i) (by have h9 := w5_0; rw [(show ((ju M ((t + 2)) i r3)) 1 = T 1 from (((ju1_row (kd_ne (by rw [k2.2]; decide))).trans rfl)).trans hy0.1)] at h9; exact h9)
      refine jr.l2i rfl ?_
      refine jr.iast (i := i) (x := r5) rfl (Nat.lt_trans (kx_8 k4.2).1 (by decide)) (kx_8 k4.2).2 (by decide) (by omega) (by omega) ?_
      refine jr.aload_n rfl rfl ?_
      have k6 := kf_1_3 k_t
      refine jr.getf (i := 3) (v := .ref (t + 1)) rfl rfl (Nat.lt_trans (kx_1 k_t).1 (by decide)) (kx_1 k_t).2 (by decide) rfl rfl rfl (jval_ref rfl k6.1) ?_
      refine jr.iload rfl rfl ?_
      refine jr.aload_n rfl rfl ?_
      refine jr.iload_n rfl rfl ?_
      refine jr.bipush rfl (by decide) ?_
      refine jr.iadd rfl ?_
      refine jr.bipush rfl (by decide) ?_
      refine jr.iload rfl rfl ?_
      refine jr.imul rfl ?_
      refine jr.iadd rfl ?_
      refine jr.bipush rfl (by decide) ?_
      refine jr_s rfl rfl (Or.inr rfl) ⟨Nat.le_of_ble_eq_true rfl, Nat.le_of_ble_eq_true rfl⟩ rfl rfl (jc.deep (c_PacketWall_numberAt_tx (CI.u (CI.u hC_M (i := i) k2.2 (show (-2147483648 : Int) ≤ _ ∧ _ ≤ (2147483647 : Int) from by omega) rfl) (i := i) k4.2 (show (-2147483648 : Int) ≤ _ ∧ _ ≤ (2147483647 : Int) from by omega) rfl) (by omega) (by omega) (by omega) (fun r7 z7 w7_0 => ?_)) (by decide))
      have hv7 : r7 = jl_w (nbs (T 1) _ (8 : Int).toNat) := (by have h9 := w7_0; rw [(show ((ju (ju M ((t + 2)) i r3) ((t + 5)) i r5)) 1 = T 1 from (((ju1_row (kd_ne (by rw [k4.2]; decide))).trans ((ju1_row (kd_ne (by rw [k2.2]; decide))).trans rfl))).trans hy0.1)] at h9; exact h9)
      refine jr.last (i := i) (x := r7) rfl (Nat.lt_trans (kx_2 k6.2).1 (by decide)) (kx_2 k6.2).2 (by decide) (by omega) (by omega) ?_
      refine jr.aload_n rfl rfl ?_
      have k8 := kf_1_8 k_t
      refine jr.getf (i := 8) (v := .ref (t + 4)) rfl rfl (Nat.lt_trans (kx_1 k_t).1 (by decide)) (kx_1 k_t).2 (by decide) rfl rfl rfl (jval_ref rfl k8.1) ?_
      refine jr.iload rfl rfl ?_
      refine jr.iload rfl rfl ?_
      refine jr.bipush rfl (by decide) ?_
      refine jr.iload rfl rfl ?_
      refine jr.ishl rfl ?_
      refine jr.iand rfl ?_
      have b9 : j_and a_ (j_shl 32 i) = (if i = 0 then a_ / 32 % 2 * 32 else a_ / 64 % 2 * 64) ∧ 0 ≤ j_and a_ (j_shl 32 i) ∧ j_and a_ (j_shl 32 i) ≤ 64 := hl_and (by omega) (by omega)
      generalize j_and a_ (j_shl 32 i) = v9 at b9 ⊢
      refine jr.if_eq rfl rfl (by omega) (fun h152 => ?_) (fun h152 => ?_)
      · refine jr.iconst rfl ?_
        refine jr.zast (i := i) (x := 0) rfl (Nat.lt_trans (kx_4 k8.2).1 (by decide)) (kx_4 k8.2).2 (by decide) (by omega) (by omega) (j_zn (by omega)) ?_
        refine jr.pick [0, 1, 2, 3, 4, 5] rfl rfl ?_
        exact c_Flow_readRow_x_L161 k_t q (ih (nM - 1) (by omega)) 0 ((ju (ju (ju (ju M ((t + 2)) i r3) ((t + 5)) i r5) ((t + 1)) i r7) ((t + 4)) i 0)) a_ i (CI.u (CI.u (CI.u (CI.u hC_M (i := i) k2.2 (show (-2147483648 : Int) ≤ _ ∧ _ ≤ (2147483647 : Int) from by omega) rfl) (i := i) k4.2 (show (-2147483648 : Int) ≤ _ ∧ _ ≤ (2147483647 : Int) from by omega) rfl) (i := i) k6.2 (show (-9223372036854775808 : Int) ≤ _ ∧ _ ≤ (9223372036854775807 : Int) from by omega) rfl) (i := i) k8.2 (show (0 : Int) ≤ _ ∧ _ ≤ (1 : Int) from by omega) rfl) (FR.o (FR.o (FR.o (FR.o ht_M k2.2 rfl) k4.2 rfl) k6.2 rfl) k8.2 rfl) (by omega) (by omega) (by omega) (by omega) (RWS.b hy0 (k1_18 k_t) hv3.1 hv5.1 hv7 (by unfold tHl; rw [← hy1]; have h9 := b9.1; split at h9 <;> first | (rw [if_pos (by assumption)]; omega) | (rw [if_neg (by assumption)]; omega))) hy1 (by omega) (by omega)
      · refine jr.iconst rfl ?_
        refine jr.goto rfl rfl ?_
        refine jr.zast (i := i) (x := 1) rfl (Nat.lt_trans (kx_4 k8.2).1 (by decide)) (kx_4 k8.2).2 (by decide) (by omega) (by omega) (j_zn (by omega)) ?_
        refine jr.pick [0, 1, 2, 3, 4, 5] rfl rfl ?_
        exact c_Flow_readRow_x_L161 k_t q (ih (nM - 1) (by omega)) 0 ((ju (ju (ju (ju M ((t + 2)) i r3) ((t + 5)) i r5) ((t + 1)) i r7) ((t + 4)) i 1)) a_ i (CI.u (CI.u (CI.u (CI.u hC_M (i := i) k2.2 (show (-2147483648 : Int) ≤ _ ∧ _ ≤ (2147483647 : Int) from by omega) rfl) (i := i) k4.2 (show (-2147483648 : Int) ≤ _ ∧ _ ≤ (2147483647 : Int) from by omega) rfl) (i := i) k6.2 (show (-9223372036854775808 : Int) ≤ _ ∧ _ ≤ (9223372036854775807 : Int) from by omega) rfl) (i := i) k8.2 (show (0 : Int) ≤ _ ∧ _ ≤ (1 : Int) from by omega) rfl) (FR.o (FR.o (FR.o (FR.o ht_M k2.2 rfl) k4.2 rfl) k6.2 rfl) k8.2 rfl) (by omega) (by omega) (by omega) (by omega) (RWS.b hy0 (k1_18 k_t) hv3.1 hv5.1 hv7 (by unfold tHl; rw [← hy1]; have h9 := b9.1; split at h9 <;> first | (rw [if_pos (by assumption)]; omega) | (rw [if_neg (by assumption)]; omega))) hy1 (by omega) (by omega)
theorem c_Flow_readRow_x {A : Nat → Option (Nat × (Nat → Int32))} {Q : Option Value → jm → Prop} {T : jm} {M : jm} (hC_M : CI M) (ht_M : FR W_c_Flow_readRow_x T M) {t : Nat} (k_t : kd t = 1) {y : Int} (h_y : 0 ≤ y ∧ y ≤ 1552) {z : Int} (h_z : 0 ≤ z ∧ z ≤ 2000000000) (p0 : T = M) (q : ∀ (r : Int) (M' : jm), CI M' → FR W_c_Flow_readRow_x T M' → 0 ≤ r ∧ r ≤ 1 → (RRD M' t (T 1) y z ∧ fr7 T M' t ∧ ((r = 1 ∧ rGood (T 1) y) ∨ (r = 0 ∧ ¬ rGood (T 1) y))) → Q (some (.int (Int32.ofInt r))) M') : jc A 3 65 [.ref (t), .ref (1), .int (Int32.ofInt (y)), .int (Int32.ofInt (z))] M Q := by
  refine jc_of (m := xm_65) rfl (Nat.le_of_ble_eq_true rfl) rfl ?_
  refine jr.aload_n rfl rfl ?_
  refine jr.iload_n rfl rfl ?_
  refine jr.iconst rfl ?_
  refine jr.iadd rfl ?_
  refine jr.iconst rfl ?_
  refine jr_s rfl rfl (Or.inr rfl) ⟨Nat.le_of_ble_eq_true rfl, Nat.le_of_ble_eq_true rfl⟩ rfl rfl (jc.deep (c_PacketWall_numberAt_tx hC_M (by omega) (by omega) (by omega) (fun r1 z1 w1_0 => ?_)) (by decide))
  have hv1 := tp1 (f := M 1) (r := r1) (tpb hC_M) (by have h9 := w1_0; rw [(show M 1 = M 1 from (rfl).trans rfl)] at h9; exact h9)
  refine jr.l2i rfl ?_
  refine jr.istore rfl (by decide) rfl ?_
  refine jr.aload_n rfl rfl ?_
  refine jr.aload_n rfl rfl ?_
  refine jr.iload_n rfl rfl ?_
  refine jr.iconst rfl ?_
  refine jr_s rfl rfl (Or.inr rfl) ⟨Nat.le_of_ble_eq_true rfl, Nat.le_of_ble_eq_true rfl⟩ rfl rfl (jc.deep (c_PacketWall_numberAt_tx hC_M (by omega) (by omega) (by omega) (fun r2 z2 w2_0 => ?_)) (by decide))
  have hv2 := tp1 (f := M 1) (r := r2) (tpb hC_M) (by have h9 := w2_0; rw [(show M 1 = M 1 from (rfl).trans rfl)] at h9; exact h9)
  refine jr.l2i rfl ?_
  refine jr.putf (i := 2) (x := r2) rfl rfl (Nat.lt_trans (kx_1 k_t).1 (by decide)) (kx_1 k_t).2 (by decide) rfl rfl rfl rfl rfl ?_
  refine jr.aload_n rfl rfl ?_
  refine jr.iload rfl rfl ?_
  refine jr.bipush rfl (by decide) ?_
  refine jr.iand rfl ?_
  have b3 : j_and r1 16 = r1 / 16 % 2 * 16 ∧ 0 ≤ j_and r1 16 ∧ j_and r1 16 ≤ 16 := ⟨(jbt (by omega)).2.2.2, by rw [(jbt (by omega)).2.2.2]; omega⟩
  generalize j_and r1 16 = v3 at b3 ⊢
  refine jr.if_eq rfl rfl (by omega) (fun h28 => ?_) (fun h28 => ?_)
  · refine jr.iconst rfl ?_
    refine jr.putf (i := 1) (x := 0) rfl rfl (Nat.lt_trans (kx_1 k_t).1 (by decide)) (kx_1 k_t).2 (by decide) rfl rfl rfl rfl rfl ?_
    refine jr.aload_n rfl rfl ?_
    refine jr.iload rfl rfl ?_
    refine jr.bipush rfl (by decide) ?_
    refine jr.iand rfl ?_
    have b4 : j_and r1 15 = r1 % 16 ∧ 0 ≤ j_and r1 15 ∧ j_and r1 15 ≤ 15 := ⟨j_and_m 4 (by decide) _, by rw [show (15 : Int) = ((2 ^ 4 - 1 : Nat) : Int) from rfl, j_and_m 4 (by decide)]; omega⟩
    generalize j_and r1 15 = v4 at b4 ⊢
    refine jr.putf (i := 5) (x := v4) rfl rfl (Nat.lt_trans (kx_1 k_t).1 (by decide)) (kx_1 k_t).2 (by decide) rfl rfl rfl rfl rfl ?_
    refine jr.aload_n rfl rfl ?_
    refine jr.iconst rfl ?_
    refine jr.putf (i := 0) (x := 1) rfl rfl (Nat.lt_trans (kx_1 k_t).1 (by decide)) (kx_1 k_t).2 (by decide) rfl rfl rfl rfl rfl ?_
    refine jr.aload_n rfl rfl ?_
    refine jr.iconst rfl ?_
    refine jr.putf (i := 13) (x := (-1)) rfl rfl (Nat.lt_trans (kx_1 k_t).1 (by decide)) (kx_1 k_t).2 (by decide) rfl rfl rfl rfl rfl ?_
    refine jr.aload_n rfl rfl ?_
    refine jr.iconst rfl ?_
    refine jr.putf (i := 15) (x := (-1)) rfl rfl (Nat.lt_trans (kx_1 k_t).1 (by decide)) (kx_1 k_t).2 (by decide) rfl rfl rfl rfl rfl ?_
    refine jr.iconst rfl ?_
    refine jr.istore rfl (by decide) rfl ?_
    refine jr.pick [4, 5, 1, 0, 2, 3] rfl rfl ?_
    exact c_Flow_readRow_x_L66 k_t q 2 ((ju (ju (ju (ju (ju (ju M t 2 r2) t 1 0) t 5 v4) t 0 1) t 13 (-1)) t 15 (-1))) r1 0 (CI.u (CI.u (CI.u (CI.u (CI.u (CI.u hC_M (i := 2) k_t (show (-2147483648 : Int) ≤ _ ∧ _ ≤ (2147483647 : Int) from by omega) rfl) (i := 1) k_t (show (0 : Int) ≤ _ ∧ _ ≤ (1 : Int) from by omega) rfl) (i := 5) k_t (show (-2147483648 : Int) ≤ _ ∧ _ ≤ (2147483647 : Int) from by omega) rfl) (i := 0) k_t (show (0 : Int) ≤ _ ∧ _ ≤ (1 : Int) from by omega) rfl) (i := 13) k_t (show (-2147483648 : Int) ≤ _ ∧ _ ≤ (2147483647 : Int) from by omega) rfl) (i := 15) k_t (show (-2147483648 : Int) ≤ _ ∧ _ ≤ (2147483647 : Int) from by omega) rfl) (FR.o (FR.o (FR.o (FR.o (FR.o (FR.o ht_M k_t rfl) k_t rfl) k_t rfl) k_t rfl) k_t rfl) k_t rfl) (by omega) (by omega) (by omega) (by omega) (RWS.z p0 (k1_18 k_t) (by have h9 := hv2; omega) (by have h9 := hv1; omega) (by have h9 := hv1; omega)) (by rw [p0]; have h9 := hv1; omega) (by omega)
  · refine jr.iconst rfl ?_
    refine jr.goto rfl rfl ?_
    refine jr.putf (i := 1) (x := 1) rfl rfl (Nat.lt_trans (kx_1 k_t).1 (by decide)) (kx_1 k_t).2 (by decide) rfl rfl rfl rfl rfl ?_
    refine jr.aload_n rfl rfl ?_
    refine jr.iload rfl rfl ?_
    refine jr.bipush rfl (by decide) ?_
    refine jr.iand rfl ?_
    have b5 : j_and r1 15 = r1 % 16 ∧ 0 ≤ j_and r1 15 ∧ j_and r1 15 ≤ 15 := ⟨j_and_m 4 (by decide) _, by rw [show (15 : Int) = ((2 ^ 4 - 1 : Nat) : Int) from rfl, j_and_m 4 (by decide)]; omega⟩
    generalize j_and r1 15 = v5 at b5 ⊢
    refine jr.putf (i := 5) (x := v5) rfl rfl (Nat.lt_trans (kx_1 k_t).1 (by decide)) (kx_1 k_t).2 (by decide) rfl rfl rfl rfl rfl ?_
    refine jr.aload_n rfl rfl ?_
    refine jr.iconst rfl ?_
    refine jr.putf (i := 0) (x := 1) rfl rfl (Nat.lt_trans (kx_1 k_t).1 (by decide)) (kx_1 k_t).2 (by decide) rfl rfl rfl rfl rfl ?_
    refine jr.aload_n rfl rfl ?_
    refine jr.iconst rfl ?_
    refine jr.putf (i := 13) (x := (-1)) rfl rfl (Nat.lt_trans (kx_1 k_t).1 (by decide)) (kx_1 k_t).2 (by decide) rfl rfl rfl rfl rfl ?_
    refine jr.aload_n rfl rfl ?_
    refine jr.iconst rfl ?_
    refine jr.putf (i := 15) (x := (-1)) rfl rfl (Nat.lt_trans (kx_1 k_t).1 (by decide)) (kx_1 k_t).2 (by decide) rfl rfl rfl rfl rfl ?_
    refine jr.iconst rfl ?_
    refine jr.istore rfl (by decide) rfl ?_
    refine jr.pick [4, 5, 1, 0, 2, 3] rfl rfl ?_
    exact c_Flow_readRow_x_L66 k_t q 2 ((ju (ju (ju (ju (ju (ju M t 2 r2) t 1 1) t 5 v5) t 0 1) t 13 (-1)) t 15 (-1))) r1 0 (CI.u (CI.u (CI.u (CI.u (CI.u (CI.u hC_M (i := 2) k_t (show (-2147483648 : Int) ≤ _ ∧ _ ≤ (2147483647 : Int) from by omega) rfl) (i := 1) k_t (show (0 : Int) ≤ _ ∧ _ ≤ (1 : Int) from by omega) rfl) (i := 5) k_t (show (-2147483648 : Int) ≤ _ ∧ _ ≤ (2147483647 : Int) from by omega) rfl) (i := 0) k_t (show (0 : Int) ≤ _ ∧ _ ≤ (1 : Int) from by omega) rfl) (i := 13) k_t (show (-2147483648 : Int) ≤ _ ∧ _ ≤ (2147483647 : Int) from by omega) rfl) (i := 15) k_t (show (-2147483648 : Int) ≤ _ ∧ _ ≤ (2147483647 : Int) from by omega) rfl) (FR.o (FR.o (FR.o (FR.o (FR.o (FR.o ht_M k_t rfl) k_t rfl) k_t rfl) k_t rfl) k_t rfl) k_t rfl) (by omega) (by omega) (by omega) (by omega) (RWS.z p0 (k1_18 k_t) (by have h9 := hv2; omega) (by have h9 := hv1; omega) (by have h9 := hv1; omega)) (by rw [p0]; have h9 := hv1; omega) (by omega)
theorem c_Flows_isTold_x_L2 {A : Nat → Option (Nat × (Nat → Int32))} {Q : Option Value → jm → Prop} {M : jm} (hC_M : CI M) {W_ : Int} {x : Int} (q : ∀ (r : Int), 0 ≤ r ∧ r ≤ 1 → ((r = 1 ∧ ∃ a : Int, 0 ≤ a ∧ a < x ∧ sdF M (xe W_.toNat a) (xe W_.toNat x) ≠ -1) ∨ (r = 0 ∧ ∀ a : Int, 0 ≤ a → a < x → sdF M (xe W_.toNat a) (xe W_.toNat x) = -1)) → Q (some (.int (Int32.ofInt r))) M) : ∀ (nM : Nat) (i : Int), 0 ≤ x ∧ x ≤ 23 → 0 ≤ i ∧ i ≤ 24 → M 15 1 = W_ → (∀ a : Int, 0 ≤ a → a < i → sdF M (xe W_.toNat a) (xe W_.toNat x) = -1) → 24 - i ≤ nM → jr A 2 xm_85 2 [(1, .int (Int32.ofInt (x))), (2, .int (Int32.ofInt (i))), (0, .ref (15))] [] M Q := by
  intro nM
  induction nM using Nat.strongRecOn with
  | ind nM ih =>
    intro i h_x h_i g_W_ hy0 hm
    have b_W_ : 16 ≤ W_ ∧ W_ ≤ 17 := by rw [← g_W_]; exact (CI.r hC_M (show kd 15 = 9 from rfl) (by decide) 1)
    refine jr.iload_n rfl rfl ?_
    refine jr.iload_n rfl rfl ?_
    refine jr.icmp_ge rfl rfl (by omega) (by omega) (fun h4 => ?_) (fun h4 => ?_)
    · refine jr.iconst rfl ?_
      exact jr.ireturn rfl rfl rfl (q _ (by omega) (Or.inr ⟨rfl, fun a a0 a1 => hy0 a a0 (by omega)⟩))
    · refine jr.aload_n rfl rfl ?_
      have k1 : kd (W_).toNat = 13 := by rcases (show W_ = 16 ∨ W_ = 17 by omega) with h | h <;> (rw [h]; rfl)
      refine jr.getf (i := 1) (x := W_) (v := .ref (W_.toNat)) rfl rfl (by decide) rfl (by decide) rfl rfl g_W_ rfl ?_
      refine jr.iload_n rfl rfl ?_
      have k2 := kxe_13 k1 (i := i) (by omega) (by omega)
      refine jr.aald (c := (xe ((W_.toNat)) i)) rfl (Nat.lt_trans (kx_13 k1).1 (by decide)) (kx_13 k1).2 (by decide) (by decide) rfl (by decide) (by omega) (by omega) k2.1 ?_
      refine jr.aload_n rfl rfl ?_
      have k3 : kd (W_).toNat = 13 := by rcases (show W_ = 16 ∨ W_ = 17 by omega) with h | h <;> (rw [h]; rfl)
      refine jr.getf (i := 1) (x := W_) (v := .ref (W_.toNat)) rfl rfl (by decide) rfl (by decide) rfl rfl g_W_ rfl ?_
      refine jr.iload_n rfl rfl ?_
      have k4 := kxe_13 k3 (i := x) (by omega) (by omega)
      refine jr.aald (c := (xe ((W_.toNat)) x)) rfl (Nat.lt_trans (kx_13 k3).1 (by decide)) (kx_13 k3).2 (by decide) (by decide) rfl (by decide) (by omega) (by omega) k4.1 ?_
      refine jr_v rfl rfl (Or.inl rfl) rfl rfl (Nat.lt_trans (kx_1 k2.2).1 (by decide)) (kx_1 k2.2).2 ⟨rfl, Nat.le_of_ble_eq_true rfl, Nat.le_of_ble_eq_true rfl⟩ rfl (jc.deep (c_Flow_sideOf_x hC_M k2.2 k4.2 (fun r5 z5 w5_0 => ?_)) (by decide))
      refine jr.iconst rfl ?_
      refine jr.icmp_eq rfl rfl (by omega) (by omega) (fun h23 => ?_) (fun h23 => ?_)
      · refine jr.iinc rfl rfl (by decide) rfl ?_
        refine jr.goto rfl rfl ?_
        refine jr.pick [1, 0, 2] rfl rfl ?_
        exact ih (nM - 1) (by omega) (i + 1) (by omega) (by omega) g_W_ (fun a a0 a1 => by by_cases q : a = i; (subst q; rw [← w5_0]; omega); (exact hy0 a a0 (by omega))) (by omega)
      · refine jr.iconst rfl ?_
        exact jr.ireturn rfl rfl rfl (q _ (by omega) (Or.inl ⟨rfl, i, by omega, by omega, by rw [← w5_0]; omega⟩))
theorem c_Flows_isTold_x {A : Nat → Option (Nat × (Nat → Int32))} {Q : Option Value → jm → Prop} {M : jm} (hC_M : CI M) {x : Int} (h_x : 0 ≤ x ∧ x ≤ 23) {W_ : Int} (g_W_ : M 15 1 = W_) (q : ∀ (r : Int), 0 ≤ r ∧ r ≤ 1 → ((r = 1 ∧ ∃ a : Int, 0 ≤ a ∧ a < x ∧ sdF M (xe W_.toNat a) (xe W_.toNat x) ≠ -1) ∨ (r = 0 ∧ ∀ a : Int, 0 ≤ a → a < x → sdF M (xe W_.toNat a) (xe W_.toNat x) = -1)) → Q (some (.int (Int32.ofInt r))) M) : jc A 3 85 [.ref (15), .int (Int32.ofInt (x))] M Q := by
  refine jc_of (m := xm_85) rfl (Nat.le_of_ble_eq_true rfl) rfl ?_
  have b_W_ : 16 ≤ W_ ∧ W_ ≤ 17 := by rw [← g_W_]; exact (CI.r hC_M (show kd 15 = 9 from rfl) (by decide) 1)
  refine jr.iconst rfl ?_
  refine jr.istore_n rfl (by decide) rfl ?_
  refine jr.pick [2, 0, 1] rfl rfl ?_
  exact c_Flows_isTold_x_L2 hC_M  q 24 0 (by omega) (by omega) g_W_ (fun a a0 a1 => absurd a1 (by omega)) (by omega)
