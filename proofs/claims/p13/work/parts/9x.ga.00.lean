section
/-! ===== the class: a row is read ===== -/
theorem c_Flow_hasRightState_x {A : Nat → Option (Nat × (Nat → Int32))} {Q : Option Value → jm → Prop} {M : jm} (hC_M : CI M) {t : Nat} (k_t : kd t = 1) {N_ : Int} (g_N_ : M t 2 = N_) {S_ : Int} (g_S_ : M t 5 = S_) (q : ∀ (r : Int), 0 ≤ r ∧ r ≤ 1 → ((r = 1 ∧ stOK N_ S_) ∨ (r = 0 ∧ ¬ stOK N_ S_)) → Q (some (.int (Int32.ofInt r))) M) : jc A 1 67 [.ref (t)] M Q := by
  refine jc_of (m := xm_67) rfl (Nat.le_of_ble_eq_true rfl) rfl ?_
  have b_N_ : (-2147483648) ≤ N_ ∧ N_ ≤ 2147483647 := by rw [← g_N_]; exact (CI.r hC_M k_t (by decide) 2)
  have b_S_ : (-2147483648) ≤ S_ ∧ S_ ≤ 2147483647 := by rw [← g_S_]; exact (CI.r hC_M k_t (by decide) 5)
  refine jr.aload_n rfl rfl ?_
  refine jr.getf (i := 2) (x := N_) (v := .int (Int32.ofInt (N_))) rfl rfl (Nat.lt_trans (kx_1 k_t).1 (by decide)) (kx_1 k_t).2 (by decide) rfl rfl g_N_ rfl ?_
  rcases (show N_ = 1 ∨ N_ = 6 ∨ N_ = 17 ∨ (N_ ≠ 1 ∧ N_ ≠ 6 ∧ N_ ≠ 17) by omega) with h4 | h4 | h4 | h4
  · refine jr.lsw_k 1 rfl h4 rfl ?_
    refine jr.aload_n rfl rfl ?_
    refine jr.getf (i := 5) (x := S_) (v := .int (Int32.ofInt (S_))) rfl rfl (Nat.lt_trans (kx_1 k_t).1 (by decide)) (kx_1 k_t).2 (by decide) rfl rfl g_S_ rfl ?_
    refine jr.if_ne rfl rfl (by omega) (fun h44 => ?_) (fun h44 => ?_)
    · refine jr.iconst rfl ?_
      exact jr.ireturn rfl rfl rfl (q _ (by omega) (by first | exact Or.inl ⟨rfl, by unfold stOK; omega⟩ | exact Or.inr ⟨rfl, by unfold stOK; omega⟩))
    · refine jr.iconst rfl ?_
      refine jr.goto rfl rfl ?_
      exact jr.ireturn rfl rfl rfl (q _ (by omega) (by first | exact Or.inl ⟨rfl, by unfold stOK; omega⟩ | exact Or.inr ⟨rfl, by unfold stOK; omega⟩))
  · refine jr.lsw_k 6 rfl h4 rfl ?_
    refine jr.aload_n rfl rfl ?_
    refine jr.getf (i := 5) (x := S_) (v := .int (Int32.ofInt (S_))) rfl rfl (Nat.lt_trans (kx_1 k_t).1 (by decide)) (kx_1 k_t).2 (by decide) rfl rfl g_S_ rfl ?_
    refine jr.iconst rfl ?_
    refine jr.icmp_lt rfl rfl (by omega) (by omega) (fun h58 => ?_) (fun h58 => ?_)
    · refine jr.iconst rfl ?_
      exact jr.ireturn rfl rfl rfl (q _ (by omega) (by first | exact Or.inl ⟨rfl, by unfold stOK; omega⟩ | exact Or.inr ⟨rfl, by unfold stOK; omega⟩))
    · refine jr.aload_n rfl rfl ?_
      refine jr.getf (i := 5) (x := S_) (v := .int (Int32.ofInt (S_))) rfl rfl (Nat.lt_trans (kx_1 k_t).1 (by decide)) (kx_1 k_t).2 (by decide) rfl rfl g_S_ rfl ?_
      refine jr.bipush rfl (by decide) ?_
      refine jr.icmp_gt rfl rfl (by omega) (by omega) (fun h67 => ?_) (fun h67 => ?_)
      · refine jr.iconst rfl ?_
        exact jr.ireturn rfl rfl rfl (q _ (by omega) (by first | exact Or.inl ⟨rfl, by unfold stOK; omega⟩ | exact Or.inr ⟨rfl, by unfold stOK; omega⟩))
      · refine jr.iconst rfl ?_
        refine jr.goto rfl rfl ?_
        exact jr.ireturn rfl rfl rfl (q _ (by omega) (by first | exact Or.inl ⟨rfl, by unfold stOK; omega⟩ | exact Or.inr ⟨rfl, by unfold stOK; omega⟩))
  · refine jr.lsw_k 17 rfl h4 rfl ?_
    refine jr.aload_n rfl rfl ?_
    refine jr.getf (i := 5) (x := S_) (v := .int (Int32.ofInt (S_))) rfl rfl (Nat.lt_trans (kx_1 k_t).1 (by decide)) (kx_1 k_t).2 (by decide) rfl rfl g_S_ rfl ?_
    refine jr.iconst rfl ?_
    refine jr.icmp_gt rfl rfl (by omega) (by omega) (fun h81 => ?_) (fun h81 => ?_)
    · refine jr.iconst rfl ?_
      exact jr.ireturn rfl rfl rfl (q _ (by omega) (by first | exact Or.inl ⟨rfl, by unfold stOK; omega⟩ | exact Or.inr ⟨rfl, by unfold stOK; omega⟩))
    · refine jr.iconst rfl ?_
      refine jr.goto rfl rfl ?_
      exact jr.ireturn rfl rfl rfl (q _ (by omega) (by first | exact Or.inl ⟨rfl, by unfold stOK; omega⟩ | exact Or.inr ⟨rfl, by unfold stOK; omega⟩))
  · refine jr.lsw_d rfl (by omega) rfl (fun q hq => by simp only [List.mem_cons, List.not_mem_nil, or_false] at hq; rcases hq with rfl | rfl | rfl <;> (simp only; omega)) rfl ?_
    refine jr.iconst rfl ?_
    exact jr.ireturn rfl rfl rfl (q _ (by omega) (by first | exact Or.inl ⟨rfl, by unfold stOK; omega⟩ | exact Or.inr ⟨rfl, by unfold stOK; omega⟩))
theorem c_Flow_hasRightAddresses_x {A : Nat → Option (Nat × (Nat → Int32))} {Q : Option Value → jm → Prop} {M : jm} (hC_M : CI M) {t : Nat} (k_t : kd t = 1) {X_ : Int} (g_X_ : M t 1 = X_) (q : ∀ (r : Int), 0 ≤ r ∧ r ≤ 1 → ((r = 1 ∧ (X_ ≠ 0 ∨ ((0 ≤ M (t + 1) 0 ∧ M (t + 1) 0 ≤ 4294967295) ∧ (0 ≤ M (t + 1) 1 ∧ M (t + 1) 1 ≤ 4294967295)))) ∨ (r = 0 ∧ ¬ (X_ ≠ 0 ∨ ((0 ≤ M (t + 1) 0 ∧ M (t + 1) 0 ≤ 4294967295) ∧ (0 ≤ M (t + 1) 1 ∧ M (t + 1) 1 ≤ 4294967295))))) → Q (some (.int (Int32.ofInt r))) M) : jc A 1 68 [.ref (t)] M Q := by
  refine jc_of (m := xm_68) rfl (Nat.le_of_ble_eq_true rfl) rfl ?_
  have b_X_ : 0 ≤ X_ ∧ X_ ≤ 1 := by rw [← g_X_]; exact (CI.r hC_M k_t (by decide) 1)
  refine jr.aload_n rfl rfl ?_
  refine jr.getf (i := 1) (x := X_) (v := .int (Int32.ofInt (X_))) rfl rfl (Nat.lt_trans (kx_1 k_t).1 (by decide)) (kx_1 k_t).2 (by decide) rfl rfl g_X_ rfl ?_
  refine jr.if_ne rfl rfl (by omega) (fun h4 => ?_) (fun h4 => ?_)
  · refine jr.iconst rfl ?_
    refine jr.goto rfl rfl ?_
    exact jr.ireturn rfl rfl rfl (q _ (by omega) (by first | exact Or.inl ⟨rfl, by omega⟩ | exact Or.inr ⟨rfl, by omega⟩))
  · refine jr.aload_n rfl rfl ?_
    have k1 := kf_1_3 k_t
    refine jr.getf (i := 3) (v := .ref (t + 1)) rfl rfl (Nat.lt_trans (kx_1 k_t).1 (by decide)) (kx_1 k_t).2 (by decide) rfl rfl rfl (jval_ref rfl k1.1) ?_
    refine jr.iconst rfl ?_
    obtain ⟨v2, e2⟩ : ∃ z_, M ((t + 1)) 0 = z_ := ⟨_, rfl⟩
    have b2 : (-9223372036854775808) ≤ v2 ∧ v2 ≤ 9223372036854775807 := by rw [← e2]; exact (CI.r hC_M k1.2 (by decide) 0)
    refine jr.lald (i := 0) (x := v2) rfl (Nat.lt_trans (kx_2 k1.2).1 (by decide)) (kx_2 k1.2).2 (by decide) (by omega) (by omega) e2 ?_
    refine jr.bipush rfl (by decide) ?_
    refine jr.lushr rfl ?_
    have b3 : jl_ushr v2 32 = v2 % 18446744073709551616 / 4294967296 ∧ 0 ≤ jl_ushr v2 32 ∧ jl_ushr v2 32 ≤ 4294967295 := ⟨jl_ushr_32 _, by rw [jl_ushr_32]; omega⟩
    generalize jl_ushr v2 32 = v3 at b3 ⊢
    refine jr.lconst (x := 0) rfl (by decide) ?_
    refine jr.lcmp_ne rfl rfl rfl (by omega) (by omega) (fun h17 => ?_) (fun h17 => ?_)
    · refine jr.iconst rfl ?_
      exact jr.ireturn rfl rfl rfl (q _ (by omega) (by first | exact Or.inl ⟨rfl, by omega⟩ | exact Or.inr ⟨rfl, by omega⟩))
    · refine jr.aload_n rfl rfl ?_
      have k4 := kf_1_3 k_t
      refine jr.getf (i := 3) (v := .ref (t + 1)) rfl rfl (Nat.lt_trans (kx_1 k_t).1 (by decide)) (kx_1 k_t).2 (by decide) rfl rfl rfl (jval_ref rfl k4.1) ?_
      refine jr.iconst rfl ?_
      obtain ⟨v5, e5⟩ : ∃ z_, M ((t + 1)) 1 = z_ := ⟨_, rfl⟩
      have b5 : (-9223372036854775808) ≤ v5 ∧ v5 ≤ 9223372036854775807 := by rw [← e5]; exact (CI.r hC_M k4.2 (by decide) 1)
      refine jr.lald (i := 1) (x := v5) rfl (Nat.lt_trans (kx_2 k4.2).1 (by decide)) (kx_2 k4.2).2 (by decide) (by omega) (by omega) e5 ?_
      refine jr.bipush rfl (by decide) ?_
      refine jr.lushr rfl ?_
      have b6 : jl_ushr v5 32 = v5 % 18446744073709551616 / 4294967296 ∧ 0 ≤ jl_ushr v5 32 ∧ jl_ushr v5 32 ≤ 4294967295 := ⟨jl_ushr_32 _, by rw [jl_ushr_32]; omega⟩
      generalize jl_ushr v5 32 = v6 at b6 ⊢
      refine jr.lconst (x := 0) rfl (by decide) ?_
      refine jr.lcmp_ne rfl rfl rfl (by omega) (by omega) (fun h31 => ?_) (fun h31 => ?_)
      · refine jr.iconst rfl ?_
        exact jr.ireturn rfl rfl rfl (q _ (by omega) (by first | exact Or.inl ⟨rfl, by omega⟩ | exact Or.inr ⟨rfl, by omega⟩))
      · refine jr.iconst rfl ?_
        refine jr.goto rfl rfl ?_
        exact jr.ireturn rfl rfl rfl (q _ (by omega) (by first | exact Or.inl ⟨rfl, by omega⟩ | exact Or.inr ⟨rfl, by omega⟩))
theorem tbit (f : Int → Int) (y : Int) : f (y + 1) / 16 % 2 = 0 ∨ f (y + 1) / 16 % 2 = 1 := by omega
noncomputable def W_c_Flow_readRow_x : List (Nat × Nat) := [(1, 0), (1, 1), (1, 2), (1, 5), (1, 6), (1, 12), (1, 13), (1, 15), (2, 1000), (3, 1000), (4, 1000), (5, 1000), (6, 1000), (7, 1000), (8, 1000)]
end
