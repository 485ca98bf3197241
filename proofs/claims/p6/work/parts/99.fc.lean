/-! ===== the reference: pools, change ===== -/
theorem r_pool_L55_x {A : Nat → Option (Nat × (Nat → Int32))} {Q : Option Value → jm → Prop} {M0 : jm} {k0 : Int} {a0 : Int} {o0 : Int} {c0 : Int} (q : ∀ (r : Int) (M' : jm), RI M' → RH M' → RF M' → (-4) ≤ r ∧ r ≤ 32 → ((¬ ((0 ≤ k0 ∧ k0 ≤ 3) ∧ (1 ≤ c0 ∧ c0 ≤ 32) ∧ (1 ≤ o0 ∧ o0 + c0 ≤ 65536)) ∧ r = -3 ∧ M' = M0) ∨ (((0 ≤ k0 ∧ k0 ≤ 3) ∧ (1 ≤ c0 ∧ c0 ≤ 32) ∧ (1 ≤ o0 ∧ o0 + c0 ≤ 65536)) ∧ pu6 M0 k0 24 0 = 1 ∧ r = -4 ∧ M' = M0) ∨ (((0 ≤ k0 ∧ k0 ≤ 3) ∧ (1 ≤ c0 ∧ c0 ≤ 32) ∧ (1 ≤ o0 ∧ o0 + c0 ≤ 65536)) ∧ pu6 M0 k0 24 0 ≠ 1 ∧ r = c0 ∧ M' = ju (ju (ju (ju M0 643 k0 1) 644 k0 (a0 % 4294967296)) 645 k0 o0) 646 k0 c0)) → (∀ (a0 : Nat) (i : Int), a0 ≠ 643 → a0 ≠ 644 → a0 ≠ 645 → a0 ≠ 646 → M' a0 i = M0 a0 i) → Q (some (.int (Int32.ofInt r))) M') : ∀ (nM : Nat) (M : jm) (f : Int) (c : Int) (o : Int) (a : Int) (k : Int), RI M → RH M → RF M → (∀ (a : Nat) (i : Int), a ≠ 643 → a ≠ 644 → a ≠ 645 → a ≠ 646 → M a i = M0 a i) → 0 ≤ f ∧ f ≤ 24 → 1 ≤ c ∧ c ≤ 32 → 1 ≤ o ∧ o ≤ 65535 → (-2147483648) ≤ a ∧ a ≤ 2147483647 → 0 ≤ k ∧ k ≤ 3 → M = M0 → pu6 M0 k 24 0 = pu6 M0 k (24 - f).toNat f → o + c ≤ 65536 → k = k0 → a = a0 → o = o0 → c = c0 → 24 - f ≤ nM → jr A 1 xm_319 55 [(5, .int (Int32.ofInt (f))), (4, .int (Int32.ofInt (c))), (3, .int (Int32.ofInt (o))), (2, .int (Int32.ofInt (a))), (1, .int (Int32.ofInt (k))), (0, .ref (598))] [] M Q := by
  intro nM
  induction nM using Nat.strongRecOn with
  | ind nM ih =>
    intro M f c o a k hI_M hH_M hS_M hF_M h_f h_c h_o h_a h_k hy0 hy1 hy2 hy3 hy4 hy5 hy6 hm
    subst hy3
    subst hy4
    subst hy5
    subst hy6
    refine jr.iload rfl rfl ?_
    refine jr.bipush rfl (by decide) ?_
    refine jr.icmp_ge rfl rfl (by omega) (by omega) (fun h59 => ?_) (fun h59 => ?_)
    · refine jr.aload_n rfl rfl ?_
      refine jr.getf (i := 55) (v := .ref 643) rfl rfl (by decide) rfl (by decide) rfl rfl rfl rfl ?_
      refine jr.iload_n rfl rfl ?_
      refine jr.iconst rfl ?_
      refine jr.zast (i := k) (x := 1) rfl (by decide) rfl (by decide) (by omega) (by omega) (j_zn (by omega)) ?_
      refine jr.aload_n rfl rfl ?_
      refine jr.getf (i := 56) (v := .ref 644) rfl rfl (by decide) rfl (by decide) rfl rfl rfl rfl ?_
      refine jr.iload_n rfl rfl ?_
      refine jr.iload_n rfl rfl ?_
      refine jr.i2l rfl (by omega) ?_
      refine jr.ldc2 (x := 4294967295) rfl rfl (by decide) ?_
      refine jr.land rfl ?_
      have b1 : jl_and a 4294967295 = a % 4294967296 ∧ 0 ≤ jl_and a 4294967295 ∧ jl_and a 4294967295 ≤ 4294967295 := ⟨jl_and_32 _, by rw [jl_and_32]; omega⟩
      generalize jl_and a 4294967295 = v1 at b1 ⊢
      refine jr.last (i := k) (x := v1) rfl (by decide) rfl (by decide) (by omega) (by omega) ?_
      refine jr.aload_n rfl rfl ?_
      refine jr.getf (i := 57) (v := .ref 645) rfl rfl (by decide) rfl (by decide) rfl rfl rfl rfl ?_
      refine jr.iload_n rfl rfl ?_
      refine jr.iload_n rfl rfl ?_
      refine jr.iast (i := k) (x := o) rfl (by decide) rfl (by decide) (by omega) (by omega) ?_
      refine jr.aload_n rfl rfl ?_
      refine jr.getf (i := 58) (v := .ref 646) rfl rfl (by decide) rfl (by decide) rfl rfl rfl rfl ?_
      refine jr.iload_n rfl rfl ?_
      refine jr.iload rfl rfl ?_
      refine jr.iast (i := k) (x := c) rfl (by decide) rfl (by decide) (by omega) (by omega) ?_
      refine jr.iload rfl rfl ?_
      exact jr.ireturn rfl rfl rfl (q _ _ (RI.u (RI.u (RI.u (RI.u hI_M (a := 643) (i := k) (by rw [xri_row rfl rfl]; show (0 : Int) ≤ _ ∧ _ ≤ (1 : Int); omega)) (a := 644) (i := k) (by rw [xri_row rfl rfl]; show (-9223372036854775808 : Int) ≤ _ ∧ _ ≤ (9223372036854775807 : Int); omega)) (a := 645) (i := k) (by rw [xri_row rfl rfl]; show (0 : Int) ≤ _ ∧ _ ≤ (65535 : Int); omega)) (a := 646) (i := k) (by rw [xri_row rfl rfl]; show (0 : Int) ≤ _ ∧ _ ≤ (32 : Int); omega)) (RH.o (RH.o (RH.o (RH.o hH_M (by decide) (by decide) (by decide)) (by decide) (by decide) (by decide)) (by decide) (by decide) (by decide)) (by decide) (by decide) (by decide)) (RF.o (RF.o (RF.o (RF.o hS_M (by decide) (by decide)) (by decide) (by decide)) (by decide) (by decide)) (by decide) (by decide))  (by omega) (Or.inr (Or.inr ⟨by omega, by rw [hy1, show (24 - f).toNat = 0 from by omega]; show (0 : Int) ≠ 1; decide, by omega, by rw [b1.1, hy0]⟩)) (fun a i f643 f644 f645 f646 => ((ju_c _ _ f646).trans ((ju_c _ _ f645).trans ((ju_c _ _ f644).trans ((ju_c _ _ f643).trans (hF_M a i f643 f644 f645 f646)))))))
    · refine jr.aload_n rfl rfl ?_
      refine jr.getf (i := 39) (v := .ref 627) rfl rfl (by decide) rfl (by decide) rfl rfl rfl rfl ?_
      refine jr.iload rfl rfl ?_
      obtain ⟨v2, e2⟩ : ∃ z, M 627 f = z := ⟨_, rfl⟩
      have b2 : 0 ≤ v2 ∧ v2 ≤ 1 := by rw [← e2]; exact (by have q := hI_M 627 f (by decide); rw [xri_row rfl rfl] at q; exact q)
      refine jr.zald (i := f) (x := v2) rfl (by decide) rfl (by decide) (by omega) (by omega) e2 ?_
      refine jr.if_eq rfl rfl (by omega) (fun h69 => ?_) (fun h69 => ?_)
      · refine jr.iinc rfl rfl (by decide) rfl ?_
        refine jr.goto rfl rfl ?_
        refine jr.pick [0, 1, 2, 3, 4, 5] rfl rfl ?_
        exact ih (nM - 1) (by omega) M (f + 1) c o a k hI_M hH_M hS_M  (fun a i f643 f644 f645 f646 => (hF_M a i f643 f644 f645 f646)) (by omega) (by omega) (by omega) (by omega) (by omega) hy0 (by rw [hy1, ← hy0, pu6_s (by omega), if_neg (by omega)]) (by omega) (by omega) (by omega) (by omega) (by omega) (by omega)
      · refine jr.aload_n rfl rfl ?_
        refine jr.getf (i := 52) (v := .ref 640) rfl rfl (by decide) rfl (by decide) rfl rfl rfl rfl ?_
        refine jr.iload rfl rfl ?_
        obtain ⟨v3, e3⟩ : ∃ z, M 640 f = z := ⟨_, rfl⟩
        have b3 : (-1) ≤ v3 ∧ v3 ≤ 3 := by rw [← e3]; exact (by have q := hI_M 640 f (by decide); rw [xri_row rfl rfl] at q; exact q)
        refine jr.iald (i := f) (x := v3) rfl (by decide) rfl (by decide) (by omega) (by omega) e3 ?_
        refine jr.iload_n rfl rfl ?_
        refine jr.icmp_ne rfl rfl (by omega) (by omega) (fun h80 => ?_) (fun h80 => ?_)
        · refine jr.iinc rfl rfl (by decide) rfl ?_
          refine jr.goto rfl rfl ?_
          refine jr.pick [0, 1, 2, 3, 4, 5] rfl rfl ?_
          exact ih (nM - 1) (by omega) M (f + 1) c o a k hI_M hH_M hS_M  (fun a i f643 f644 f645 f646 => (hF_M a i f643 f644 f645 f646)) (by omega) (by omega) (by omega) (by omega) (by omega) hy0 (by rw [hy1, ← hy0, pu6_s (by omega), if_neg (by omega)]) (by omega) (by omega) (by omega) (by omega) (by omega) (by omega)
        · refine jr.bipush rfl (by decide) ?_
          exact jr.ireturn rfl rfl rfl (q _ _ hI_M hH_M hS_M  (by omega) (Or.inr (Or.inl ⟨by omega, by rw [hy1, ← hy0, pu6_s (by omega), if_pos (by omega)], by omega, hy0⟩)) (fun a i f643 f644 f645 f646 => (hF_M a i f643 f644 f645 f646)))
theorem r_pool_x {A : Nat → Option (Nat × (Nat → Int32))} {Q : Option Value → jm → Prop} {M : jm} (hI_M : RI M) (hH_M : RH M) (hS_M : RF M) {k : Int} (h_k : (-2147483648) ≤ k ∧ k ≤ 2147483647) {a : Int} (h_a : (-2147483648) ≤ a ∧ a ≤ 2147483647) {o : Int} (h_o : (-2147483648) ≤ o ∧ o ≤ 2147483647) {c : Int} (h_c : (-2147483648) ≤ c ∧ c ≤ 2147483647) (q : ∀ (r : Int) (M' : jm), RI M' → RH M' → RF M' → (-4) ≤ r ∧ r ≤ 32 → ((¬ ((0 ≤ k ∧ k ≤ 3) ∧ (1 ≤ c ∧ c ≤ 32) ∧ (1 ≤ o ∧ o + c ≤ 65536)) ∧ r = -3 ∧ M' = M) ∨ (((0 ≤ k ∧ k ≤ 3) ∧ (1 ≤ c ∧ c ≤ 32) ∧ (1 ≤ o ∧ o + c ≤ 65536)) ∧ pu6 M k 24 0 = 1 ∧ r = -4 ∧ M' = M) ∨ (((0 ≤ k ∧ k ≤ 3) ∧ (1 ≤ c ∧ c ≤ 32) ∧ (1 ≤ o ∧ o + c ≤ 65536)) ∧ pu6 M k 24 0 ≠ 1 ∧ r = c ∧ M' = ju (ju (ju (ju M 643 k 1) 644 k (a % 4294967296)) 645 k o) 646 k c)) → (∀ (a : Nat) (i : Int), a ≠ 643 → a ≠ 644 → a ≠ 645 → a ≠ 646 → M' a i = M a i) → Q (some (.int (Int32.ofInt r))) M') : jc A 2 319 [.ref (598), .int (Int32.ofInt (k)), .int (Int32.ofInt (a)), .int (Int32.ofInt (o)), .int (Int32.ofInt (c))] M Q := by
  refine jc_of (m := xm_319) rfl (Nat.le_of_ble_eq_true rfl) rfl ?_
  refine jr.iload_n rfl rfl ?_
  refine jr.i2l rfl (by omega) ?_
  refine jr.lconst (x := 0) rfl (by decide) ?_
  refine jr.ldc2 (x := 3) rfl rfl (by decide) ?_
  refine jr_s rfl rfl (Or.inl rfl) ⟨Nat.le_of_ble_eq_true rfl, Nat.le_of_ble_eq_true rfl⟩ rfl rfl (jc.deep (c_within (by omega) (by omega) (by omega) (fun l6 u6 => ?_) (fun n6 => ?_)) (by decide))
  · refine jr.if_eq rfl rfl (by omega) (fun h => absurd h (by decide)) (fun _ => ?_)
    refine jr.iload rfl rfl ?_
    refine jr.i2l rfl (by omega) ?_
    refine jr.lconst (x := 1) rfl (by decide) ?_
    refine jr.ldc2 (x := 32) rfl rfl (by decide) ?_
    refine jr_s rfl rfl (Or.inl rfl) ⟨Nat.le_of_ble_eq_true rfl, Nat.le_of_ble_eq_true rfl⟩ rfl rfl (jc.deep (c_within (by omega) (by omega) (by omega) (fun l19 u19 => ?_) (fun n19 => ?_)) (by decide))
    · refine jr.if_eq rfl rfl (by omega) (fun h => absurd h (by decide)) (fun _ => ?_)
      refine jr.iload_n rfl rfl ?_
      refine jr.iconst rfl ?_
      refine jr.icmp_lt rfl rfl (by omega) (by omega) (fun h27 => ?_) (fun h27 => ?_)
      · refine jr.bipush rfl (by decide) ?_
        exact jr.ireturn rfl rfl rfl (q _ _ hI_M hH_M hS_M  (by omega) (Or.inl ⟨by omega, by omega, rfl⟩) (fun a i f643 f644 f645 f646 => rfl))
      · refine jr.iload_n rfl rfl ?_
        refine jr.ldcw (x := 65535) rfl rfl (by decide) ?_
        refine jr.icmp_gt rfl rfl (by omega) (by omega) (fun h34 => ?_) (fun h34 => ?_)
        · refine jr.bipush rfl (by decide) ?_
          exact jr.ireturn rfl rfl rfl (q _ _ hI_M hH_M hS_M  (by omega) (Or.inl ⟨by omega, by omega, rfl⟩) (fun a i f643 f644 f645 f646 => rfl))
        · refine jr.iload_n rfl rfl ?_
          refine jr.iload rfl rfl ?_
          refine jr.iadd rfl ?_
          refine jr.iconst rfl ?_
          refine jr.isub rfl ?_
          refine jr.ldcw (x := 65535) rfl rfl (by decide) ?_
          refine jr.icmp_le rfl rfl (by omega) (by omega) (fun h46 => ?_) (fun h46 => ?_)
          · refine jr.iconst rfl ?_
            refine jr.istore rfl (by decide) rfl ?_
            refine jr.pick [0, 5, 4, 3, 2, 1] rfl rfl ?_
            exact r_pool_L55_x q 24 M 0 c o a k hI_M hH_M hS_M  (fun a i f643 f644 f645 f646 => rfl) (by omega) (by omega) (by omega) (by omega) (by omega) rfl rfl (by omega) (by omega) (by omega) (by omega) (by omega) (by omega)
          · refine jr.bipush rfl (by decide) ?_
            exact jr.ireturn rfl rfl rfl (q _ _ hI_M hH_M hS_M  (by omega) (Or.inl ⟨by omega, by omega, rfl⟩) (fun a i f643 f644 f645 f646 => rfl))
    · refine jr.if_eq rfl rfl (by omega) (fun _ => ?_) (fun h => absurd (by decide) h)
      refine jr.bipush rfl (by decide) ?_
      exact jr.ireturn rfl rfl rfl (q _ _ hI_M hH_M hS_M  (by omega) (Or.inl ⟨by omega, by omega, rfl⟩) (fun a i f643 f644 f645 f646 => rfl))
  · refine jr.if_eq rfl rfl (by omega) (fun _ => ?_) (fun h => absurd (by decide) h)
    refine jr.bipush rfl (by decide) ?_
    exact jr.ireturn rfl rfl rfl (q _ _ hI_M hH_M hS_M  (by omega) (Or.inl ⟨by omega, by omega, rfl⟩) (fun a i f643 f644 f645 f646 => rfl))
theorem r_isTaken_L6_x {A : Nat → Option (Nat × (Nat → Int32))} {Q : Option Value → jm → Prop} {a0 : Int} {o0 : Int} {M : jm} (hI_M : RI M) (hH_M : RH M) (hS_M : RF M) (q : ∀ (r : Int), 0 ≤ r ∧ r ≤ 1 → r = tk6 M a0 o0 24 0 → Q (some (.int (Int32.ofInt r))) M) : ∀ (nM : Nat) (f : Int) (b : Int) (o : Int) (a : Int), 0 ≤ f ∧ f ≤ 24 → 0 ≤ b ∧ b ≤ 1 → (-2147483648) ≤ o ∧ o ≤ 2147483647 → (-9223372036854775808) ≤ a ∧ a ≤ 9223372036854775807 → ((b = 1 ∧ tk6 M a o 24 0 = 1) ∨ (b = 0 ∧ tk6 M a o 24 0 = tk6 M a o (24 - f).toNat f)) → a = a0 → o = o0 → 24 - f ≤ nM → jr A 0 xm_320 6 [(5, .int (Int32.ofInt (f))), (4, .int (Int32.ofInt (b))), (3, .int (Int32.ofInt (o))), (1, .long (Int64.ofInt (a))), (0, .ref (598))] [] M Q := by
  intro nM
  induction nM using Nat.strongRecOn with
  | ind nM ih =>
    intro f b o a h_f h_b h_o h_a hy0 hy1 hy2 hm
    subst hy1
    subst hy2
    refine jr.iload rfl rfl ?_
    refine jr.bipush rfl (by decide) ?_
    refine jr.icmp_ge rfl rfl (by omega) (by omega) (fun h10 => ?_) (fun h10 => ?_)
    · refine jr.iload rfl rfl ?_
      exact jr.ireturn rfl rfl (j_zr (by omega)) (q _ (by omega) (by have h9 := hy0; rcases h9 with h9 | h9; (omega); (rw [h9.2, show (24 - f).toNat = 0 from by omega]; exact h9.1)))
    · refine jr.iload rfl rfl ?_
      refine jr.if_ne rfl rfl (by omega) (fun h15 => ?_) (fun h15 => ?_)
      · refine jr.iconst rfl ?_
        refine jr.goto rfl rfl ?_
        refine jr.istore rfl (by decide) rfl ?_
        refine jr.iinc rfl rfl (by decide) rfl ?_
        refine jr.goto rfl rfl ?_
        refine jr.pick [0, 1, 2, 3, 4] rfl rfl ?_
        exact ih (nM - 1) (by omega) (f + 1) 1 o a (by omega) (by omega) (by omega) (by omega) (by have h9 := hy0; first | exact Or.inl ⟨rfl, by omega⟩ | exact Or.inl ⟨rfl, by rw [(h9.resolve_left (by omega)).2, tk6_s (by omega), if_pos (by omega)]⟩ | exact Or.inr ⟨rfl, by rw [(h9.resolve_left (by omega)).2, tk6_s (by omega), if_neg (by omega)]⟩) (by omega) (by omega) (by omega)
      · refine jr.aload_n rfl rfl ?_
        refine jr.getf (i := 39) (v := .ref 627) rfl rfl (by decide) rfl (by decide) rfl rfl rfl rfl ?_
        refine jr.iload rfl rfl ?_
        obtain ⟨v1, e1⟩ : ∃ z, M 627 f = z := ⟨_, rfl⟩
        have b1 : 0 ≤ v1 ∧ v1 ≤ 1 := by rw [← e1]; exact (by have q := hI_M 627 f (by decide); rw [xri_row rfl rfl] at q; exact q)
        refine jr.zald (i := f) (x := v1) rfl (by decide) rfl (by decide) (by omega) (by omega) e1 ?_
        refine jr.if_eq rfl rfl (by omega) (fun h25 => ?_) (fun h25 => ?_)
        · refine jr.iconst rfl ?_
          refine jr.istore rfl (by decide) rfl ?_
          refine jr.iinc rfl rfl (by decide) rfl ?_
          refine jr.goto rfl rfl ?_
          refine jr.pick [0, 1, 2, 3, 4] rfl rfl ?_
          exact ih (nM - 1) (by omega) (f + 1) 0 o a (by omega) (by omega) (by omega) (by omega) (by have h9 := hy0; first | exact Or.inl ⟨rfl, by omega⟩ | exact Or.inl ⟨rfl, by rw [(h9.resolve_left (by omega)).2, tk6_s (by omega), if_pos (by omega)]⟩ | exact Or.inr ⟨rfl, by rw [(h9.resolve_left (by omega)).2, tk6_s (by omega), if_neg (by omega)]⟩) (by omega) (by omega) (by omega)
        · refine jr.aload_n rfl rfl ?_
          refine jr.getf (i := 52) (v := .ref 640) rfl rfl (by decide) rfl (by decide) rfl rfl rfl rfl ?_
          refine jr.iload rfl rfl ?_
          obtain ⟨v2, e2⟩ : ∃ z, M 640 f = z := ⟨_, rfl⟩
          have b2 : (-1) ≤ v2 ∧ v2 ≤ 3 := by rw [← e2]; exact (by have q := hI_M 640 f (by decide); rw [xri_row rfl rfl] at q; exact q)
          refine jr.iald (i := f) (x := v2) rfl (by decide) rfl (by decide) (by omega) (by omega) e2 ?_
          refine jr.iconst rfl ?_
          refine jr.icmp_eq rfl rfl (by omega) (by omega) (fun h36 => ?_) (fun h36 => ?_)
          · refine jr.iconst rfl ?_
            refine jr.istore rfl (by decide) rfl ?_
            refine jr.iinc rfl rfl (by decide) rfl ?_
            refine jr.goto rfl rfl ?_
            refine jr.pick [0, 1, 2, 3, 4] rfl rfl ?_
            exact ih (nM - 1) (by omega) (f + 1) 0 o a (by omega) (by omega) (by omega) (by omega) (by have h9 := hy0; first | exact Or.inl ⟨rfl, by omega⟩ | exact Or.inl ⟨rfl, by rw [(h9.resolve_left (by omega)).2, tk6_s (by omega), if_pos (by omega)]⟩ | exact Or.inr ⟨rfl, by rw [(h9.resolve_left (by omega)).2, tk6_s (by omega), if_neg (by omega)]⟩) (by omega) (by omega) (by omega)
          · refine jr.aload_n rfl rfl ?_
            refine jr.getf (i := 53) (v := .ref 641) rfl rfl (by decide) rfl (by decide) rfl rfl rfl rfl ?_
            refine jr.iload rfl rfl ?_
            obtain ⟨v3, e3⟩ : ∃ z, M 641 f = z := ⟨_, rfl⟩
            have b3 : (-9223372036854775808) ≤ v3 ∧ v3 ≤ 9223372036854775807 := by rw [← e3]; exact (by have q := hI_M 641 f (by decide); rw [xri_row rfl rfl] at q; exact q)
            refine jr.lald (i := f) (x := v3) rfl (by decide) rfl (by decide) (by omega) (by omega) e3 ?_
            refine jr.lload_n rfl rfl ?_
            refine jr.lcmp_ne rfl rfl rfl (by omega) (by omega) (fun h47 => ?_) (fun h47 => ?_)
            · refine jr.iconst rfl ?_
              refine jr.istore rfl (by decide) rfl ?_
              refine jr.iinc rfl rfl (by decide) rfl ?_
              refine jr.goto rfl rfl ?_
              refine jr.pick [0, 1, 2, 3, 4] rfl rfl ?_
              exact ih (nM - 1) (by omega) (f + 1) 0 o a (by omega) (by omega) (by omega) (by omega) (by have h9 := hy0; first | exact Or.inl ⟨rfl, by omega⟩ | exact Or.inl ⟨rfl, by rw [(h9.resolve_left (by omega)).2, tk6_s (by omega), if_pos (by omega)]⟩ | exact Or.inr ⟨rfl, by rw [(h9.resolve_left (by omega)).2, tk6_s (by omega), if_neg (by omega)]⟩) (by omega) (by omega) (by omega)
            · refine jr.aload_n rfl rfl ?_
              refine jr.getf (i := 54) (v := .ref 642) rfl rfl (by decide) rfl (by decide) rfl rfl rfl rfl ?_
              refine jr.iload rfl rfl ?_
              obtain ⟨v4, e4⟩ : ∃ z, M 642 f = z := ⟨_, rfl⟩
              have b4 : 0 ≤ v4 ∧ v4 ≤ 70000 := by rw [← e4]; exact (by have q := hI_M 642 f (by decide); rw [xri_row rfl rfl] at q; exact q)
              refine jr.iald (i := f) (x := v4) rfl (by decide) rfl (by decide) (by omega) (by omega) e4 ?_
              refine jr.iload_n rfl rfl ?_
              refine jr.icmp_ne rfl rfl (by omega) (by omega) (fun h59 => ?_) (fun h59 => ?_)
              · refine jr.iconst rfl ?_
                refine jr.istore rfl (by decide) rfl ?_
                refine jr.iinc rfl rfl (by decide) rfl ?_
                refine jr.goto rfl rfl ?_
                refine jr.pick [0, 1, 2, 3, 4] rfl rfl ?_
                exact ih (nM - 1) (by omega) (f + 1) 0 o a (by omega) (by omega) (by omega) (by omega) (by have h9 := hy0; first | exact Or.inl ⟨rfl, by omega⟩ | exact Or.inl ⟨rfl, by rw [(h9.resolve_left (by omega)).2, tk6_s (by omega), if_pos (by omega)]⟩ | exact Or.inr ⟨rfl, by rw [(h9.resolve_left (by omega)).2, tk6_s (by omega), if_neg (by omega)]⟩) (by omega) (by omega) (by omega)
              · refine jr.iconst rfl ?_
                refine jr.goto rfl rfl ?_
                refine jr.istore rfl (by decide) rfl ?_
                refine jr.iinc rfl rfl (by decide) rfl ?_
                refine jr.goto rfl rfl ?_
                refine jr.pick [0, 1, 2, 3, 4] rfl rfl ?_
                exact ih (nM - 1) (by omega) (f + 1) 1 o a (by omega) (by omega) (by omega) (by omega) (by have h9 := hy0; first | exact Or.inl ⟨rfl, by omega⟩ | exact Or.inl ⟨rfl, by rw [(h9.resolve_left (by omega)).2, tk6_s (by omega), if_pos (by omega)]⟩ | exact Or.inr ⟨rfl, by rw [(h9.resolve_left (by omega)).2, tk6_s (by omega), if_neg (by omega)]⟩) (by omega) (by omega) (by omega)
theorem r_isTaken_x {A : Nat → Option (Nat × (Nat → Int32))} {Q : Option Value → jm → Prop} {M : jm} (hI_M : RI M) (hH_M : RH M) (hS_M : RF M) {a : Int} (h_a : (-9223372036854775808) ≤ a ∧ a ≤ 9223372036854775807) {o : Int} (h_o : (-2147483648) ≤ o ∧ o ≤ 2147483647) (q : ∀ (r : Int), 0 ≤ r ∧ r ≤ 1 → r = tk6 M a o 24 0 → Q (some (.int (Int32.ofInt r))) M) : jc A 1 320 [.ref (598), .long (Int64.ofInt (a)), .int (Int32.ofInt (o))] M Q := by
  refine jc_of (m := xm_320) rfl (Nat.le_of_ble_eq_true rfl) rfl ?_
  refine jr.iconst rfl ?_
  refine jr.istore rfl (by decide) rfl ?_
  refine jr.iconst rfl ?_
  refine jr.istore rfl (by decide) rfl ?_
  refine jr.pick [0, 1, 4, 3, 2] rfl rfl ?_
  exact r_isTaken_L6_x hI_M hH_M hS_M q 24 0 0 o a (by omega) (by omega) (by omega) (by omega) (Or.inr ⟨rfl, rfl⟩) (by omega) (by omega) (by omega)
def ch6 (M : jm) (a p : Int) : Nat → Int → Int
  | 0, _ => -1
  | n + 1, i => if tk6 M a (p + i) 24 0 = 0 then i else ch6 M a p n (i + 1)
theorem ch6_s {M : jm} {a p L i : Int} (h : i < L) : ch6 M a p (L - i).toNat i = if tk6 M a (p + i) 24 0 = 0 then i else ch6 M a p (L - (i + 1)).toNat (i + 1) := by
  obtain ⟨n, hn⟩ : ∃ n : Nat, L = i + 1 + n := ⟨(L - i - 1).toNat, by omega⟩
  subst hn
  rw [show (i + 1 + (n : Int) - i).toNat = n + 1 by omega, show (i + 1 + (n : Int) - (i + 1)).toNat = n by omega]
  rfl
theorem ch6_e {M : jm} {a p L i : Int} (h : L ≤ i) : ch6 M a p (L - i).toNat i = -1 := by
  rw [show (L - i).toNat = 0 by omega]
  rfl
theorem r_change_L74_x {A : Nat → Option (Nat × (Nat → Int32))} {Q : Option Value → jm → Prop} {M0 : jm} {f0 : Int} {k0 : Int} (q : ∀ (r : Int) (M' : jm), RI M' → RH M' → RF M' → (-5) ≤ r ∧ r ≤ 65567 → (((f0 < 0 ∨ 23 < f0 ∨ M0 627 f0 = 0) ∧ r = -2 ∧ M' = M0) ∨ (((0 ≤ f0 ∧ f0 ≤ 23) ∧ M0 627 f0 ≠ 0) ∧ (((k0 < 0 ∨ 3 < k0) ∧ r = -3 ∧ M' = M0) ∨ ((0 ≤ k0 ∧ k0 ≤ 3) ∧ (M0 628 f0 ≠ 0 ∨ M0 629 f0 = 1 ∨ M0 640 f0 ≠ -1 ∨ M0 643 k0 = 0) ∧ r = -4 ∧ M' = M0) ∨ (((0 ≤ k0 ∧ k0 ≤ 3) ∧ ¬ (M0 628 f0 ≠ 0 ∨ M0 629 f0 = 1 ∨ M0 640 f0 ≠ -1 ∨ M0 643 k0 = 0)) ∧ ((ch6 M0 (M0 644 k0) (M0 645 k0) (M0 646 k0).toNat 0 = -1 ∧ r = -5 ∧ M' = M0) ∨ (ch6 M0 (M0 644 k0) (M0 645 k0) (M0 646 k0).toNat 0 ≠ -1 ∧ r = M0 645 k0 + ch6 M0 (M0 644 k0) (M0 645 k0) (M0 646 k0).toNat 0 ∧ M' = ju (ju (ju M0 640 f0 k0) 641 f0 (M0 644 k0)) 642 f0 (M0 645 k0 + ch6 M0 (M0 644 k0) (M0 645 k0) (M0 646 k0).toNat 0))))))) → (∀ (a : Nat) (i : Int), a ≠ 640 → a ≠ 641 → a ≠ 642 → M' a i = M0 a i) → Q (some (.int (Int32.ofInt r))) M') : ∀ (nM : Nat) (M : jm) (o : Int) (k : Int) (f : Int), RI M → RH M → RF M → (∀ (a : Nat) (i : Int), a ≠ 640 → a ≠ 641 → a ≠ 642 → M a i = M0 a i) → 0 ≤ o ∧ o ≤ 65567 → 0 ≤ k ∧ k ≤ 3 → 0 ≤ f ∧ f ≤ 23 → M 645 k ≤ o → o ≤ M 645 k + M 646 k → M = M0 → ch6 M0 (M0 644 k) (M0 645 k) (M0 646 k).toNat 0 = ch6 M0 (M0 644 k) (M0 645 k) (M0 646 k - (o - M0 645 k)).toNat (o - M0 645 k) → (M0 627 f ≠ 0 ∧ ¬ (M0 628 f ≠ 0 ∨ M0 629 f = 1 ∨ M0 640 f ≠ -1 ∨ M0 643 k = 0)) → f = f0 → k = k0 → 65600 - o ≤ nM → jr A 2 xm_321 74 [(3, .int (Int32.ofInt (o))), (2, .int (Int32.ofInt (k))), (1, .int (Int32.ofInt (f))), (0, .ref (598))] [] M Q := by
  intro nM
  induction nM using Nat.strongRecOn with
  | ind nM ih =>
    intro M o k f hI_M hH_M hS_M hF_M h_o h_k h_f hy0 hy1 hy2 hy3 hy4 hy5 hy6 hm
    subst hy5
    subst hy6
    refine jr.iload_n rfl rfl ?_
    refine jr.aload_n rfl rfl ?_
    refine jr.getf (i := 57) (v := .ref 645) rfl rfl (by decide) rfl (by decide) rfl rfl rfl rfl ?_
    refine jr.iload_n rfl rfl ?_
    obtain ⟨v1, e1⟩ : ∃ z, M 645 k = z := ⟨_, rfl⟩
    have b1 : 0 ≤ v1 ∧ v1 ≤ 65535 := by rw [← e1]; exact (by have q := hI_M 645 k (by decide); rw [xri_row rfl rfl] at q; exact q)
    refine jr.iald (i := k) (x := v1) rfl (by decide) rfl (by decide) (by omega) (by omega) e1 ?_
    refine jr.aload_n rfl rfl ?_
    refine jr.getf (i := 58) (v := .ref 646) rfl rfl (by decide) rfl (by decide) rfl rfl rfl rfl ?_
    refine jr.iload_n rfl rfl ?_
    obtain ⟨v2, e2⟩ : ∃ z, M 646 k = z := ⟨_, rfl⟩
    have b2 : 0 ≤ v2 ∧ v2 ≤ 32 := by rw [← e2]; exact (by have q := hI_M 646 k (by decide); rw [xri_row rfl rfl] at q; exact q)
    refine jr.iald (i := k) (x := v2) rfl (by decide) rfl (by decide) (by omega) (by omega) e2 ?_
    refine jr.iadd rfl ?_
    refine jr.icmp_ge rfl rfl (by omega) (by omega) (fun h88 => ?_) (fun h88 => ?_)
    · refine jr.iload_n rfl rfl ?_
      refine jr.aload_n rfl rfl ?_
      refine jr.getf (i := 57) (v := .ref 645) rfl rfl (by decide) rfl (by decide) rfl rfl rfl rfl ?_
      refine jr.iload_n rfl rfl ?_
      refine jr.iald (i := k) (x := v1) rfl (by decide) rfl (by decide) (by omega) (by omega) e1 ?_
      refine jr.aload_n rfl rfl ?_
      refine jr.getf (i := 58) (v := .ref 646) rfl rfl (by decide) rfl (by decide) rfl rfl rfl rfl ?_
      refine jr.iload_n rfl rfl ?_
      refine jr.iald (i := k) (x := v2) rfl (by decide) rfl (by decide) (by omega) (by omega) e2 ?_
      refine jr.iadd rfl ?_
      refine jr.icmp_ne rfl rfl (by omega) (by omega) (fun h125 => ?_) (fun h125 => ?_)
      · refine jr.aload_n rfl rfl ?_
        refine jr.getf (i := 52) (v := .ref 640) rfl rfl (by decide) rfl (by decide) rfl rfl rfl rfl ?_
        refine jr.iload_n rfl rfl ?_
        refine jr.iload_n rfl rfl ?_
        refine jr.iast (i := f) (x := k) rfl (by decide) rfl (by decide) (by omega) (by omega) ?_
        refine jr.aload_n rfl rfl ?_
        refine jr.getf (i := 53) (v := .ref 641) rfl rfl (by decide) rfl (by decide) rfl rfl rfl rfl ?_
        refine jr.iload_n rfl rfl ?_
        refine jr.aload_n rfl rfl ?_
        refine jr.getf (i := 56) (v := .ref 644) rfl rfl (by decide) rfl (by decide) rfl rfl rfl rfl ?_
        refine jr.iload_n rfl rfl ?_
        obtain ⟨v3, e3⟩ : ∃ z, M 644 k = z := ⟨_, rfl⟩
        have b3 : (-9223372036854775808) ≤ v3 ∧ v3 ≤ 9223372036854775807 := by rw [← e3]; exact (by have q := hI_M 644 k (by decide); rw [xri_row rfl rfl] at q; exact q)
        refine jr.lald (i := k) (x := v3) rfl (by decide) rfl (by decide) (by omega) (by omega) ((ju_c _ _ (by decide)).trans e3) ?_
        refine jr.last (i := f) (x := v3) rfl (by decide) rfl (by decide) (by omega) (by omega) ?_
        refine jr.aload_n rfl rfl ?_
        refine jr.getf (i := 54) (v := .ref 642) rfl rfl (by decide) rfl (by decide) rfl rfl rfl rfl ?_
        refine jr.iload_n rfl rfl ?_
        refine jr.iload_n rfl rfl ?_
        refine jr.iast (i := f) (x := o) rfl (by decide) rfl (by decide) (by omega) (by omega) ?_
        refine jr.iload_n rfl rfl ?_
        exact jr.ireturn rfl rfl rfl (q _ _ (RI.u (RI.u (RI.u hI_M (a := 640) (i := f) (by rw [xri_row rfl rfl]; show (-1 : Int) ≤ _ ∧ _ ≤ (3 : Int); omega)) (a := 641) (i := f) (by rw [xri_row rfl rfl]; show (-9223372036854775808 : Int) ≤ _ ∧ _ ≤ (9223372036854775807 : Int); omega)) (a := 642) (i := f) (by rw [xri_row rfl rfl]; show (0 : Int) ≤ _ ∧ _ ≤ (70000 : Int); omega)) (RH.o (RH.o (RH.o hH_M (by decide) (by decide) (by decide)) (by decide) (by decide) (by decide)) (by decide) (by decide) (by decide)) (RF.o (RF.o (RF.o hS_M (by decide) (by decide)) (by decide) (by decide)) (by decide) (by decide))  (by omega) (by exfalso; omega) (fun a i f640 f641 f642 => ((ju_c _ _ f642).trans ((ju_c _ _ f641).trans ((ju_c _ _ f640).trans (hF_M a i f640 f641 f642))))))
      · refine jr.bipush rfl (by decide) ?_
        exact jr.ireturn rfl rfl rfl (q _ _ hI_M hH_M hS_M  (by omega) (by first | (exfalso; omega) | (have q1 : M0 646 k = v2 := (by rw [← hy2]; exact e2); have q2 : M0 645 k = v1 := (by rw [← hy2]; exact e1); exact Or.inr ⟨by have h9 := hy4.1; omega, Or.inr (Or.inr ⟨⟨by omega, hy4.2⟩, Or.inl ⟨by rw [hy3, ch6_e (by omega)], by omega, hy2⟩⟩)⟩)) (fun a i f640 f641 f642 => (hF_M a i f640 f641 f642)))
    · refine jr.aload_n rfl rfl ?_
      refine jr.aload_n rfl rfl ?_
      refine jr.getf (i := 56) (v := .ref 644) rfl rfl (by decide) rfl (by decide) rfl rfl rfl rfl ?_
      refine jr.iload_n rfl rfl ?_
      obtain ⟨v4, e4⟩ : ∃ z, M 644 k = z := ⟨_, rfl⟩
      have b4 : (-9223372036854775808) ≤ v4 ∧ v4 ≤ 9223372036854775807 := by rw [← e4]; exact (by have q := hI_M 644 k (by decide); rw [xri_row rfl rfl] at q; exact q)
      refine jr.lald (i := k) (x := v4) rfl (by decide) rfl (by decide) (by omega) (by omega) e4 ?_
      refine jr.iload_n rfl rfl ?_
      refine jr_v rfl rfl (Or.inl rfl) rfl rfl (by decide) rfl ⟨rfl, Nat.le_of_ble_eq_true rfl, Nat.le_of_ble_eq_true rfl⟩ rfl (jc.deep (r_isTaken_x hI_M hH_M hS_M  (by omega) (by omega)  (fun r5 z5 w5_0 => ?_)) (by decide))
      refine jr.if_eq rfl rfl (by omega) (fun h102 => ?_) (fun h102 => ?_)
      · refine jr.iload_n rfl rfl ?_
        refine jr.aload_n rfl rfl ?_
        refine jr.getf (i := 57) (v := .ref 645) rfl rfl (by decide) rfl (by decide) rfl rfl rfl rfl ?_
        refine jr.iload_n rfl rfl ?_
        refine jr.iald (i := k) (x := v1) rfl (by decide) rfl (by decide) (by omega) (by omega) e1 ?_
        refine jr.aload_n rfl rfl ?_
        refine jr.getf (i := 58) (v := .ref 646) rfl rfl (by decide) rfl (by decide) rfl rfl rfl rfl ?_
        refine jr.iload_n rfl rfl ?_
        refine jr.iald (i := k) (x := v2) rfl (by decide) rfl (by decide) (by omega) (by omega) e2 ?_
        refine jr.iadd rfl ?_
        refine jr.icmp_ne rfl rfl (by omega) (by omega) (fun h125 => ?_) (fun h125 => ?_)
        · refine jr.aload_n rfl rfl ?_
          refine jr.getf (i := 52) (v := .ref 640) rfl rfl (by decide) rfl (by decide) rfl rfl rfl rfl ?_
          refine jr.iload_n rfl rfl ?_
          refine jr.iload_n rfl rfl ?_
          refine jr.iast (i := f) (x := k) rfl (by decide) rfl (by decide) (by omega) (by omega) ?_
          refine jr.aload_n rfl rfl ?_
          refine jr.getf (i := 53) (v := .ref 641) rfl rfl (by decide) rfl (by decide) rfl rfl rfl rfl ?_
          refine jr.iload_n rfl rfl ?_
          refine jr.aload_n rfl rfl ?_
          refine jr.getf (i := 56) (v := .ref 644) rfl rfl (by decide) rfl (by decide) rfl rfl rfl rfl ?_
          refine jr.iload_n rfl rfl ?_
          refine jr.lald (i := k) (x := v4) rfl (by decide) rfl (by decide) (by omega) (by omega) ((ju_c _ _ (by decide)).trans e4) ?_
          refine jr.last (i := f) (x := v4) rfl (by decide) rfl (by decide) (by omega) (by omega) ?_
          refine jr.aload_n rfl rfl ?_
          refine jr.getf (i := 54) (v := .ref 642) rfl rfl (by decide) rfl (by decide) rfl rfl rfl rfl ?_
          refine jr.iload_n rfl rfl ?_
          refine jr.iload_n rfl rfl ?_
          refine jr.iast (i := f) (x := o) rfl (by decide) rfl (by decide) (by omega) (by omega) ?_
          refine jr.iload_n rfl rfl ?_
          exact jr.ireturn rfl rfl rfl (q _ _ (RI.u (RI.u (RI.u hI_M (a := 640) (i := f) (by rw [xri_row rfl rfl]; show (-1 : Int) ≤ _ ∧ _ ≤ (3 : Int); omega)) (a := 641) (i := f) (by rw [xri_row rfl rfl]; show (-9223372036854775808 : Int) ≤ _ ∧ _ ≤ (9223372036854775807 : Int); omega)) (a := 642) (i := f) (by rw [xri_row rfl rfl]; show (0 : Int) ≤ _ ∧ _ ≤ (70000 : Int); omega)) (RH.o (RH.o (RH.o hH_M (by decide) (by decide) (by decide)) (by decide) (by decide) (by decide)) (by decide) (by decide) (by decide)) (RF.o (RF.o (RF.o hS_M (by decide) (by decide)) (by decide) (by decide)) (by decide) (by decide))  (by omega) (by first | (exfalso; omega) | (have q1 : M0 646 k = v2 := (by rw [← hy2]; exact e2); have q2 : M0 645 k = v1 := (by rw [← hy2]; exact e1); have q3 : M0 644 k = v4 := (by rw [← hy2]; exact e4); have hz : ch6 M0 (M0 644 k) (M0 645 k) (M0 646 k).toNat 0 = o - v1 := (by rw [hy3, q1, q2, q3, ch6_s (by omega), if_pos (by rw [← hy2, show v1 + (o - v1) = o from by omega, ← w5_0]; omega)]); exact Or.inr ⟨by have h9 := hy4.1; omega, Or.inr (Or.inr ⟨⟨by omega, hy4.2⟩, Or.inr ⟨by rw [hz]; omega, by rw [hz, q2]; omega, by rw [hz, q2, q3, hy2, show v1 + (o - v1) = o from by omega]⟩⟩)⟩)) (fun a i f640 f641 f642 => ((ju_c _ _ f642).trans ((ju_c _ _ f641).trans ((ju_c _ _ f640).trans (hF_M a i f640 f641 f642))))))
        · refine jr.bipush rfl (by decide) ?_
          exact jr.ireturn rfl rfl rfl (q _ _ hI_M hH_M hS_M  (by omega) (by first | (exfalso; omega) | (have q1 : M0 646 k = v2 := (by rw [← hy2]; exact e2); have q2 : M0 645 k = v1 := (by rw [← hy2]; exact e1); have q3 : M0 644 k = v4 := (by rw [← hy2]; exact e4); exact Or.inr ⟨by have h9 := hy4.1; omega, Or.inr (Or.inr ⟨⟨by omega, hy4.2⟩, Or.inl ⟨by rw [hy3, ch6_e (by omega)], by omega, hy2⟩⟩)⟩)) (fun a i f640 f641 f642 => (hF_M a i f640 f641 f642)))
      · refine jr.iinc rfl rfl (by decide) rfl ?_
        refine jr.goto rfl rfl ?_
        refine jr.pick [0, 1, 2, 3] rfl rfl ?_
        exact ih (nM - 1) (by omega) M (o + 1) k f hI_M hH_M hS_M  (fun a i f640 f641 f642 => (hF_M a i f640 f641 f642)) (by omega) (by omega) (by omega) (by omega) (by omega) hy2 (by have q1 : M0 646 k = v2 := (by rw [← hy2]; exact e2); have q2 : M0 645 k = v1 := (by rw [← hy2]; exact e1); have q3 : M0 644 k = v4 := (by rw [← hy2]; exact e4); rw [hy3, q1, q2, q3, ch6_s (by omega), if_neg (by rw [← hy2, show v1 + (o - v1) = o from by omega, ← w5_0]; omega), show o - v1 + 1 = o + 1 - v1 from by omega]) hy4 (by omega) (by omega) (by omega)
theorem r_change_x {A : Nat → Option (Nat × (Nat → Int32))} {Q : Option Value → jm → Prop} {M : jm} (hI_M : RI M) (hH_M : RH M) (hS_M : RF M) {f : Int} (h_f : (-2147483648) ≤ f ∧ f ≤ 2147483647) {k : Int} (h_k : (-2147483648) ≤ k ∧ k ≤ 2147483647) (q : ∀ (r : Int) (M' : jm), RI M' → RH M' → RF M' → (-5) ≤ r ∧ r ≤ 65567 → (((f < 0 ∨ 23 < f ∨ M 627 f = 0) ∧ r = -2 ∧ M' = M) ∨ (((0 ≤ f ∧ f ≤ 23) ∧ M 627 f ≠ 0) ∧ (((k < 0 ∨ 3 < k) ∧ r = -3 ∧ M' = M) ∨ ((0 ≤ k ∧ k ≤ 3) ∧ (M 628 f ≠ 0 ∨ M 629 f = 1 ∨ M 640 f ≠ -1 ∨ M 643 k = 0) ∧ r = -4 ∧ M' = M) ∨ (((0 ≤ k ∧ k ≤ 3) ∧ ¬ (M 628 f ≠ 0 ∨ M 629 f = 1 ∨ M 640 f ≠ -1 ∨ M 643 k = 0)) ∧ ((ch6 M (M 644 k) (M 645 k) (M 646 k).toNat 0 = -1 ∧ r = -5 ∧ M' = M) ∨ (ch6 M (M 644 k) (M 645 k) (M 646 k).toNat 0 ≠ -1 ∧ r = M 645 k + ch6 M (M 644 k) (M 645 k) (M 646 k).toNat 0 ∧ M' = ju (ju (ju M 640 f k) 641 f (M 644 k)) 642 f (M 645 k + ch6 M (M 644 k) (M 645 k) (M 646 k).toNat 0))))))) → (∀ (a : Nat) (i : Int), a ≠ 640 → a ≠ 641 → a ≠ 642 → M' a i = M a i) → Q (some (.int (Int32.ofInt r))) M') : jc A 3 321 [.ref (598), .int (Int32.ofInt (f)), .int (Int32.ofInt (k))] M Q := by
  have bq : (0 : Int) ≤ M 646 k ∧ M 646 k ≤ 32 := by have q := hI_M 646 k (by decide); rw [xri_row rfl rfl] at q; exact q
  refine jc_of (m := xm_321) rfl (Nat.le_of_ble_eq_true rfl) rfl ?_
  refine jr.aload_n rfl rfl ?_
  refine jr.iload_n rfl rfl ?_
  refine jr_v rfl rfl (Or.inl rfl) rfl rfl (by decide) rfl ⟨rfl, Nat.le_of_ble_eq_true rfl, Nat.le_of_ble_eq_true rfl⟩ rfl (jc.deep (c_isFlow hI_M (by omega) (fun l2 u2 t2 => ?_) (fun n2 => ?_)) (by decide))
  · refine jr.if_ne rfl rfl (by omega) (fun _ => ?_) (fun h => absurd (by decide) h)
    refine jr.iload_n rfl rfl ?_
    refine jr.i2l rfl (by omega) ?_
    refine jr.lconst (x := 0) rfl (by decide) ?_
    refine jr.ldc2 (x := 3) rfl rfl (by decide) ?_
    refine jr_s rfl rfl (Or.inl rfl) ⟨Nat.le_of_ble_eq_true rfl, Nat.le_of_ble_eq_true rfl⟩ rfl rfl (jc.deep (c_within (by omega) (by omega) (by omega) (fun l17 u17 => ?_) (fun n17 => ?_)) (by decide))
    · refine jr.if_ne rfl rfl (by omega) (fun _ => ?_) (fun h => absurd (by decide) h)
      refine jr.aload_n rfl rfl ?_
      refine jr.getf (i := 40) (v := .ref 628) rfl rfl (by decide) rfl (by decide) rfl rfl rfl rfl ?_
      refine jr.iload_n rfl rfl ?_
      obtain ⟨v1, e1⟩ : ∃ z, M 628 f = z := ⟨_, rfl⟩
      have b1 : 0 ≤ v1 ∧ v1 ≤ 1 := by rw [← e1]; exact (by have q := hI_M 628 f (by decide); rw [xri_row rfl rfl] at q; exact q)
      refine jr.zald (i := f) (x := v1) rfl (by decide) rfl (by decide) (by omega) (by omega) e1 ?_
      refine jr.if_ne rfl rfl (by omega) (fun h32 => ?_) (fun h32 => ?_)
      · refine jr.bipush rfl (by decide) ?_
        exact jr.ireturn rfl rfl rfl (q _ _ hI_M hH_M hS_M  (by omega) (Or.inr ⟨by omega, by first | exact Or.inl ⟨by omega, by omega, rfl⟩ | exact Or.inr (Or.inl ⟨by omega, by omega, by omega, rfl⟩)⟩) (fun a i f640 f641 f642 => rfl))
      · refine jr.aload_n rfl rfl ?_
        refine jr.getf (i := 41) (v := .ref 629) rfl rfl (by decide) rfl (by decide) rfl rfl rfl rfl ?_
        refine jr.iload_n rfl rfl ?_
        obtain ⟨v2, e2⟩ : ∃ z, M 629 f = z := ⟨_, rfl⟩
        have b2 : 0 ≤ v2 ∧ v2 ≤ 255 := by rw [← e2]; exact (by have q := hI_M 629 f (by decide); rw [xri_row rfl rfl] at q; exact q)
        refine jr.iald (i := f) (x := v2) rfl (by decide) rfl (by decide) (by omega) (by omega) e2 ?_
        refine jr.iconst rfl ?_
        refine jr.icmp_eq rfl rfl (by omega) (by omega) (fun h42 => ?_) (fun h42 => ?_)
        · refine jr.bipush rfl (by decide) ?_
          exact jr.ireturn rfl rfl rfl (q _ _ hI_M hH_M hS_M  (by omega) (Or.inr ⟨by omega, by first | exact Or.inl ⟨by omega, by omega, rfl⟩ | exact Or.inr (Or.inl ⟨by omega, by omega, by omega, rfl⟩)⟩) (fun a i f640 f641 f642 => rfl))
        · refine jr.aload_n rfl rfl ?_
          refine jr.getf (i := 52) (v := .ref 640) rfl rfl (by decide) rfl (by decide) rfl rfl rfl rfl ?_
          refine jr.iload_n rfl rfl ?_
          obtain ⟨v3, e3⟩ : ∃ z, M 640 f = z := ⟨_, rfl⟩
          have b3 : (-1) ≤ v3 ∧ v3 ≤ 3 := by rw [← e3]; exact (by have q := hI_M 640 f (by decide); rw [xri_row rfl rfl] at q; exact q)
          refine jr.iald (i := f) (x := v3) rfl (by decide) rfl (by decide) (by omega) (by omega) e3 ?_
          refine jr.iconst rfl ?_
          refine jr.icmp_ne rfl rfl (by omega) (by omega) (fun h52 => ?_) (fun h52 => ?_)
          · refine jr.bipush rfl (by decide) ?_
            exact jr.ireturn rfl rfl rfl (q _ _ hI_M hH_M hS_M  (by omega) (Or.inr ⟨by omega, by first | exact Or.inl ⟨by omega, by omega, rfl⟩ | exact Or.inr (Or.inl ⟨by omega, by omega, by omega, rfl⟩)⟩) (fun a i f640 f641 f642 => rfl))
          · refine jr.aload_n rfl rfl ?_
            refine jr.getf (i := 55) (v := .ref 643) rfl rfl (by decide) rfl (by decide) rfl rfl rfl rfl ?_
            refine jr.iload_n rfl rfl ?_
            obtain ⟨v4, e4⟩ : ∃ z, M 643 k = z := ⟨_, rfl⟩
            have b4 : 0 ≤ v4 ∧ v4 ≤ 1 := by rw [← e4]; exact (by have q := hI_M 643 k (by decide); rw [xri_row rfl rfl] at q; exact q)
            refine jr.zald (i := k) (x := v4) rfl (by decide) rfl (by decide) (by omega) (by omega) e4 ?_
            refine jr.if_ne rfl rfl (by omega) (fun h61 => ?_) (fun h61 => ?_)
            · refine jr.aload_n rfl rfl ?_
              refine jr.getf (i := 57) (v := .ref 645) rfl rfl (by decide) rfl (by decide) rfl rfl rfl rfl ?_
              refine jr.iload_n rfl rfl ?_
              obtain ⟨v5, e5⟩ : ∃ z, M 645 k = z := ⟨_, rfl⟩
              have b5 : 0 ≤ v5 ∧ v5 ≤ 65535 := by rw [← e5]; exact (by have q := hI_M 645 k (by decide); rw [xri_row rfl rfl] at q; exact q)
              refine jr.iald (i := k) (x := v5) rfl (by decide) rfl (by decide) (by omega) (by omega) e5 ?_
              refine jr.istore_n rfl (by decide) rfl ?_
              refine jr.pick [0, 3, 2, 1] rfl rfl ?_
              exact r_change_L74_x q 65600 M v5 k f hI_M hH_M hS_M  (fun a i f640 f641 f642 => rfl) (by omega) (by omega) (by omega) (by omega) (by omega) rfl (by rw [show v5 - M 645 k = 0 from by omega, show M 646 k - 0 = M 646 k from by omega]) ⟨by omega, by omega⟩ (by omega) (by omega) (by omega)
            · refine jr.bipush rfl (by decide) ?_
              exact jr.ireturn rfl rfl rfl (q _ _ hI_M hH_M hS_M  (by omega) (Or.inr ⟨by omega, by first | exact Or.inl ⟨by omega, by omega, rfl⟩ | exact Or.inr (Or.inl ⟨by omega, by omega, by omega, rfl⟩)⟩) (fun a i f640 f641 f642 => rfl))
    · refine jr.if_ne rfl rfl (by omega) (fun h => absurd h (by decide)) (fun _ => ?_)
      refine jr.bipush rfl (by decide) ?_
      exact jr.ireturn rfl rfl rfl (q _ _ hI_M hH_M hS_M  (by omega) (Or.inr ⟨by omega, by first | exact Or.inl ⟨by omega, by omega, rfl⟩ | exact Or.inr (Or.inl ⟨by omega, by omega, by omega, rfl⟩)⟩) (fun a i f640 f641 f642 => rfl))
  · refine jr.if_ne rfl rfl (by omega) (fun h => absurd h (by decide)) (fun _ => ?_)
    refine jr.bipush rfl (by decide) ?_
    exact jr.ireturn rfl rfl rfl (q _ _ hI_M hH_M hS_M  (by omega) (Or.inl ⟨by omega, by omega, rfl⟩) (fun a i f640 f641 f642 => rfl))
