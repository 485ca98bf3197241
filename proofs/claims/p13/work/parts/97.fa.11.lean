section
/-! ===== the reference: pools, change ===== -/
theorem r_pool_L55_x {A : Nat → Option (Nat × (Nat → Int32))} {Q : Option Value → jm → Prop} {M0 : jm} {k0 : Int} {a0 : Int} {o0 : Int} {c0 : Int} (q : ∀ (r : Int) (M' : jm), RI M' → RH M' → RF M' → (-4) ≤ r ∧ r ≤ 32 → ((¬ ((0 ≤ k0 ∧ k0 ≤ 3) ∧ (1 ≤ c0 ∧ c0 ≤ 32) ∧ (1 ≤ o0 ∧ o0 + c0 ≤ 65536)) ∧ r = -3 ∧ M' = M0) ∨ (((0 ≤ k0 ∧ k0 ≤ 3) ∧ (1 ≤ c0 ∧ c0 ≤ 32) ∧ (1 ≤ o0 ∧ o0 + c0 ≤ 65536)) ∧ pu6 M0 k0 24 0 = 1 ∧ r = -4 ∧ M' = M0) ∨ (((0 ≤ k0 ∧ k0 ≤ 3) ∧ (1 ≤ c0 ∧ c0 ≤ 32) ∧ (1 ≤ o0 ∧ o0 + c0 ≤ 65536)) ∧ pu6 M0 k0 24 0 ≠ 1 ∧ r = c0 ∧ M' = ju (ju (ju (ju M0 643 k0 1) 644 k0 (a0 % 4294967296)) 645 k0 o0) 646 k0 c0)) → (∀ (a0 : Nat) (i : Int), a0 ≠ 643 → a0 ≠ 644 → a0 ≠ 645 → a0 ≠ 646 → M' a0 i = M0 a0 i) → Q (some (.int (Int32.ofInt r))) M') : ∀ (nM : Nat) (M : jm) (f : Int) (c : Int) (o : Int) (a : Int) (k : Int), RI M → RH M → RF M → (∀ (a : Nat) (i : Int), a ≠ 643 → a ≠ 644 → a ≠ 645 → a ≠ 646 → M a i = M0 a i) → 0 ≤ f ∧ f ≤ 24 → 1 ≤ c ∧ c ≤ 32 → 1 ≤ o ∧ o ≤ 65535 → (-2147483648) ≤ a ∧ a ≤ 2147483647 → 0 ≤ k ∧ k ≤ 3 → M = M0 → pu6 M0 k 24 0 = pu6 M0 k (24 - f).toNat f → o + c ≤ 65536 → k = k0 → a = a0 → o = o0 → c = c0 → 24 - f ≤ nM → jr A 1 xm_319 55 [(5, .int (Int32.ofInt (f))), (4, .int (Int32.ofInt (c))), (3, .int (Int32.ofInt (o))), (2, .int (Int32.ofInt (a))), (1, .int (Int32.ofInt (k))), (0, .ref (598))] [] M Q := by
  intro nM
  induction nM using Nat.strongRecOn with
  | ind nM ih =>
    intro M f c o a k hI_M hH_M hS_M hF_M h_f h_c h_o h_a h_k hy0 hy1 hy2 hy3 hy4 hy5 hy6 hm
    subst hy3
    subst hy4
    subst hy5
    subst hy6
    refine jr.iload rfl rfl ?_
    refine jr.bipush rfl (by decide) ?_
    refine jr.icmp_ge rfl rfl (by omega) (by omega) (fun h59 => ?_) (fun h59 => ?_)
    · refine jr.aload_n rfl rfl ?_
      refine jr.getf (i := 55) (v := .ref 643) rfl rfl (by decide) rfl (by decide) rfl rfl rfl rfl ?_
      refine jr.iload_n rfl rfl ?_
      refine jr.iconst rfl ?_
      refine jr.zast (i := k) (x := 1) rfl (by decide) rfl (by decide) (by omega) (by omega) (j_zn (by omega)) ?_
      refine jr.aload_n rfl rfl ?_
      refine jr.getf (i := 56) (v := .ref 644) rfl rfl (by decide) rfl (by decide) rfl rfl rfl rfl ?_
      refine jr.iload_n rfl rfl ?_
      refine jr.iload_n rfl rfl ?_
      refine jr.i2l rfl (by omega) ?_
      refine jr.ldc2 (x := 4294967295) rfl rfl (by decide) ?_
      refine jr.land rfl ?_
      have b1 : jl_and a 4294967295 = a % 4294967296 ∧ 0 ≤ jl_and a 4294967295 ∧ jl_and a 4294967295 ≤ 4294967295 := ⟨jl_and_32 _, by rw [jl_and_32]; omega⟩
      generalize jl_and a 4294967295 = v1 at b1 ⊢
      refine jr.last (i := k) (x := v1) rfl (by decide) rfl (by decide) (by omega) (by omega) ?_
      refine jr.aload_n rfl rfl ?_
      refine jr.getf (i := 57) (v := .ref 645) rfl rfl (by decide) rfl (by decide) rfl rfl rfl rfl ?_
      refine jr.iload_n rfl rfl ?_
      refine jr.iload_n rfl rfl ?_
      refine jr.iast (i := k) (x := o) rfl (by decide) rfl (by decide) (by omega) (by omega) ?_
      refine jr.aload_n rfl rfl ?_
      refine jr.getf (i := 58) (v := .ref 646) rfl rfl (by decide) rfl (by decide) rfl rfl rfl rfl ?_
      refine jr.iload_n rfl rfl ?_
      refine jr.iload rfl rfl ?_
      refine jr.iast (i := k) (x := c) rfl (by decide) rfl (by decide) (by omega) (by omega) ?_
      refine jr.iload rfl rfl ?_
      exact jr.ireturn rfl rfl rfl (q _ _ (RI.u (RI.u (RI.u (RI.u hI_M (a := 643) (i := k) (by rw [xri_row rfl rfl]; show (0 : Int) ≤ _ ∧ _ ≤ (1 : Int); omega)) (a := 644) (i := k) (by rw [xri_row rfl rfl]; show (-9223372036854775808 : Int) ≤ _ ∧ _ ≤ (9223372036854775807 : Int); omega)) (a := 645) (i := k) (by rw [xri_row rfl rfl]; show (0 : Int) ≤ _ ∧ _ ≤ (65535 : Int); omega)) (a := 646) (i := k) (by rw [xri_row rfl rfl]; show (0 : Int) ≤ _ ∧ _ ≤ (32 : Int); omega)) (RH.o (RH.o (RH.o (RH.o hH_M (by decide) (by decide) (by decide)) (by decide) (by decide) (by decide)) (by decide) (by decide) (by decide)) (by decide) (by decide) (by decide)) (RF.o (RF.o (RF.o (RF.o hS_M (by decide) (by decide)) (by decide) (by decide)) (by decide) (by decide)) (by decide) (by decide))  (by omega) (Or.inr (Or.inr ⟨by omega, by rw [hy1, show (24 - f).toNat = 0 from by omega]; show (0 : Int) ≠ 1; decide, by omega, by rw [b1.1, hy0]⟩)) (fun a i f643 f644 f645 f646 => ((ju_c _ _ f646).trans ((ju_c _ _ f645).trans ((ju_c _ _ f644).trans ((ju_c _ _ f643).trans (hF_M a i f643 f644 f645 f646)))))))
    · refine jr.aload_n rfl rfl ?_
      refine jr.getf (i := 39) (v := .ref 627) rfl rfl (by decide) rfl (by decide) rfl rfl rfl rfl ?_
      refine jr.iload rfl rfl ?_
      obtain ⟨v2, e2⟩ : ∃ z, M 627 f = z := ⟨_, rfl⟩
      have b2 : 0 ≤ v2 ∧ v2 ≤ 1 := by rw [← e2]; exact (by have q := hI_M 627 f (by decide); rw [xri_row rfl rfl] at q; exact q)
      refine jr.zald (i := f) (x := v2) rfl (by decide) rfl (by decide) (by omega) (by omega) e2 ?_
      refine jr.if_eq rfl rfl (by omega) (fun h69 => ?_) (fun h69 => ?_)
      · refine jr.iinc (ls' := [_, _, _, _, _, _]) rfl rfl (by decide) rfl ?_
        refine jr.goto rfl rfl ?_
        refine jr.pick (ls := [_, _, _, _, _, _]) [0, 1, 2, 3, 4, 5] rfl rfl ?_
        exact ih (nM - 1) (by omega) M (f + 1) c o a k hI_M hH_M hS_M  (fun a i f643 f644 f645 f646 => (hF_M a i f643 f644 f645 f646)) (by omega) (by omega) (by omega) (by omega) (by omega) hy0 (by rw [hy1, ← hy0, pu6_s (by omega), if_neg (by omega)]) (by omega) (by omega) (by omega) (by omega) (by omega) (by omega)
      · have sx69 : (1 : Int) ≤ v2 := by omega
        clear h69
        refine jr.aload_n rfl rfl ?_
        refine jr.getf (i := 52) (v := .ref 640) rfl rfl (by decide) rfl (by decide) rfl rfl rfl rfl ?_
        refine jr.iload rfl rfl ?_
        obtain ⟨v3, e3⟩ : ∃ z, M 640 f = z := ⟨_, rfl⟩
        have b3 : (-1) ≤ v3 ∧ v3 ≤ 3 := by rw [← e3]; exact (by have q := hI_M 640 f (by decide); rw [xri_row rfl rfl] at q; exact q)
        refine jr.iald (i := f) (x := v3) rfl (by decide) rfl (by decide) (by omega) (by omega) e3 ?_
        refine jr.iload_n rfl rfl ?_
        refine jr.icmp_ne rfl rfl (by omega) (by omega) (fun h80 => ?_) (fun h80 => ?_)
        · refine jr.iinc (ls' := [_, _, _, _, _, _]) rfl rfl (by decide) rfl ?_
          refine jr.goto rfl rfl ?_
          refine jr.pick (ls := [_, _, _, _, _, _]) [0, 1, 2, 3, 4, 5] rfl rfl ?_
          exact ih (nM - 1) (by omega) M (f + 1) c o a k hI_M hH_M hS_M  (fun a i f643 f644 f645 f646 => (hF_M a i f643 f644 f645 f646)) (by omega) (by omega) (by omega) (by omega) (by omega) hy0 (by rw [hy1, ← hy0, pu6_s (by omega), if_neg (by omega)]) (by omega) (by omega) (by omega) (by omega) (by omega) (by omega)
        · refine jr.bipush rfl (by decide) ?_
          exact jr.ireturn rfl rfl rfl (q _ _ hI_M hH_M hS_M  (by omega) (Or.inr (Or.inl ⟨by omega, by rw [hy1, ← hy0, pu6_s (by omega), if_pos (by omega)], by omega, hy0⟩)) (fun a i f643 f644 f645 f646 => (hF_M a i f643 f644 f645 f646)))
theorem r_pool_x {A : Nat → Option (Nat × (Nat → Int32))} {Q : Option Value → jm → Prop} {M : jm} (hI_M : RI M) (hH_M : RH M) (hS_M : RF M) {k : Int} (h_k : (-2147483648) ≤ k ∧ k ≤ 2147483647) {a : Int} (h_a : (-2147483648) ≤ a ∧ a ≤ 2147483647) {o : Int} (h_o : (-2147483648) ≤ o ∧ o ≤ 2147483647) {c : Int} (h_c : (-2147483648) ≤ c ∧ c ≤ 2147483647) (q : ∀ (r : Int) (M' : jm), RI M' → RH M' → RF M' → (-4) ≤ r ∧ r ≤ 32 → ((¬ ((0 ≤ k ∧ k ≤ 3) ∧ (1 ≤ c ∧ c ≤ 32) ∧ (1 ≤ o ∧ o + c ≤ 65536)) ∧ r = -3 ∧ M' = M) ∨ (((0 ≤ k ∧ k ≤ 3) ∧ (1 ≤ c ∧ c ≤ 32) ∧ (1 ≤ o ∧ o + c ≤ 65536)) ∧ pu6 M k 24 0 = 1 ∧ r = -4 ∧ M' = M) ∨ (((0 ≤ k ∧ k ≤ 3) ∧ (1 ≤ c ∧ c ≤ 32) ∧ (1 ≤ o ∧ o + c ≤ 65536)) ∧ pu6 M k 24 0 ≠ 1 ∧ r = c ∧ M' = ju (ju (ju (ju M 643 k 1) 644 k (a % 4294967296)) 645 k o) 646 k c)) → (∀ (a : Nat) (i : Int), a ≠ 643 → a ≠ 644 → a ≠ 645 → a ≠ 646 → M' a i = M a i) → Q (some (.int (Int32.ofInt r))) M') : jc A 2 319 [.ref (598), .int (Int32.ofInt (k)), .int (Int32.ofInt (a)), .int (Int32.ofInt (o)), .int (Int32.ofInt (c))] M Q := by
  refine jc_of (m := xm_319) rfl (Nat.le_of_ble_eq_true rfl) rfl ?_
  refine jr.iload_n rfl rfl ?_
  refine jr.i2l rfl (by omega) ?_
  refine jr.lconst (x := 0) rfl (by decide) ?_
  refine jr.ldc2 (x := 3) rfl rfl (by decide) ?_
  refine jr_s rfl rfl (Or.inl rfl) ⟨Nat.le_of_ble_eq_true rfl, Nat.le_of_ble_eq_true rfl⟩ rfl rfl (jc.deep (c_within (by omega) (by omega) (by omega) (fun l6 u6 => ?_) (fun n6 => ?_)) (by decide))
  · refine jr.if_eq rfl rfl (by omega) (fun h => absurd h (by decide)) (fun _ => ?_)
    refine jr.iload rfl rfl ?_
    refine jr.i2l rfl (by omega) ?_
    refine jr.lconst (x := 1) rfl (by decide) ?_
    refine jr.ldc2 (x := 32) rfl rfl (by decide) ?_
    refine jr_s rfl rfl (Or.inl rfl) ⟨Nat.le_of_ble_eq_true rfl, Nat.le_of_ble_eq_true rfl⟩ rfl rfl (jc.deep (c_within (by omega) (by omega) (by omega) (fun l19 u19 => ?_) (fun n19 => ?_)) (by decide))
    · refine jr.if_eq rfl rfl (by omega) (fun h => absurd h (by decide)) (fun _ => ?_)
      refine jr.iload_n rfl rfl ?_
      refine jr.iconst rfl ?_
      refine jr.icmp_lt rfl rfl (by omega) (by omega) (fun h27 => ?_) (fun h27 => ?_)
      · refine jr.bipush rfl (by decide) ?_
        exact jr.ireturn rfl rfl rfl (q _ _ hI_M hH_M hS_M  (by omega) (Or.inl ⟨by omega, by omega, rfl⟩) (fun a i f643 f644 f645 f646 => rfl))
      · refine jr.iload_n rfl rfl ?_
        refine jr.ldcw (x := 65535) rfl rfl (by decide) ?_
        refine jr.icmp_gt rfl rfl (by omega) (by omega) (fun h34 => ?_) (fun h34 => ?_)
        · refine jr.bipush rfl (by decide) ?_
          exact jr.ireturn rfl rfl rfl (q _ _ hI_M hH_M hS_M  (by omega) (Or.inl ⟨by omega, by omega, rfl⟩) (fun a i f643 f644 f645 f646 => rfl))
        · refine jr.iload_n rfl rfl ?_
          refine jr.iload rfl rfl ?_
          refine jr.iadd rfl ?_
          refine jr.iconst rfl ?_
          refine jr.isub rfl ?_
          refine jr.ldcw (x := 65535) rfl rfl (by decide) ?_
          refine jr.icmp_le rfl rfl (by omega) (by omega) (fun h46 => ?_) (fun h46 => ?_)
          · refine jr.iconst rfl ?_
            refine jr.istore (ls' := [_, _, _, _, _, _]) rfl (by decide) rfl ?_
            refine jr.pick (ls := [_, _, _, _, _, _]) [0, 5, 4, 3, 2, 1] rfl rfl ?_
            exact r_pool_L55_x q 24 M 0 c o a k hI_M hH_M hS_M  (fun a i f643 f644 f645 f646 => rfl) (by omega) (by omega) (by omega) (by omega) (by omega) rfl rfl (by omega) (by omega) (by omega) (by omega) (by omega) (by omega)
          · refine jr.bipush rfl (by decide) ?_
            exact jr.ireturn rfl rfl rfl (q _ _ hI_M hH_M hS_M  (by omega) (Or.inl ⟨by omega, by omega, rfl⟩) (fun a i f643 f644 f645 f646 => rfl))
    · refine jr.if_eq rfl rfl (by omega) (fun _ => ?_) (fun h => absurd (by decide) h)
      refine jr.bipush rfl (by decide) ?_
      exact jr.ireturn rfl rfl rfl (q _ _ hI_M hH_M hS_M  (by omega) (Or.inl ⟨by omega, by omega, rfl⟩) (fun a i f643 f644 f645 f646 => rfl))
  · refine jr.if_eq rfl rfl (by omega) (fun _ => ?_) (fun h => absurd (by decide) h)
    refine jr.bipush rfl (by decide) ?_
    exact jr.ireturn rfl rfl rfl (q _ _ hI_M hH_M hS_M  (by omega) (Or.inl ⟨by omega, by omega, rfl⟩) (fun a i f643 f644 f645 f646 => rfl))
end
