section
theorem r_flowed_x {A : Nat → Option (Nat × (Nat → Int32))} {Q : Option Value → jm → Prop} {M : jm} (hI_M : RI M) (hH_M : RH M) (hS_M : RF M) {f : Int} (h_f : (-2147483648) ≤ f ∧ f ≤ 2147483647) {w : Int} (h_w : (-2147483648) ≤ w ∧ w ≤ 2147483647) (q : ∀ (r : Int) (M' : jm), RI M' → RH M' → RF M' → (-9223372036854775808) ≤ r ∧ r ≤ 9223372036854775807 → (((f < 0 ∨ 23 < f ∨ M 627 f = 0) ∧ r = -1) ∨ (((0 ≤ f ∧ f ≤ 23) ∧ M 627 f ≠ 0) ∧ r = fl6 M f w)) → M' = M → (∀ (a : Nat) (i : Int), a ≠ 598 → M' a i = M a i) → (∀ (i : Int), i ≠ 1 → M' 598 i = M 598 i) → Q (some (.long (Int64.ofInt r))) M') : jc A 3 317 [.ref (598), .int (Int32.ofInt (f)), .int (Int32.ofInt (w))] M Q := by
  refine jc_of (m := xm_317) rfl (Nat.le_of_ble_eq_true rfl) rfl ?_
  refine jr.aload_n rfl rfl ?_
  refine jr.iload_n rfl rfl ?_
  refine jr_v rfl rfl (Or.inl rfl) rfl rfl (by decide) rfl ⟨rfl, Nat.le_of_ble_eq_true rfl, Nat.le_of_ble_eq_true rfl⟩ rfl (jc.deep (c_isFlow hI_M (by omega) (fun l2 u2 t2 => ?_) (fun n2 => ?_)) (by decide))
  · refine jr.if_eq rfl rfl (by omega) (fun h => absurd h (by decide)) (fun _ => ?_)
    refine jr.iload_n rfl rfl ?_
    refine jr.i2l rfl (by omega) ?_
    refine jr.lconst (x := 0) rfl (by decide) ?_
    refine jr.ldc2 (x := 5) rfl rfl (by decide) ?_
    refine jr_s rfl rfl (Or.inl rfl) ⟨Nat.le_of_ble_eq_true rfl, Nat.le_of_ble_eq_true rfl⟩ rfl rfl (jc.deep (c_within (by omega) (by omega) (by omega) (fun l14 u14 => ?_) (fun n14 => ?_)) (by decide))
    · refine jr.if_ne rfl rfl (by omega) (fun _ => ?_) (fun h => absurd (by decide) h)
      refine jr.iconst rfl ?_
      refine jr.iload_n rfl rfl ?_
      refine jr.imul rfl ?_
      refine jr.iload_n rfl rfl ?_
      refine jr.iconst rfl ?_
      refine jr.irem rfl (by decide) ?_
      have b1 : j_rem w 2 = w % 2 := j_rem_ex (by omega) (by omega)
      generalize j_rem w 2 = v1 at b1 ⊢
      refine jr.iadd rfl ?_
      refine jr.istore_n (ls' := [_, _, _, _]) rfl (by decide) rfl ?_
      refine jr.iload_n rfl rfl ?_
      refine jr.iconst rfl ?_
      refine jr.icmp_ge rfl rfl (by omega) (by omega) (fun h34 => ?_) (fun h34 => ?_)
      · refine jr.iload_n rfl rfl ?_
        refine jr.iconst rfl ?_
        refine jr.icmp_ge rfl rfl (by omega) (by omega) (fun h48 => ?_) (fun h48 => ?_)
        · refine jr.aload_n rfl rfl ?_
          refine jr.getf (i := 49) (v := .ref 637) rfl rfl (by decide) rfl (by decide) rfl rfl rfl rfl ?_
          refine jr.iload_n rfl rfl ?_
          obtain ⟨v2, e2⟩ : ∃ z, M 637 ((2 * f) + v1) = z := ⟨_, rfl⟩
          have b2 : (-9223372036854775808) ≤ v2 ∧ v2 ≤ 9223372036854775807 := by rw [← e2]; exact (by have q := hI_M 637 ((2 * f) + v1) (by decide); rw [xri_row rfl rfl] at q; exact q)
          refine jr.lald (i := ((2 * f) + v1)) (x := v2) rfl (by decide) rfl (by decide) (by omega) (by omega) e2 ?_
          exact jr.lreturn rfl rfl (q _ _ hI_M hH_M hS_M  (by omega) (by exact Or.elim (show v1 = 0 ∨ v1 = 1 by omega) (fun hz => by have h8 : (2 * f) + v1 = 2 * f := (by omega); have h9 := e2; rw [h8] at h9; exact Or.inr ⟨by omega, by unfold fl6; rw [if_neg (by omega), if_neg (by omega), if_neg (by omega), if_neg (by omega), if_pos (by omega)]; omega⟩) (fun hz => by have h8 : (2 * f) + v1 = 2 * f + 1 := (by omega); have h9 := e2; rw [h8] at h9; exact Or.inr ⟨by omega, by unfold fl6; rw [if_neg (by omega), if_neg (by omega), if_neg (by omega), if_neg (by omega), if_neg (by omega), if_pos (by omega)]; omega⟩)) rfl (fun a i f598 => rfl) (fun i g1 => rfl))
        · refine jr.aload_n rfl rfl ?_
          refine jr.getf (i := 48) (v := .ref 636) rfl rfl (by decide) rfl (by decide) rfl rfl rfl rfl ?_
          refine jr.iload_n rfl rfl ?_
          obtain ⟨v3, e3⟩ : ∃ z, M 636 ((2 * f) + v1) = z := ⟨_, rfl⟩
          have b3 : (-9223372036854775808) ≤ v3 ∧ v3 ≤ 9223372036854775807 := by rw [← e3]; exact (by have q := hI_M 636 ((2 * f) + v1) (by decide); rw [xri_row rfl rfl] at q; exact q)
          refine jr.lald (i := ((2 * f) + v1)) (x := v3) rfl (by decide) rfl (by decide) (by omega) (by omega) e3 ?_
          refine jr.goto rfl rfl ?_
          exact jr.lreturn rfl rfl (q _ _ hI_M hH_M hS_M  (by omega) (by exact Or.elim (show v1 = 0 ∨ v1 = 1 by omega) (fun hz => by have h8 : (2 * f) + v1 = 2 * f := (by omega); have h9 := e3; rw [h8] at h9; exact Or.inr ⟨by omega, by unfold fl6; rw [if_neg (by omega), if_neg (by omega), if_pos (by omega)]; omega⟩) (fun hz => by have h8 : (2 * f) + v1 = 2 * f + 1 := (by omega); have h9 := e3; rw [h8] at h9; exact Or.inr ⟨by omega, by unfold fl6; rw [if_neg (by omega), if_neg (by omega), if_neg (by omega), if_pos (by omega)]; omega⟩)) rfl (fun a i f598 => rfl) (fun i g1 => rfl))
      · refine jr.aload_n rfl rfl ?_
        refine jr.getf (i := 42) (v := .ref 630) rfl rfl (by decide) rfl (by decide) rfl rfl rfl rfl ?_
        refine jr.iload_n rfl rfl ?_
        obtain ⟨v4, e4⟩ : ∃ z, M 630 ((2 * f) + v1) = z := ⟨_, rfl⟩
        have b4 : (-9223372036854775808) ≤ v4 ∧ v4 ≤ 9223372036854775807 := by rw [← e4]; exact (by have q := hI_M 630 ((2 * f) + v1) (by decide); rw [xri_row rfl rfl] at q; exact q)
        refine jr.lald (i := ((2 * f) + v1)) (x := v4) rfl (by decide) rfl (by decide) (by omega) (by omega) e4 ?_
        refine jr.goto rfl rfl ?_
        exact jr.lreturn rfl rfl (q _ _ hI_M hH_M hS_M  (by omega) (by exact Or.elim (show v1 = 0 ∨ v1 = 1 by omega) (fun hz => by have h8 : (2 * f) + v1 = 2 * f := (by omega); have h9 := e4; rw [h8] at h9; exact Or.inr ⟨by omega, by unfold fl6; rw [if_pos (by omega)]; omega⟩) (fun hz => by have h8 : (2 * f) + v1 = 2 * f + 1 := (by omega); have h9 := e4; rw [h8] at h9; exact Or.inr ⟨by omega, by unfold fl6; rw [if_neg (by omega), if_pos (by omega)]; omega⟩)) rfl (fun a i f598 => rfl) (fun i g1 => rfl))
    · refine jr.if_ne rfl rfl (by omega) (fun h => absurd h (by decide)) (fun _ => ?_)
      refine jr.ldc2 (x := (-1)) rfl rfl (by decide) ?_
      exact jr.lreturn rfl rfl (q _ _ hI_M hH_M hS_M  (by omega) (by first | exact Or.inl ⟨by omega, by omega⟩ | exact Or.inr ⟨by omega, by unfold fl6; rw [if_neg (by omega), if_neg (by omega), if_neg (by omega), if_neg (by omega), if_neg (by omega), if_neg (by omega)]⟩) rfl (fun a i f598 => rfl) (fun i g1 => rfl))
  · refine jr.if_eq rfl rfl (by omega) (fun _ => ?_) (fun h => absurd (by decide) h)
    refine jr.ldc2 (x := (-1)) rfl rfl (by decide) ?_
    exact jr.lreturn rfl rfl (q _ _ hI_M hH_M hS_M  (by omega) (by first | exact Or.inl ⟨by omega, by omega⟩ | exact Or.inr ⟨by omega, by unfold fl6; rw [if_neg (by omega), if_neg (by omega), if_neg (by omega), if_neg (by omega), if_neg (by omega), if_neg (by omega)]⟩) rfl (fun a i f598 => rfl) (fun i g1 => rfl))
theorem r_close_x {A : Nat → Option (Nat × (Nat → Int32))} {Q : Option Value → jm → Prop} {M : jm} (hI_M : RI M) (hH_M : RH M) (hS_M : RF M) {f : Int} (h_f : (-2147483648) ≤ f ∧ f ≤ 2147483647) (q : ∀ (r : Int) (M' : jm), RI M' → RH M' → RF M' → (-2) ≤ r ∧ r ≤ 1 → (((f < 0 ∨ 23 < f ∨ M 627 f = 0) ∧ r = -2 ∧ M' = M) ∨ (((0 ≤ f ∧ f ≤ 23) ∧ M 627 f ≠ 0) ∧ r = 1 ∧ M' = ju M 627 f 0)) → (∀ (a : Nat) (i : Int), a ≠ 627 → M' a i = M a i) → Q (some (.int (Int32.ofInt r))) M') : jc A 3 318 [.ref (598), .int (Int32.ofInt (f))] M Q := by
  refine jc_of (m := xm_318) rfl (Nat.le_of_ble_eq_true rfl) rfl ?_
  refine jr.aload_n rfl rfl ?_
  refine jr.iload_n rfl rfl ?_
  refine jr_v rfl rfl (Or.inl rfl) rfl rfl (by decide) rfl ⟨rfl, Nat.le_of_ble_eq_true rfl, Nat.le_of_ble_eq_true rfl⟩ rfl (jc.deep (c_isFlow hI_M (by omega) (fun l2 u2 t2 => ?_) (fun n2 => ?_)) (by decide))
  · refine jr.if_ne rfl rfl (by omega) (fun _ => ?_) (fun h => absurd (by decide) h)
    refine jr.aload_n rfl rfl ?_
    refine jr.getf (i := 39) (v := .ref 627) rfl rfl (by decide) rfl (by decide) rfl rfl rfl rfl ?_
    refine jr.iload_n rfl rfl ?_
    refine jr.iconst rfl ?_
    refine jr.zast (i := f) (x := 0) rfl (by decide) rfl (by decide) (by omega) (by omega) (j_zn (by omega)) ?_
    refine jr.iconst rfl ?_
    exact jr.ireturn rfl rfl rfl (q _ _ (RI.u hI_M (a := 627) (i := f) (by rw [xri_row rfl rfl]; show (0 : Int) ≤ _ ∧ _ ≤ (1 : Int); omega)) (RH.o hH_M (by decide) (by decide) (by decide)) (RF.o hS_M (by decide) (by decide))  (by omega) (Or.inr ⟨by omega, by omega, rfl⟩) (fun a i f627 => ((ju_c _ _ f627).trans rfl)))
  · refine jr.if_ne rfl rfl (by omega) (fun h => absurd h (by decide)) (fun _ => ?_)
    refine jr.bipush rfl (by decide) ?_
    exact jr.ireturn rfl rfl rfl (q _ _ hI_M hH_M hS_M  (by omega) (Or.inl ⟨by omega, by omega, rfl⟩) (fun a i f627 => rfl))
end
section
end
