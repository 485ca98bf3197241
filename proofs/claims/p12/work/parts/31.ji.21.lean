section
noncomputable def BF (M : jm) (g p k : Int) : Prop := M 607 g = 2 → M 621 g < k → M 601 (400 * p + M 621 g) = M 618 (400 * g + M 621 g)
theorem BF.w {M : jm} {g p n i v : Int} (h : BF M g p n) (hi : M 607 g = 2 → i ≠ 400 * p + M 621 g) : BF (ju M 601 i v) g p n := by
  unfold BF at h ⊢
  rw [ju_c M v (by decide : (607 : Nat) ≠ 601), ju_c M v (by decide : (621 : Nat) ≠ 601), ju_c M v (by decide : (618 : Nat) ≠ 601)]
  intro a b
  rw [ju_i M v (fun e => hi a e.symm)]
  exact h a b
theorem BF.step {M : jm} {g p k v : Int} (h : BF M g p k) (e : M 618 (400 * g + k) = v) : BF (ju M 601 (400 * p + k) v) g p (k + 1) := by
  unfold BF at h ⊢
  rw [ju_c M v (by decide : (607 : Nat) ≠ 601), ju_c M v (by decide : (621 : Nat) ≠ 601), ju_c M v (by decide : (618 : Nat) ≠ 601)]
  intro a b
  by_cases q : M 621 g = k
  · rw [q, ju_same, e]
  · rw [ju_i M v (by omega)]
    exact h a (by omega)
end
section
/-! ===== the reference: contracts, a ===== -/
section RT
variable {A : Nat → Option (Nat × (Nat → Int32))} {M : jm} {Q : Option Value → jm → Prop}
theorem c_within {x a b : Int} (h_x : -9223372036854775808 ≤ x ∧ x ≤ 9223372036854775807) (h_a : -9223372036854775808 ≤ a ∧ a ≤ 9223372036854775807) (h_b : -9223372036854775808 ≤ b ∧ b ≤ 9223372036854775807) (k1 : a ≤ x → x ≤ b → Q (some (.int (Int32.ofInt 1))) M) (k0 : ¬ (a ≤ x ∧ x ≤ b) → Q (some (.int (Int32.ofInt 0))) M) : jc A 1 242 [.long (Int64.ofInt (x)), .long (Int64.ofInt (a)), .long (Int64.ofInt (b))] M Q := by
  refine jc_of (m := xm_242) rfl (Nat.le_of_ble_eq_true rfl) rfl ?_
  refine jr.lload_n rfl rfl ?_
  refine jr.lload_n rfl rfl ?_
  refine jr.lcmp_lt rfl rfl rfl (by omega) (by omega) (fun h2 => ?_) (fun h2 => ?_)
  · refine jr.iconst rfl ?_
    exact jr.ireturn rfl rfl rfl (k0 (by omega))
  · refine jr.lload_n rfl rfl ?_
    refine jr.lload rfl rfl ?_
    refine jr.lcmp_gt rfl rfl rfl (by omega) (by omega) (fun h9 => ?_) (fun h9 => ?_)
    · refine jr.iconst rfl ?_
      exact jr.ireturn rfl rfl rfl (k0 (by omega))
    · refine jr.iconst rfl ?_
      refine jr.goto rfl rfl ?_
      exact jr.ireturn rfl rfl rfl (k1 (by omega) (by omega))
theorem c_isPN {x : Int} (h_x : -2147483648 ≤ x ∧ x ≤ 2147483647) (k1 : 0 ≤ x → x ≤ 23 → Q (some (.int (Int32.ofInt 1))) M) (k0 : ¬ (0 ≤ x ∧ x ≤ 23) → Q (some (.int (Int32.ofInt 0))) M) : jc A 2 246 [.int (Int32.ofInt (x))] M Q := by
  refine jc_of (m := xm_246) rfl (Nat.le_of_ble_eq_true rfl) rfl ?_
  refine jr.iload_n rfl rfl ?_
  refine jr.i2l rfl (by omega) ?_
  refine jr.lconst (x := 0) rfl (by decide) ?_
  refine jr.ldc2 (x := 23) rfl rfl (by decide) ?_
  refine jr_s rfl rfl (Or.inl rfl) ⟨Nat.le_of_ble_eq_true rfl, Nat.le_of_ble_eq_true rfl⟩ rfl rfl (jc.deep (c_within (by omega) (by omega) (by omega) (fun l6 u6 => ?_) (fun n6 => ?_)) (by decide))
  · exact jr.ireturn rfl rfl rfl (k1 (by omega) (by omega))
  · exact jr.ireturn rfl rfl rfl (k0 (by omega))
end RT
end
