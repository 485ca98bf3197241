/-! ===== the reference: small methods ===== -/
section RA
variable {A : Nat → Option (Nat × (Nat → Int32))} {M : jm} {Q : Option Value → jm → Prop}
theorem c_within {x a b : Int} (h_x : -9223372036854775808 ≤ x ∧ x ≤ 9223372036854775807) (h_a : -9223372036854775808 ≤ a ∧ a ≤ 9223372036854775807) (h_b : -9223372036854775808 ≤ b ∧ b ≤ 9223372036854775807) (k1 : a ≤ x → x ≤ b → Q (some (.int (Int32.ofInt 1))) M) (k0 : ¬ (a ≤ x ∧ x ≤ b) → Q (some (.int (Int32.ofInt 0))) M) : jc A 1 242 [.long (Int64.ofInt (x)), .long (Int64.ofInt (a)), .long (Int64.ofInt (b))] M Q := by
  refine jc_of (m := xm_242) rfl (Nat.le_of_ble_eq_true rfl) rfl ?_
  refine jr.lload_n rfl rfl ?_
  refine jr.lload_n rfl rfl ?_
  refine jr.lcmp_lt rfl rfl rfl (by omega) (by omega) (fun h2 => ?_) (fun h2 => ?_)
  · refine jr.iconst rfl ?_
    exact jr.ireturn rfl rfl rfl (k0 (by omega))
  · refine jr.lload_n rfl rfl ?_
    refine jr.lload rfl rfl ?_
    refine jr.lcmp_gt rfl rfl rfl (by omega) (by omega) (fun h9 => ?_) (fun h9 => ?_)
    · refine jr.iconst rfl ?_
      exact jr.ireturn rfl rfl rfl (k0 (by omega))
    · refine jr.iconst rfl ?_
      refine jr.goto rfl rfl ?_
      exact jr.ireturn rfl rfl rfl (k1 (by omega) (by omega))
theorem c_isPN {x : Int} (h_x : -2147483648 ≤ x ∧ x ≤ 2147483647) (k1 : 0 ≤ x → x ≤ 23 → Q (some (.int (Int32.ofInt 1))) M) (k0 : ¬ (0 ≤ x ∧ x ≤ 23) → Q (some (.int (Int32.ofInt 0))) M) : jc A 2 246 [.int (Int32.ofInt (x))] M Q := by
  refine jc_of (m := xm_246) rfl (Nat.le_of_ble_eq_true rfl) rfl ?_
  refine jr.iload_n rfl rfl ?_
  refine jr.i2l rfl (by omega) ?_
  refine jr.lconst (x := 0) rfl (by decide) ?_
  refine jr.ldc2 (x := 23) rfl rfl (by decide) ?_
  refine jr_s rfl rfl (Or.inl rfl) ⟨Nat.le_of_ble_eq_true rfl, Nat.le_of_ble_eq_true rfl⟩ rfl rfl (jc.deep (c_within (by omega) (by omega) (by omega) (fun l6 u6 => ?_) (fun n6 => ?_)) (by decide))
  · exact jr.ireturn rfl rfl rfl (k1 (by omega) (by omega))
  · exact jr.ireturn rfl rfl rfl (k0 (by omega))
theorem c_isThere (hI_M : RI M) {x : Int} (h_x : -2147483648 ≤ x ∧ x ≤ 2147483647) (k1 : 0 ≤ x → x ≤ 23 → M 600 x ≠ -1 → Q (some (.int (Int32.ofInt 1))) M) (k0 : ¬ (0 ≤ x ∧ x ≤ 23 ∧ M 600 x ≠ -1) → Q (some (.int (Int32.ofInt 0))) M) : jc A 3 247 [.ref (598), .int (Int32.ofInt (x))] M Q := by
  refine jc_of (m := xm_247) rfl (Nat.le_of_ble_eq_true rfl) rfl ?_
  refine jr.iload_n rfl rfl ?_
  refine jr_s rfl rfl (Or.inl rfl) ⟨Nat.le_of_ble_eq_true rfl, Nat.le_of_ble_eq_true rfl⟩ rfl rfl (jc.deep (c_isPN (by omega) (fun l1 u1 => ?_) (fun n1 => ?_)) (by decide))
  · refine jr.if_eq rfl rfl (by omega) (fun h => absurd h (by decide)) (fun _ => ?_)
    refine jr.aload_n rfl rfl ?_
    refine jr.getf (i := 3) (v := .ref 600) rfl rfl (by decide) rfl (by decide) rfl rfl rfl rfl ?_
    refine jr.iload_n rfl rfl ?_
    obtain ⟨v1, e1⟩ : ∃ z, M 600 x = z := ⟨_, rfl⟩
    have b1 : (-1) ≤ v1 ∧ v1 ≤ 400 := by rw [← e1]; exact (by have q := hI_M 600 x (by decide); rw [xri_row rfl rfl] at q; exact q)
    refine jr.iald (i := x) (x := v1) rfl (by decide) rfl (by decide) (by omega) (by omega) e1 ?_
    refine jr.iconst rfl ?_
    refine jr.icmp_eq rfl rfl (by omega) (by omega) (fun h14 => ?_) (fun h14 => ?_)
    · refine jr.iconst rfl ?_
      exact jr.ireturn rfl rfl rfl (k0 (by omega))
    · refine jr.iconst rfl ?_
      refine jr.goto rfl rfl ?_
      exact jr.ireturn rfl rfl rfl (k1 (by omega) (by omega) (by omega))
  · refine jr.if_eq rfl rfl (by omega) (fun _ => ?_) (fun h => absurd (by decide) h)
    refine jr.iconst rfl ?_
    exact jr.ireturn rfl rfl rfl (k0 (by omega))
theorem c_end (hI_M : RI M) {x : Int} (h_x : -2147483648 ≤ x ∧ x ≤ 2147483647) (q : ∀ (r : Int) (M' : jm), RI M' → M' 598 2 = M 598 2 → Q (some (.int (Int32.ofInt r))) M') : jc A 2 245 [.ref (598), .int (Int32.ofInt (x))] M Q := by
  refine jc_of (m := xm_245) rfl (Nat.le_of_ble_eq_true rfl) rfl ?_
  refine jr.iload_n rfl rfl ?_
  refine jr.i2l rfl (by omega) ?_
  refine jr.lconst (x := 0) rfl (by decide) ?_
  refine jr.aload_n rfl rfl ?_
  obtain ⟨v1, e1⟩ : ∃ z, M 598 1 = z := ⟨_, rfl⟩
  have b1 : 0 ≤ v1 ∧ v1 ≤ 1600 := by rw [← e1]; exact hI_M 598 1 (by decide)
  refine jr.getf (i := 1) (x := v1) (v := .int (Int32.ofInt (v1))) rfl rfl (by decide) rfl (by decide) rfl rfl e1 rfl ?_
  refine jr.i2l rfl (by omega) ?_
  refine jr_s rfl rfl (Or.inl rfl) ⟨Nat.le_of_ble_eq_true rfl, Nat.le_of_ble_eq_true rfl⟩ rfl rfl (jc.deep (c_within (by omega) (by omega) (by omega) (fun l8 u8 => ?_) (fun n8 => ?_)) (by decide))
  · refine jr.if_ne rfl rfl (by omega) (fun _ => ?_) (fun h => absurd (by decide) h)
    refine jr.aload_n rfl rfl ?_
    refine jr.iload_n rfl rfl ?_
    refine jr.putf (i := 1) (x := x) rfl rfl (by decide) rfl (by decide) rfl rfl rfl rfl rfl ?_
    refine jr.iload_n rfl rfl ?_
    exact jr.ireturn rfl rfl rfl (q _ _ (RI.u hI_M (a := 598) (i := 1) (show (0 : Int) ≤ _ ∧ _ ≤ (1600 : Int) from by omega)) (by first | rfl | exact ju_i _ _ (by decide)))
  · refine jr.if_ne rfl rfl (by omega) (fun h => absurd h (by decide)) (fun _ => ?_)
    refine jr.bipush rfl (by decide) ?_
    exact jr.ireturn rfl rfl rfl (q _ _ hI_M (by first | rfl | exact ju_i _ _ (by decide)))
end RA
