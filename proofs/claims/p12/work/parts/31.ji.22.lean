section
section RT
variable {A : Nat → Option (Nat × (Nat → Int32))} {M : jm} {Q : Option Value → jm → Prop}
theorem c_isThere (hI_M : RI M) {x : Int} (h_x : -2147483648 ≤ x ∧ x ≤ 2147483647) (k1 : 0 ≤ x → x ≤ 23 → M 600 x ≠ -1 → Q (some (.int (Int32.ofInt 1))) M) (k0 : ¬ (0 ≤ x ∧ x ≤ 23 ∧ M 600 x ≠ -1) → Q (some (.int (Int32.ofInt 0))) M) : jc A 3 247 [.ref (598), .int (Int32.ofInt (x))] M Q := by
  refine jc_of (m := xm_247) rfl (Nat.le_of_ble_eq_true rfl) rfl ?_
  refine jr.iload_n rfl rfl ?_
  refine jr_s rfl rfl (Or.inl rfl) ⟨Nat.le_of_ble_eq_true rfl, Nat.le_of_ble_eq_true rfl⟩ rfl rfl (jc.deep (c_isPN (by omega) (fun l1 u1 => ?_) (fun n1 => ?_)) (by decide))
  · refine jr.if_eq rfl rfl (by omega) (fun h => absurd h (by decide)) (fun _ => ?_)
    refine jr.aload_n rfl rfl ?_
    refine jr.getf (i := 3) (v := .ref 600) rfl rfl (by decide) rfl (by decide) rfl rfl rfl rfl ?_
    refine jr.iload_n rfl rfl ?_
    obtain ⟨v1, e1⟩ : ∃ z, M 600 x = z := ⟨_, rfl⟩
    have b1 : (-1) ≤ v1 ∧ v1 ≤ 400 := by rw [← e1]; exact (by have q := hI_M 600 x (by decide); rw [xri_row rfl rfl] at q; exact q)
    refine jr.iald (i := x) (x := v1) rfl (by decide) rfl (by decide) (by omega) (by omega) e1 ?_
    refine jr.iconst rfl ?_
    refine jr.icmp_eq rfl rfl (by omega) (by omega) (fun h14 => ?_) (fun h14 => ?_)
    · refine jr.iconst rfl ?_
      exact jr.ireturn rfl rfl rfl (k0 (by omega))
    · have sx14 : (0 : Int) ≤ v1 := by omega
      clear h14
      refine jr.iconst rfl ?_
      refine jr.goto rfl rfl ?_
      exact jr.ireturn rfl rfl rfl (k1 (by omega) (by omega) (by omega))
  · refine jr.if_eq rfl rfl (by omega) (fun _ => ?_) (fun h => absurd (by decide) h)
    refine jr.iconst rfl ?_
    exact jr.ireturn rfl rfl rfl (k0 (by omega))
end RT
theorem r_one {A : Nat → Option (Nat × (Nat → Int32))} {Q : Option Value → jm → Prop} {T : jm} {M : jm} (hI_M : RI M) (hH_M : RH M) (hS_M : RF M) (ht_M : Kp T M) {x : Int} (h_x : 0 ≤ x ∧ x ≤ 23) {i : Int} (h_i : 0 ≤ i ∧ i ≤ 399) (q : ∀ (r : Int), 0 ≤ r ∧ r ≤ 255 → r = M 601 (400 * x + i) → Q (some (.int (Int32.ofInt r))) M) : jc A 1 253 [.ref (598), .int (Int32.ofInt (x)), .int (Int32.ofInt (i))] M Q := by
  refine jc_of (m := xm_253) rfl (Nat.le_of_ble_eq_true rfl) rfl ?_
  refine jr.aload_n rfl rfl ?_
  refine jr.getf (i := 4) (v := .ref 601) rfl rfl (by decide) rfl (by decide) rfl rfl rfl rfl ?_
  refine jr.sipush rfl (by decide) ?_
  refine jr.iload_n rfl rfl ?_
  refine jr.imul rfl ?_
  refine jr.iload_n rfl rfl ?_
  refine jr.iadd rfl ?_
  obtain ⟨v1, e1⟩ : ∃ z, M 601 ((400 * x) + i) = z := ⟨_, rfl⟩
  have b1 : 0 ≤ v1 ∧ v1 ≤ 255 := by rw [← e1]; exact (by have q := hI_M 601 ((400 * x) + i) (by decide); rw [xri_row rfl rfl] at q; exact q)
  refine jr.iald (i := ((400 * x) + i)) (x := v1) rfl (by decide) rfl (by decide) (by omega) (by omega) e1 ?_
  exact jr.ireturn rfl rfl rfl (q _ (by omega) (by omega))
end
