/-! ===== the reference: contracts, 35.pa ===== -/
theorem c_good {A : Nat → Option (Nat × (Nat → Int32))} {M : jm} {Q : Option Value → jm → Prop} (hI_M : RI M)  (k1 : M 598 80 = 0 → Q (some (.int (Int32.ofInt 1))) M) (k0 : M 598 80 ≠ 0 → Q (some (.int (Int32.ofInt 0))) M) : jc A 1 339 [.ref (598)] M Q := by
  refine jc_of (m := xm_339) rfl (Nat.le_of_ble_eq_true rfl) rfl ?_
  refine jr.aload_n rfl rfl ?_
  obtain ⟨v1, e1⟩ : ∃ z, M 598 80 = z := ⟨_, rfl⟩
  have b1 : 0 ≤ v1 ∧ v1 ≤ 7 := by rw [← e1]; exact hI_M 598 80 (by decide)
  refine jr.getf (i := 80) (x := v1) (v := .int (Int32.ofInt (v1))) rfl rfl (by decide) rfl (by decide) rfl rfl e1 rfl ?_
  refine jr.if_ne rfl rfl (by omega) (fun h4 => ?_) (fun h4 => ?_)
  · have sx4 : (1 : Int) ≤ v1 := by omega
    clear h4
    refine jr.iconst rfl ?_
    exact jr.ireturn rfl rfl rfl (k0 (by omega))
  · refine jr.iconst rfl ?_
    refine jr.goto rfl rfl ?_
    exact jr.ireturn rfl rfl rfl (k1 (by omega))
theorem c_isSign {A : Nat → Option (Nat × (Nat → Int32))} {M : jm} {Q : Option Value → jm → Prop} (hI_M : RI M) {c : Int} (h_c : 0 ≤ c ∧ c ≤ 255) (k1 : M 598 74 = 3 → M 598 79 = c → Q (some (.int (Int32.ofInt 1))) M) (k0 : (M 598 74 ≠ 3 ∨ M 598 79 ≠ c) → Q (some (.int (Int32.ofInt 0))) M) : jc A 1 345 [.ref (598), .int (Int32.ofInt (c))] M Q := by
  refine jc_of (m := xm_345) rfl (Nat.le_of_ble_eq_true rfl) rfl ?_
  refine jr.aload_n rfl rfl ?_
  obtain ⟨v1, e1⟩ : ∃ z, M 598 74 = z := ⟨_, rfl⟩
  have b1 : 0 ≤ v1 ∧ v1 ≤ 4 := by rw [← e1]; exact hI_M 598 74 (by decide)
  refine jr.getf (i := 74) (x := v1) (v := .int (Int32.ofInt (v1))) rfl rfl (by decide) rfl (by decide) rfl rfl e1 rfl ?_
  refine jr.iconst rfl ?_
  refine jr.icmp_ne rfl rfl (by omega) (by omega) (fun h5 => ?_) (fun h5 => ?_)
  · refine jr.iconst rfl ?_
    exact jr.ireturn rfl rfl rfl (k0 (by omega))
  · refine jr.aload_n rfl rfl ?_
    obtain ⟨v2, e2⟩ : ∃ z, M 598 79 = z := ⟨_, rfl⟩
    have b2 : 0 ≤ v2 ∧ v2 ≤ 255 := by rw [← e2]; exact hI_M 598 79 (by decide)
    refine jr.getf (i := 79) (x := v2) (v := .int (Int32.ofInt (v2))) rfl rfl (by decide) rfl (by decide) rfl rfl e2 rfl ?_
    refine jr.iload_n rfl rfl ?_
    refine jr.icmp_ne rfl rfl (by omega) (by omega) (fun h13 => ?_) (fun h13 => ?_)
    · refine jr.iconst rfl ?_
      exact jr.ireturn rfl rfl rfl (k0 (by omega))
    · refine jr.iconst rfl ?_
      refine jr.goto rfl rfl ?_
      exact jr.ireturn rfl rfl rfl (k1 (by omega) (by omega))
theorem c_isWord {A : Nat → Option (Nat × (Nat → Int32))} {M : jm} {Q : Option Value → jm → Prop} (hI_M : RI M) {w : Int} (h_w : 0 ≤ w ∧ w ≤ 68) (k1 : M 598 74 = 1 → M 598 76 = w → Q (some (.int (Int32.ofInt 1))) M) (k0 : (M 598 74 ≠ 1 ∨ M 598 76 ≠ w) → Q (some (.int (Int32.ofInt 0))) M) : jc A 1 346 [.ref (598), .int (Int32.ofInt (w))] M Q := by
  refine jc_of (m := xm_346) rfl (Nat.le_of_ble_eq_true rfl) rfl ?_
  refine jr.aload_n rfl rfl ?_
  obtain ⟨v1, e1⟩ : ∃ z, M 598 74 = z := ⟨_, rfl⟩
  have b1 : 0 ≤ v1 ∧ v1 ≤ 4 := by rw [← e1]; exact hI_M 598 74 (by decide)
  refine jr.getf (i := 74) (x := v1) (v := .int (Int32.ofInt (v1))) rfl rfl (by decide) rfl (by decide) rfl rfl e1 rfl ?_
  refine jr.iconst rfl ?_
  refine jr.icmp_ne rfl rfl (by omega) (by omega) (fun h5 => ?_) (fun h5 => ?_)
  · refine jr.iconst rfl ?_
    exact jr.ireturn rfl rfl rfl (k0 (by omega))
  · refine jr.aload_n rfl rfl ?_
    obtain ⟨v2, e2⟩ : ∃ z, M 598 76 = z := ⟨_, rfl⟩
    have b2 : (-1) ≤ v2 ∧ v2 ≤ 68 := by rw [← e2]; exact hI_M 598 76 (by decide)
    refine jr.getf (i := 76) (x := v2) (v := .int (Int32.ofInt (v2))) rfl rfl (by decide) rfl (by decide) rfl rfl e2 rfl ?_
    refine jr.iload_n rfl rfl ?_
    refine jr.icmp_ne rfl rfl (by omega) (by omega) (fun h13 => ?_) (fun h13 => ?_)
    · refine jr.iconst rfl ?_
      exact jr.ireturn rfl rfl rfl (k0 (by omega))
    · refine jr.iconst rfl ?_
      refine jr.goto rfl rfl ?_
      exact jr.ireturn rfl rfl rfl (k1 (by omega) (by omega))
theorem c_isWordIn {A : Nat → Option (Nat × (Nat → Int32))} {M : jm} {Q : Option Value → jm → Prop} (hI_M : RI M) {a : Int} (h_a : 0 ≤ a ∧ a ≤ 68) {b : Int} (h_b : 0 ≤ b ∧ b ≤ 68) (k1 : M 598 74 = 1 → a ≤ M 598 76 → M 598 76 ≤ b → Q (some (.int (Int32.ofInt 1))) M) (k0 : True → Q (some (.int (Int32.ofInt 0))) M) : jc A 2 347 [.ref (598), .int (Int32.ofInt (a)), .int (Int32.ofInt (b))] M Q := by
  refine jc_of (m := xm_347) rfl (Nat.le_of_ble_eq_true rfl) rfl ?_
  refine jr.aload_n rfl rfl ?_
  obtain ⟨v1, e1⟩ : ∃ z, M 598 74 = z := ⟨_, rfl⟩
  have b1 : 0 ≤ v1 ∧ v1 ≤ 4 := by rw [← e1]; exact hI_M 598 74 (by decide)
  refine jr.getf (i := 74) (x := v1) (v := .int (Int32.ofInt (v1))) rfl rfl (by decide) rfl (by decide) rfl rfl e1 rfl ?_
  refine jr.iconst rfl ?_
  refine jr.icmp_ne rfl rfl (by omega) (by omega) (fun h5 => ?_) (fun h5 => ?_)
  · refine jr.iconst rfl ?_
    exact jr.ireturn rfl rfl rfl (k0 trivial)
  · refine jr.aload_n rfl rfl ?_
    obtain ⟨v2, e2⟩ : ∃ z, M 598 76 = z := ⟨_, rfl⟩
    have b2 : (-1) ≤ v2 ∧ v2 ≤ 68 := by rw [← e2]; exact hI_M 598 76 (by decide)
    refine jr.getf (i := 76) (x := v2) (v := .int (Int32.ofInt (v2))) rfl rfl (by decide) rfl (by decide) rfl rfl e2 rfl ?_
    refine jr.i2l rfl (by omega) ?_
    refine jr.iload_n rfl rfl ?_
    refine jr.i2l rfl (by omega) ?_
    refine jr.iload_n rfl rfl ?_
    refine jr.i2l rfl (by omega) ?_
    refine jr_s rfl rfl (Or.inl rfl) ⟨Nat.le_of_ble_eq_true rfl, Nat.le_of_ble_eq_true rfl⟩ rfl rfl (jc.deep (c_within (by omega) (by omega) (by omega) (fun l17 u17 => ?_) (fun n17 => ?_)) (by decide))
    · refine jr.if_eq rfl rfl (by omega) (fun h => absurd h (by decide)) (fun _ => ?_)
      refine jr.iconst rfl ?_
      refine jr.goto rfl rfl ?_
      exact jr.ireturn rfl rfl rfl (k1 (by omega) (by omega) (by omega))
    · refine jr.if_eq rfl rfl (by omega) (fun _ => ?_) (fun h => absurd (by decide) h)
      refine jr.iconst rfl ?_
      exact jr.ireturn rfl rfl rfl (k0 trivial)
theorem c_isName {A : Nat → Option (Nat × (Nat → Int32))} {M : jm} {Q : Option Value → jm → Prop} (hI_M : RI M)  (k1 : M 598 74 = 1 → Q (some (.int (Int32.ofInt 1))) M) (k0 : True → Q (some (.int (Int32.ofInt 0))) M) : jc A 1 349 [.ref (598)] M Q := by
  refine jc_of (m := xm_349) rfl (Nat.le_of_ble_eq_true rfl) rfl ?_
  refine jr.aload_n rfl rfl ?_
  obtain ⟨v1, e1⟩ : ∃ z, M 598 74 = z := ⟨_, rfl⟩
  have b1 : 0 ≤ v1 ∧ v1 ≤ 4 := by rw [← e1]; exact hI_M 598 74 (by decide)
  refine jr.getf (i := 74) (x := v1) (v := .int (Int32.ofInt (v1))) rfl rfl (by decide) rfl (by decide) rfl rfl e1 rfl ?_
  refine jr.iconst rfl ?_
  refine jr.icmp_ne rfl rfl (by omega) (by omega) (fun h5 => ?_) (fun h5 => ?_)
  · refine jr.iconst rfl ?_
    exact jr.ireturn rfl rfl rfl (k0 trivial)
  · refine jr.aload_n rfl rfl ?_
    obtain ⟨v2, e2⟩ : ∃ z, M 598 76 = z := ⟨_, rfl⟩
    have b2 : (-1) ≤ v2 ∧ v2 ≤ 68 := by rw [← e2]; exact hI_M 598 76 (by decide)
    refine jr.getf (i := 76) (x := v2) (v := .int (Int32.ofInt (v2))) rfl rfl (by decide) rfl (by decide) rfl rfl e2 rfl ?_
    refine jr.iconst rfl ?_
    refine jr.icmp_eq rfl rfl (by omega) (by omega) (fun h13 => ?_) (fun h13 => ?_)
    · refine jr.iconst rfl ?_
      refine jr.goto rfl rfl ?_
      exact jr.ireturn rfl rfl rfl (k1 (by omega))
    · have sx13 : (0 : Int) ≤ v2 := by omega
      clear h13
      refine jr.aload_n rfl rfl ?_
      refine jr.getf (i := 76) (x := v2) (v := .int (Int32.ofInt (v2))) rfl rfl (by decide) rfl (by decide) rfl rfl e2 rfl ?_
      refine jr.bipush rfl (by decide) ?_
      refine jr.icmp_lt rfl rfl (by omega) (by omega) (fun h22 => ?_) (fun h22 => ?_)
      · refine jr.iconst rfl ?_
        exact jr.ireturn rfl rfl rfl (k0 trivial)
      · refine jr.iconst rfl ?_
        refine jr.goto rfl rfl ?_
        exact jr.ireturn rfl rfl rfl (k1 (by omega))
