section
/-! ===== the reference: calls that leave the data alone ===== -/
theorem r_why_x {A : Nat → Option (Nat × (Nat → Int32))} {Q : Option Value → jm → Prop} {M : jm} (hI_M : RI M) (hH_M : RH M) (hS_M : RF M) {w : Int} (h_w : (-2147483648) ≤ w ∧ w ≤ 2147483647) (q : ∀ (r : Int) (M' : jm), RI M' → RH M' → RF M' → (-2147483648) ≤ r ∧ r ≤ 2147483647 → (∀ (a : Nat) (i : Int), a ≠ 603 → M' a i = M a i) → Q (some (.int (Int32.ofInt r))) M') : jc A 2 402 [.ref (598), .int (Int32.ofInt (w))] M Q := by
  refine jc_of (m := xm_402) rfl (Nat.le_of_ble_eq_true rfl) rfl ?_
  refine jr.aload_n rfl rfl ?_
  obtain ⟨v1, e1⟩ : ∃ z, M 598 140 = z := ⟨_, rfl⟩
  have b1 : 0 ≤ v1 ∧ v1 ≤ 1 := by rw [← e1]; exact hI_M 598 140 (by decide)
  refine jr.getf (i := 140) (x := v1) (v := .int (Int32.ofInt (v1))) rfl rfl (by decide) rfl (by decide) rfl rfl e1 rfl ?_
  refine jr.if_ne rfl rfl (by omega) (fun h4 => ?_) (fun h4 => ?_)
  · have sx4 : (1 : Int) ≤ v1 := by omega
    refine jr.iload_n rfl rfl ?_
    rcases (show w = 0 ∨ w = 1 ∨ w = 2 ∨ w = 3 ∨ w = 4 ∨ (w ≠ 0 ∧ w ≠ 1 ∧ w ≠ 2 ∧ w ≠ 3 ∧ w ≠ 4) by omega) with h10 | h10 | h10 | h10 | h10 | h10
    · refine jr.tsw_k 0 rfl h10 rfl ?_
      refine jr.aload_n rfl rfl ?_
      obtain ⟨v2, e2⟩ : ∃ z, M 598 141 = z := ⟨_, rfl⟩
      have b2 : 0 ≤ v2 ∧ v2 ≤ 8 := by rw [← e2]; exact hI_M 598 141 (by decide)
      refine jr.getf (i := 141) (x := v2) (v := .int (Int32.ofInt (v2))) rfl rfl (by decide) rfl (by decide) rfl rfl e2 rfl ?_
      exact jr.ireturn rfl rfl rfl (q _ _ hI_M hH_M hS_M  (by omega) (fun a i f603 => rfl))
    · refine jr.tsw_k 1 rfl h10 rfl ?_
      refine jr.aload_n rfl rfl ?_
      obtain ⟨v3, e3⟩ : ∃ z, M 598 142 = z := ⟨_, rfl⟩
      have b3 : (-9223372036854775808) ≤ v3 ∧ v3 ≤ 9223372036854775807 := by rw [← e3]; exact hI_M 598 142 (by decide)
      refine jr.getf (i := 142) (x := v3) (v := .long (Int64.ofInt (v3))) rfl rfl (by decide) rfl (by decide) rfl rfl e3 rfl ?_
      refine jr.l2i rfl ?_
      refine jr.iw (j_w v3) (j_w_eq _) ?_
      have b4 : -2147483648 ≤ j_w v3 ∧ j_w v3 ≤ 2147483647 := jb_any _
      generalize j_w v3 = v4 at b4 ⊢
      exact jr.ireturn rfl rfl rfl (q _ _ hI_M hH_M hS_M  (by omega) (fun a i f603 => rfl))
    · refine jr.tsw_k 2 rfl h10 rfl ?_
      refine jr.aload_n rfl rfl ?_
      obtain ⟨v5, e5⟩ : ∃ z, M 598 143 = z := ⟨_, rfl⟩
      have b5 : 0 ≤ v5 ∧ v5 ≤ 300 := by rw [← e5]; exact hI_M 598 143 (by decide)
      refine jr.getf (i := 143) (x := v5) (v := .int (Int32.ofInt (v5))) rfl rfl (by decide) rfl (by decide) rfl rfl e5 rfl ?_
      exact jr.ireturn rfl rfl rfl (q _ _ hI_M hH_M hS_M  (by omega) (fun a i f603 => rfl))
    · refine jr.tsw_k 3 rfl h10 rfl ?_
      refine jr.aload_n rfl rfl ?_
      obtain ⟨v6, e6⟩ : ∃ z, M 598 144 = z := ⟨_, rfl⟩
      have b6 : (-1) ≤ v6 ∧ v6 ≤ 15 := by rw [← e6]; exact hI_M 598 144 (by decide)
      refine jr.getf (i := 144) (x := v6) (v := .int (Int32.ofInt (v6))) rfl rfl (by decide) rfl (by decide) rfl rfl e6 rfl ?_
      exact jr.ireturn rfl rfl rfl (q _ _ hI_M hH_M hS_M  (by omega) (fun a i f603 => rfl))
    · refine jr.tsw_k 4 rfl h10 rfl ?_
      refine jr.aload_n rfl rfl ?_
      obtain ⟨v7, e7⟩ : ∃ z, M 598 145 = z := ⟨_, rfl⟩
      have b7 : 0 ≤ v7 ∧ v7 ≤ 40 := by rw [← e7]; exact hI_M 598 145 (by decide)
      refine jr.getf (i := 145) (x := v7) (v := .int (Int32.ofInt (v7))) rfl rfl (by decide) rfl (by decide) rfl rfl e7 rfl ?_
      exact jr.ireturn rfl rfl rfl (q _ _ hI_M hH_M hS_M  (by omega) (fun a i f603 => rfl))
    · refine jr.tsw_d rfl (by omega) (by omega) rfl ?_
      refine jr.iload_n rfl rfl ?_
      refine jr.i2l rfl (by omega) ?_
      refine jr.ldc2 (x := 10) rfl rfl (by decide) ?_
      refine jr.bipush rfl (by decide) ?_
      refine jr.aload_n rfl rfl ?_
      obtain ⟨v8, e8⟩ : ∃ z, M 598 145 = z := ⟨_, rfl⟩
      have b8 : 0 ≤ v8 ∧ v8 ≤ 40 := by rw [← e8]; exact hI_M 598 145 (by decide)
      refine jr.getf (i := 145) (x := v8) (v := .int (Int32.ofInt (v8))) rfl rfl (by decide) rfl (by decide) rfl rfl e8 rfl ?_
      refine jr.iadd rfl ?_
      refine jr.i2l rfl (by omega) ?_
      refine jr_s rfl rfl (Or.inl rfl) ⟨Nat.le_of_ble_eq_true rfl, Nat.le_of_ble_eq_true rfl⟩ rfl rfl (jc.deep (c_within (by omega) (by omega) (by omega) (fun l83 u83 => ?_) (fun n83 => ?_)) (by decide))
      · refine jr.if_eq rfl rfl (by omega) (fun h => absurd h (by decide)) (fun _ => ?_)
        refine jr.aload_n rfl rfl ?_
        refine jr.getf (i := 146) (v := .ref 687) rfl rfl (by decide) rfl (by decide) rfl rfl rfl rfl ?_
        refine jr.iload_n rfl rfl ?_
        refine jr.bipush rfl (by decide) ?_
        refine jr.isub rfl ?_
        obtain ⟨v9, e9⟩ : ∃ z, M 687 (w - 10) = z := ⟨_, rfl⟩
        have b9 : 0 ≤ v9 ∧ v9 ≤ 1600 := by rw [← e9]; exact (by have q := hI_M 687 (w - 10) (by decide); rw [xri_row rfl rfl] at q; exact q)
        refine jr.iald (i := (w - 10)) (x := v9) rfl (by decide) rfl (by decide) (by omega) (by omega) e9 ?_
        refine jr.goto rfl rfl ?_
        exact jr.ireturn rfl rfl rfl (q _ _ hI_M hH_M hS_M  (by omega) (fun a i f603 => rfl))
      · refine jr.if_eq rfl rfl (by omega) (fun _ => ?_) (fun h => absurd (by decide) h)
        refine jr.iconst rfl ?_
        exact jr.ireturn rfl rfl rfl (q _ _ hI_M hH_M hS_M  (by omega) (fun a i f603 => rfl))
  · refine jr.iconst rfl ?_
    exact jr.ireturn rfl rfl rfl (q _ _ hI_M hH_M hS_M  (by omega) (fun a i f603 => rfl))
theorem r_counter_x {A : Nat → Option (Nat × (Nat → Int32))} {Q : Option Value → jm → Prop} {M : jm} (hI_M : RI M) (hH_M : RH M) (hS_M : RF M) {k : Int} (h_k : (-2147483648) ≤ k ∧ k ≤ 2147483647) (q : ∀ (r : Int) (M' : jm), RI M' → RH M' → RF M' → (-9223372036854775808) ≤ r ∧ r ≤ 9223372036854775807 → (∀ (a : Nat) (i : Int), a ≠ 603 → M' a i = M a i) → Q (some (.long (Int64.ofInt r))) M') : jc A 2 403 [.ref (598), .int (Int32.ofInt (k))] M Q := by
  refine jc_of (m := xm_403) rfl (Nat.le_of_ble_eq_true rfl) rfl ?_
  refine jr.iload_n rfl rfl ?_
  refine jr.i2l rfl (by omega) ?_
  refine jr.lconst (x := 0) rfl (by decide) ?_
  refine jr.ldc2 (x := 7) rfl rfl (by decide) ?_
  refine jr_s rfl rfl (Or.inl rfl) ⟨Nat.le_of_ble_eq_true rfl, Nat.le_of_ble_eq_true rfl⟩ rfl rfl (jc.deep (c_within (by omega) (by omega) (by omega) (fun l6 u6 => ?_) (fun n6 => ?_)) (by decide))
  · refine jr.if_eq rfl rfl (by omega) (fun h => absurd h (by decide)) (fun _ => ?_)
    refine jr.aload_n rfl rfl ?_
    refine jr.getf (i := 114) (v := .ref 671) rfl rfl (by decide) rfl (by decide) rfl rfl rfl rfl ?_
    refine jr.iload_n rfl rfl ?_
    obtain ⟨v1, e1⟩ : ∃ z, M 671 k = z := ⟨_, rfl⟩
    have b1 : (-9223372036854775808) ≤ v1 ∧ v1 ≤ 9223372036854775807 := by rw [← e1]; exact (by have q := hI_M 671 k (by decide); rw [xri_row rfl rfl] at q; exact q)
    refine jr.lald (i := k) (x := v1) rfl (by decide) rfl (by decide) (by omega) (by omega) e1 ?_
    refine jr.goto rfl rfl ?_
    exact jr.lreturn rfl rfl (q _ _ hI_M hH_M hS_M  (by omega) (fun a i f603 => rfl))
  · refine jr.if_eq rfl rfl (by omega) (fun _ => ?_) (fun h => absurd (by decide) h)
    refine jr.ldc2 (x := (-1)) rfl rfl (by decide) ?_
    exact jr.lreturn rfl rfl (q _ _ hI_M hH_M hS_M  (by omega) (fun a i f603 => rfl))
theorem r_logged_x {A : Nat → Option (Nat × (Nat → Int32))} {Q : Option Value → jm → Prop} {M : jm} (hI_M : RI M) (hH_M : RH M) (hS_M : RF M) {i : Int} (h_i : (-2147483648) ≤ i ∧ i ≤ 2147483647) (q : ∀ (r : Int) (M' : jm), RI M' → RH M' → RF M' → (-9223372036854775808) ≤ r ∧ r ≤ 9223372036854775807 → (∀ (a : Nat) (i : Int), a ≠ 603 → M' a i = M a i) → Q (some (.long (Int64.ofInt r))) M') : jc A 2 404 [.ref (598), .int (Int32.ofInt (i))] M Q := by
  refine jc_of (m := xm_404) rfl (Nat.le_of_ble_eq_true rfl) rfl ?_
  refine jr.aload_n rfl rfl ?_
  obtain ⟨v1, e1⟩ : ∃ z, M 598 112 = z := ⟨_, rfl⟩
  have b1 : 0 ≤ v1 ∧ v1 ≤ 2147483647 := by rw [← e1]; exact hI_M 598 112 (by decide)
  refine jr.getf (i := 112) (x := v1) (v := .int (Int32.ofInt (v1))) rfl rfl (by decide) rfl (by decide) rfl rfl e1 rfl ?_
  refine jr.bipush rfl (by decide) ?_
  refine jr.icmp_ge rfl rfl (by omega) (by omega) (fun h6 => ?_) (fun h6 => ?_)
  · refine jr.bipush rfl (by decide) ?_
    refine jr.istore_n rfl (by decide) rfl ?_
    refine jr.iload_n rfl rfl ?_
    refine jr.i2l rfl (by omega) ?_
    refine jr.lconst (x := 0) rfl (by decide) ?_
    refine jr.iload_n rfl rfl ?_
    refine jr.iconst rfl ?_
    refine jr.isub rfl ?_
    refine jr.i2l rfl (by omega) ?_
    refine jr_s rfl rfl (Or.inl rfl) ⟨Nat.le_of_ble_eq_true rfl, Nat.le_of_ble_eq_true rfl⟩ rfl rfl (jc.deep (c_within (by omega) (by omega) (by omega) (fun l26 u26 => ?_) (fun n26 => ?_)) (by decide))
    · refine jr.if_eq rfl rfl (by omega) (fun h => absurd h (by decide)) (fun _ => ?_)
      refine jr.aload_n rfl rfl ?_
      refine jr.getf (i := 113) (v := .ref 670) rfl rfl (by decide) rfl (by decide) rfl rfl rfl rfl ?_
      refine jr.aload_n rfl rfl ?_
      refine jr.getf (i := 112) (x := v1) (v := .int (Int32.ofInt (v1))) rfl rfl (by decide) rfl (by decide) rfl rfl e1 rfl ?_
      refine jr.iconst rfl ?_
      refine jr.isub rfl ?_
      refine jr.iload_n rfl rfl ?_
      refine jr.isub rfl ?_
      refine jr.bipush rfl (by decide) ?_
      refine jr.irem rfl (by decide) ?_
      have b2 : j_rem ((v1 - 1) - i) 20 = ((v1 - 1) - i) % 20 := j_rem_ex (by omega) (by omega)
      generalize j_rem ((v1 - 1) - i) 20 = v2 at b2 ⊢
      obtain ⟨v3, e3⟩ : ∃ z, M 670 v2 = z := ⟨_, rfl⟩
      have b3 : (-9223372036854775808) ≤ v3 ∧ v3 ≤ 9223372036854775807 := by rw [← e3]; exact (by have q := hI_M 670 v2 (by decide); rw [xri_row rfl rfl] at q; exact q)
      refine jr.lald (i := v2) (x := v3) rfl (by decide) rfl (by decide) (by omega) (by omega) e3 ?_
      refine jr.goto rfl rfl ?_
      exact jr.lreturn rfl rfl (q _ _ hI_M hH_M hS_M  (by omega) (fun a i f603 => rfl))
    · refine jr.if_eq rfl rfl (by omega) (fun _ => ?_) (fun h => absurd (by decide) h)
      refine jr.ldc2 (x := (-1)) rfl rfl (by decide) ?_
      exact jr.lreturn rfl rfl (q _ _ hI_M hH_M hS_M  (by omega) (fun a i f603 => rfl))
  · refine jr.aload_n rfl rfl ?_
    refine jr.getf (i := 112) (x := v1) (v := .int (Int32.ofInt (v1))) rfl rfl (by decide) rfl (by decide) rfl rfl e1 rfl ?_
    refine jr.goto rfl rfl ?_
    refine jr.istore_n rfl (by decide) rfl ?_
    refine jr.iload_n rfl rfl ?_
    refine jr.i2l rfl (by omega) ?_
    refine jr.lconst (x := 0) rfl (by decide) ?_
    refine jr.iload_n rfl rfl ?_
    refine jr.iconst rfl ?_
    refine jr.isub rfl ?_
    refine jr.i2l rfl (by omega) ?_
    refine jr_s rfl rfl (Or.inl rfl) ⟨Nat.le_of_ble_eq_true rfl, Nat.le_of_ble_eq_true rfl⟩ rfl rfl (jc.deep (c_within (by omega) (by omega) (by omega) (fun l26 u26 => ?_) (fun n26 => ?_)) (by decide))
    · refine jr.if_eq rfl rfl (by omega) (fun h => absurd h (by decide)) (fun _ => ?_)
      refine jr.aload_n rfl rfl ?_
      refine jr.getf (i := 113) (v := .ref 670) rfl rfl (by decide) rfl (by decide) rfl rfl rfl rfl ?_
      refine jr.aload_n rfl rfl ?_
      refine jr.getf (i := 112) (x := v1) (v := .int (Int32.ofInt (v1))) rfl rfl (by decide) rfl (by decide) rfl rfl e1 rfl ?_
      refine jr.iconst rfl ?_
      refine jr.isub rfl ?_
      refine jr.iload_n rfl rfl ?_
      refine jr.isub rfl ?_
      refine jr.bipush rfl (by decide) ?_
      refine jr.irem rfl (by decide) ?_
      have b4 : j_rem ((v1 - 1) - i) 20 = ((v1 - 1) - i) % 20 := j_rem_ex (by omega) (by omega)
      generalize j_rem ((v1 - 1) - i) 20 = v4 at b4 ⊢
      obtain ⟨v5, e5⟩ : ∃ z, M 670 v4 = z := ⟨_, rfl⟩
      have b5 : (-9223372036854775808) ≤ v5 ∧ v5 ≤ 9223372036854775807 := by rw [← e5]; exact (by have q := hI_M 670 v4 (by decide); rw [xri_row rfl rfl] at q; exact q)
      refine jr.lald (i := v4) (x := v5) rfl (by decide) rfl (by decide) (by omega) (by omega) e5 ?_
      refine jr.goto rfl rfl ?_
      exact jr.lreturn rfl rfl (q _ _ hI_M hH_M hS_M  (by omega) (fun a i f603 => rfl))
    · refine jr.if_eq rfl rfl (by omega) (fun _ => ?_) (fun h => absurd (by decide) h)
      refine jr.ldc2 (x := (-1)) rfl rfl (by decide) ?_
      exact jr.lreturn rfl rfl (q _ _ hI_M hH_M hS_M  (by omega) (fun a i f603 => rfl))
theorem r_learned_x {A : Nat → Option (Nat × (Nat → Int32))} {Q : Option Value → jm → Prop} {M : jm} (hI_M : RI M) (hH_M : RH M) (hS_M : RF M) {k : Int} (h_k : (-2147483648) ≤ k ∧ k ≤ 2147483647) {i : Int} (h_i : (-2147483648) ≤ i ∧ i ≤ 2147483647) (q : ∀ (r : Int) (M' : jm), RI M' → RH M' → RF M' → (-9223372036854775808) ≤ r ∧ r ≤ 9223372036854775807 → (∀ (a : Nat) (i : Int), a ≠ 603 → M' a i = M a i) → Q (some (.long (Int64.ofInt r))) M') : jc A 2 405 [.ref (598), .int (Int32.ofInt (k)), .int (Int32.ofInt (i))] M Q := by
  refine jc_of (m := xm_405) rfl (Nat.le_of_ble_eq_true rfl) rfl ?_
  refine jr.iload_n rfl rfl ?_
  refine jr.i2l rfl (by omega) ?_
  refine jr.lconst (x := 0) rfl (by decide) ?_
  refine jr.ldc2 (x := 3) rfl rfl (by decide) ?_
  refine jr_s rfl rfl (Or.inl rfl) ⟨Nat.le_of_ble_eq_true rfl, Nat.le_of_ble_eq_true rfl⟩ rfl rfl (jc.deep (c_within (by omega) (by omega) (by omega) (fun l6 u6 => ?_) (fun n6 => ?_)) (by decide))
  · refine jr.if_ne rfl rfl (by omega) (fun _ => ?_) (fun h => absurd (by decide) h)
    refine jr.iload_n rfl rfl ?_
    refine jr.iconst rfl ?_
    refine jr.icmp_ne rfl rfl (by omega) (by omega) (fun h18 => ?_) (fun h18 => ?_)
    · refine jr.iload_n rfl rfl ?_
      refine jr.i2l rfl (by omega) ?_
      refine jr.lconst (x := 0) rfl (by decide) ?_
      refine jr.aload_n rfl rfl ?_
      refine jr.getf (i := 115) (v := .ref 672) rfl rfl (by decide) rfl (by decide) rfl rfl rfl rfl ?_
      refine jr.iload_n rfl rfl ?_
      obtain ⟨v1, e1⟩ : ∃ z, M 672 k = z := ⟨_, rfl⟩
      have b1 : 0 ≤ v1 ∧ v1 ≤ 16 := by rw [← e1]; exact (by have q := hI_M 672 k (by decide); rw [xri_row rfl rfl] at q; exact q)
      refine jr.iald (i := k) (x := v1) rfl (by decide) rfl (by decide) (by omega) (by omega) e1 ?_
      refine jr.iconst rfl ?_
      refine jr.isub rfl ?_
      refine jr.i2l rfl (by omega) ?_
      refine jr_s rfl rfl (Or.inl rfl) ⟨Nat.le_of_ble_eq_true rfl, Nat.le_of_ble_eq_true rfl⟩ rfl rfl (jc.deep (c_within (by omega) (by omega) (by omega) (fun l43 u43 => ?_) (fun n43 => ?_)) (by decide))
      · refine jr.if_eq rfl rfl (by omega) (fun h => absurd h (by decide)) (fun _ => ?_)
        refine jr.aload_n rfl rfl ?_
        refine jr.getf (i := 116) (v := .ref 673) rfl rfl (by decide) rfl (by decide) rfl rfl rfl rfl ?_
        refine jr.bipush rfl (by decide) ?_
        refine jr.iload_n rfl rfl ?_
        refine jr.imul rfl ?_
        refine jr.iload_n rfl rfl ?_
        refine jr.iadd rfl ?_
        obtain ⟨v2, e2⟩ : ∃ z, M 673 ((16 * k) + i) = z := ⟨_, rfl⟩
        have b2 : (-9223372036854775808) ≤ v2 ∧ v2 ≤ 9223372036854775807 := by rw [← e2]; exact (by have q := hI_M 673 ((16 * k) + i) (by decide); rw [xri_row rfl rfl] at q; exact q)
        refine jr.lald (i := ((16 * k) + i)) (x := v2) rfl (by decide) rfl (by decide) (by omega) (by omega) e2 ?_
        refine jr.goto rfl rfl ?_
        exact jr.lreturn rfl rfl (q _ _ hI_M hH_M hS_M  (by omega) (fun a i f603 => rfl))
      · refine jr.if_eq rfl rfl (by omega) (fun _ => ?_) (fun h => absurd (by decide) h)
        refine jr.ldc2 (x := (-1)) rfl rfl (by decide) ?_
        exact jr.lreturn rfl rfl (q _ _ hI_M hH_M hS_M  (by omega) (fun a i f603 => rfl))
    · refine jr.aload_n rfl rfl ?_
      refine jr.getf (i := 115) (v := .ref 672) rfl rfl (by decide) rfl (by decide) rfl rfl rfl rfl ?_
      refine jr.iload_n rfl rfl ?_
      obtain ⟨v3, e3⟩ : ∃ z, M 672 k = z := ⟨_, rfl⟩
      have b3 : 0 ≤ v3 ∧ v3 ≤ 16 := by rw [← e3]; exact (by have q := hI_M 672 k (by decide); rw [xri_row rfl rfl] at q; exact q)
      refine jr.iald (i := k) (x := v3) rfl (by decide) rfl (by decide) (by omega) (by omega) e3 ?_
      refine jr.i2l rfl (by omega) ?_
      refine jr.goto rfl rfl ?_
      exact jr.lreturn rfl rfl (q _ _ hI_M hH_M hS_M  (by omega) (fun a i f603 => rfl))
  · refine jr.if_ne rfl rfl (by omega) (fun h => absurd h (by decide)) (fun _ => ?_)
    refine jr.ldc2 (x := (-1)) rfl rfl (by decide) ?_
    exact jr.lreturn rfl rfl (q _ _ hI_M hH_M hS_M  (by omega) (fun a i f603 => rfl))
theorem r_rowAt_x {A : Nat → Option (Nat × (Nat → Int32))} {Q : Option Value → jm → Prop} {M : jm} (hI_M : RI M) (hH_M : RH M) (hS_M : RF M) {k : Int} (h_k : (-2147483648) ≤ k ∧ k ≤ 2147483647) {i : Int} (h_i : (-2147483648) ≤ i ∧ i ≤ 2147483647) (q : ∀ (r : Int) (M' : jm), RI M' → RH M' → RF M' → (-9223372036854775808) ≤ r ∧ r ≤ 9223372036854775807 → (∀ (a : Nat) (i : Int), a ≠ 603 → M' a i = M a i) → Q (some (.long (Int64.ofInt r))) M') : jc A 2 406 [.ref (598), .int (Int32.ofInt (k)), .int (Int32.ofInt (i))] M Q := by
  refine jc_of (m := xm_406) rfl (Nat.le_of_ble_eq_true rfl) rfl ?_
  refine jr.iload_n rfl rfl ?_
  refine jr.i2l rfl (by omega) ?_
  refine jr.lconst (x := 0) rfl (by decide) ?_
  refine jr.ldc2 (x := 7) rfl rfl (by decide) ?_
  refine jr_s rfl rfl (Or.inl rfl) ⟨Nat.le_of_ble_eq_true rfl, Nat.le_of_ble_eq_true rfl⟩ rfl rfl (jc.deep (c_within (by omega) (by omega) (by omega) (fun l6 u6 => ?_) (fun n6 => ?_)) (by decide))
  · refine jr.if_ne rfl rfl (by omega) (fun _ => ?_) (fun h => absurd (by decide) h)
    refine jr.iload_n rfl rfl ?_
    refine jr.iconst rfl ?_
    refine jr.icmp_ne rfl rfl (by omega) (by omega) (fun h18 => ?_) (fun h18 => ?_)
    · refine jr.aload_n rfl rfl ?_
      refine jr.getf (i := 117) (v := .ref 674) rfl rfl (by decide) rfl (by decide) rfl rfl rfl rfl ?_
      refine jr.iload_n rfl rfl ?_
      obtain ⟨v1, e1⟩ : ∃ z, M 674 k = z := ⟨_, rfl⟩
      have b1 : (-1) ≤ v1 ∧ v1 ≤ 6 := by rw [← e1]; exact (by have q := hI_M 674 k (by decide); rw [xri_row rfl rfl] at q; exact q)
      refine jr.iald (i := k) (x := v1) rfl (by decide) rfl (by decide) (by omega) (by omega) e1 ?_
      refine jr.iconst rfl ?_
      refine jr.icmp_eq rfl rfl (by omega) (by omega) (fun h36 => ?_) (fun h36 => ?_)
      · refine jr.ldc2 (x := (-1)) rfl rfl (by decide) ?_
        exact jr.lreturn rfl rfl (q _ _ hI_M hH_M hS_M  (by omega) (fun a i f603 => rfl))
      · have sx36 : (0 : Int) ≤ v1 := by omega
        refine jr.iload_n rfl rfl ?_
        refine jr.i2l rfl (by omega) ?_
        refine jr.lconst (x := 0) rfl (by decide) ?_
        refine jr.aload_n rfl rfl ?_
        refine jr.getf (i := 118) (v := .ref 675) rfl rfl (by decide) rfl (by decide) rfl rfl rfl rfl ?_
        refine jr.iload_n rfl rfl ?_
        obtain ⟨v2, e2⟩ : ∃ z, M 675 k = z := ⟨_, rfl⟩
        have b2 : 0 ≤ v2 ∧ v2 ≤ 40 := by rw [← e2]; exact (by have q := hI_M 675 k (by decide); rw [xri_row rfl rfl] at q; exact q)
        refine jr.iald (i := k) (x := v2) rfl (by decide) rfl (by decide) (by omega) (by omega) e2 ?_
        refine jr.iconst rfl ?_
        refine jr.isub rfl ?_
        refine jr.i2l rfl (by omega) ?_
        refine jr_s rfl rfl (Or.inl rfl) ⟨Nat.le_of_ble_eq_true rfl, Nat.le_of_ble_eq_true rfl⟩ rfl rfl (jc.deep (c_within (by omega) (by omega) (by omega) (fun l51 u51 => ?_) (fun n51 => ?_)) (by decide))
        · refine jr.if_ne rfl rfl (by omega) (fun _ => ?_) (fun h => absurd (by decide) h)
          refine jr.aload_n rfl rfl ?_
          refine jr.getf (i := 117) (v := .ref 674) rfl rfl (by decide) rfl (by decide) rfl rfl rfl rfl ?_
          refine jr.iload_n rfl rfl ?_
          refine jr.iald (i := k) (x := v1) rfl (by decide) rfl (by decide) (by omega) (by omega) e1 ?_
          refine jr.iconst rfl ?_
          refine jr.icmp_le rfl rfl (by omega) (by omega) (fun h68 => ?_) (fun h68 => ?_)
          · refine jr.aload_n rfl rfl ?_
            refine jr.getf (i := 119) (v := .ref 676) rfl rfl (by decide) rfl (by decide) rfl rfl rfl rfl ?_
            refine jr.bipush rfl (by decide) ?_
            refine jr.iload_n rfl rfl ?_
            refine jr.imul rfl ?_
            refine jr.iload_n rfl rfl ?_
            refine jr.iadd rfl ?_
            obtain ⟨v3, e3⟩ : ∃ z, M 676 ((40 * k) + i) = z := ⟨_, rfl⟩
            have b3 : (-9223372036854775808) ≤ v3 ∧ v3 ≤ 9223372036854775807 := by rw [← e3]; exact (by have q := hI_M 676 ((40 * k) + i) (by decide); rw [xri_row rfl rfl] at q; exact q)
            refine jr.lald (i := ((40 * k) + i)) (x := v3) rfl (by decide) rfl (by decide) (by omega) (by omega) e3 ?_
            exact jr.lreturn rfl rfl (q _ _ hI_M hH_M hS_M  (by omega) (fun a i f603 => rfl))
          · refine jr.aload_n rfl rfl ?_
            refine jr.getf (i := 120) (v := .ref 677) rfl rfl (by decide) rfl (by decide) rfl rfl rfl rfl ?_
            refine jr.bipush rfl (by decide) ?_
            refine jr.iload_n rfl rfl ?_
            refine jr.imul rfl ?_
            refine jr.iload_n rfl rfl ?_
            refine jr.iadd rfl ?_
            obtain ⟨v4, e4⟩ : ∃ z, M 677 ((40 * k) + i) = z := ⟨_, rfl⟩
            have b4 : (-1) ≤ v4 ∧ v4 ≤ 11 := by rw [← e4]; exact (by have q := hI_M 677 ((40 * k) + i) (by decide); rw [xri_row rfl rfl] at q; exact q)
            refine jr.iald (i := ((40 * k) + i)) (x := v4) rfl (by decide) rfl (by decide) (by omega) (by omega) e4 ?_
            refine jr.i2l rfl (by omega) ?_
            refine jr.goto rfl rfl ?_
            exact jr.lreturn rfl rfl (q _ _ hI_M hH_M hS_M  (by omega) (fun a i f603 => rfl))
        · refine jr.if_ne rfl rfl (by omega) (fun h => absurd h (by decide)) (fun _ => ?_)
          refine jr.ldc2 (x := (-1)) rfl rfl (by decide) ?_
          exact jr.lreturn rfl rfl (q _ _ hI_M hH_M hS_M  (by omega) (fun a i f603 => rfl))
    · refine jr.aload_n rfl rfl ?_
      refine jr.getf (i := 117) (v := .ref 674) rfl rfl (by decide) rfl (by decide) rfl rfl rfl rfl ?_
      refine jr.iload_n rfl rfl ?_
      obtain ⟨v5, e5⟩ : ∃ z, M 674 k = z := ⟨_, rfl⟩
      have b5 : (-1) ≤ v5 ∧ v5 ≤ 6 := by rw [← e5]; exact (by have q := hI_M 674 k (by decide); rw [xri_row rfl rfl] at q; exact q)
      refine jr.iald (i := k) (x := v5) rfl (by decide) rfl (by decide) (by omega) (by omega) e5 ?_
      refine jr.i2l rfl (by omega) ?_
      exact jr.lreturn rfl rfl (q _ _ hI_M hH_M hS_M  (by omega) (fun a i f603 => rfl))
  · refine jr.if_ne rfl rfl (by omega) (fun h => absurd h (by decide)) (fun _ => ?_)
    refine jr.ldc2 (x := (-3)) rfl rfl (by decide) ?_
    exact jr.lreturn rfl rfl (q _ _ hI_M hH_M hS_M  (by omega) (fun a i f603 => rfl))
theorem r_bucket_x {A : Nat → Option (Nat × (Nat → Int32))} {Q : Option Value → jm → Prop} {M : jm} (hI_M : RI M) (hH_M : RH M) (hS_M : RF M) {k : Int} (h_k : (-2147483648) ≤ k ∧ k ≤ 2147483647) {c : Int} (h_c : (-2147483648) ≤ c ∧ c ≤ 2147483647) {e : Int} (h_e : (-2147483648) ≤ e ∧ e ≤ 2147483647) (q : ∀ (r : Int) (M' : jm), RI M' → RH M' → RF M' → (-3) ≤ r ∧ r ≤ 1000 → (∀ (a : Nat) (i : Int), a ≠ 623 → a ≠ 624 → a ≠ 625 → a ≠ 626 → M' a i = M a i) → Q (some (.int (Int32.ofInt r))) M') : jc A 2 299 [.ref (598), .int (Int32.ofInt (k)), .int (Int32.ofInt (c)), .int (Int32.ofInt (e))] M Q := by
  refine jc_of (m := xm_299) rfl (Nat.le_of_ble_eq_true rfl) rfl ?_
  refine jr.iload_n rfl rfl ?_
  refine jr.i2l rfl (by omega) ?_
  refine jr.lconst (x := 0) rfl (by decide) ?_
  refine jr.ldc2 (x := 3) rfl rfl (by decide) ?_
  refine jr_s rfl rfl (Or.inl rfl) ⟨Nat.le_of_ble_eq_true rfl, Nat.le_of_ble_eq_true rfl⟩ rfl rfl (jc.deep (c_within (by omega) (by omega) (by omega) (fun l6 u6 => ?_) (fun n6 => ?_)) (by decide))
  · refine jr.if_eq rfl rfl (by omega) (fun h => absurd h (by decide)) (fun _ => ?_)
    refine jr.iload_n rfl rfl ?_
    refine jr.i2l rfl (by omega) ?_
    refine jr.lconst (x := 0) rfl (by decide) ?_
    refine jr.ldc2 (x := 1000) rfl rfl (by decide) ?_
    refine jr_s rfl rfl (Or.inl rfl) ⟨Nat.le_of_ble_eq_true rfl, Nat.le_of_ble_eq_true rfl⟩ rfl rfl (jc.deep (c_within (by omega) (by omega) (by omega) (fun l18 u18 => ?_) (fun n18 => ?_)) (by decide))
    · refine jr.if_eq rfl rfl (by omega) (fun h => absurd h (by decide)) (fun _ => ?_)
      refine jr.iload_n rfl rfl ?_
      refine jr.i2l rfl (by omega) ?_
      refine jr.lconst (x := 1) rfl (by decide) ?_
      refine jr.ldc2 (x := 1000) rfl rfl (by decide) ?_
      refine jr_s rfl rfl (Or.inl rfl) ⟨Nat.le_of_ble_eq_true rfl, Nat.le_of_ble_eq_true rfl⟩ rfl rfl (jc.deep (c_within (by omega) (by omega) (by omega) (fun l30 u30 => ?_) (fun n30 => ?_)) (by decide))
      · refine jr.if_ne rfl rfl (by omega) (fun _ => ?_) (fun h => absurd (by decide) h)
        refine jr.aload_n rfl rfl ?_
        refine jr.getf (i := 35) (v := .ref 623) rfl rfl (by decide) rfl (by decide) rfl rfl rfl rfl ?_
        refine jr.iload_n rfl rfl ?_
        refine jr.iload_n rfl rfl ?_
        refine jr.iast (i := k) (x := c) rfl (by decide) rfl (by decide) (by omega) (by omega) ?_
        refine jr.aload_n rfl rfl ?_
        refine jr.getf (i := 36) (v := .ref 624) rfl rfl (by decide) rfl (by decide) rfl rfl rfl rfl ?_
        refine jr.iload_n rfl rfl ?_
        refine jr.iload_n rfl rfl ?_
        refine jr.iast (i := k) (x := c) rfl (by decide) rfl (by decide) (by omega) (by omega) ?_
        refine jr.aload_n rfl rfl ?_
        refine jr.getf (i := 37) (v := .ref 625) rfl rfl (by decide) rfl (by decide) rfl rfl rfl rfl ?_
        refine jr.iload_n rfl rfl ?_
        refine jr.iload_n rfl rfl ?_
        refine jr.iast (i := k) (x := e) rfl (by decide) rfl (by decide) (by omega) (by omega) ?_
        refine jr.aload_n rfl rfl ?_
        refine jr.getf (i := 38) (v := .ref 626) rfl rfl (by decide) rfl (by decide) rfl rfl rfl rfl ?_
        refine jr.iload_n rfl rfl ?_
        refine jr.aload_n rfl rfl ?_
        obtain ⟨v1, e1⟩ : ∃ z, M 598 2 = z := ⟨_, rfl⟩
        have b1 : 0 ≤ v1 ∧ v1 ≤ 2000000 := by rw [← e1]; exact hI_M 598 2 (by decide)
        refine jr.getf (i := 2) (x := v1) (v := .int (Int32.ofInt (v1))) rfl rfl (by decide) rfl (by decide) rfl rfl ((ju_c _ _ (by decide)).trans ((ju_c _ _ (by decide)).trans ((ju_c _ _ (by decide)).trans e1))) rfl ?_
        refine jr.iast (i := k) (x := v1) rfl (by decide) rfl (by decide) (by omega) (by omega) ?_
        refine jr.iload_n rfl rfl ?_
        exact jr.ireturn rfl rfl rfl (q _ _ (RI.u (RI.u (RI.u (RI.u hI_M (a := 623) (i := k) (by rw [xri_row rfl rfl]; show (0 : Int) ≤ _ ∧ _ ≤ (1000 : Int); omega)) (a := 624) (i := k) (by rw [xri_row rfl rfl]; show (0 : Int) ≤ _ ∧ _ ≤ (1000 : Int); omega)) (a := 625) (i := k) (by rw [xri_row rfl rfl]; show (0 : Int) ≤ _ ∧ _ ≤ (1000 : Int); omega)) (a := 626) (i := k) (by rw [xri_row rfl rfl]; show (0 : Int) ≤ _ ∧ _ ≤ (2000000 : Int); omega)) (RH.o (RH.o (RH.o (RH.o hH_M (by decide) (by decide) (by decide)) (by decide) (by decide) (by decide)) (by decide) (by decide) (by decide)) (by decide) (by decide) (by decide)) (RF.o (RF.o (RF.o (RF.o hS_M (by decide) (by decide)) (by decide) (by decide)) (by decide) (by decide)) (by decide) (by decide))  (by omega) (fun a i f623 f624 f625 f626 => ((ju_c _ _ f626).trans ((ju_c _ _ f625).trans ((ju_c _ _ f624).trans ((ju_c _ _ f623).trans rfl))))))
      · refine jr.if_ne rfl rfl (by omega) (fun h => absurd h (by decide)) (fun _ => ?_)
        refine jr.bipush rfl (by decide) ?_
        exact jr.ireturn rfl rfl rfl (q _ _ hI_M hH_M hS_M  (by omega) (fun a i f623 f624 f625 f626 => rfl))
    · refine jr.if_eq rfl rfl (by omega) (fun _ => ?_) (fun h => absurd (by decide) h)
      refine jr.bipush rfl (by decide) ?_
      exact jr.ireturn rfl rfl rfl (q _ _ hI_M hH_M hS_M  (by omega) (fun a i f623 f624 f625 f626 => rfl))
  · refine jr.if_eq rfl rfl (by omega) (fun _ => ?_) (fun h => absurd (by decide) h)
    refine jr.bipush rfl (by decide) ?_
    exact jr.ireturn rfl rfl rfl (q _ _ hI_M hH_M hS_M  (by omega) (fun a i f623 f624 f625 f626 => rfl))
theorem r_has_x {A : Nat → Option (Nat × (Nat → Int32))} {Q : Option Value → jm → Prop} {M : jm} (hI_M : RI M) (hH_M : RH M) (hS_M : RF M) {k : Int} (h_k : (-2147483648) ≤ k ∧ k ≤ 2147483647) (q : ∀ (r : Int) (M' : jm), RI M' → RH M' → RF M' → (-3) ≤ r ∧ r ≤ 1000 → (∀ (a : Nat) (i : Int), a ≠ 603 → M' a i = M a i) → Q (some (.int (Int32.ofInt r))) M') : jc A 2 300 [.ref (598), .int (Int32.ofInt (k))] M Q := by
  refine jc_of (m := xm_300) rfl (Nat.le_of_ble_eq_true rfl) rfl ?_
  refine jr.iload_n rfl rfl ?_
  refine jr.i2l rfl (by omega) ?_
  refine jr.lconst (x := 0) rfl (by decide) ?_
  refine jr.ldc2 (x := 3) rfl rfl (by decide) ?_
  refine jr_s rfl rfl (Or.inl rfl) ⟨Nat.le_of_ble_eq_true rfl, Nat.le_of_ble_eq_true rfl⟩ rfl rfl (jc.deep (c_within (by omega) (by omega) (by omega) (fun l6 u6 => ?_) (fun n6 => ?_)) (by decide))
  · refine jr.if_eq rfl rfl (by omega) (fun h => absurd h (by decide)) (fun _ => ?_)
    refine jr.aload_n rfl rfl ?_
    refine jr.getf (i := 36) (v := .ref 624) rfl rfl (by decide) rfl (by decide) rfl rfl rfl rfl ?_
    refine jr.iload_n rfl rfl ?_
    obtain ⟨v1, e1⟩ : ∃ z, M 624 k = z := ⟨_, rfl⟩
    have b1 : 0 ≤ v1 ∧ v1 ≤ 1000 := by rw [← e1]; exact (by have q := hI_M 624 k (by decide); rw [xri_row rfl rfl] at q; exact q)
    refine jr.iald (i := k) (x := v1) rfl (by decide) rfl (by decide) (by omega) (by omega) e1 ?_
    refine jr.goto rfl rfl ?_
    exact jr.ireturn rfl rfl rfl (q _ _ hI_M hH_M hS_M  (by omega) (fun a i f603 => rfl))
  · refine jr.if_eq rfl rfl (by omega) (fun _ => ?_) (fun h => absurd (by decide) h)
    refine jr.bipush rfl (by decide) ?_
    exact jr.ireturn rfl rfl rfl (q _ _ hI_M hH_M hS_M  (by omega) (fun a i f603 => rfl))
theorem r_mark_335_x {A : Nat → Option (Nat × (Nat → Int32))} {Q : Option Value → jm → Prop} {M : jm} (hI_M : RI M) (hH_M : RH M) (hS_M : RF M) {x : Int} (h_x : (-2147483648) ≤ x ∧ x ≤ 2147483647) (q : ∀ (r : Int) (M' : jm), RI M' → RH M' → RF M' → (-9223372036854775808) ≤ r ∧ r ≤ 9223372036854775807 → (∀ (a : Nat) (i : Int), a ≠ 603 → M' a i = M a i) → Q (some (.long (Int64.ofInt r))) M') : jc A 4 335 [.ref (598), .int (Int32.ofInt (x))] M Q := by
  refine jc_of (m := xm_335) rfl (Nat.le_of_ble_eq_true rfl) rfl ?_
  refine jr.aload_n rfl rfl ?_
  refine jr.iload_n rfl rfl ?_
  refine jr_v rfl rfl (Or.inl rfl) rfl rfl (by decide) rfl ⟨rfl, Nat.le_of_ble_eq_true rfl, Nat.le_of_ble_eq_true rfl⟩ rfl (jc.deep (c_isThere hI_M (by omega) (fun l2 u2 t2 => ?_) (fun n2 => ?_)) (by decide))
  · refine jr.if_eq rfl rfl (by omega) (fun h => absurd h (by decide)) (fun _ => ?_)
    refine jr.aload_n rfl rfl ?_
    refine jr.getf (i := 5) (v := .ref 602) rfl rfl (by decide) rfl (by decide) rfl rfl rfl rfl ?_
    refine jr.iload_n rfl rfl ?_
    obtain ⟨v1, e1⟩ : ∃ z, M 602 x = z := ⟨_, rfl⟩
    have b1 : (-9223372036854775808) ≤ v1 ∧ v1 ≤ 9223372036854775807 := by rw [← e1]; exact (by have q := hI_M 602 x (by decide); rw [xri_row rfl rfl] at q; exact q)
    refine jr.lald (i := x) (x := v1) rfl (by decide) rfl (by decide) (by omega) (by omega) e1 ?_
    refine jr.goto rfl rfl ?_
    exact jr.lreturn rfl rfl (q _ _ hI_M hH_M hS_M  (by omega) (fun a i f603 => rfl))
  · refine jr.if_eq rfl rfl (by omega) (fun _ => ?_) (fun h => absurd (by decide) h)
    refine jr.lconst (x := 0) rfl (by decide) ?_
    exact jr.lreturn rfl rfl (q _ _ hI_M hH_M hS_M  (by omega) (fun a i f603 => rfl))
theorem r_told_L122_x {A : Nat → Option (Nat × (Nat → Int32))} {Q : Option Value → jm → Prop} {M0 : jm} (q : ∀ (r : Int) (M' : jm), RI M' → RH M' → RF M' → (-2147483648) ≤ r ∧ r ≤ 2147483647 → (∀ (a : Nat) (i : Int), a ≠ 603 → M' a i = M0 a i) → Q (some (.int (Int32.ofInt r))) M') : ∀ (nM : Nat) (M : jm) (k : Int) (c : Int) (w : Int), RI M → RH M → RF M → (∀ (a : Nat) (i : Int), a ≠ 603 → M a i = M0 a i) → 0 ≤ k ∧ k ≤ 24 → 0 ≤ c ∧ c ≤ 24 → (-2147483648) ≤ w ∧ w ≤ 2147483647 → c ≤ k → 24 - k ≤ nM → jr A 0 xm_336 122 [(3, .int (Int32.ofInt (k))), (2, .int (Int32.ofInt (c))), (1, .int (Int32.ofInt (w))), (0, .ref (598))] [] M Q := by
  intro nM
  induction nM using Nat.strongRecOn with
  | ind nM ih =>
    intro M k c w hI_M hH_M hS_M hF_M h_k h_c h_w hy0 hm
    refine jr.iload_n rfl rfl ?_
    refine jr.bipush rfl (by decide) ?_
    refine jr.icmp_ge rfl rfl (by omega) (by omega) (fun h125 => ?_) (fun h125 => ?_)
    · refine jr.iload_n rfl rfl ?_
      exact jr.ireturn rfl rfl rfl (q _ _ hI_M hH_M hS_M  (by omega) (fun a i f603 => (hF_M a i f603)))
    · refine jr.iload_n rfl rfl ?_
      refine jr.aload_n rfl rfl ?_
      refine jr.getf (i := 39) (v := .ref 627) rfl rfl (by decide) rfl (by decide) rfl rfl rfl rfl ?_
      refine jr.iload_n rfl rfl ?_
      obtain ⟨v1, e1⟩ : ∃ z, M 627 k = z := ⟨_, rfl⟩
      have b1 : 0 ≤ v1 ∧ v1 ≤ 1 := by rw [← e1]; exact (by have q := hI_M 627 k (by decide); rw [xri_row rfl rfl] at q; exact q)
      refine jr.zald (i := k) (x := v1) rfl (by decide) rfl (by decide) (by omega) (by omega) e1 ?_
      refine jr.if_eq rfl rfl (by omega) (fun h135 => ?_) (fun h135 => ?_)
      · refine jr.iconst rfl ?_
        refine jr.iadd rfl ?_
        refine jr.istore_n rfl (by decide) rfl ?_
        refine jr.iinc rfl rfl (by decide) rfl ?_
        refine jr.goto rfl rfl ?_
        refine jr.pick [0, 1, 2, 3] rfl rfl ?_
        exact ih (nM - 1) (by omega) M (k + 1) (c + 0) w hI_M hH_M hS_M  (fun a i f603 => (hF_M a i f603)) (by omega) (by omega) (by omega) (by omega) (by omega)
      · have sx135 : (1 : Int) ≤ v1 := by omega
        refine jr.iconst rfl ?_
        refine jr.goto rfl rfl ?_
        refine jr.iadd rfl ?_
        refine jr.istore_n rfl (by decide) rfl ?_
        refine jr.iinc rfl rfl (by decide) rfl ?_
        refine jr.goto rfl rfl ?_
        refine jr.pick [0, 1, 2, 3] rfl rfl ?_
        exact ih (nM - 1) (by omega) M (k + 1) (c + 1) w hI_M hH_M hS_M  (fun a i f603 => (hF_M a i f603)) (by omega) (by omega) (by omega) (by omega) (by omega)
theorem r_told_L89_x {A : Nat → Option (Nat × (Nat → Int32))} {Q : Option Value → jm → Prop} {M0 : jm} (q : ∀ (r : Int) (M' : jm), RI M' → RH M' → RF M' → (-2147483648) ≤ r ∧ r ≤ 2147483647 → (∀ (a : Nat) (i : Int), a ≠ 603 → M' a i = M0 a i) → Q (some (.int (Int32.ofInt r))) M') : ∀ (nM : Nat) (M : jm) (k : Int) (c : Int) (w : Int), RI M → RH M → RF M → (∀ (a : Nat) (i : Int), a ≠ 603 → M a i = M0 a i) → 0 ≤ k ∧ k ≤ 8 → 0 ≤ c ∧ c ≤ 24 → (-2147483648) ≤ w ∧ w ≤ 2147483647 → c ≤ k → 8 - k ≤ nM → jr A 0 xm_336 89 [(3, .int (Int32.ofInt (k))), (2, .int (Int32.ofInt (c))), (1, .int (Int32.ofInt (w))), (0, .ref (598))] [] M Q := by
  intro nM
  induction nM using Nat.strongRecOn with
  | ind nM ih =>
    intro M k c w hI_M hH_M hS_M hF_M h_k h_c h_w hy0 hm
    refine jr.iload_n rfl rfl ?_
    refine jr.bipush rfl (by decide) ?_
    refine jr.icmp_ge rfl rfl (by omega) (by omega) (fun h92 => ?_) (fun h92 => ?_)
    · refine jr.iload_n rfl rfl ?_
      exact jr.ireturn rfl rfl rfl (q _ _ hI_M hH_M hS_M  (by omega) (fun a i f603 => (hF_M a i f603)))
    · refine jr.iload_n rfl rfl ?_
      refine jr.aload_n rfl rfl ?_
      refine jr.getf (i := 17) (v := .ref 606) rfl rfl (by decide) rfl (by decide) rfl rfl rfl rfl ?_
      refine jr.iload_n rfl rfl ?_
      obtain ⟨v1, e1⟩ : ∃ z, M 606 k = z := ⟨_, rfl⟩
      have b1 : 0 ≤ v1 ∧ v1 ≤ 1 := by rw [← e1]; exact (by have q := hI_M 606 k (by decide); rw [xri_row rfl rfl] at q; exact q)
      refine jr.zald (i := k) (x := v1) rfl (by decide) rfl (by decide) (by omega) (by omega) e1 ?_
      refine jr.if_eq rfl rfl (by omega) (fun h102 => ?_) (fun h102 => ?_)
      · refine jr.iconst rfl ?_
        refine jr.iadd rfl ?_
        refine jr.istore_n rfl (by decide) rfl ?_
        refine jr.iinc rfl rfl (by decide) rfl ?_
        refine jr.goto rfl rfl ?_
        refine jr.pick [0, 1, 2, 3] rfl rfl ?_
        exact ih (nM - 1) (by omega) M (k + 1) (c + 0) w hI_M hH_M hS_M  (fun a i f603 => (hF_M a i f603)) (by omega) (by omega) (by omega) (by omega) (by omega)
      · have sx102 : (1 : Int) ≤ v1 := by omega
        refine jr.iconst rfl ?_
        refine jr.goto rfl rfl ?_
        refine jr.iadd rfl ?_
        refine jr.istore_n rfl (by decide) rfl ?_
        refine jr.iinc rfl rfl (by decide) rfl ?_
        refine jr.goto rfl rfl ?_
        refine jr.pick [0, 1, 2, 3] rfl rfl ?_
        exact ih (nM - 1) (by omega) M (k + 1) (c + 1) w hI_M hH_M hS_M  (fun a i f603 => (hF_M a i f603)) (by omega) (by omega) (by omega) (by omega) (by omega)
theorem r_told_L55_x {A : Nat → Option (Nat × (Nat → Int32))} {Q : Option Value → jm → Prop} {M0 : jm} (q : ∀ (r : Int) (M' : jm), RI M' → RH M' → RF M' → (-2147483648) ≤ r ∧ r ≤ 2147483647 → (∀ (a : Nat) (i : Int), a ≠ 603 → M' a i = M0 a i) → Q (some (.int (Int32.ofInt r))) M') : ∀ (nM : Nat) (M : jm) (k : Int) (c : Int) (w : Int), RI M → RH M → RF M → (∀ (a : Nat) (i : Int), a ≠ 603 → M a i = M0 a i) → 0 ≤ k ∧ k ≤ 24 → 0 ≤ c ∧ c ≤ 24 → (-2147483648) ≤ w ∧ w ≤ 2147483647 → c ≤ k → 24 - k ≤ nM → jr A 0 xm_336 55 [(3, .int (Int32.ofInt (k))), (2, .int (Int32.ofInt (c))), (1, .int (Int32.ofInt (w))), (0, .ref (598))] [] M Q := by
  intro nM
  induction nM using Nat.strongRecOn with
  | ind nM ih =>
    intro M k c w hI_M hH_M hS_M hF_M h_k h_c h_w hy0 hm
    refine jr.iload_n rfl rfl ?_
    refine jr.bipush rfl (by decide) ?_
    refine jr.icmp_ge rfl rfl (by omega) (by omega) (fun h58 => ?_) (fun h58 => ?_)
    · refine jr.iload_n rfl rfl ?_
      exact jr.ireturn rfl rfl rfl (q _ _ hI_M hH_M hS_M  (by omega) (fun a i f603 => (hF_M a i f603)))
    · refine jr.iload_n rfl rfl ?_
      refine jr.aload_n rfl rfl ?_
      refine jr.getf (i := 3) (v := .ref 600) rfl rfl (by decide) rfl (by decide) rfl rfl rfl rfl ?_
      refine jr.iload_n rfl rfl ?_
      obtain ⟨v1, e1⟩ : ∃ z, M 600 k = z := ⟨_, rfl⟩
      have b1 : (-1) ≤ v1 ∧ v1 ≤ 400 := by rw [← e1]; exact (by have q := hI_M 600 k (by decide); rw [xri_row rfl rfl] at q; exact q)
      refine jr.iald (i := k) (x := v1) rfl (by decide) rfl (by decide) (by omega) (by omega) e1 ?_
      refine jr.iconst rfl ?_
      refine jr.icmp_ne rfl rfl (by omega) (by omega) (fun h69 => ?_) (fun h69 => ?_)
      · have sx69 : (0 : Int) ≤ v1 := by omega
        refine jr.iconst rfl ?_
        refine jr.iadd rfl ?_
        refine jr.istore_n rfl (by decide) rfl ?_
        refine jr.iinc rfl rfl (by decide) rfl ?_
        refine jr.goto rfl rfl ?_
        refine jr.pick [0, 1, 2, 3] rfl rfl ?_
        exact ih (nM - 1) (by omega) M (k + 1) (c + 1) w hI_M hH_M hS_M  (fun a i f603 => (hF_M a i f603)) (by omega) (by omega) (by omega) (by omega) (by omega)
      · refine jr.iconst rfl ?_
        refine jr.goto rfl rfl ?_
        refine jr.iadd rfl ?_
        refine jr.istore_n rfl (by decide) rfl ?_
        refine jr.iinc rfl rfl (by decide) rfl ?_
        refine jr.goto rfl rfl ?_
        refine jr.pick [0, 1, 2, 3] rfl rfl ?_
        exact ih (nM - 1) (by omega) M (k + 1) (c + 0) w hI_M hH_M hS_M  (fun a i f603 => (hF_M a i f603)) (by omega) (by omega) (by omega) (by omega) (by omega)
theorem r_told_x {A : Nat → Option (Nat × (Nat → Int32))} {Q : Option Value → jm → Prop} {M : jm} (hI_M : RI M) (hH_M : RH M) (hS_M : RF M) {w : Int} (h_w : (-2147483648) ≤ w ∧ w ≤ 2147483647) (q : ∀ (r : Int) (M' : jm), RI M' → RH M' → RF M' → (-2147483648) ≤ r ∧ r ≤ 2147483647 → (∀ (a : Nat) (i : Int), a ≠ 603 → M' a i = M a i) → Q (some (.int (Int32.ofInt r))) M') : jc A 1 336 [.ref (598), .int (Int32.ofInt (w))] M Q := by
  refine jc_of (m := xm_336) rfl (Nat.le_of_ble_eq_true rfl) rfl ?_
  refine jr.iconst rfl ?_
  refine jr.istore_n rfl (by decide) rfl ?_
  refine jr.iload_n rfl rfl ?_
  rcases (show w = 0 ∨ w = 1 ∨ w = 2 ∨ w = 3 ∨ w = 4 ∨ w = 5 ∨ w = 6 ∨ w = 7 ∨ (w ≠ 0 ∧ w ≠ 1 ∧ w ≠ 2 ∧ w ≠ 3 ∧ w ≠ 4 ∧ w ≠ 5 ∧ w ≠ 6 ∧ w ≠ 7) by omega) with h3 | h3 | h3 | h3 | h3 | h3 | h3 | h3 | h3
  · refine jr.tsw_k 0 rfl h3 rfl ?_
    refine jr.aload_n rfl rfl ?_
    obtain ⟨v1, e1⟩ : ∃ z, M 598 2 = z := ⟨_, rfl⟩
    have b1 : 0 ≤ v1 ∧ v1 ≤ 2000000 := by rw [← e1]; exact hI_M 598 2 (by decide)
    refine jr.getf (i := 2) (x := v1) (v := .int (Int32.ofInt (v1))) rfl rfl (by decide) rfl (by decide) rfl rfl e1 rfl ?_
    exact jr.ireturn rfl rfl rfl (q _ _ hI_M hH_M hS_M  (by omega) (fun a i f603 => rfl))
  · refine jr.tsw_k 1 rfl h3 rfl ?_
    refine jr.iconst rfl ?_
    refine jr.istore_n rfl (by decide) rfl ?_
    refine jr.pick [0, 1, 3, 2] rfl rfl ?_
    exact r_told_L55_x q 24 M 0 0 w hI_M hH_M hS_M  (fun a i f603 => rfl) (by omega) (by omega) (by omega) (by omega) (by omega)
  · refine jr.tsw_k 2 rfl h3 rfl ?_
    refine jr.iconst rfl ?_
    refine jr.istore_n rfl (by decide) rfl ?_
    refine jr.pick [0, 1, 3, 2] rfl rfl ?_
    exact r_told_L89_x q 24 M 0 0 w hI_M hH_M hS_M  (fun a i f603 => rfl) (by omega) (by omega) (by omega) (by omega) (by omega)
  · refine jr.tsw_k 3 rfl h3 rfl ?_
    refine jr.iconst rfl ?_
    refine jr.istore_n rfl (by decide) rfl ?_
    refine jr.pick [0, 1, 3, 2] rfl rfl ?_
    exact r_told_L122_x q 24 M 0 0 w hI_M hH_M hS_M  (fun a i f603 => rfl) (by omega) (by omega) (by omega) (by omega) (by omega)
  · refine jr.tsw_k 4 rfl h3 rfl ?_
    refine jr.aload_n rfl rfl ?_
    obtain ⟨v2, e2⟩ : ∃ z, M 598 82 = z := ⟨_, rfl⟩
    have b2 : 0 ≤ v2 ∧ v2 ≤ 16 := by rw [← e2]; exact hI_M 598 82 (by decide)
    refine jr.getf (i := 82) (x := v2) (v := .int (Int32.ofInt (v2))) rfl rfl (by decide) rfl (by decide) rfl rfl e2 rfl ?_
    exact jr.ireturn rfl rfl rfl (q _ _ hI_M hH_M hS_M  (by omega) (fun a i f603 => rfl))
  · refine jr.tsw_k 5 rfl h3 rfl ?_
    refine jr.aload_n rfl rfl ?_
    obtain ⟨v3, e3⟩ : ∃ z, M 598 83 = z := ⟨_, rfl⟩
    have b3 : 0 ≤ v3 ∧ v3 ≤ 301 := by rw [← e3]; exact hI_M 598 83 (by decide)
    refine jr.getf (i := 83) (x := v3) (v := .int (Int32.ofInt (v3))) rfl rfl (by decide) rfl (by decide) rfl rfl e3 rfl ?_
    exact jr.ireturn rfl rfl rfl (q _ _ hI_M hH_M hS_M  (by omega) (fun a i f603 => rfl))
  · refine jr.tsw_k 6 rfl h3 rfl ?_
    refine jr.aload_n rfl rfl ?_
    obtain ⟨v4, e4⟩ : ∃ z, M 598 111 = z := ⟨_, rfl⟩
    have b4 : 0 ≤ v4 ∧ v4 ≤ 2000 := by rw [← e4]; exact hI_M 598 111 (by decide)
    refine jr.getf (i := 111) (x := v4) (v := .int (Int32.ofInt (v4))) rfl rfl (by decide) rfl (by decide) rfl rfl e4 rfl ?_
    exact jr.ireturn rfl rfl rfl (q _ _ hI_M hH_M hS_M  (by omega) (fun a i f603 => rfl))
  · refine jr.tsw_k 7 rfl h3 rfl ?_
    refine jr.aload_n rfl rfl ?_
    obtain ⟨v5, e5⟩ : ∃ z, M 598 1 = z := ⟨_, rfl⟩
    have b5 : 0 ≤ v5 ∧ v5 ≤ 1600 := by rw [← e5]; exact hI_M 598 1 (by decide)
    refine jr.getf (i := 1) (x := v5) (v := .int (Int32.ofInt (v5))) rfl rfl (by decide) rfl (by decide) rfl rfl e5 rfl ?_
    exact jr.ireturn rfl rfl rfl (q _ _ hI_M hH_M hS_M  (by omega) (fun a i f603 => rfl))
  · refine jr.tsw_d rfl (by omega) (by omega) rfl ?_
    refine jr.iload_n rfl rfl ?_
    refine jr.bipush rfl (by decide) ?_
    refine jr.icmp_ne rfl rfl (by omega) (by omega) (fun h176 => ?_) (fun h176 => ?_)
    · refine jr.bipush rfl (by decide) ?_
      exact jr.ireturn rfl rfl rfl (q _ _ hI_M hH_M hS_M  (by omega) (fun a i f603 => rfl))
    · refine jr.aload_n rfl rfl ?_
      obtain ⟨v6, e6⟩ : ∃ z, M 598 112 = z := ⟨_, rfl⟩
      have b6 : 0 ≤ v6 ∧ v6 ≤ 2147483647 := by rw [← e6]; exact hI_M 598 112 (by decide)
      refine jr.getf (i := 112) (x := v6) (v := .int (Int32.ofInt (v6))) rfl rfl (by decide) rfl (by decide) rfl rfl e6 rfl ?_
      refine jr.goto rfl rfl ?_
      exact jr.ireturn rfl rfl rfl (q _ _ hI_M hH_M hS_M  (by omega) (fun a i f603 => rfl))
end
section
/-! ===== the text of rules: its tokens ===== -/
noncomputable def zbl (c : Int) : Bool := decide (c = 10 ∨ c = 32)
noncomputable def zlt (c : Int) : Bool := decide (97 ≤ c ∧ c ≤ 122)
noncomputable def zdg (c : Int) : Bool := decide (48 ≤ c ∧ c ≤ 57)
noncomputable def zsg (c : Int) : Bool := decide (c = 123 ∨ c = 125 ∨ c = 40 ∨ c = 41 ∨ c = 91 ∨ c = 93 ∨ c = 59 ∨ c = 44 ∨ c = 46 ∨ c = 61 ∨ c = 60 ∨ c = 62 ∨ c = 43 ∨ c = 45 ∨ c = 42 ∨ c = 47 ∨ c = 37 ∨ c = 38 ∨ c = 124 ∨ c = 33)
noncomputable def zspn (P : Int → Bool) (f : Int → Int) (N : Int) : Nat → Int → Int
  | 0, p => p
  | n + 1, p => if p < N ∧ P (f p) = true then zspn P f N n (p + 1) else p
/-- the first place from p on that is no P, or the end -/
noncomputable def zsp (P : Int → Bool) (f : Int → Int) (N p : Int) : Int := zspn P f N (N - p).toNat p
section ZT
variable {P : Int → Bool} {f : Int → Int} {N p t e : Int}
theorem zsp_no (h : ¬ (p < N ∧ P (f p) = true)) : zsp P f N p = p := by
  unfold zsp
  cases (N - p).toNat with
  | zero => rfl
  | succ n =>
    show (if p < N ∧ P (f p) = true then zspn P f N n (p + 1) else p) = p
    exact if_neg h
theorem zsp_go (h1 : p < N) (h2 : P (f p) = true) : zsp P f N p = zsp P f N (p + 1) := by
  unfold zsp
  obtain ⟨k, hk⟩ : ∃ k, (N - p).toNat = k + 1 := ⟨(N - p).toNat - 1, by omega⟩
  rw [hk, show (N - (p + 1)).toNat = k by omega]
  show (if p < N ∧ P (f p) = true then zspn P f N k (p + 1) else p) = _
  exact if_pos ⟨h1, h2⟩
theorem zsp_ind (P : Int → Bool) (f : Int → Int) (N : Int) (C : Int → Prop) (h0 : ∀ p, ¬ (p < N ∧ P (f p) = true) → C p) (h1 : ∀ p, p < N → P (f p) = true → C (p + 1) → C p) (p : Int) : C p := by
  have key : ∀ (n : Nat) (p : Int), (N - p).toNat ≤ n → C p := by
    intro n
    induction n with
    | zero =>
      intro p hp
      refine h0 p (fun q => ?_)
      have q1 := q.1
      omega
    | succ n ih =>
      intro p hp
      by_cases q : p < N ∧ P (f p) = true
      · exact h1 p q.1 q.2 (ih (p + 1) (by omega))
      · exact h0 p q
  exact key _ p (Nat.le_refl _)
theorem zsp_ge (P : Int → Bool) (f : Int → Int) (N p : Int) : p ≤ zsp P f N p := by
  refine zsp_ind P f N (fun p => p ≤ zsp P f N p) ?_ ?_ p
  · intro p h
    show p ≤ zsp P f N p
    rw [zsp_no h]
    exact Int.le_refl p
  · intro p h1 h2 ih
    have ih2 : p + 1 ≤ zsp P f N (p + 1) := ih
    show p ≤ zsp P f N p
    rw [zsp_go h1 h2]
    omega
theorem zsp_le (P : Int → Bool) (f : Int → Int) (N p : Int) : p ≤ N → zsp P f N p ≤ N := by
  refine zsp_ind P f N (fun p => p ≤ N → zsp P f N p ≤ N) ?_ ?_ p
  · intro p h hp
    rw [zsp_no h]
    exact hp
  · intro p h1 h2 ih hp
    rw [zsp_go h1 h2]
    exact ih (by omega)
theorem zsp_all (P : Int → Bool) (f : Int → Int) (N p : Int) : ∀ q, p ≤ q → q < zsp P f N p → P (f q) = true := by
  refine zsp_ind P f N (fun p => ∀ q, p ≤ q → q < zsp P f N p → P (f q) = true) ?_ ?_ p
  · intro p h q h3 h4
    rw [zsp_no h] at h4
    exact absurd h4 (by omega)
  · intro p h1 h2 ih q h3 h4
    rw [zsp_go h1 h2] at h4
    by_cases hq : q = p
    · rw [hq]
      exact h2
    · exact ih q (by omega) h4
theorem zsp_end (P : Int → Bool) (f : Int → Int) (N p : Int) : ¬ (zsp P f N p < N ∧ P (f (zsp P f N p)) = true) := by
  refine zsp_ind P f N (fun p => ¬ (zsp P f N p < N ∧ P (f (zsp P f N p)) = true)) ?_ ?_ p
  · intro p h
    show ¬ (zsp P f N p < N ∧ P (f (zsp P f N p)) = true)
    rw [zsp_no h]
    exact h
  · intro p h1 h2 ih
    show ¬ (zsp P f N p < N ∧ P (f (zsp P f N p)) = true)
    rw [zsp_go h1 h2]
    exact ih
/-- the loop's step and its end, as its invariant wants them -/
theorem zsp_gt (h1 : p < N) (h2 : P (f p) = true) : p < zsp P f N p := by
  rw [zsp_go h1 h2]
  have := zsp_ge P f N (p + 1)
  omega
/-- the end of the token at t -/
noncomputable def zte (f : Int → Int) (N t : Int) : Int := if t < N then (if zlt (f t) = true then zsp zlt f N t else if zdg (f t) = true then zsp zdg f N t else t + 1) else t
/-- its sort: 0 the end, 1 a word, 2 a number, 3 a sign, 4 none -/
noncomputable def zso (f : Int → Int) (N t : Int) : Int := if t < N then (if zlt (f t) = true then (if 9 < zte f N t - t then 4 else 1) else if zdg (f t) = true then (if 10 < zte f N t - t then 4 else 2) else if zsg (f t) = true then 3 else 4) else 0
/-- where the next token begins -/
noncomputable def znx (f : Int → Int) (N t : Int) : Int := zsp zbl f N (zte f N t)
theorem zte_l (h : t < N) (h1 : zlt (f t) = true) : zte f N t = zsp zlt f N t := by
  unfold zte
  rw [if_pos h, if_pos h1]
theorem zte_d (h : t < N) (h1 : zlt (f t) = false) (h2 : zdg (f t) = true) : zte f N t = zsp zdg f N t := by
  unfold zte
  rw [if_pos h, if_neg (by rw [h1]; decide), if_pos h2]
theorem zte_s (h : t < N) (h1 : zlt (f t) = false) (h2 : zdg (f t) = false) : zte f N t = t + 1 := by
  unfold zte
  rw [if_pos h, if_neg (by rw [h1]; decide), if_neg (by rw [h2]; decide)]
theorem zte_n (h : N ≤ t) : zte f N t = t := by
  unfold zte
  rw [if_neg (by omega)]
theorem zte_ge (f : Int → Int) (N t : Int) : t ≤ zte f N t := by
  unfold zte
  split
  · split
    · exact zsp_ge _ _ _ _
    · split
      · exact zsp_ge _ _ _ _
      · omega
  · exact Int.le_refl _
theorem zte_gt (f : Int → Int) (h : t < N) : t < zte f N t := by
  unfold zte
  rw [if_pos h]
  split
  · exact zsp_gt h (by assumption)
  · split
    · exact zsp_gt h (by assumption)
    · omega
theorem zte_le (f : Int → Int) (h : t ≤ N) : zte f N t ≤ N := by
  unfold zte
  split
  · split
    · exact zsp_le _ _ _ _ h
    · split
      · exact zsp_le _ _ _ _ h
      · omega
  · exact h
theorem znx_ge (f : Int → Int) (N t : Int) : t ≤ znx f N t := by
  have h1 := zte_ge f N t
  have h2 := zsp_ge zbl f N (zte f N t)
  unfold znx
  omega
theorem znx_le (f : Int → Int) (h : t ≤ N) : znx f N t ≤ N := zsp_le _ _ _ _ (zte_le f h)
theorem znx_gt (f : Int → Int) (h : t < N) : t < znx f N t := by
  have h1 := zte_gt f h
  have h2 := zsp_ge zbl f N (zte f N t)
  unfold znx
  omega
theorem zso_l (h : t < N) (h1 : zlt (f t) = true) : zso f N t = if 9 < zte f N t - t then 4 else 1 := by
  unfold zso
  rw [if_pos h, if_pos h1]
theorem zso_d (h : t < N) (h1 : zlt (f t) = false) (h2 : zdg (f t) = true) : zso f N t = if 10 < zte f N t - t then 4 else 2 := by
  unfold zso
  rw [if_pos h, if_neg (by rw [h1]; decide), if_pos h2]
theorem zso_s (h : t < N) (h1 : zlt (f t) = false) (h2 : zdg (f t) = false) : zso f N t = if zsg (f t) = true then 3 else 4 := by
  unfold zso
  rw [if_pos h, if_neg (by rw [h1]; decide), if_neg (by rw [h2]; decide)]
theorem zso_n (h : N ≤ t) : zso f N t = 0 := by
  unfold zso
  rw [if_neg (by omega)]
theorem zso_r (f : Int → Int) (N t : Int) : 0 ≤ zso f N t ∧ zso f N t ≤ 4 := by
  unfold zso
  repeat' split
  all_goals omega
/-- a sort that is no end lies within the text -/
theorem zso_lt (h : zso f N t ≠ 0) : t < N := by
  by_cases q : t < N
  · exact q
  · exact absurd (zso_n (by omega)) h
theorem zso_1 (h : zso f N t = 1) : t < N ∧ zlt (f t) = true ∧ zte f N t = zsp zlt f N t ∧ zte f N t - t ≤ 9 := by
  have h0 : t < N := zso_lt (f := f) (by omega)
  have hw : zlt (f t) = true := by
    cases q : zlt (f t) with
    | true => rfl
    | false =>
      exfalso
      cases q2 : zdg (f t) with
      | true =>
        rw [zso_d h0 q q2] at h
        split at h <;> omega
      | false =>
        rw [zso_s h0 q q2] at h
        split at h <;> omega
  refine ⟨h0, hw, zte_l h0 hw, ?_⟩
  rw [zso_l h0 hw] at h
  split at h
  · omega
  · omega
theorem zso_2 (h : zso f N t = 2) : t < N ∧ zlt (f t) = false ∧ zdg (f t) = true ∧ zte f N t = zsp zdg f N t ∧ zte f N t - t ≤ 10 := by
  have h0 : t < N := zso_lt (f := f) (by omega)
  have hw : zlt (f t) = false := by
    cases q : zlt (f t) with
    | false => rfl
    | true =>
      rw [zso_l h0 q] at h
      split at h <;> omega
  have hd : zdg (f t) = true := by
    cases q : zdg (f t) with
    | true => rfl
    | false =>
      rw [zso_s h0 hw q] at h
      split at h <;> omega
  refine ⟨h0, hw, hd, zte_d h0 hw hd, ?_⟩
  rw [zso_d h0 hw hd] at h
  split at h
  · omega
  · omega
theorem zso_3 (h : zso f N t = 3) : t < N ∧ zlt (f t) = false ∧ zdg (f t) = false ∧ zsg (f t) = true ∧ zte f N t = t + 1 := by
  have h0 : t < N := zso_lt (f := f) (by omega)
  have hw : zlt (f t) = false := by
    cases q : zlt (f t) with
    | false => rfl
    | true =>
      rw [zso_l h0 q] at h
      split at h <;> omega
  have hd : zdg (f t) = false := by
    cases q : zdg (f t) with
    | false => rfl
    | true =>
      rw [zso_d h0 hw q] at h
      split at h <;> omega
  refine ⟨h0, hw, hd, ?_, zte_s h0 hw hd⟩
  rw [zso_s h0 hw hd] at h
  split at h
  · assumption
  · omega
/-- numbers -/
noncomputable def zdv (f : Int → Int) (t : Int) : Nat → Int
  | 0 => 0
  | n + 1 => zdv f t n * 10 + (f (t + n) - 48)
noncomputable def znu (f : Int → Int) (N t : Int) : Int := zdv f t (zte f N t - t).toNat
/-- names: the letters as digits to 32 -/
noncomputable def zpk (f : Int → Int) (t : Int) : Nat → Int
  | 0 => 0
  | n + 1 => zpk f t n * 32 + (f (t + n) - 96)
noncomputable def znm (f : Int → Int) (N t : Int) : Int := zpk f t (zte f N t - t).toNat
noncomputable def zls (f : Int → Int) : Nat → Int → List Int
  | 0, _ => []
  | n + 1, t => f t :: zls f n (t + 1)
noncomputable def zpv : List Int → Int
  | [] => 0
  | c :: r => zpv r * 32 + (c - 96)
theorem zls_s (f : Int → Int) (n : Nat) : ∀ t : Int, zls f (n + 1) t = zls f n t ++ [f (t + n)] := by
  induction n with
  | zero =>
    intro t
    show [f t] = [] ++ [f (t + ((0 : Nat) : Int))]
    rw [show t + ((0 : Nat) : Int) = t by omega]
    rfl
  | succ n ih =>
    intro t
    show f t :: zls f (n + 1) (t + 1) = (f t :: zls f n (t + 1)) ++ [f (t + ((n + 1 : Nat) : Int))]
    rw [ih (t + 1), show t + 1 + (n : Int) = t + ((n + 1 : Nat) : Int) by omega]
    rfl
theorem zpk_v (f : Int → Int) (t : Int) (n : Nat) : zpk f t n = zpv (zls f n t).reverse := by
  induction n with
  | zero => rfl
  | succ n ih =>
    rw [zls_s, List.reverse_append]
    show zpk f t n * 32 + (f (t + n) - 96) = zpv (zls f n t).reverse * 32 + (f (t + n) - 96)
    rw [ih]
theorem zpv_nn : ∀ l : List Int, (∀ c, c ∈ l → 97 ≤ c ∧ c ≤ 122) → 0 ≤ zpv l := by
  intro l
  induction l with
  | nil => intro _; exact Int.le_refl _
  | cons c r ih =>
    intro h
    have h1 := ih (fun x hx => h x (List.mem_cons_of_mem _ hx))
    have h2 := h c List.mem_cons_self
    show 0 ≤ zpv r * 32 + (c - 96)
    omega
theorem zpv_inj : ∀ l l' : List Int, (∀ c, c ∈ l → 97 ≤ c ∧ c ≤ 122) → (∀ c, c ∈ l' → 97 ≤ c ∧ c ≤ 122) → zpv l = zpv l' → l = l' := by
  intro l
  induction l with
  | nil =>
    intro l' _ h' e
    cases l' with
    | nil => rfl
    | cons c r =>
      exfalso
      have h1 := zpv_nn r (fun x hx => h' x (List.mem_cons_of_mem _ hx))
      have h2 := h' c List.mem_cons_self
      have e2 : (0 : Int) = zpv r * 32 + (c - 96) := e
      omega
  | cons c r ih =>
    intro l' h h' e
    have h1 := zpv_nn r (fun x hx => h x (List.mem_cons_of_mem _ hx))
    have h2 := h c List.mem_cons_self
    cases l' with
    | nil =>
      exfalso
      have e2 : zpv r * 32 + (c - 96) = (0 : Int) := e
      omega
    | cons c' r' =>
      have h3 := zpv_nn r' (fun x hx => h' x (List.mem_cons_of_mem _ hx))
      have h4 := h' c' List.mem_cons_self
      have e2 : zpv r * 32 + (c - 96) = zpv r' * 32 + (c' - 96) := e
      have e3 : c = c' := by omega
      have e4 : zpv r = zpv r' := by omega
      rw [e3, ih r' (fun x hx => h x (List.mem_cons_of_mem _ hx)) (fun x hx => h' x (List.mem_cons_of_mem _ hx)) e4]
theorem zls_m (f : Int → Int) (n : Nat) : ∀ t : Int, ∀ c, c ∈ zls f n t → ∃ i : Int, t ≤ i ∧ i < t + n ∧ c = f i := by
  induction n with
  | zero => intro t c h; exact absurd h (by simp [zls])
  | succ n ih =>
    intro t c h
    rcases List.mem_cons.mp h with q | q
    · exact ⟨t, Int.le_refl _, by omega, q⟩
    · obtain ⟨i, h1, h2, h3⟩ := ih (t + 1) c q
      exact ⟨i, by omega, by omega, h3⟩
theorem zlt_r {c : Int} (h : zlt c = true) : 97 ≤ c ∧ c ≤ 122 := of_decide_eq_true h
theorem zlt_f {c : Int} (h : zlt c = false) : ¬ (97 ≤ c ∧ c ≤ 122) := of_decide_eq_false h
theorem zlt_t {c : Int} (h : 97 ≤ c ∧ c ≤ 122) : zlt c = true := decide_eq_true h
theorem zlt_n {c : Int} (h : ¬ (97 ≤ c ∧ c ≤ 122)) : zlt c = false := decide_eq_false h
theorem zdg_r {c : Int} (h : zdg c = true) : 48 ≤ c ∧ c ≤ 57 := of_decide_eq_true h
theorem zdg_f {c : Int} (h : zdg c = false) : ¬ (48 ≤ c ∧ c ≤ 57) := of_decide_eq_false h
theorem zdg_t {c : Int} (h : 48 ≤ c ∧ c ≤ 57) : zdg c = true := decide_eq_true h
theorem zdg_n {c : Int} (h : ¬ (48 ≤ c ∧ c ≤ 57)) : zdg c = false := decide_eq_false h
theorem zbl_r {c : Int} (h : zbl c = true) : c = 10 ∨ c = 32 := of_decide_eq_true h
theorem zbl_f {c : Int} (h : zbl c = false) : ¬ (c = 10 ∨ c = 32) := of_decide_eq_false h
theorem zbl_t {c : Int} (h : c = 10 ∨ c = 32) : zbl c = true := decide_eq_true h
theorem zbl_n {c : Int} (h : ¬ (c = 10 ∨ c = 32)) : zbl c = false := decide_eq_false h
/-- the letters of a word -/
noncomputable def zw (f : Int → Int) (N t : Int) : List Int := zls f (zte f N t - t).toNat t
theorem zw_l (h : zso f N t = 1) : ∀ c, c ∈ zw f N t → 97 ≤ c ∧ c ≤ 122 := by
  intro c hc
  obtain ⟨h0, h1, h2, h3⟩ := zso_1 h
  obtain ⟨i, q1, q2, q3⟩ := zls_m f _ t c hc
  rw [q3]
  have h4 := zte_ge f N t
  exact zlt_r (zsp_all zlt f N t i q1 (by rw [← h2]; omega))
theorem znm_v (f : Int → Int) (N t : Int) : znm f N t = zpv (zw f N t).reverse := zpk_v f t _
/-- two words have one name only if they have the same letters -/
theorem znm_w {l : List Int} (h : zso f N t = 1) (hl : ∀ c, c ∈ l → 97 ≤ c ∧ c ≤ 122) : znm f N t = zpv l.reverse ↔ zw f N t = l := by
  rw [znm_v]
  refine ⟨fun q => ?_, fun q => by rw [q]⟩
  have q2 := zpv_inj _ _ (fun c hc => zw_l h c (List.mem_reverse.mp hc)) (fun c hc => hl c (List.mem_reverse.mp hc)) q
  rw [← List.reverse_reverse (zw f N t), q2, List.reverse_reverse]
/-- the class's search of a word in a list of words -/
noncomputable def zwl (f : Int → Int) (t e : Int) : List Int → Int → Int → Bool → Int
  | [], k, i, s => if s = true ∧ i = e then k else -1
  | c :: r, k, i, s => if c = 32 then (if s = true ∧ i = e then k else zwl f t e r (k + 1) t true) else zwl f t e r k (i + 1) (s && decide (i < e) && decide (f i = c))
noncomputable def zeq (f : Int → Int) (e : Int) : List Int → Int → Bool
  | [], i => decide (i = e)
  | c :: r, i => decide (i < e) && decide (f i = c) && zeq f e r (i + 1)
theorem zwl_w (f : Int → Int) (t e : Int) (r : List Int) (k : Int) : ∀ (w : List Int), (∀ c, c ∈ w → c ≠ 32) → ∀ (i : Int) (s : Bool), zwl f t e (w ++ 32 :: r) k i s = if (s && zeq f e w i) = true then k else zwl f t e r (k + 1) t true := by
  intro w
  induction w with
  | nil =>
    intro _ i s
    show (if (32 : Int) = 32 then (if s = true ∧ i = e then k else zwl f t e r (k + 1) t true) else _) = _
    rw [if_pos rfl]
    cases s <;> simp [zeq]
  | cons c w ih =>
    intro h i s
    show (if c = 32 then _ else zwl f t e (w ++ 32 :: r) k (i + 1) (s && decide (i < e) && decide (f i = c))) = _
    rw [if_neg (h c List.mem_cons_self), ih (fun x hx => h x (List.mem_cons_of_mem _ hx))]
    show _ = if (s && (decide (i < e) && decide (f i = c) && zeq f e w (i + 1))) = true then k else _
    simp only [Bool.and_assoc]
theorem zwl_e (f : Int → Int) (t e : Int) (k : Int) : ∀ (w : List Int), (∀ c, c ∈ w → c ≠ 32) → ∀ (i : Int) (s : Bool), zwl f t e w k i s = if (s && zeq f e w i) = true then k else -1 := by
  intro w
  induction w with
  | nil =>
    intro _ i s
    show (if s = true ∧ i = e then k else -1) = _
    cases s <;> simp [zeq]
  | cons c w ih =>
    intro h i s
    show (if c = 32 then _ else zwl f t e w k (i + 1) (s && decide (i < e) && decide (f i = c))) = _
    rw [if_neg (h c List.mem_cons_self), ih (fun x hx => h x (List.mem_cons_of_mem _ hx))]
    show _ = if (s && (decide (i < e) && decide (f i = c) && zeq f e w (i + 1))) = true then k else _
    simp only [Bool.and_assoc]
theorem zeq_l (f : Int → Int) (e : Int) : ∀ (w : List Int) (i : Int), i ≤ e → (zeq f e w i = true ↔ zls f (e - i).toNat i = w) := by
  intro w
  induction w with
  | nil =>
    intro i hi
    show decide (i = e) = true ↔ _
    rw [decide_eq_true_iff]
    by_cases h : i = e
    · rw [show (e - i).toNat = 0 by omega]
      exact ⟨fun _ => rfl, fun _ => h⟩
    · obtain ⟨k, hk⟩ : ∃ k, (e - i).toNat = k + 1 := ⟨(e - i).toNat - 1, by omega⟩
      rw [hk]
      refine ⟨fun q => absurd q h, fun q => ?_⟩
      have q2 : f i :: zls f k (i + 1) = [] := q
      exact absurd q2 (by simp)
  | cons c w ih =>
    intro i hi
    show (decide (i < e) && decide (f i = c) && zeq f e w (i + 1)) = true ↔ _
    rw [Bool.and_eq_true, Bool.and_eq_true, decide_eq_true_iff, decide_eq_true_iff]
    by_cases h : i < e
    · obtain ⟨k, hk⟩ : ∃ k, (e - i).toNat = k + 1 := ⟨(e - i).toNat - 1, by omega⟩
      have e2 : (e - (i + 1)).toNat = k := by omega
      have hq := ih (i + 1) (by omega)
      rw [e2] at hq
      rw [hk, hq]
      show _ ↔ f i :: zls f k (i + 1) = c :: w
      rw [List.cons.injEq]
      exact ⟨fun q => ⟨q.1.2, q.2⟩, fun q => ⟨⟨h, q.1⟩, q.2⟩⟩
    · rw [show (e - i).toNat = 0 by omega]
      refine ⟨fun q => absurd q.1.1 h, fun q => ?_⟩
      have q2 : ([] : List Int) = c :: w := q
      exact absurd q2 (by simp)
noncomputable def zjn : List (List Int) → List Int
  | [] => []
  | [w] => w
  | w :: w2 :: r => w ++ 32 :: zjn (w2 :: r)
/-- the first place of x in a list, counted from k -/
noncomputable def zfx (x : Int) : List Int → Int → Int
  | [], _ => -1
  | c :: r, k => if c = x then k else zfx x r (k + 1)
theorem zwl_j (f : Int → Int) (N t : Int) (h : zso f N t = 1) : ∀ (ws : List (List Int)) (w : List Int), (∀ v, v ∈ w :: ws → ∀ c, c ∈ v → 97 ≤ c ∧ c ≤ 122) → ∀ k : Int, zwl f t (zte f N t) (zjn (w :: ws)) k t true = zfx (znm f N t) ((w :: ws).map (fun v => zpv v.reverse)) k := by
  intro ws
  have key : ∀ w : List Int, (∀ c, c ∈ w → 97 ≤ c ∧ c ≤ 122) → ((true && zeq f (zte f N t) w t) = true ↔ zpv w.reverse = znm f N t) := by
    intro w hw
    rw [Bool.true_and, zeq_l f (zte f N t) w t (zte_ge f N t)]
    exact ⟨fun q => ((znm_w h hw).mpr q).symm, fun q => (znm_w h hw).mp q.symm⟩
  induction ws with
  | nil =>
    intro w hw k
    have hw2 := hw w List.mem_cons_self
    show zwl f t (zte f N t) w k t true = if zpv w.reverse = znm f N t then k else -1
    rw [zwl_e f t (zte f N t) k w (fun c hc q => by have := hw2 c hc; omega) t true]
    have hk := key w hw2
    by_cases q : zpv w.reverse = znm f N t
    · rw [if_pos q, if_pos (hk.mpr q)]
    · rw [if_neg q, if_neg (fun z => q (hk.mp z))]
  | cons w2 ws ih =>
    intro w hw k
    have hw2 := hw w List.mem_cons_self
    show zwl f t (zte f N t) (w ++ 32 :: zjn (w2 :: ws)) k t true = if zpv w.reverse = znm f N t then k else zfx (znm f N t) ((w2 :: ws).map (fun v => zpv v.reverse)) (k + 1)
    rw [zwl_w f t (zte f N t) (zjn (w2 :: ws)) k w (fun c hc q => by have := hw2 c hc; omega) t true, ih w2 (fun v hv => hw v (List.mem_cons_of_mem _ hv)) (k + 1)]
    have hk := key w hw2
    by_cases q : zpv w.reverse = znm f N t
    · rw [if_pos q, if_pos (hk.mpr q)]
    · rw [if_neg q, if_neg (fun z => q (hk.mp z))]
/-- the words of the reference, by their names -/
noncomputable def zxw : List Int := [3409198, 72623556, 294, 176741, 656741, 150000, 48880818, 609900110, 349616, 21081, 427595, 3659220, 12775, 12748366, 17076, 114201, 6887016, 403060, 197932, 664997, 632645, 209399, 20579973, 6485857861, 8243, 91781, 20452804, 409031, 302, 18935, 267300, 402891, 20519, 212658, 19768, 278035, 19388037, 525908, 3739896300, 659100717, 139185080365, 693581996, 595572, 14516, 3274253476, 655, 215533, 370116, 591307, 292, 24627347, 21483564, 492210354, 6685939, 509824180, 402629, 464660, 20141, 408362632, 12617900, 14, 398548, 441925, 681477, 113797, 658796361829, 1131, 781652471, 2937011]
noncomputable def zlx (x : Int) : Nat → Int
  | 0 => -1
  | n + 1 => if zxw.getD n 0 = x then (n : Int) else zlx x n
/-- the word at t as the reference counts it; -1: none of its words -/
noncomputable def zwd (f : Int → Int) (N t : Int) : Int := zlx (znm f N t) 69
/-- as the class counts it -/
noncomputable def zcv (w : Int) : Int := if w = 2 then 3 else if w = 3 then 2 else if 45 ≤ w then -1 else w
noncomputable def zcw : List (List Int) := [[99, 104, 97, 105, 110], [98, 101, 104, 105, 110, 100], [101, 108, 115, 101], [105, 102], [116, 97, 107, 101], [100, 114, 111, 112], [97, 110, 115, 119, 101, 114], [114, 101, 116, 117, 114, 110], [106, 117, 109, 112], [116, 114, 121], [109, 97, 114, 107], [99, 111, 117, 110, 116], [108, 111, 103], [108, 101, 97, 114, 110], [112, 117, 116], [99, 111, 112, 121], [102, 114, 101, 115, 104], [108, 105, 115, 116], [102, 97, 105, 108], [116, 105, 109, 101], [115, 105, 122, 101], [102, 108, 111, 119], [115, 116, 97, 116, 101], [102, 97, 105, 108, 117, 114, 101], [104, 97, 115], [98, 121, 116, 101], [115, 112, 101, 110, 100], [108, 111, 110, 103], [105, 110], [114, 111, 119], [104, 101, 97, 100], [108, 105, 110, 107], [116, 97, 103], [102, 111, 117, 114], [115, 105, 120], [104, 111, 112, 115], [114, 111, 117, 116, 101], [112, 97, 114, 116], [99, 111, 110, 116, 114, 111, 108], [115, 116, 114, 101, 97, 109], [100, 97, 116, 97, 103, 114, 97, 109], [116, 117, 110, 110, 101, 108], [114, 101, 115, 116], [110, 101, 116], [99, 97, 114, 114, 105, 101, 100]]
noncomputable def zcc : List Int := zcw.map (fun v => zpv v.reverse)
theorem zlx_no (x : Int) (n : Nat) (h : ∀ k, k < n → zxw.getD k 0 ≠ x) : zlx x n = -1 := by
  induction n with
  | zero => rfl
  | succ n ih =>
    show (if zxw.getD n 0 = x then (n : Int) else zlx x n) = -1
    rw [if_neg (h n (by omega))]
    exact ih (fun k hk => h k (by omega))
theorem zfx_no (x : Int) : ∀ (l : List Int) (k : Int), (∀ c, c ∈ l → c ≠ x) → zfx x l k = -1 := by
  intro l
  induction l with
  | nil => intro _ _; rfl
  | cons c r ih =>
    intro k h
    show (if c = x then k else zfx x r (k + 1)) = -1
    rw [if_neg (h c List.mem_cons_self)]
    exact ih (k + 1) (fun y hy => h y (List.mem_cons_of_mem _ hy))
theorem zcw_l : ∀ v, v ∈ zcw → ∀ c, c ∈ v → (97 : Int) ≤ c ∧ c ≤ 122 := by decide +kernel
theorem zcc_in : ∀ n, n < 69 → zfx (zxw.getD n 0) zcc 0 = zcv (zlx (zxw.getD n 0) 69) := by decide +kernel
theorem zcc_sub : ∀ c, c ∈ zcc → ∃ n, n < 69 ∧ zxw.getD n 0 = c := by decide +kernel
theorem zcc_x (x : Int) : zfx x zcc 0 = zcv (zlx x 69) := by
  by_cases h : ∃ n, n < 69 ∧ zxw.getD n 0 = x
  · obtain ⟨n, h1, h2⟩ := h
    rw [← h2]
    exact zcc_in n h1
  · rw [zlx_no x 69 (fun k hk q => h ⟨k, hk, q⟩), zfx_no x zcc 0 (fun c hc q => by
      obtain ⟨n, h1, h2⟩ := zcc_sub c hc
      exact h ⟨n, h1, by rw [h2, q]⟩)]
    rfl
/-- the class's word -/
theorem zwl_c (h : zso f N t = 1) : zwl f t (zte f N t) (zjn zcw) 0 t true = zcv (zwd f N t) := by
  have q := zwl_j f N t h (zcw.drop 1) (zcw.getD 0 []) (fun v hv => zcw_l v hv) 0
  exact q.trans (zcc_x _)
theorem zlx_r (x : Int) (n : Nat) : -1 ≤ zlx x n ∧ zlx x n < n := by
  induction n with
  | zero =>
    show (-1 : Int) ≤ -1 ∧ (-1 : Int) < ((0 : Nat) : Int)
    exact ⟨by decide, by decide⟩
  | succ n ih =>
    show -1 ≤ (if zxw.getD n 0 = x then (n : Int) else zlx x n) ∧ (if zxw.getD n 0 = x then (n : Int) else zlx x n) < _
    split <;> omega
theorem zwd_r (f : Int → Int) (N t : Int) : -1 ≤ zwd f N t ∧ zwd f N t ≤ 68 := by
  have := zlx_r (znm f N t) 69
  unfold zwd
  omega
/-- fields: the reference's table, its search, the class's -/
noncomputable def zfw : List Int := [45, 46, 47, -1, -1, -1, -1, -1, -1, -1, -1, 48, 49, 47, -1, -1, -1, -1, -1, -1, -1, -1, 50, 10, 51, 52, 53, 54, 55, 56, 57, 46, 45, 10, 58, 56, 55, 59, 46, 45, -1, -1, -1, -1, 56, 60, -1, -1, -1, -1, -1, -1, -1, -1, -1, 56, 60, 61, -1, -1, -1, -1, -1, -1, -1, -1, 56, 54, 62, 52, -1, -1, -1, -1, -1, -1, -1, 63, 64, 57, 42, -1, -1, -1, -1, -1, -1, -1, 46, 45, 65, 66, 50, 53, 67, 57, -1, -1, -1, 46, 45, 58, 57, -1, -1, -1, -1, -1, -1, -1, 53, 47, -1, -1, -1, -1, -1, -1, -1, -1, -1, 68, -1, -1, -1, -1, -1, -1, -1, -1, -1, -1, 10, 55, 56, 46, 45, -1, -1, -1, -1, -1, -1, 57, -1, -1, -1, -1, -1, -1, -1, -1, -1, -1]
noncomputable def zfl (k w : Int) : Nat → Int
  | 0 => -1
  | n + 1 => if w ≠ -1 ∧ zfw.getD (11 * k + (10 - (n : Int))).toNat 0 = w then 10 - (n : Int) else zfl k w n
noncomputable def zfd (f : Int → Int) (N k t : Int) : Int := zfl k (zwd f N t) 11
noncomputable def zfc : List (List (List Int)) := [[[116, 111], [102, 114, 111, 109], [107, 105, 110, 100]], [[114, 97, 110, 107], [105, 100], [107, 105, 110, 100]], [[119, 111, 114, 100, 115], [109, 97, 114, 107], [116, 111, 116, 97, 108], [110, 117, 109, 98, 101, 114], [102, 108, 97, 103, 115], [111, 102, 102, 115, 101, 116], [108, 105, 102, 101], [110, 101, 120, 116], [115, 117, 109], [102, 114, 111, 109], [116, 111]], [[109, 97, 114, 107], [108, 101, 110, 103, 116, 104], [110, 101, 120, 116], [108, 105, 102, 101], [108, 97, 98, 101, 108], [102, 114, 111, 109], [116, 111]], [[110, 101, 120, 116], [110]], [[110, 101, 120, 116], [110], [108, 101, 102, 116]], [[110, 101, 120, 116], [111, 102, 102, 115, 101, 116], [109, 111, 114, 101], [110, 117, 109, 98, 101, 114]], [[116, 121, 112, 101], [99, 111, 100, 101], [115, 117, 109], [114, 101, 115, 116]], [[102, 114, 111, 109], [116, 111], [115, 101, 113, 117, 101, 110, 99, 101], [97, 99, 107], [119, 111, 114, 100, 115], [102, 108, 97, 103, 115], [119, 105, 110, 100, 111, 119], [115, 117, 109]], [[102, 114, 111, 109], [116, 111], [108, 101, 110, 103, 116, 104], [115, 117, 109]], [[102, 108, 97, 103, 115], [107, 105, 110, 100]], [[98, 121, 116, 101, 115]], [[109, 97, 114, 107], [108, 105, 102, 101], [110, 101, 120, 116], [102, 114, 111, 109], [116, 111]], [[115, 117, 109]]]
noncomputable def zfk (k : Nat) : List Int := (zfc.getD k []).map (fun v => zpv v.reverse)
theorem zfk_l : ∀ k, k < 14 → ∀ v, v ∈ zfc.getD k [] → ∀ c, c ∈ v → (97 : Int) ≤ c ∧ c ≤ 122 := by decide +kernel
theorem zfk_in : ∀ k, k < 14 → ∀ n, n < 69 → zfx (zxw.getD n 0) (zfk k) 0 = zfl (k : Int) (zlx (zxw.getD n 0) 69) 11 := by decide +kernel
theorem zfk_sub : ∀ k, k < 14 → ∀ c, c ∈ zfk k → ∃ n, n < 69 ∧ zxw.getD n 0 = c := by decide +kernel
theorem zfl_no (k : Int) (n : Nat) : zfl k (-1) n = -1 := by
  induction n with
  | zero => rfl
  | succ n ih =>
    show (if (-1 : Int) ≠ -1 ∧ _ then 10 - (n : Int) else zfl k (-1) n) = -1
    rw [if_neg (fun q => q.1 rfl)]
    exact ih
theorem zfk_x {k : Nat} (hk : k < 14) (x : Int) : zfx x (zfk k) 0 = zfl (k : Int) (zlx x 69) 11 := by
  by_cases h : ∃ n, n < 69 ∧ zxw.getD n 0 = x
  · obtain ⟨n, h1, h2⟩ := h
    rw [← h2]
    exact zfk_in k hk n h1
  · rw [zlx_no x 69 (fun k hk q => h ⟨k, hk, q⟩), zfl_no, zfx_no x (zfk k) 0 (fun c hc q => by
      obtain ⟨n, h1, h2⟩ := zfk_sub k hk c hc
      exact h ⟨n, h1, by rw [h2, q]⟩)]
theorem zfc_ne : ∀ k, k < 14 → zfc.getD k [] = (zfc.getD k []).getD 0 [] :: (zfc.getD k []).drop 1 := by decide +kernel
theorem zwl_f {k : Nat} (hk : k < 14) (h : zso f N t = 1) : zwl f t (zte f N t) (zjn (zfc.getD k [])) 0 t true = zfd f N (k : Int) t := by
  have h2 := zfk_l k hk
  rw [zfc_ne k hk] at h2 ⊢
  have q := zwl_j f N t h ((zfc.getD k []).drop 1) ((zfc.getD k []).getD 0 []) h2 0
  rw [q, ← zfc_ne k hk]
  exact zfk_x hk _
end ZT
end
section
/-! ===== the text of rules: the machine that reads it ===== -/
/-- mode (0 before a chain, 1 in a block, 2 before an operand, 3 behind one, 9 the end), token, nodes, depth, comparison, behind, what waits, names, names asked -/
noncomputable abbrev ZS := Int × Int × Int × Int × Int × Int × List (Int × Int × Int × Int) × List Int × List Int
noncomputable def zft (w p : Int) : ZS := (9, w, p, 0, 0, 0, [], [], [])
noncomputable def zok (n : Int) : ZS := (9, 0, n, 0, 0, 0, [], [], [])
noncomputable def zrs (c : Int) : Int := if c = 124 then 0 else if c = 38 then 1 else if c = 61 ∨ c = 60 ∨ c = 62 then 2 else if c = 43 ∨ c = 45 then 3 else if c = 42 ∨ c = 47 ∨ c = 37 then 4 else 9
section ZM
variable (f : Int → Int) (N : Int)
noncomputable def zrf (t : Int) : ZS := zft (if zso f N t = 4 then 1 else 2) t
noncomputable def zrk (t : Int) : Int := if zso f N t = 3 then zrs (f t) else 9
/-- arguments of a word that asks; expressions of a deed -/
noncomputable def zar (w : Int) : Int := if w = 30 then 3 else if w = 28 ∨ w = 29 then 2 else 1
noncomputable def zex (w : Int) : Int := if w = 15 then 5 else if w = 14 ∨ w = 16 then 3 else if w = 11 ∨ w = 13 then 2 else 1
noncomputable def zs2 (t k d c b : Int) (s : List (Int × Int × Int × Int)) (nm ak : List Int) : ZS :=
  if zso f N t = 3 then
    (if f t = 45 ∨ f t = 33 then (if k < 300 ∧ d < 12 then (2, znx f N t, k + 1, d + 1, c, b, (20, 0, 0, 0) :: s, nm, ak) else zft 3 t)
    else if f t = 40 then (if d < 12 then (2, znx f N t, k, d + 1, 0, b, (21, -1, 1, c) :: s, nm, ak) else zft 3 t)
    else zft 2 t)
  else if zso f N t = 2 then
    (if k < 300 then (if znu f N t ≤ 4294967295 then (3, znx f N t, k + 1, d, c, b, s, nm, ak) else zft 6 t) else zft 3 t)
  else if zso f N t = 1 ∧ (zwd f N t = 10 ∨ (19 ≤ zwd f N t ∧ zwd f N t ≤ 44)) then
    (if k < 300 then
      (if zwd f N t ≤ 23 then (3, znx f N t, k + 1, d, c, b, s, nm, ak)
      else if zwd f N t = 24 then (4, znx f N t, k + 1, d, c, b, s, nm, ak)
      else if zwd f N t ≤ 30 then
        (if zso f N (znx f N t) = 3 ∧ f (znx f N t) = 40 then (if d < 12 then (2, znx f N (znx f N t), k + 1, d + 1, 0, b, (21, zwd f N t, 1, c) :: s, nm, ak) else zft 3 (znx f N t)) else zrf f N (znx f N t))
      else (5, znx f N t, k + 1, d, c, b, (zwd f N t - 31, 0, 0, 0) :: s, nm, ak))
    else zft 3 t)
  else zrf f N t
/-- behind the word has -/
noncomputable def zs4 (t k d c b : Int) (s : List (Int × Int × Int × Int)) (nm ak : List Int) : ZS :=
  if zso f N t = 3 ∧ f t = 40 then
    (if d < 12 then
      (if zso f N (znx f N t) = 1 ∧ 31 ≤ zwd f N (znx f N t) ∧ zwd f N (znx f N t) ≤ 44 then
        (if zso f N (znx f N (znx f N t)) = 3 ∧ f (znx f N (znx f N t)) = 41 then (3, znx f N (znx f N (znx f N t)), k, d, c, b, s, nm, ak) else zrf f N (znx f N (znx f N t)))
      else zrf f N (znx f N t))
    else zft 3 t)
  else zrf f N t
/-- behind the word of a kind -/
noncomputable def zs5 (t k d c b w : Int) (s : List (Int × Int × Int × Int)) (nm ak : List Int) : ZS :=
  if zso f N t = 3 ∧ f t = 46 then
    (if zso f N (znx f N t) = 1 then
      (if zfd f N w (znx f N t) ≠ -1 then (3, znx f N (znx f N t), k, d, c, b, s, nm, ak) else zft 5 (znx f N t))
    else zrf f N (znx f N t))
  else zrf f N t
noncomputable def zs3 (t k d c b : Int) (nm ak : List Int) : List (Int × Int × Int × Int) → ZS
  | [] => zft 2 t
  | (a, w, n, e) :: r =>
    if a = 20 then (3, t, k, d - 1, c, b, r, nm, ak)
    else if zrk f N t ≤ 4 then
      (if zrk f N t = 2 ∧ c = 1 then zft 2 t
      else if k < 300 then (2, znx f N t, k + 1, d, (if zrk f N t ≤ 1 then 0 else if zrk f N t = 2 then 1 else c), b, (a, w, n, e) :: r, nm, ak) else zft 3 t)
    else if a = 21 then
      (if n < zar w then (if zso f N t = 3 ∧ f t = 44 then (2, znx f N t, k, d, 0, b, (21, w, n + 1, e) :: r, nm, ak) else zrf f N t)
      else (if zso f N t = 3 ∧ f t = 41 then (3, znx f N t, k, d - 1, e, b, r, nm, ak) else zrf f N t))
    else if a = 10 then
      (if n < zex w then (if zso f N t = 3 ∧ f t = 44 then (2, znx f N t, k, d, 0, b, (10, w, n + 1, 0) :: r, nm, ak) else zrf f N t)
      else (if zso f N t = 3 ∧ f t = 59 then (1, znx f N t, k, d, 0, b, r, nm, ak) else zrf f N t))
    else (if zso f N t = 3 ∧ f t = 123 then (if d < 12 then (1, znx f N t, k, d + 1, 0, b, (2, 0, 0, 0) :: r, nm, ak) else zft 3 t) else zrf f N t)
/-- a block is closed: t is the token behind it, d the depth behind it -/
noncomputable def zs6 (t k d b a : Int) (r : List (Int × Int × Int × Int)) (nm ak : List Int) : ZS :=
  if a = 0 then
    (if zso f N t = 1 ∧ zwd f N t = 1 then
      (if zso f N (znx f N t) = 3 ∧ f (znx f N t) = 123 then (if d < 12 then (1, znx f N (znx f N t), k, d + 1, 0, 1, (1, 0, 0, 0) :: r, nm, ak) else zft 3 (znx f N t)) else zrf f N (znx f N t))
    else (0, t, k, d, 0, b, r, nm, ak))
  else if a = 1 then (0, t, k, d, 0, b, r, nm, ak)
  else if a = 2 ∧ zso f N t = 1 ∧ zwd f N t = 3 then
    (if zso f N (znx f N t) = 3 ∧ f (znx f N t) = 123 then (if d < 12 then (1, znx f N (znx f N t), k, d + 1, 0, b, (3, 0, 0, 0) :: r, nm, ak) else zft 3 (znx f N t)) else zrf f N (znx f N t))
  else (1, t, k, d, 0, b, r, nm, ak)
noncomputable def zs1 (t k d b : Int) (nm ak : List Int) : List (Int × Int × Int × Int) → ZS
  | [] => zft 2 t
  | (a, w, n, e) :: r =>
    if zso f N t = 3 ∧ f t = 125 then zs6 f N (znx f N t) k (d - 1) b a r nm ak
    else if zso f N t = 1 ∧ (zwd f N t = 2 ∨ (4 ≤ zwd f N t ∧ zwd f N t ≤ 18 ∧ ¬ (b = 1 ∧ zwd f N t ≤ 9))) then
      (if k < 300 then
        (if zwd f N t = 2 then (2, znx f N t, k + 1, d, 0, b, (11, 0, 0, 0) :: (a, w, n, e) :: r, nm, ak)
        else if zwd f N t ≤ 7 then (if zso f N (znx f N t) = 3 ∧ f (znx f N t) = 59 then (1, znx f N (znx f N t), k + 1, d, 0, b, (a, w, n, e) :: r, nm, ak) else zrf f N (znx f N t))
        else if zwd f N t ≤ 9 then
          (if zso f N (znx f N t) = 1 ∧ (zwd f N (znx f N t) = -1 ∨ 45 ≤ zwd f N (znx f N t)) then
            (if zso f N (znx f N (znx f N t)) = 3 ∧ f (znx f N (znx f N t)) = 59 then (1, znx f N (znx f N (znx f N t)), k + 1, d, 0, b, (a, w, n, e) :: r, nm, ak ++ [znx f N t]) else zrf f N (znx f N (znx f N t)))
          else zrf f N (znx f N t))
        else (2, znx f N t, k + 1, d, 0, b, (10, zwd f N t, 1, 0) :: (a, w, n, e) :: r, nm, ak))
      else zft 3 t)
    else zrf f N t
/-- is the name at t one of these? -/
noncomputable def zhn (nm : List Int) (t : Int) : Bool := nm.any (fun x => decide (znm f N x = znm f N t))
noncomputable def zre (nm : List Int) : List Int → ZS
  | [] => zok nm.length
  | a :: r => if zhn f N nm a = true then zre nm r else zft 7 a
noncomputable def zs0 (t k : Int) (nm ak : List Int) : ZS :=
  if nm ≠ [] ∧ zso f N t = 0 then zre f N nm ak
  else if zso f N t = 1 ∧ zwd f N t = 0 then
    (if (nm.length : Int) < 16 then
      (if zso f N (znx f N t) = 1 ∧ (zwd f N (znx f N t) = -1 ∨ 45 ≤ zwd f N (znx f N t)) then
        (if zhn f N nm (znx f N t) = true then zft 4 (znx f N t)
        else if zso f N (znx f N (znx f N t)) = 3 ∧ f (znx f N (znx f N t)) = 123 then (1, znx f N (znx f N (znx f N t)), k, 1, 0, 0, [(0, 0, 0, 0)], nm ++ [znx f N t], ak) else zrf f N (znx f N (znx f N t)))
      else zrf f N (znx f N t))
    else zft 3 t)
  else zrf f N t
noncomputable def zst (x : ZS) : ZS :=
  if x.1 = 0 then zs0 f N x.2.1 x.2.2.1 x.2.2.2.2.2.2.2.1 x.2.2.2.2.2.2.2.2
  else if x.1 = 1 then zs1 f N x.2.1 x.2.2.1 x.2.2.2.1 x.2.2.2.2.2.1 x.2.2.2.2.2.2.2.1 x.2.2.2.2.2.2.2.2 x.2.2.2.2.2.2.1
  else if x.1 = 2 then zs2 f N x.2.1 x.2.2.1 x.2.2.2.1 x.2.2.2.2.1 x.2.2.2.2.2.1 x.2.2.2.2.2.2.1 x.2.2.2.2.2.2.2.1 x.2.2.2.2.2.2.2.2
  else if x.1 = 3 then zs3 f N x.2.1 x.2.2.1 x.2.2.2.1 x.2.2.2.2.1 x.2.2.2.2.2.1 x.2.2.2.2.2.2.2.1 x.2.2.2.2.2.2.2.2 x.2.2.2.2.2.2.1
  else if x.1 = 4 then zs4 f N x.2.1 x.2.2.1 x.2.2.2.1 x.2.2.2.2.1 x.2.2.2.2.2.1 x.2.2.2.2.2.2.1 x.2.2.2.2.2.2.2.1 x.2.2.2.2.2.2.2.2
  else if x.1 = 5 then zs5 f N x.2.1 x.2.2.1 x.2.2.2.1 x.2.2.2.2.1 x.2.2.2.2.2.1 (x.2.2.2.2.2.2.1.headD (0, 0, 0, 0)).1 x.2.2.2.2.2.2.1.tail x.2.2.2.2.2.2.2.1 x.2.2.2.2.2.2.2.2
  else x
noncomputable def zit : Nat → ZS → ZS
  | 0, x => x
  | n + 1, x => zit n (zst f N x)
/-- the machine comes from x to y -/
noncomputable def zr (x y : ZS) : Prop := ∃ n, zit f N n x = y
end ZM
section ZN
variable {f : Int → Int} {N : Int} {x y z : ZS}
theorem zit_add (f : Int → Int) (N : Int) (n m : Nat) : ∀ x : ZS, zit f N (n + m) x = zit f N m (zit f N n x) := by
  induction n with
  | zero => intro x; rw [Nat.zero_add]; rfl
  | succ n ih =>
    intro x
    rw [show n + 1 + m = (n + m) + 1 by omega]
    exact ih (zst f N x)
theorem zr.r0 (f : Int → Int) (N : Int) (x : ZS) : zr f N x x := ⟨0, Eq.refl _⟩
theorem zr.st (h : zr f N x y) (e : zst f N y = z) : zr f N x z := by
  obtain ⟨n, hn⟩ := h
  refine ⟨n + 1, ?_⟩
  rw [zit_add, hn]
  exact e
theorem zit_fix {y : ZS} (h : zst f N y = y) (n : Nat) : zit f N n y = y := by
  induction n with
  | zero => rfl
  | succ n ih =>
    show zit f N n (zst f N y) = y
    rw [h]
    exact ih
/-- the machine ends in one way -/
theorem zr.one (h : zr f N x y) (h2 : zr f N x z) (hy : zst f N y = y) (hz : zst f N z = z) : y = z := by
  obtain ⟨n, hn⟩ := h
  obtain ⟨m, hm⟩ := h2
  rcases Nat.le_total n m with q | q
  · have e := zit_add f N n (m - n) x
    rw [show n + (m - n) = m by omega, hn, hm, zit_fix hy] at e
    exact e.symm
  · have e := zit_add f N m (n - m) x
    rw [show m + (n - m) = n by omega, hn, hm, zit_fix hz] at e
    exact e
theorem zst_ft (f : Int → Int) (N w p : Int) : zst f N (zft w p) = zft w p := Eq.refl _
theorem zst_ok (f : Int → Int) (N n : Int) : zst f N (zok n) = zok n := Eq.refl _
theorem zr.ff {w p w' p' : Int} (h : zr f N x (zft w p)) (h2 : zr f N x (zft w' p')) : w = w' ∧ p = p' := by
  have e := zr.one h h2 (zst_ft f N w p) (zst_ft f N w' p')
  unfold zft at e
  simp only [Prod.mk.injEq] at e
  exact ⟨e.2.1, e.2.2.1⟩
theorem zr.oo {n n' : Int} (h : zr f N x (zok n)) (h2 : zr f N x (zok n')) : n = n' := by
  have e := zr.one h h2 (zst_ok f N n) (zst_ok f N n')
  unfold zok at e
  simp only [Prod.mk.injEq] at e
  exact e.2.2.1
theorem zr.fo {w p n : Int} (h : zr f N x (zft w p)) (h2 : zr f N x (zok n)) (hw : w ≠ 0) : False := by
  have e := zr.one h h2 (zst_ft f N w p) (zst_ok f N n)
  unfold zft zok at e
  simp only [Prod.mk.injEq] at e
  exact hw e.2.1
theorem zr.una {t k d c b : Int} {s : List (Int × Int × Int × Int)} {nm ak : List Int} {x : ZS}  (h : zr f N x (2, t, k, d, c, b, s, nm, ak)) (h3 : zso f N t = 3) (hc : f t = 45 ∨ f t = 33) (hk : k < 300) (hd : d < 12) : zr f N x (2, znx f N t, k + 1, d + 1, c, b, (20, 0, 0, 0) :: s, nm, ak) := by
  refine h.st ?_
  show zs2 f N t k d c b s nm ak = _
  unfold zs2
  rw [if_pos h3, if_pos hc, if_pos (by exact ⟨hk, hd⟩)]
theorem zr.unaf {t k d c b : Int} {s : List (Int × Int × Int × Int)} {nm ak : List Int} {x : ZS}  (h : zr f N x (2, t, k, d, c, b, s, nm, ak)) (h3 : zso f N t = 3) (hc : f t = 45 ∨ f t = 33) (hk : ¬ (k < 300 ∧ d < 12)) : zr f N x (zft 3 t) := by
  refine h.st ?_
  show zs2 f N t k d c b s nm ak = _
  unfold zs2
  rw [if_pos h3, if_pos hc, if_neg hk]
theorem zr.par {t k d c b : Int} {s : List (Int × Int × Int × Int)} {nm ak : List Int} {x : ZS}  (h : zr f N x (2, t, k, d, c, b, s, nm, ak)) (h3 : zso f N t = 3) (hc : f t = 40) (hd : d < 12) : zr f N x (2, znx f N t, k, d + 1, 0, b, (21, -1, 1, c) :: s, nm, ak) := by
  refine h.st ?_
  show zs2 f N t k d c b s nm ak = _
  unfold zs2
  rw [if_pos h3, if_neg (by omega), if_pos hc, if_pos hd]
theorem zr.parf {t k d c b : Int} {s : List (Int × Int × Int × Int)} {nm ak : List Int} {x : ZS}  (h : zr f N x (2, t, k, d, c, b, s, nm, ak)) (h3 : zso f N t = 3) (hc : f t = 40) (hd : 12 ≤ d) : zr f N x (zft 3 t) := by
  refine h.st ?_
  show zs2 f N t k d c b s nm ak = _
  unfold zs2
  rw [if_pos h3, if_neg (by omega), if_pos hc, if_neg (by omega)]
theorem zr.sgf {t k d c b : Int} {s : List (Int × Int × Int × Int)} {nm ak : List Int} {x : ZS}  (h : zr f N x (2, t, k, d, c, b, s, nm, ak)) (h3 : zso f N t = 3) (hc : f t ≠ 45) (hc2 : f t ≠ 33) (hc3 : f t ≠ 40) : zr f N x (zft 2 t) := by
  refine h.st ?_
  show zs2 f N t k d c b s nm ak = _
  unfold zs2
  rw [if_pos h3, if_neg (by omega), if_neg hc3]
theorem zr.num {t k d c b : Int} {s : List (Int × Int × Int × Int)} {nm ak : List Int} {x : ZS}  (h : zr f N x (2, t, k, d, c, b, s, nm, ak)) (h2 : zso f N t = 2) (hk : k < 300) (hu : znu f N t ≤ 4294967295) : zr f N x (3, znx f N t, k + 1, d, c, b, s, nm, ak) := by
  refine h.st ?_
  show zs2 f N t k d c b s nm ak = _
  unfold zs2
  rw [if_neg (by omega), if_pos h2, if_pos hk, if_pos hu]
theorem zr.numk {t k d c b : Int} {s : List (Int × Int × Int × Int)} {nm ak : List Int} {x : ZS}  (h : zr f N x (2, t, k, d, c, b, s, nm, ak)) (h2 : zso f N t = 2) (hk : 300 ≤ k) : zr f N x (zft 3 t) := by
  refine h.st ?_
  show zs2 f N t k d c b s nm ak = _
  unfold zs2
  rw [if_neg (by omega), if_pos h2, if_neg (by omega)]
theorem zr.numg {t k d c b : Int} {s : List (Int × Int × Int × Int)} {nm ak : List Int} {x : ZS}  (h : zr f N x (2, t, k, d, c, b, s, nm, ak)) (h2 : zso f N t = 2) (hk : k < 300) (hu : 4294967295 < znu f N t) : zr f N x (zft 6 t) := by
  refine h.st ?_
  show zs2 f N t k d c b s nm ak = _
  unfold zs2
  rw [if_neg (by omega), if_pos h2, if_pos hk, if_neg (by omega)]
theorem zr.wk {t k d c b : Int} {s : List (Int × Int × Int × Int)} {nm ak : List Int} {x : ZS}  (h : zr f N x (2, t, k, d, c, b, s, nm, ak)) (h1 : zso f N t = 1) (hw : zwd f N t = 10 ∨ (19 ≤ zwd f N t ∧ zwd f N t ≤ 44)) (hk : 300 ≤ k) : zr f N x (zft 3 t) := by
  refine h.st ?_
  show zs2 f N t k d c b s nm ak = _
  unfold zs2
  rw [if_neg (by omega), if_neg (by omega), if_pos (by exact ⟨h1, by omega⟩), if_neg (by omega)]
theorem zr.wno {t k d c b : Int} {s : List (Int × Int × Int × Int)} {nm ak : List Int} {x : ZS}  (h : zr f N x (2, t, k, d, c, b, s, nm, ak)) (h1 : zso f N t = 1) (hw : zwd f N t ≠ 10) (hw2 : zwd f N t < 19 ∨ 44 < zwd f N t) : zr f N x (zft 2 t) := by
  refine h.st ?_
  show zs2 f N t k d c b s nm ak = _
  unfold zs2
  rw [if_neg (by omega), if_neg (by omega), if_neg (by omega), show zrf f N t = zft 2 t from by unfold zrf; rw [if_neg (by omega)]]
theorem zr.ono {t k d c b : Int} {s : List (Int × Int × Int × Int)} {nm ak : List Int} {x : ZS}  (h : zr f N x (2, t, k, d, c, b, s, nm, ak)) (h0 : zso f N t = 0 ∨ zso f N t = 4) : zr f N x (zrf f N t) := by
  refine h.st ?_
  show zs2 f N t k d c b s nm ak = _
  unfold zs2
  rw [if_neg (by omega), if_neg (by omega), if_neg (by omega)]
theorem zr.wtm {t k d c b : Int} {s : List (Int × Int × Int × Int)} {nm ak : List Int} {x : ZS}  (h : zr f N x (2, t, k, d, c, b, s, nm, ak)) (h1 : zso f N t = 1) (hw : zwd f N t = 10 ∨ (19 ≤ zwd f N t ∧ zwd f N t ≤ 23)) (hk : k < 300) : zr f N x (3, znx f N t, k + 1, d, c, b, s, nm, ak) := by
  refine h.st ?_
  show zs2 f N t k d c b s nm ak = _
  unfold zs2
  rw [if_neg (by omega), if_neg (by omega), if_pos (by exact ⟨h1, by omega⟩), if_pos hk, if_pos (by omega)]
theorem zr.whas {t k d c b : Int} {s : List (Int × Int × Int × Int)} {nm ak : List Int} {x : ZS}  (h : zr f N x (2, t, k, d, c, b, s, nm, ak)) (h1 : zso f N t = 1) (hw : zwd f N t = 24) (hk : k < 300) : zr f N x (4, znx f N t, k + 1, d, c, b, s, nm, ak) := by
  refine h.st ?_
  show zs2 f N t k d c b s nm ak = _
  unfold zs2
  rw [if_neg (by omega), if_neg (by omega), if_pos (by exact ⟨h1, by omega⟩), if_pos hk, if_neg (by omega), if_pos hw]
theorem zr.wask {t k d c b : Int} {s : List (Int × Int × Int × Int)} {nm ak : List Int} {x : ZS}  (h : zr f N x (2, t, k, d, c, b, s, nm, ak)) (h1 : zso f N t = 1) (hw : 25 ≤ zwd f N t ∧ zwd f N t ≤ 30) (hk : k < 300) (g3 : zso f N (znx f N t) = 3) (g4 : f (znx f N t) = 40) (hd : d < 12) : zr f N x (2, znx f N (znx f N t), k + 1, d + 1, 0, b, (21, zwd f N t, 1, c) :: s, nm, ak) := by
  refine h.st ?_
  show zs2 f N t k d c b s nm ak = _
  unfold zs2
  rw [if_neg (by omega), if_neg (by omega), if_pos (by exact ⟨h1, by omega⟩), if_pos hk, if_neg (by omega), if_neg (by omega), if_pos hw.2, if_pos (by exact ⟨g3, g4⟩), if_pos hd]
theorem zr.waskd {t k d c b : Int} {s : List (Int × Int × Int × Int)} {nm ak : List Int} {x : ZS}  (h : zr f N x (2, t, k, d, c, b, s, nm, ak)) (h1 : zso f N t = 1) (hw : 25 ≤ zwd f N t ∧ zwd f N t ≤ 30) (hk : k < 300) (g3 : zso f N (znx f N t) = 3) (g4 : f (znx f N t) = 40) (hd : 12 ≤ d) : zr f N x (zft 3 (znx f N t)) := by
  refine h.st ?_
  show zs2 f N t k d c b s nm ak = _
  unfold zs2
  rw [if_neg (by omega), if_neg (by omega), if_pos (by exact ⟨h1, by omega⟩), if_pos hk, if_neg (by omega), if_neg (by omega), if_pos hw.2, if_pos (by exact ⟨g3, g4⟩), if_neg (by omega)]
theorem zr.waskf {t k d c b : Int} {s : List (Int × Int × Int × Int)} {nm ak : List Int} {x : ZS}  (h : zr f N x (2, t, k, d, c, b, s, nm, ak)) (h1 : zso f N t = 1) (hw : 25 ≤ zwd f N t ∧ zwd f N t ≤ 30) (hk : k < 300) (g : ¬ (zso f N (znx f N t) = 3 ∧ f (znx f N t) = 40)) : zr f N x (zrf f N (znx f N t)) := by
  refine h.st ?_
  show zs2 f N t k d c b s nm ak = _
  unfold zs2
  rw [if_neg (by omega), if_neg (by omega), if_pos (by exact ⟨h1, by omega⟩), if_pos hk, if_neg (by omega), if_neg (by omega), if_pos hw.2, if_neg g]
theorem zr.wkind {t k d c b : Int} {s : List (Int × Int × Int × Int)} {nm ak : List Int} {x : ZS}  (h : zr f N x (2, t, k, d, c, b, s, nm, ak)) (h1 : zso f N t = 1) (hw : 31 ≤ zwd f N t ∧ zwd f N t ≤ 44) (hk : k < 300) : zr f N x (5, znx f N t, k + 1, d, c, b, (zwd f N t - 31, 0, 0, 0) :: s, nm, ak) := by
  refine h.st ?_
  show zs2 f N t k d c b s nm ak = _
  unfold zs2
  rw [if_neg (by omega), if_neg (by omega), if_pos (by exact ⟨h1, by omega⟩), if_pos hk, if_neg (by omega), if_neg (by omega), if_neg (by omega)]
theorem zr.has {t k d c b : Int} {s : List (Int × Int × Int × Int)} {nm ak : List Int} {x : ZS}  (h : zr f N x (4, t, k, d, c, b, s, nm, ak)) (g0 : zso f N t = 3 ∧ f t = 40) (hd : d < 12) (g1 : zso f N (znx f N t) = 1 ∧ 31 ≤ zwd f N (znx f N t) ∧ zwd f N (znx f N t) ≤ 44) (g2 : zso f N (znx f N (znx f N t)) = 3 ∧ f (znx f N (znx f N t)) = 41) : zr f N x (3, znx f N (znx f N (znx f N t)), k, d, c, b, s, nm, ak) := by
  refine h.st ?_
  show zs4 f N t k d c b s nm ak = _
  unfold zs4
  rw [if_pos g0, if_pos hd, if_pos g1, if_pos g2]
theorem zr.has0 {t k d c b : Int} {s : List (Int × Int × Int × Int)} {nm ak : List Int} {x : ZS}  (h : zr f N x (4, t, k, d, c, b, s, nm, ak)) (g0 : ¬ (zso f N t = 3 ∧ f t = 40)) : zr f N x (zrf f N t) := by
  refine h.st ?_
  show zs4 f N t k d c b s nm ak = _
  unfold zs4
  rw [if_neg g0]
theorem zr.hasd {t k d c b : Int} {s : List (Int × Int × Int × Int)} {nm ak : List Int} {x : ZS}  (h : zr f N x (4, t, k, d, c, b, s, nm, ak)) (g0 : zso f N t = 3 ∧ f t = 40) (hd : 12 ≤ d) : zr f N x (zft 3 t) := by
  refine h.st ?_
  show zs4 f N t k d c b s nm ak = _
  unfold zs4
  rw [if_pos g0, if_neg (by omega)]
theorem zr.has1 {t k d c b : Int} {s : List (Int × Int × Int × Int)} {nm ak : List Int} {x : ZS}  (h : zr f N x (4, t, k, d, c, b, s, nm, ak)) (g0 : zso f N t = 3 ∧ f t = 40) (hd : d < 12) (g1 : ¬ (zso f N (znx f N t) = 1 ∧ 31 ≤ zwd f N (znx f N t) ∧ zwd f N (znx f N t) ≤ 44)) : zr f N x (zrf f N (znx f N t)) := by
  refine h.st ?_
  show zs4 f N t k d c b s nm ak = _
  unfold zs4
  rw [if_pos g0, if_pos hd, if_neg g1]
theorem zr.has2 {t k d c b : Int} {s : List (Int × Int × Int × Int)} {nm ak : List Int} {x : ZS}  (h : zr f N x (4, t, k, d, c, b, s, nm, ak)) (g0 : zso f N t = 3 ∧ f t = 40) (hd : d < 12) (g1 : zso f N (znx f N t) = 1 ∧ 31 ≤ zwd f N (znx f N t) ∧ zwd f N (znx f N t) ≤ 44) (g2 : ¬ (zso f N (znx f N (znx f N t)) = 3 ∧ f (znx f N (znx f N t)) = 41)) : zr f N x (zrf f N (znx f N (znx f N t))) := by
  refine h.st ?_
  show zs4 f N t k d c b s nm ak = _
  unfold zs4
  rw [if_pos g0, if_pos hd, if_pos g1, if_neg g2]
theorem zr.fld {t k d c b : Int} {s : List (Int × Int × Int × Int)} {nm ak : List Int} {x : ZS} {w : Int} (h : zr f N x (5, t, k, d, c, b, (w, 0, 0, 0) :: s, nm, ak)) (g0 : zso f N t = 3 ∧ f t = 46) (g1 : zso f N (znx f N t) = 1) (g2 : zfd f N w (znx f N t) ≠ -1) : zr f N x (3, znx f N (znx f N t), k, d, c, b, s, nm, ak) := by
  refine h.st ?_
  show zs5 f N t k d c b w s nm ak = _
  unfold zs5
  rw [if_pos g0, if_pos g1, if_pos g2]
theorem zr.fld0 {t k d c b : Int} {s : List (Int × Int × Int × Int)} {nm ak : List Int} {x : ZS} {w : Int} (h : zr f N x (5, t, k, d, c, b, (w, 0, 0, 0) :: s, nm, ak)) (g0 : ¬ (zso f N t = 3 ∧ f t = 46)) : zr f N x (zrf f N t) := by
  refine h.st ?_
  show zs5 f N t k d c b w s nm ak = _
  unfold zs5
  rw [if_neg g0]
theorem zr.fld1 {t k d c b : Int} {s : List (Int × Int × Int × Int)} {nm ak : List Int} {x : ZS} {w : Int} (h : zr f N x (5, t, k, d, c, b, (w, 0, 0, 0) :: s, nm, ak)) (g0 : zso f N t = 3 ∧ f t = 46) (g1 : zso f N (znx f N t) ≠ 1) : zr f N x (zrf f N (znx f N t)) := by
  refine h.st ?_
  show zs5 f N t k d c b w s nm ak = _
  unfold zs5
  rw [if_pos g0, if_neg g1]
theorem zr.fld2 {t k d c b : Int} {s : List (Int × Int × Int × Int)} {nm ak : List Int} {x : ZS} {w : Int} (h : zr f N x (5, t, k, d, c, b, (w, 0, 0, 0) :: s, nm, ak)) (g0 : zso f N t = 3 ∧ f t = 46) (g1 : zso f N (znx f N t) = 1) (g2 : zfd f N w (znx f N t) = -1) : zr f N x (zft 5 (znx f N t)) := by
  refine h.st ?_
  show zs5 f N t k d c b w s nm ak = _
  unfold zs5
  rw [if_pos g0, if_pos g1, if_neg (by exact (fun q => q g2))]
theorem zr.pop {t k d c b : Int} {s : List (Int × Int × Int × Int)} {nm ak : List Int} {x : ZS}  (h : zr f N x (3, t, k, d, c, b, (20, 0, 0, 0) :: s, nm, ak))  : zr f N x (3, t, k, d - 1, c, b, s, nm, ak) := by
  refine h.st ?_
  show zs3 f N t k d c b nm ak ((20, 0, 0, 0) :: s) = _
  rw [zs3, if_pos (by exact rfl)]
theorem zr.bin {t k d c b : Int} {s : List (Int × Int × Int × Int)} {nm ak : List Int} {x : ZS} {a w n e : Int} (h : zr f N x (3, t, k, d, c, b, (a, w, n, e) :: s, nm, ak)) (ha : a ≠ 20) (hr : zrk f N t ≤ 4) (hc : ¬ (zrk f N t = 2 ∧ c = 1)) (hk : k < 300) : zr f N x (2, znx f N t, k + 1, d, (if zrk f N t ≤ 1 then 0 else if zrk f N t = 2 then 1 else c), b, (a, w, n, e) :: s, nm, ak) := by
  refine h.st ?_
  show zs3 f N t k d c b nm ak ((a, w, n, e) :: s) = _
  rw [zs3, if_neg ha, if_pos hr, if_neg hc, if_pos hk]
theorem zr.bink {t k d c b : Int} {s : List (Int × Int × Int × Int)} {nm ak : List Int} {x : ZS} {a w n e : Int} (h : zr f N x (3, t, k, d, c, b, (a, w, n, e) :: s, nm, ak)) (ha : a ≠ 20) (hr : zrk f N t ≤ 4) (hc : ¬ (zrk f N t = 2 ∧ c = 1)) (hk : 300 ≤ k) : zr f N x (zft 3 t) := by
  refine h.st ?_
  show zs3 f N t k d c b nm ak ((a, w, n, e) :: s) = _
  rw [zs3, if_neg ha, if_pos hr, if_neg hc, if_neg (by omega)]
theorem zr.binc {t k d c b : Int} {s : List (Int × Int × Int × Int)} {nm ak : List Int} {x : ZS} {a w n e : Int} (h : zr f N x (3, t, k, d, c, b, (a, w, n, e) :: s, nm, ak)) (ha : a ≠ 20) (hc : zrk f N t = 2 ∧ c = 1) : zr f N x (zft 2 t) := by
  refine h.st ?_
  show zs3 f N t k d c b nm ak ((a, w, n, e) :: s) = _
  rw [zs3, if_neg ha, if_pos (by omega), if_pos hc]
theorem zr.arg {t k d c b : Int} {s : List (Int × Int × Int × Int)} {nm ak : List Int} {x : ZS} {w n e : Int} (h : zr f N x (3, t, k, d, c, b, (21, w, n, e) :: s, nm, ak)) (hr : 4 < zrk f N t) (hn : n < zar w) (g : zso f N t = 3 ∧ f t = 44) : zr f N x (2, znx f N t, k, d, 0, b, (21, w, n + 1, e) :: s, nm, ak) := by
  refine h.st ?_
  show zs3 f N t k d c b nm ak ((21, w, n, e) :: s) = _
  rw [zs3, if_neg (by decide), if_neg (by omega), if_pos (by exact rfl), if_pos hn, if_pos g]
theorem zr.argf {t k d c b : Int} {s : List (Int × Int × Int × Int)} {nm ak : List Int} {x : ZS} {w n e : Int} (h : zr f N x (3, t, k, d, c, b, (21, w, n, e) :: s, nm, ak)) (hr : 4 < zrk f N t) (hn : n < zar w) (g : ¬ (zso f N t = 3 ∧ f t = 44)) : zr f N x (zrf f N t) := by
  refine h.st ?_
  show zs3 f N t k d c b nm ak ((21, w, n, e) :: s) = _
  rw [zs3, if_neg (by decide), if_neg (by omega), if_pos (by exact rfl), if_pos hn, if_neg g]
theorem zr.clo {t k d c b : Int} {s : List (Int × Int × Int × Int)} {nm ak : List Int} {x : ZS} {w n e : Int} (h : zr f N x (3, t, k, d, c, b, (21, w, n, e) :: s, nm, ak)) (hr : 4 < zrk f N t) (hn : zar w ≤ n) (g : zso f N t = 3 ∧ f t = 41) : zr f N x (3, znx f N t, k, d - 1, e, b, s, nm, ak) := by
  refine h.st ?_
  show zs3 f N t k d c b nm ak ((21, w, n, e) :: s) = _
  rw [zs3, if_neg (by decide), if_neg (by omega), if_pos (by exact rfl), if_neg (by omega), if_pos g]
theorem zr.clof {t k d c b : Int} {s : List (Int × Int × Int × Int)} {nm ak : List Int} {x : ZS} {w n e : Int} (h : zr f N x (3, t, k, d, c, b, (21, w, n, e) :: s, nm, ak)) (hr : 4 < zrk f N t) (hn : zar w ≤ n) (g : ¬ (zso f N t = 3 ∧ f t = 41)) : zr f N x (zrf f N t) := by
  refine h.st ?_
  show zs3 f N t k d c b nm ak ((21, w, n, e) :: s) = _
  rw [zs3, if_neg (by decide), if_neg (by omega), if_pos (by exact rfl), if_neg (by omega), if_neg g]
theorem zr.exa {t k d c b : Int} {s : List (Int × Int × Int × Int)} {nm ak : List Int} {x : ZS} {w n e : Int} (h : zr f N x (3, t, k, d, c, b, (10, w, n, e) :: s, nm, ak)) (hr : 4 < zrk f N t) (hn : n < zex w) (g : zso f N t = 3 ∧ f t = 44) : zr f N x (2, znx f N t, k, d, 0, b, (10, w, n + 1, 0) :: s, nm, ak) := by
  refine h.st ?_
  show zs3 f N t k d c b nm ak ((10, w, n, e) :: s) = _
  rw [zs3, if_neg (by decide), if_neg (by omega), if_neg (by decide), if_pos (by exact rfl), if_pos hn, if_pos g]
theorem zr.exaf {t k d c b : Int} {s : List (Int × Int × Int × Int)} {nm ak : List Int} {x : ZS} {w n e : Int} (h : zr f N x (3, t, k, d, c, b, (10, w, n, e) :: s, nm, ak)) (hr : 4 < zrk f N t) (hn : n < zex w) (g : ¬ (zso f N t = 3 ∧ f t = 44)) : zr f N x (zrf f N t) := by
  refine h.st ?_
  show zs3 f N t k d c b nm ak ((10, w, n, e) :: s) = _
  rw [zs3, if_neg (by decide), if_neg (by omega), if_neg (by decide), if_pos (by exact rfl), if_pos hn, if_neg g]
theorem zr.exe {t k d c b : Int} {s : List (Int × Int × Int × Int)} {nm ak : List Int} {x : ZS} {w n e : Int} (h : zr f N x (3, t, k, d, c, b, (10, w, n, e) :: s, nm, ak)) (hr : 4 < zrk f N t) (hn : zex w ≤ n) (g : zso f N t = 3 ∧ f t = 59) : zr f N x (1, znx f N t, k, d, 0, b, s, nm, ak) := by
  refine h.st ?_
  show zs3 f N t k d c b nm ak ((10, w, n, e) :: s) = _
  rw [zs3, if_neg (by decide), if_neg (by omega), if_neg (by decide), if_pos (by exact rfl), if_neg (by omega), if_pos g]
theorem zr.exef {t k d c b : Int} {s : List (Int × Int × Int × Int)} {nm ak : List Int} {x : ZS} {w n e : Int} (h : zr f N x (3, t, k, d, c, b, (10, w, n, e) :: s, nm, ak)) (hr : 4 < zrk f N t) (hn : zex w ≤ n) (g : ¬ (zso f N t = 3 ∧ f t = 59)) : zr f N x (zrf f N t) := by
  refine h.st ?_
  show zs3 f N t k d c b nm ak ((10, w, n, e) :: s) = _
  rw [zs3, if_neg (by decide), if_neg (by omega), if_neg (by decide), if_pos (by exact rfl), if_neg (by omega), if_neg g]
theorem zr.ifb {t k d c b : Int} {s : List (Int × Int × Int × Int)} {nm ak : List Int} {x : ZS}  (h : zr f N x (3, t, k, d, c, b, (11, 0, 0, 0) :: s, nm, ak)) (hr : 4 < zrk f N t) (g : zso f N t = 3 ∧ f t = 123) (hd : d < 12) : zr f N x (1, znx f N t, k, d + 1, 0, b, (2, 0, 0, 0) :: s, nm, ak) := by
  refine h.st ?_
  show zs3 f N t k d c b nm ak ((11, 0, 0, 0) :: s) = _
  rw [zs3, if_neg (by decide), if_neg (by omega), if_neg (by decide), if_neg (by decide), if_pos g, if_pos hd]
theorem zr.ifd {t k d c b : Int} {s : List (Int × Int × Int × Int)} {nm ak : List Int} {x : ZS}  (h : zr f N x (3, t, k, d, c, b, (11, 0, 0, 0) :: s, nm, ak)) (hr : 4 < zrk f N t) (g : zso f N t = 3 ∧ f t = 123) (hd : 12 ≤ d) : zr f N x (zft 3 t) := by
  refine h.st ?_
  show zs3 f N t k d c b nm ak ((11, 0, 0, 0) :: s) = _
  rw [zs3, if_neg (by decide), if_neg (by omega), if_neg (by decide), if_neg (by decide), if_pos g, if_neg (by omega)]
theorem zr.iffa {t k d c b : Int} {s : List (Int × Int × Int × Int)} {nm ak : List Int} {x : ZS}  (h : zr f N x (3, t, k, d, c, b, (11, 0, 0, 0) :: s, nm, ak)) (hr : 4 < zrk f N t) (g : ¬ (zso f N t = 3 ∧ f t = 123)) : zr f N x (zrf f N t) := by
  refine h.st ?_
  show zs3 f N t k d c b nm ak ((11, 0, 0, 0) :: s) = _
  rw [zs3, if_neg (by decide), if_neg (by omega), if_neg (by decide), if_neg (by decide), if_neg g]
theorem zr.bl0 {t k d c b : Int} {s : List (Int × Int × Int × Int)} {nm ak : List Int} {x : ZS} {w n e : Int} (h : zr f N x (1, t, k, d, c, b, (0, w, n, e) :: s, nm, ak)) (g : zso f N t = 3 ∧ f t = 125) (n1 : ¬ (zso f N (znx f N t) = 1 ∧ zwd f N (znx f N t) = 1)) : zr f N x (0, znx f N t, k, d - 1, 0, b, s, nm, ak) := by
  refine h.st ?_
  show zs1 f N t k d b nm ak ((0, w, n, e) :: s) = _
  rw [zs1, if_pos g]
  unfold zs6
  rw [if_pos (by exact rfl), if_neg n1]
theorem zr.bh {t k d c b : Int} {s : List (Int × Int × Int × Int)} {nm ak : List Int} {x : ZS} {w n e : Int} (h : zr f N x (1, t, k, d, c, b, (0, w, n, e) :: s, nm, ak)) (g : zso f N t = 3 ∧ f t = 125) (y1 : zso f N (znx f N t) = 1 ∧ zwd f N (znx f N t) = 1) (g2 : zso f N (znx f N (znx f N t)) = 3 ∧ f (znx f N (znx f N t)) = 123) (hd : d - 1 < 12) : zr f N x (1, znx f N (znx f N (znx f N t)), k, d - 1 + 1, 0, 1, (1, 0, 0, 0) :: s, nm, ak) := by
  refine h.st ?_
  show zs1 f N t k d b nm ak ((0, w, n, e) :: s) = _
  rw [zs1, if_pos g]
  unfold zs6
  rw [if_pos (by exact rfl), if_pos y1, if_pos g2, if_pos hd]
theorem zr.bhd {t k d c b : Int} {s : List (Int × Int × Int × Int)} {nm ak : List Int} {x : ZS} {w n e : Int} (h : zr f N x (1, t, k, d, c, b, (0, w, n, e) :: s, nm, ak)) (g : zso f N t = 3 ∧ f t = 125) (y1 : zso f N (znx f N t) = 1 ∧ zwd f N (znx f N t) = 1) (g2 : zso f N (znx f N (znx f N t)) = 3 ∧ f (znx f N (znx f N t)) = 123) (hd : 12 ≤ d - 1) : zr f N x (zft 3 (znx f N (znx f N t))) := by
  refine h.st ?_
  show zs1 f N t k d b nm ak ((0, w, n, e) :: s) = _
  rw [zs1, if_pos g]
  unfold zs6
  rw [if_pos (by exact rfl), if_pos y1, if_pos g2, if_neg (by omega)]
theorem zr.bhf {t k d c b : Int} {s : List (Int × Int × Int × Int)} {nm ak : List Int} {x : ZS} {w n e : Int} (h : zr f N x (1, t, k, d, c, b, (0, w, n, e) :: s, nm, ak)) (g : zso f N t = 3 ∧ f t = 125) (y1 : zso f N (znx f N t) = 1 ∧ zwd f N (znx f N t) = 1) (g2 : ¬ (zso f N (znx f N (znx f N t)) = 3 ∧ f (znx f N (znx f N t)) = 123)) : zr f N x (zrf f N (znx f N (znx f N t))) := by
  refine h.st ?_
  show zs1 f N t k d b nm ak ((0, w, n, e) :: s) = _
  rw [zs1, if_pos g]
  unfold zs6
  rw [if_pos (by exact rfl), if_pos y1, if_neg g2]
theorem zr.bl1 {t k d c b : Int} {s : List (Int × Int × Int × Int)} {nm ak : List Int} {x : ZS} {w n e : Int} (h : zr f N x (1, t, k, d, c, b, (1, w, n, e) :: s, nm, ak)) (g : zso f N t = 3 ∧ f t = 125) : zr f N x (0, znx f N t, k, d - 1, 0, b, s, nm, ak) := by
  refine h.st ?_
  show zs1 f N t k d b nm ak ((1, w, n, e) :: s) = _
  rw [zs1, if_pos g]
  unfold zs6
  rw [if_neg (by decide), if_pos (by exact rfl)]
theorem zr.bl2 {t k d c b : Int} {s : List (Int × Int × Int × Int)} {nm ak : List Int} {x : ZS} {w n e : Int} (h : zr f N x (1, t, k, d, c, b, (2, w, n, e) :: s, nm, ak)) (g : zso f N t = 3 ∧ f t = 125) (n3 : ¬ (zso f N (znx f N t) = 1 ∧ zwd f N (znx f N t) = 3)) : zr f N x (1, znx f N t, k, d - 1, 0, b, s, nm, ak) := by
  refine h.st ?_
  show zs1 f N t k d b nm ak ((2, w, n, e) :: s) = _
  rw [zs1, if_pos g]
  unfold zs6
  rw [if_neg (by decide), if_neg (by decide), if_neg (by exact (fun q => n3 q.2))]
theorem zr.bel {t k d c b : Int} {s : List (Int × Int × Int × Int)} {nm ak : List Int} {x : ZS} {w n e : Int} (h : zr f N x (1, t, k, d, c, b, (2, w, n, e) :: s, nm, ak)) (g : zso f N t = 3 ∧ f t = 125) (y3 : zso f N (znx f N t) = 1 ∧ zwd f N (znx f N t) = 3) (g2 : zso f N (znx f N (znx f N t)) = 3 ∧ f (znx f N (znx f N t)) = 123) (hd : d - 1 < 12) : zr f N x (1, znx f N (znx f N (znx f N t)), k, d - 1 + 1, 0, b, (3, 0, 0, 0) :: s, nm, ak) := by
  refine h.st ?_
  show zs1 f N t k d b nm ak ((2, w, n, e) :: s) = _
  rw [zs1, if_pos g]
  unfold zs6
  rw [if_neg (by decide), if_neg (by decide), if_pos (by exact ⟨rfl, y3⟩), if_pos g2, if_pos hd]
theorem zr.beld {t k d c b : Int} {s : List (Int × Int × Int × Int)} {nm ak : List Int} {x : ZS} {w n e : Int} (h : zr f N x (1, t, k, d, c, b, (2, w, n, e) :: s, nm, ak)) (g : zso f N t = 3 ∧ f t = 125) (y3 : zso f N (znx f N t) = 1 ∧ zwd f N (znx f N t) = 3) (g2 : zso f N (znx f N (znx f N t)) = 3 ∧ f (znx f N (znx f N t)) = 123) (hd : 12 ≤ d - 1) : zr f N x (zft 3 (znx f N (znx f N t))) := by
  refine h.st ?_
  show zs1 f N t k d b nm ak ((2, w, n, e) :: s) = _
  rw [zs1, if_pos g]
  unfold zs6
  rw [if_neg (by decide), if_neg (by decide), if_pos (by exact ⟨rfl, y3⟩), if_pos g2, if_neg (by omega)]
theorem zr.belf {t k d c b : Int} {s : List (Int × Int × Int × Int)} {nm ak : List Int} {x : ZS} {w n e : Int} (h : zr f N x (1, t, k, d, c, b, (2, w, n, e) :: s, nm, ak)) (g : zso f N t = 3 ∧ f t = 125) (y3 : zso f N (znx f N t) = 1 ∧ zwd f N (znx f N t) = 3) (g2 : ¬ (zso f N (znx f N (znx f N t)) = 3 ∧ f (znx f N (znx f N t)) = 123)) : zr f N x (zrf f N (znx f N (znx f N t))) := by
  refine h.st ?_
  show zs1 f N t k d b nm ak ((2, w, n, e) :: s) = _
  rw [zs1, if_pos g]
  unfold zs6
  rw [if_neg (by decide), if_neg (by decide), if_pos (by exact ⟨rfl, y3⟩), if_neg g2]
theorem zr.bl3 {t k d c b : Int} {s : List (Int × Int × Int × Int)} {nm ak : List Int} {x : ZS} {w n e : Int} (h : zr f N x (1, t, k, d, c, b, (3, w, n, e) :: s, nm, ak)) (g : zso f N t = 3 ∧ f t = 125) : zr f N x (1, znx f N t, k, d - 1, 0, b, s, nm, ak) := by
  refine h.st ?_
  show zs1 f N t k d b nm ak ((3, w, n, e) :: s) = _
  rw [zs1, if_pos g]
  unfold zs6
  rw [if_neg (by decide), if_neg (by decide), if_neg (by exact (fun q => absurd q.1 (by decide)))]
theorem zr.dk {t k d c b : Int} {s : List (Int × Int × Int × Int)} {nm ak : List Int} {x : ZS} {a w n e : Int} (h : zr f N x (1, t, k, d, c, b, (a, w, n, e) :: s, nm, ak)) (h1 : zso f N t = 1) (hal : zwd f N t = 2 ∨ (4 ≤ zwd f N t ∧ zwd f N t ≤ 18 ∧ ¬ (b = 1 ∧ zwd f N t ≤ 9))) (hk : 300 ≤ k) : zr f N x (zft 3 t) := by
  refine h.st ?_
  show zs1 f N t k d b nm ak ((a, w, n, e) :: s) = _
  rw [zs1, if_neg (by omega), if_pos (by exact ⟨h1, hal⟩), if_neg (by omega)]
theorem zr.dno {t k d c b : Int} {s : List (Int × Int × Int × Int)} {nm ak : List Int} {x : ZS} {a w n e : Int} (h : zr f N x (1, t, k, d, c, b, (a, w, n, e) :: s, nm, ak)) (g : ¬ (zso f N t = 3 ∧ f t = 125)) (hal : ¬ (zso f N t = 1 ∧ (zwd f N t = 2 ∨ (4 ≤ zwd f N t ∧ zwd f N t ≤ 18 ∧ ¬ (b = 1 ∧ zwd f N t ≤ 9))))) : zr f N x (zrf f N t) := by
  refine h.st ?_
  show zs1 f N t k d b nm ak ((a, w, n, e) :: s) = _
  rw [zs1, if_neg g, if_neg hal]
theorem zr.dif {t k d c b : Int} {s : List (Int × Int × Int × Int)} {nm ak : List Int} {x : ZS} {a w n e : Int} (h : zr f N x (1, t, k, d, c, b, (a, w, n, e) :: s, nm, ak)) (h1 : zso f N t = 1) (hw : zwd f N t = 2) (hk : k < 300) : zr f N x (2, znx f N t, k + 1, d, 0, b, (11, 0, 0, 0) :: (a, w, n, e) :: s, nm, ak) := by
  refine h.st ?_
  show zs1 f N t k d b nm ak ((a, w, n, e) :: s) = _
  rw [zs1, if_neg (by omega), if_pos (by exact ⟨h1, Or.inl hw⟩), if_pos hk, if_pos hw]
theorem zr.dtk {t k d c b : Int} {s : List (Int × Int × Int × Int)} {nm ak : List Int} {x : ZS} {a w n e : Int} (h : zr f N x (1, t, k, d, c, b, (a, w, n, e) :: s, nm, ak)) (h1 : zso f N t = 1) (hw : 4 ≤ zwd f N t ∧ zwd f N t ≤ 7) (hb : ¬ (b = 1 ∧ zwd f N t ≤ 9)) (hk : k < 300) (g2 : zso f N (znx f N t) = 3 ∧ f (znx f N t) = 59) : zr f N x (1, znx f N (znx f N t), k + 1, d, 0, b, (a, w, n, e) :: s, nm, ak) := by
  refine h.st ?_
  show zs1 f N t k d b nm ak ((a, w, n, e) :: s) = _
  rw [zs1, if_neg (by omega), if_pos (by exact ⟨h1, Or.inr ⟨by omega, by omega, hb⟩⟩), if_pos hk, if_neg (by omega), if_pos hw.2, if_pos g2]
theorem zr.dtkf {t k d c b : Int} {s : List (Int × Int × Int × Int)} {nm ak : List Int} {x : ZS} {a w n e : Int} (h : zr f N x (1, t, k, d, c, b, (a, w, n, e) :: s, nm, ak)) (h1 : zso f N t = 1) (hw : 4 ≤ zwd f N t ∧ zwd f N t ≤ 7) (hb : ¬ (b = 1 ∧ zwd f N t ≤ 9)) (hk : k < 300) (g2 : ¬ (zso f N (znx f N t) = 3 ∧ f (znx f N t) = 59)) : zr f N x (zrf f N (znx f N t)) := by
  refine h.st ?_
  show zs1 f N t k d b nm ak ((a, w, n, e) :: s) = _
  rw [zs1, if_neg (by omega), if_pos (by exact ⟨h1, Or.inr ⟨by omega, by omega, hb⟩⟩), if_pos hk, if_neg (by omega), if_pos hw.2, if_neg g2]
theorem zr.djp {t k d c b : Int} {s : List (Int × Int × Int × Int)} {nm ak : List Int} {x : ZS} {a w n e : Int} (h : zr f N x (1, t, k, d, c, b, (a, w, n, e) :: s, nm, ak)) (h1 : zso f N t = 1) (hw : 8 ≤ zwd f N t ∧ zwd f N t ≤ 9) (hb : ¬ (b = 1 ∧ zwd f N t ≤ 9)) (hk : k < 300) (gn : zso f N (znx f N t) = 1 ∧ (zwd f N (znx f N t) = -1 ∨ 45 ≤ zwd f N (znx f N t))) (g2 : zso f N (znx f N (znx f N t)) = 3 ∧ f (znx f N (znx f N t)) = 59) : zr f N x (1, znx f N (znx f N (znx f N t)), k + 1, d, 0, b, (a, w, n, e) :: s, nm, ak ++ [znx f N t]) := by
  refine h.st ?_
  show zs1 f N t k d b nm ak ((a, w, n, e) :: s) = _
  rw [zs1, if_neg (by omega), if_pos (by exact ⟨h1, Or.inr ⟨by omega, by omega, hb⟩⟩), if_pos hk, if_neg (by omega), if_neg (by omega), if_pos hw.2, if_pos gn, if_pos g2]
theorem zr.djpf {t k d c b : Int} {s : List (Int × Int × Int × Int)} {nm ak : List Int} {x : ZS} {a w n e : Int} (h : zr f N x (1, t, k, d, c, b, (a, w, n, e) :: s, nm, ak)) (h1 : zso f N t = 1) (hw : 8 ≤ zwd f N t ∧ zwd f N t ≤ 9) (hb : ¬ (b = 1 ∧ zwd f N t ≤ 9)) (hk : k < 300) (gn : zso f N (znx f N t) = 1 ∧ (zwd f N (znx f N t) = -1 ∨ 45 ≤ zwd f N (znx f N t))) (g2 : ¬ (zso f N (znx f N (znx f N t)) = 3 ∧ f (znx f N (znx f N t)) = 59)) : zr f N x (zrf f N (znx f N (znx f N t))) := by
  refine h.st ?_
  show zs1 f N t k d b nm ak ((a, w, n, e) :: s) = _
  rw [zs1, if_neg (by omega), if_pos (by exact ⟨h1, Or.inr ⟨by omega, by omega, hb⟩⟩), if_pos hk, if_neg (by omega), if_neg (by omega), if_pos hw.2, if_pos gn, if_neg g2]
theorem zr.djpn {t k d c b : Int} {s : List (Int × Int × Int × Int)} {nm ak : List Int} {x : ZS} {a w n e : Int} (h : zr f N x (1, t, k, d, c, b, (a, w, n, e) :: s, nm, ak)) (h1 : zso f N t = 1) (hw : 8 ≤ zwd f N t ∧ zwd f N t ≤ 9) (hb : ¬ (b = 1 ∧ zwd f N t ≤ 9)) (hk : k < 300) (gn : ¬ (zso f N (znx f N t) = 1 ∧ (zwd f N (znx f N t) = -1 ∨ 45 ≤ zwd f N (znx f N t)))) : zr f N x (zrf f N (znx f N t)) := by
  refine h.st ?_
  show zs1 f N t k d b nm ak ((a, w, n, e) :: s) = _
  rw [zs1, if_neg (by omega), if_pos (by exact ⟨h1, Or.inr ⟨by omega, by omega, hb⟩⟩), if_pos hk, if_neg (by omega), if_neg (by omega), if_pos hw.2, if_neg gn]
theorem zr.dex {t k d c b : Int} {s : List (Int × Int × Int × Int)} {nm ak : List Int} {x : ZS} {a w n e : Int} (h : zr f N x (1, t, k, d, c, b, (a, w, n, e) :: s, nm, ak)) (h1 : zso f N t = 1) (hw : 10 ≤ zwd f N t ∧ zwd f N t ≤ 18) (hk : k < 300) : zr f N x (2, znx f N t, k + 1, d, 0, b, (10, zwd f N t, 1, 0) :: (a, w, n, e) :: s, nm, ak) := by
  refine h.st ?_
  show zs1 f N t k d b nm ak ((a, w, n, e) :: s) = _
  rw [zs1, if_neg (by omega), if_pos (by exact ⟨h1, Or.inr ⟨by omega, hw.2, by omega⟩⟩), if_pos hk, if_neg (by omega), if_neg (by omega), if_neg (by omega)]
theorem zr.fin {t k d c b : Int} {s : List (Int × Int × Int × Int)} {nm ak : List Int} {x : ZS}  (h : zr f N x (0, t, k, d, c, b, s, nm, ak)) (h0 : nm ≠ []) (h1 : zso f N t = 0) : zr f N x (zre f N nm ak) := by
  refine h.st ?_
  show zs0 f N t k nm ak = _
  unfold zs0
  rw [if_pos (by exact ⟨h0, h1⟩)]
theorem zr.cno {t k d c b : Int} {s : List (Int × Int × Int × Int)} {nm ak : List Int} {x : ZS}  (h : zr f N x (0, t, k, d, c, b, s, nm, ak)) (h0 : ¬ (nm ≠ [] ∧ zso f N t = 0)) (h1 : ¬ (zso f N t = 1 ∧ zwd f N t = 0)) : zr f N x (zrf f N t) := by
  refine h.st ?_
  show zs0 f N t k nm ak = _
  unfold zs0
  rw [if_neg h0, if_neg h1]
theorem zr.cfu {t k d c b : Int} {s : List (Int × Int × Int × Int)} {nm ak : List Int} {x : ZS}  (h : zr f N x (0, t, k, d, c, b, s, nm, ak)) (h1 : zso f N t = 1 ∧ zwd f N t = 0) (hl : 16 ≤ (nm.length : Int)) : zr f N x (zft 3 t) := by
  refine h.st ?_
  show zs0 f N t k nm ak = _
  unfold zs0
  rw [if_neg (by exact (fun q => by have q2 := q.2; omega)), if_pos h1, if_neg (by omega)]
theorem zr.cnf {t k d c b : Int} {s : List (Int × Int × Int × Int)} {nm ak : List Int} {x : ZS}  (h : zr f N x (0, t, k, d, c, b, s, nm, ak)) (h1 : zso f N t = 1 ∧ zwd f N t = 0) (hl : (nm.length : Int) < 16) (gn : ¬ (zso f N (znx f N t) = 1 ∧ (zwd f N (znx f N t) = -1 ∨ 45 ≤ zwd f N (znx f N t)))) : zr f N x (zrf f N (znx f N t)) := by
  refine h.st ?_
  show zs0 f N t k nm ak = _
  unfold zs0
  rw [if_neg (by exact (fun q => by have q2 := q.2; omega)), if_pos h1, if_pos hl, if_neg gn]
theorem zr.ctw {t k d c b : Int} {s : List (Int × Int × Int × Int)} {nm ak : List Int} {x : ZS}  (h : zr f N x (0, t, k, d, c, b, s, nm, ak)) (h1 : zso f N t = 1 ∧ zwd f N t = 0) (hl : (nm.length : Int) < 16) (gn : zso f N (znx f N t) = 1 ∧ (zwd f N (znx f N t) = -1 ∨ 45 ≤ zwd f N (znx f N t))) (hh : zhn f N nm (znx f N t) = true) : zr f N x (zft 4 (znx f N t)) := by
  refine h.st ?_
  show zs0 f N t k nm ak = _
  unfold zs0
  rw [if_neg (by exact (fun q => by have q2 := q.2; omega)), if_pos h1, if_pos hl, if_pos gn, if_pos hh]
theorem zr.cbf {t k d c b : Int} {s : List (Int × Int × Int × Int)} {nm ak : List Int} {x : ZS}  (h : zr f N x (0, t, k, d, c, b, s, nm, ak)) (h1 : zso f N t = 1 ∧ zwd f N t = 0) (hl : (nm.length : Int) < 16) (gn : zso f N (znx f N t) = 1 ∧ (zwd f N (znx f N t) = -1 ∨ 45 ≤ zwd f N (znx f N t))) (hh : zhn f N nm (znx f N t) = false) (g2 : ¬ (zso f N (znx f N (znx f N t)) = 3 ∧ f (znx f N (znx f N t)) = 123)) : zr f N x (zrf f N (znx f N (znx f N t))) := by
  refine h.st ?_
  show zs0 f N t k nm ak = _
  unfold zs0
  rw [if_neg (by exact (fun q => by have q2 := q.2; omega)), if_pos h1, if_pos hl, if_pos gn, if_neg (by rw [hh]; decide), if_neg g2]
theorem zr.cha {t k d c b : Int} {s : List (Int × Int × Int × Int)} {nm ak : List Int} {x : ZS}  (h : zr f N x (0, t, k, d, c, b, s, nm, ak)) (h1 : zso f N t = 1 ∧ zwd f N t = 0) (hl : (nm.length : Int) < 16) (gn : zso f N (znx f N t) = 1 ∧ (zwd f N (znx f N t) = -1 ∨ 45 ≤ zwd f N (znx f N t))) (hh : zhn f N nm (znx f N t) = false) (g2 : zso f N (znx f N (znx f N t)) = 3 ∧ f (znx f N (znx f N t)) = 123) : zr f N x (1, znx f N (znx f N (znx f N t)), k, 1, 0, 0, [(0, 0, 0, 0)], nm ++ [znx f N t], ak) := by
  refine h.st ?_
  show zs0 f N t k nm ak = _
  unfold zs0
  rw [if_neg (by exact (fun q => by have q2 := q.2; omega)), if_pos h1, if_pos hl, if_pos gn, if_neg (by rw [hh]; decide), if_pos g2]
theorem zr.rfu {t : Int} (h : zr f N x (zrf f N t)) (h4 : zso f N t = 4) : zr f N x (zft 1 t) := by
  unfold zrf at h
  rw [if_pos h4] at h
  exact h
theorem zr.rfm {t : Int} (h : zr f N x (zrf f N t)) (h4 : zso f N t ≠ 4) : zr f N x (zft 2 t) := by
  unfold zrf at h
  rw [if_neg h4] at h
  exact h
/-- a fault, as a memory tells it -/
theorem zr.fe {w p w' p' : Int} (h : zr f N x (zft w p)) (e : w' = w) (e2 : p' = p) : zr f N x (zft w' p') := by
  rw [e, e2]
  exact h
theorem zr.rfe {t w' p' : Int} (h : zr f N x (zrf f N t)) (e : w' = if zso f N t = 4 then 1 else 2) (e2 : p' = t) : zr f N x (zft w' p') := by
  rw [e, e2]
  exact h
theorem zr.rfx {t w' p' : Int} (h : zr f N x (zrf f N t)) (e4 : zso f N t = 4 → w' = 1) (e5 : zso f N t ≠ 4 → w' = 2) (e2 : p' = t) : zr f N x (zft w' p') := by
  refine h.rfe ?_ e2
  by_cases q : zso f N t = 4
  · rw [if_pos q]
    exact e4 q
  · rw [if_neg q]
    exact e5 q
theorem zr.e5 {t k d c b w k' d' w' : Int} {s : List (Int × Int × Int × Int)} {nm ak : List Int} (h : zr f N x (5, t, k, d, c, b, (w, 0, 0, 0) :: s, nm, ak)) (e1 : k' = k) (e2 : d' = d) (e3 : w' = w) : zr f N x (5, t, k', d', c, b, (w', 0, 0, 0) :: s, nm, ak) := by
  rw [e1, e2, e3]
  exact h
theorem zr.eq {m t k d c b m' t' k' d' c' b' : Int} {s : List (Int × Int × Int × Int)} {nm ak : List Int} (h : zr f N x (m, t, k, d, c, b, s, nm, ak)) (e1 : m' = m) (e2 : t' = t) (e3 : k' = k) (e4 : d' = d) (e5 : c' = c) (e6 : b' = b) : zr f N x (m', t', k', d', c', b', s, nm, ak) := by
  rw [e1, e2, e3, e4, e5, e6]
  exact h
end ZN
end
