section
/-! ===== the reference: calls that leave the data alone ===== -/
theorem r_wrong_x {A : Nat → Option (Nat × (Nat → Int32))} {Q : Option Value → jm → Prop} {M : jm} (hI_M : RI M) (hH_M : RH M) (hS_M : RF M) (q : ∀ (r : Int) (M' : jm), RI M' → RH M' → RF M' → (-1) ≤ r ∧ r ≤ 1600 → (∀ (a : Nat) (i : Int), a ≠ 603 → M' a i = M a i) → Q (some (.int (Int32.ofInt r))) M') : jc A 1 372 [.ref (598)] M Q := by
  refine jc_of (m := xm_372) rfl (Nat.le_of_ble_eq_true rfl) rfl ?_
  refine jr.aload_n rfl rfl ?_
  obtain ⟨v1, e1⟩ : ∃ z, M 598 81 = z := ⟨_, rfl⟩
  have b1 : (-1) ≤ v1 ∧ v1 ≤ 1600 := by rw [← e1]; exact hI_M 598 81 (Nat.le_of_ble_eq_true rfl)
  refine jr.getf (i := 81) (x := v1) (v := .int (Int32.ofInt (v1))) rfl rfl (nlt rfl) rfl (nlt rfl) rfl rfl e1 rfl ?_
  exact jr.ireturn rfl rfl rfl (q _ _ hI_M hH_M hS_M  (by omega) (fun a i f603 => rfl))
theorem r_why_x {A : Nat → Option (Nat × (Nat → Int32))} {Q : Option Value → jm → Prop} {M : jm} (hI_M : RI M) (hH_M : RH M) (hS_M : RF M) {w : Int} (h_w : (-2147483648) ≤ w ∧ w ≤ 2147483647) (q : ∀ (r : Int) (M' : jm), RI M' → RH M' → RF M' → (-2147483648) ≤ r ∧ r ≤ 2147483647 → (∀ (a : Nat) (i : Int), a ≠ 603 → M' a i = M a i) → Q (some (.int (Int32.ofInt r))) M') : jc A 2 402 [.ref (598), .int (Int32.ofInt (w))] M Q := by
  refine jc_of (m := xm_402) rfl (Nat.le_of_ble_eq_true rfl) rfl ?_
  refine jr.aload_n rfl rfl ?_
  obtain ⟨v1, e1⟩ : ∃ z, M 598 140 = z := ⟨_, rfl⟩
  have b1 : 0 ≤ v1 ∧ v1 ≤ 1 := by rw [← e1]; exact hI_M 598 140 (Nat.le_of_ble_eq_true rfl)
  refine jr.getf (i := 140) (x := v1) (v := .int (Int32.ofInt (v1))) rfl rfl (nlt rfl) rfl (nlt rfl) rfl rfl e1 rfl ?_
  refine jr.if_ne rfl rfl (by first | (refine rgb (by assumption) ?_; exact rfl) | omega) (fun h4 => ?_) (fun h4 => ?_)
  · have sx4 : (1 : Int) ≤ v1 := by omega
    clear h4
    refine jr.iload_n rfl rfl ?_
    rcases (show w = 0 ∨ w = 1 ∨ w = 2 ∨ w = 3 ∨ w = 4 ∨ (w ≠ 0 ∧ w ≠ 1 ∧ w ≠ 2 ∧ w ≠ 3 ∧ w ≠ 4) by omega) with h10 | h10 | h10 | h10 | h10 | h10
    · refine jr.tsw_k 0 rfl h10 rfl ?_
      refine jr.aload_n rfl rfl ?_
      obtain ⟨v2, e2⟩ : ∃ z, M 598 141 = z := ⟨_, rfl⟩
      have b2 : 0 ≤ v2 ∧ v2 ≤ 8 := by rw [← e2]; exact hI_M 598 141 (Nat.le_of_ble_eq_true rfl)
      refine jr.getf (i := 141) (x := v2) (v := .int (Int32.ofInt (v2))) rfl rfl (nlt rfl) rfl (nlt rfl) rfl rfl e2 rfl ?_
      exact jr.ireturn rfl rfl rfl (q _ _ hI_M hH_M hS_M  (by omega) (fun a i f603 => rfl))
    · refine jr.tsw_k 1 rfl h10 rfl ?_
      refine jr.aload_n rfl rfl ?_
      obtain ⟨v3, e3⟩ : ∃ z, M 598 142 = z := ⟨_, rfl⟩
      have b3 : (-9223372036854775808) ≤ v3 ∧ v3 ≤ 9223372036854775807 := by rw [← e3]; exact hI_M 598 142 (Nat.le_of_ble_eq_true rfl)
      refine jr.getf (i := 142) (x := v3) (v := .long (Int64.ofInt (v3))) rfl rfl (nlt rfl) rfl (nlt rfl) rfl rfl e3 rfl ?_
      refine jr.l2i rfl ?_
      refine jr.iw (j_w v3) (j_w_eq _) ?_
      have b4 : -2147483648 ≤ j_w v3 ∧ j_w v3 ≤ 2147483647 := jb_any _
      generalize j_w v3 = v4 at b4 ⊢
      exact jr.ireturn rfl rfl rfl (q _ _ hI_M hH_M hS_M  (by omega) (fun a i f603 => rfl))
    · refine jr.tsw_k 2 rfl h10 rfl ?_
      refine jr.aload_n rfl rfl ?_
      obtain ⟨v5, e5⟩ : ∃ z, M 598 143 = z := ⟨_, rfl⟩
      have b5 : 0 ≤ v5 ∧ v5 ≤ 300 := by rw [← e5]; exact hI_M 598 143 (Nat.le_of_ble_eq_true rfl)
      refine jr.getf (i := 143) (x := v5) (v := .int (Int32.ofInt (v5))) rfl rfl (nlt rfl) rfl (nlt rfl) rfl rfl e5 rfl ?_
      exact jr.ireturn rfl rfl rfl (q _ _ hI_M hH_M hS_M  (by omega) (fun a i f603 => rfl))
    · refine jr.tsw_k 3 rfl h10 rfl ?_
      refine jr.aload_n rfl rfl ?_
      obtain ⟨v6, e6⟩ : ∃ z, M 598 144 = z := ⟨_, rfl⟩
      have b6 : (-1) ≤ v6 ∧ v6 ≤ 15 := by rw [← e6]; exact hI_M 598 144 (Nat.le_of_ble_eq_true rfl)
      refine jr.getf (i := 144) (x := v6) (v := .int (Int32.ofInt (v6))) rfl rfl (nlt rfl) rfl (nlt rfl) rfl rfl e6 rfl ?_
      exact jr.ireturn rfl rfl rfl (q _ _ hI_M hH_M hS_M  (by omega) (fun a i f603 => rfl))
    · refine jr.tsw_k 4 rfl h10 rfl ?_
      refine jr.aload_n rfl rfl ?_
      obtain ⟨v7, e7⟩ : ∃ z, M 598 145 = z := ⟨_, rfl⟩
      have b7 : 0 ≤ v7 ∧ v7 ≤ 40 := by rw [← e7]; exact hI_M 598 145 (Nat.le_of_ble_eq_true rfl)
      refine jr.getf (i := 145) (x := v7) (v := .int (Int32.ofInt (v7))) rfl rfl (nlt rfl) rfl (nlt rfl) rfl rfl e7 rfl ?_
      exact jr.ireturn rfl rfl rfl (q _ _ hI_M hH_M hS_M  (by omega) (fun a i f603 => rfl))
    · refine jr.tsw_d rfl (by omega) (by omega) rfl ?_
      refine jr.iload_n rfl rfl ?_
      refine jr.i2l rfl (by omega) ?_
      refine jr.ldc2 (x := 10) rfl rfl (by decide) ?_
      refine jr.bipush rfl (jbp _ (nlt rfl)) ?_
      refine jr.aload_n rfl rfl ?_
      obtain ⟨v8, e8⟩ : ∃ z, M 598 145 = z := ⟨_, rfl⟩
      have b8 : 0 ≤ v8 ∧ v8 ≤ 40 := by rw [← e8]; exact hI_M 598 145 (Nat.le_of_ble_eq_true rfl)
      refine jr.getf (i := 145) (x := v8) (v := .int (Int32.ofInt (v8))) rfl rfl (nlt rfl) rfl (nlt rfl) rfl rfl e8 rfl ?_
      refine jr.iadd rfl ?_
      refine jr.i2l rfl (by omega) ?_
      refine jr_s rfl rfl (Or.inl rfl) ⟨Nat.le_of_ble_eq_true rfl, Nat.le_of_ble_eq_true rfl⟩ rfl rfl (jc.deep (c_within (by omega) (by omega) (by omega) (fun l83 u83 => ?_) (fun n83 => ?_)) (Nat.le_of_ble_eq_true rfl))
      · refine jr.if_eq rfl rfl (by first | exact rgl rfl | omega) (fun h => absurd h (by decide)) (fun _ => ?_)
        refine jr.aload_n rfl rfl ?_
        refine jr.getf (i := 146) (v := .ref 687) rfl rfl (nlt rfl) rfl (nlt rfl) rfl rfl rfl rfl ?_
        refine jr.iload_n rfl rfl ?_
        refine jr.bipush rfl (jbp _ (nlt rfl)) ?_
        refine jr.isub rfl ?_
        obtain ⟨v9, e9⟩ : ∃ z, M 687 (w - 10) = z := ⟨_, rfl⟩
        have b9 : 0 ≤ v9 ∧ v9 ≤ 1600 := by rw [← e9]; exact (by have q := hI_M 687 (w - 10) (Nat.le_of_ble_eq_true rfl); rw [xri_row rfl rfl] at q; exact q)
        refine jr.iald (i := (w - 10)) (x := v9) rfl (nlt rfl) rfl (Nat.le_of_ble_eq_true rfl) (by omega) (by omega) e9 ?_
        refine jr.goto rfl rfl ?_
        exact jr.ireturn rfl rfl rfl (q _ _ hI_M hH_M hS_M  (by omega) (fun a i f603 => rfl))
      · refine jr.if_eq rfl rfl (by first | exact rgl rfl | omega) (fun _ => ?_) (fun h => absurd (by decide) h)
        refine jr.iconst rfl ?_
        exact jr.ireturn rfl rfl rfl (q _ _ hI_M hH_M hS_M  (by first | exact rgq rfl | omega) (fun a i f603 => rfl))
  · refine jr.iconst rfl ?_
    exact jr.ireturn rfl rfl rfl (q _ _ hI_M hH_M hS_M  (by first | exact rgq rfl | omega) (fun a i f603 => rfl))
theorem r_counter_x {A : Nat → Option (Nat × (Nat → Int32))} {Q : Option Value → jm → Prop} {M : jm} (hI_M : RI M) (hH_M : RH M) (hS_M : RF M) {k : Int} (h_k : (-2147483648) ≤ k ∧ k ≤ 2147483647) (q : ∀ (r : Int) (M' : jm), RI M' → RH M' → RF M' → (-9223372036854775808) ≤ r ∧ r ≤ 9223372036854775807 → (∀ (a : Nat) (i : Int), a ≠ 603 → M' a i = M a i) → Q (some (.long (Int64.ofInt r))) M') : jc A 2 403 [.ref (598), .int (Int32.ofInt (k))] M Q := by
  refine jc_of (m := xm_403) rfl (Nat.le_of_ble_eq_true rfl) rfl ?_
  refine jr.iload_n rfl rfl ?_
  refine jr.i2l rfl (by omega) ?_
  refine jr.lconst (x := 0) rfl (by decide) ?_
  refine jr.ldc2 (x := 7) rfl rfl (by decide) ?_
  refine jr_s rfl rfl (Or.inl rfl) ⟨Nat.le_of_ble_eq_true rfl, Nat.le_of_ble_eq_true rfl⟩ rfl rfl (jc.deep (c_within (by omega) (by omega) (by omega) (fun l6 u6 => ?_) (fun n6 => ?_)) (Nat.le_of_ble_eq_true rfl))
  · refine jr.if_eq rfl rfl (by first | exact rgl rfl | omega) (fun h => absurd h (by decide)) (fun _ => ?_)
    refine jr.aload_n rfl rfl ?_
    refine jr.getf (i := 114) (v := .ref 671) rfl rfl (nlt rfl) rfl (nlt rfl) rfl rfl rfl rfl ?_
    refine jr.iload_n rfl rfl ?_
    obtain ⟨v1, e1⟩ : ∃ z, M 671 k = z := ⟨_, rfl⟩
    have b1 : (-9223372036854775808) ≤ v1 ∧ v1 ≤ 9223372036854775807 := by rw [← e1]; exact (by have q := hI_M 671 k (Nat.le_of_ble_eq_true rfl); rw [xri_row rfl rfl] at q; exact q)
    refine jr.lald (i := k) (x := v1) rfl (nlt rfl) rfl (Nat.le_of_ble_eq_true rfl) (by omega) (by omega) e1 ?_
    refine jr.goto rfl rfl ?_
    exact jr.lreturn rfl rfl (q _ _ hI_M hH_M hS_M  (by omega) (fun a i f603 => rfl))
  · refine jr.if_eq rfl rfl (by first | exact rgl rfl | omega) (fun _ => ?_) (fun h => absurd (by decide) h)
    refine jr.ldc2 (x := (-1)) rfl rfl (by decide) ?_
    exact jr.lreturn rfl rfl (q _ _ hI_M hH_M hS_M  (by omega) (fun a i f603 => rfl))
theorem r_logged_x {A : Nat → Option (Nat × (Nat → Int32))} {Q : Option Value → jm → Prop} {M : jm} (hI_M : RI M) (hH_M : RH M) (hS_M : RF M) {i : Int} (h_i : (-2147483648) ≤ i ∧ i ≤ 2147483647) (q : ∀ (r : Int) (M' : jm), RI M' → RH M' → RF M' → (-9223372036854775808) ≤ r ∧ r ≤ 9223372036854775807 → (∀ (a : Nat) (i : Int), a ≠ 603 → M' a i = M a i) → Q (some (.long (Int64.ofInt r))) M') : jc A 2 404 [.ref (598), .int (Int32.ofInt (i))] M Q := by
  refine jc_of (m := xm_404) rfl (Nat.le_of_ble_eq_true rfl) rfl ?_
  refine jr.aload_n rfl rfl ?_
  obtain ⟨v1, e1⟩ : ∃ z, M 598 112 = z := ⟨_, rfl⟩
  have b1 : 0 ≤ v1 ∧ v1 ≤ 2147483647 := by rw [← e1]; exact hI_M 598 112 (Nat.le_of_ble_eq_true rfl)
  refine jr.getf (i := 112) (x := v1) (v := .int (Int32.ofInt (v1))) rfl rfl (nlt rfl) rfl (nlt rfl) rfl rfl e1 rfl ?_
  refine jr.bipush rfl (jbp _ (nlt rfl)) ?_
  refine jr.icmp_ge rfl rfl (by first | (refine rgb (by assumption) ?_; exact rfl) | omega) (rgl rfl) (fun h6 => ?_) (fun h6 => ?_)
  · refine jr.bipush rfl (jbp _ (nlt rfl)) ?_
    refine jr.istore_n (ls' := [_, _, _]) rfl (nlt rfl) rfl ?_
    refine jr.iload_n rfl rfl ?_
    refine jr.i2l rfl (by omega) ?_
    refine jr.lconst (x := 0) rfl (by decide) ?_
    refine jr.iload_n rfl rfl ?_
    refine jr.iconst rfl ?_
    refine jr.isub rfl ?_
    refine jr.i2l rfl (by omega) ?_
    refine jr_s rfl rfl (Or.inl rfl) ⟨Nat.le_of_ble_eq_true rfl, Nat.le_of_ble_eq_true rfl⟩ rfl rfl (jc.deep (c_within (by omega) (by omega) (by omega) (fun l26 u26 => ?_) (fun n26 => ?_)) (Nat.le_of_ble_eq_true rfl))
    · refine jr.if_eq rfl rfl (by first | exact rgl rfl | omega) (fun h => absurd h (by decide)) (fun _ => ?_)
      refine jr.aload_n rfl rfl ?_
      refine jr.getf (i := 113) (v := .ref 670) rfl rfl (nlt rfl) rfl (nlt rfl) rfl rfl rfl rfl ?_
      refine jr.aload_n rfl rfl ?_
      refine jr.getf (i := 112) (x := v1) (v := .int (Int32.ofInt (v1))) rfl rfl (nlt rfl) rfl (nlt rfl) rfl rfl e1 rfl ?_
      refine jr.iconst rfl ?_
      refine jr.isub rfl ?_
      refine jr.iload_n rfl rfl ?_
      refine jr.isub rfl ?_
      refine jr.bipush rfl (jbp _ (nlt rfl)) ?_
      refine jr.irem rfl (by decide) ?_
      have b2 : j_rem ((v1 - 1) - i) 20 = ((v1 - 1) - i) % 20 := j_rem_ex (by omega) (by omega)
      generalize j_rem ((v1 - 1) - i) 20 = v2 at b2 ⊢
      obtain ⟨v3, e3⟩ : ∃ z, M 670 v2 = z := ⟨_, rfl⟩
      have b3 : (-9223372036854775808) ≤ v3 ∧ v3 ≤ 9223372036854775807 := by rw [← e3]; exact (by have q := hI_M 670 v2 (Nat.le_of_ble_eq_true rfl); rw [xri_row rfl rfl] at q; exact q)
      refine jr.lald (i := v2) (x := v3) rfl (nlt rfl) rfl (Nat.le_of_ble_eq_true rfl) (by omega) (by omega) e3 ?_
      refine jr.goto rfl rfl ?_
      exact jr.lreturn rfl rfl (q _ _ hI_M hH_M hS_M  (by omega) (fun a i f603 => rfl))
    · refine jr.if_eq rfl rfl (by first | exact rgl rfl | omega) (fun _ => ?_) (fun h => absurd (by decide) h)
      refine jr.ldc2 (x := (-1)) rfl rfl (by decide) ?_
      exact jr.lreturn rfl rfl (q _ _ hI_M hH_M hS_M  (by omega) (fun a i f603 => rfl))
  · refine jr.aload_n rfl rfl ?_
    refine jr.getf (i := 112) (x := v1) (v := .int (Int32.ofInt (v1))) rfl rfl (nlt rfl) rfl (nlt rfl) rfl rfl e1 rfl ?_
    refine jr.goto rfl rfl ?_
    refine jr.istore_n (ls' := [_, _, _]) rfl (nlt rfl) rfl ?_
    refine jr.iload_n rfl rfl ?_
    refine jr.i2l rfl (by omega) ?_
    refine jr.lconst (x := 0) rfl (by decide) ?_
    refine jr.iload_n rfl rfl ?_
    refine jr.iconst rfl ?_
    refine jr.isub rfl ?_
    refine jr.i2l rfl (by omega) ?_
    refine jr_s rfl rfl (Or.inl rfl) ⟨Nat.le_of_ble_eq_true rfl, Nat.le_of_ble_eq_true rfl⟩ rfl rfl (jc.deep (c_within (by omega) (by omega) (by omega) (fun l26 u26 => ?_) (fun n26 => ?_)) (Nat.le_of_ble_eq_true rfl))
    · refine jr.if_eq rfl rfl (by first | exact rgl rfl | omega) (fun h => absurd h (by decide)) (fun _ => ?_)
      refine jr.aload_n rfl rfl ?_
      refine jr.getf (i := 113) (v := .ref 670) rfl rfl (nlt rfl) rfl (nlt rfl) rfl rfl rfl rfl ?_
      refine jr.aload_n rfl rfl ?_
      refine jr.getf (i := 112) (x := v1) (v := .int (Int32.ofInt (v1))) rfl rfl (nlt rfl) rfl (nlt rfl) rfl rfl e1 rfl ?_
      refine jr.iconst rfl ?_
      refine jr.isub rfl ?_
      refine jr.iload_n rfl rfl ?_
      refine jr.isub rfl ?_
      refine jr.bipush rfl (jbp _ (nlt rfl)) ?_
      refine jr.irem rfl (by decide) ?_
      have b4 : j_rem ((v1 - 1) - i) 20 = ((v1 - 1) - i) % 20 := j_rem_ex (by omega) (by omega)
      generalize j_rem ((v1 - 1) - i) 20 = v4 at b4 ⊢
      obtain ⟨v5, e5⟩ : ∃ z, M 670 v4 = z := ⟨_, rfl⟩
      have b5 : (-9223372036854775808) ≤ v5 ∧ v5 ≤ 9223372036854775807 := by rw [← e5]; exact (by have q := hI_M 670 v4 (Nat.le_of_ble_eq_true rfl); rw [xri_row rfl rfl] at q; exact q)
      refine jr.lald (i := v4) (x := v5) rfl (nlt rfl) rfl (Nat.le_of_ble_eq_true rfl) (by omega) (by omega) e5 ?_
      refine jr.goto rfl rfl ?_
      exact jr.lreturn rfl rfl (q _ _ hI_M hH_M hS_M  (by omega) (fun a i f603 => rfl))
    · refine jr.if_eq rfl rfl (by first | exact rgl rfl | omega) (fun _ => ?_) (fun h => absurd (by decide) h)
      refine jr.ldc2 (x := (-1)) rfl rfl (by decide) ?_
      exact jr.lreturn rfl rfl (q _ _ hI_M hH_M hS_M  (by omega) (fun a i f603 => rfl))
theorem r_learned_x {A : Nat → Option (Nat × (Nat → Int32))} {Q : Option Value → jm → Prop} {M : jm} (hI_M : RI M) (hH_M : RH M) (hS_M : RF M) {k : Int} (h_k : (-2147483648) ≤ k ∧ k ≤ 2147483647) {i : Int} (h_i : (-2147483648) ≤ i ∧ i ≤ 2147483647) (q : ∀ (r : Int) (M' : jm), RI M' → RH M' → RF M' → (-9223372036854775808) ≤ r ∧ r ≤ 9223372036854775807 → (∀ (a : Nat) (i : Int), a ≠ 603 → M' a i = M a i) → Q (some (.long (Int64.ofInt r))) M') : jc A 2 405 [.ref (598), .int (Int32.ofInt (k)), .int (Int32.ofInt (i))] M Q := by
  refine jc_of (m := xm_405) rfl (Nat.le_of_ble_eq_true rfl) rfl ?_
  refine jr.iload_n rfl rfl ?_
  refine jr.i2l rfl (by omega) ?_
  refine jr.lconst (x := 0) rfl (by decide) ?_
  refine jr.ldc2 (x := 3) rfl rfl (by decide) ?_
  refine jr_s rfl rfl (Or.inl rfl) ⟨Nat.le_of_ble_eq_true rfl, Nat.le_of_ble_eq_true rfl⟩ rfl rfl (jc.deep (c_within (by omega) (by omega) (by omega) (fun l6 u6 => ?_) (fun n6 => ?_)) (Nat.le_of_ble_eq_true rfl))
  · refine jr.if_ne rfl rfl (by first | exact rgl rfl | omega) (fun _ => ?_) (fun h => absurd (by decide) h)
    refine jr.iload_n rfl rfl ?_
    refine jr.iconst rfl ?_
    refine jr.icmp_ne rfl rfl (by first | (refine rgb (by assumption) ?_; exact rfl) | omega) (rgl rfl) (fun h18 => ?_) (fun h18 => ?_)
    · refine jr.iload_n rfl rfl ?_
      refine jr.i2l rfl (by omega) ?_
      refine jr.lconst (x := 0) rfl (by decide) ?_
      refine jr.aload_n rfl rfl ?_
      refine jr.getf (i := 115) (v := .ref 672) rfl rfl (nlt rfl) rfl (nlt rfl) rfl rfl rfl rfl ?_
      refine jr.iload_n rfl rfl ?_
      obtain ⟨v1, e1⟩ : ∃ z, M 672 k = z := ⟨_, rfl⟩
      have b1 : 0 ≤ v1 ∧ v1 ≤ 16 := by rw [← e1]; exact (by have q := hI_M 672 k (Nat.le_of_ble_eq_true rfl); rw [xri_row rfl rfl] at q; exact q)
      refine jr.iald (i := k) (x := v1) rfl (nlt rfl) rfl (Nat.le_of_ble_eq_true rfl) (by omega) (by omega) e1 ?_
      refine jr.iconst rfl ?_
      refine jr.isub rfl ?_
      refine jr.i2l rfl (by omega) ?_
      refine jr_s rfl rfl (Or.inl rfl) ⟨Nat.le_of_ble_eq_true rfl, Nat.le_of_ble_eq_true rfl⟩ rfl rfl (jc.deep (c_within (by omega) (by omega) (by omega) (fun l43 u43 => ?_) (fun n43 => ?_)) (Nat.le_of_ble_eq_true rfl))
      · refine jr.if_eq rfl rfl (by first | exact rgl rfl | omega) (fun h => absurd h (by decide)) (fun _ => ?_)
        refine jr.aload_n rfl rfl ?_
        refine jr.getf (i := 116) (v := .ref 673) rfl rfl (nlt rfl) rfl (nlt rfl) rfl rfl rfl rfl ?_
        refine jr.bipush rfl (jbp _ (nlt rfl)) ?_
        refine jr.iload_n rfl rfl ?_
        refine jr.imul rfl ?_
        refine jr.iload_n rfl rfl ?_
        refine jr.iadd rfl ?_
        obtain ⟨v2, e2⟩ : ∃ z, M 673 ((16 * k) + i) = z := ⟨_, rfl⟩
        have b2 : (-9223372036854775808) ≤ v2 ∧ v2 ≤ 9223372036854775807 := by rw [← e2]; exact (by have q := hI_M 673 ((16 * k) + i) (by decide); rw [xri_row rfl rfl] at q; exact q)
        refine jr.lald (i := ((16 * k) + i)) (x := v2) rfl (nlt rfl) rfl (Nat.le_of_ble_eq_true rfl) (by omega) (by omega) e2 ?_
        refine jr.goto rfl rfl ?_
        exact jr.lreturn rfl rfl (q _ _ hI_M hH_M hS_M  (by omega) (fun a i f603 => rfl))
      · refine jr.if_eq rfl rfl (by first | exact rgl rfl | omega) (fun _ => ?_) (fun h => absurd (by decide) h)
        refine jr.ldc2 (x := (-1)) rfl rfl (by decide) ?_
        exact jr.lreturn rfl rfl (q _ _ hI_M hH_M hS_M  (by omega) (fun a i f603 => rfl))
    · refine jr.aload_n rfl rfl ?_
      refine jr.getf (i := 115) (v := .ref 672) rfl rfl (nlt rfl) rfl (nlt rfl) rfl rfl rfl rfl ?_
      refine jr.iload_n rfl rfl ?_
      obtain ⟨v3, e3⟩ : ∃ z, M 672 k = z := ⟨_, rfl⟩
      have b3 : 0 ≤ v3 ∧ v3 ≤ 16 := by rw [← e3]; exact (by have q := hI_M 672 k (Nat.le_of_ble_eq_true rfl); rw [xri_row rfl rfl] at q; exact q)
      refine jr.iald (i := k) (x := v3) rfl (nlt rfl) rfl (Nat.le_of_ble_eq_true rfl) (by omega) (by omega) e3 ?_
      refine jr.i2l rfl (by omega) ?_
      refine jr.goto rfl rfl ?_
      exact jr.lreturn rfl rfl (q _ _ hI_M hH_M hS_M  (by omega) (fun a i f603 => rfl))
  · refine jr.if_ne rfl rfl (by first | exact rgl rfl | omega) (fun h => absurd h (by decide)) (fun _ => ?_)
    refine jr.ldc2 (x := (-1)) rfl rfl (by decide) ?_
    exact jr.lreturn rfl rfl (q _ _ hI_M hH_M hS_M  (by omega) (fun a i f603 => rfl))
theorem r_rowAt_x {A : Nat → Option (Nat × (Nat → Int32))} {Q : Option Value → jm → Prop} {M : jm} (hI_M : RI M) (hH_M : RH M) (hS_M : RF M) {k : Int} (h_k : (-2147483648) ≤ k ∧ k ≤ 2147483647) {i : Int} (h_i : (-2147483648) ≤ i ∧ i ≤ 2147483647) (q : ∀ (r : Int) (M' : jm), RI M' → RH M' → RF M' → (-9223372036854775808) ≤ r ∧ r ≤ 9223372036854775807 → (∀ (a : Nat) (i : Int), a ≠ 603 → M' a i = M a i) → Q (some (.long (Int64.ofInt r))) M') : jc A 2 406 [.ref (598), .int (Int32.ofInt (k)), .int (Int32.ofInt (i))] M Q := by
  refine jc_of (m := xm_406) rfl (Nat.le_of_ble_eq_true rfl) rfl ?_
  refine jr.iload_n rfl rfl ?_
  refine jr.i2l rfl (by omega) ?_
  refine jr.lconst (x := 0) rfl (by decide) ?_
  refine jr.ldc2 (x := 7) rfl rfl (by decide) ?_
  refine jr_s rfl rfl (Or.inl rfl) ⟨Nat.le_of_ble_eq_true rfl, Nat.le_of_ble_eq_true rfl⟩ rfl rfl (jc.deep (c_within (by omega) (by omega) (by omega) (fun l6 u6 => ?_) (fun n6 => ?_)) (Nat.le_of_ble_eq_true rfl))
  · refine jr.if_ne rfl rfl (by first | exact rgl rfl | omega) (fun _ => ?_) (fun h => absurd (by decide) h)
    refine jr.iload_n rfl rfl ?_
    refine jr.iconst rfl ?_
    refine jr.icmp_ne rfl rfl (by first | (refine rgb (by assumption) ?_; exact rfl) | omega) (rgl rfl) (fun h18 => ?_) (fun h18 => ?_)
    · refine jr.aload_n rfl rfl ?_
      refine jr.getf (i := 117) (v := .ref 674) rfl rfl (nlt rfl) rfl (nlt rfl) rfl rfl rfl rfl ?_
      refine jr.iload_n rfl rfl ?_
      obtain ⟨v1, e1⟩ : ∃ z, M 674 k = z := ⟨_, rfl⟩
      have b1 : (-1) ≤ v1 ∧ v1 ≤ 6 := by rw [← e1]; exact (by have q := hI_M 674 k (Nat.le_of_ble_eq_true rfl); rw [xri_row rfl rfl] at q; exact q)
      refine jr.iald (i := k) (x := v1) rfl (nlt rfl) rfl (Nat.le_of_ble_eq_true rfl) (by omega) (by omega) e1 ?_
      refine jr.iconst rfl ?_
      refine jr.icmp_eq rfl rfl (by first | (refine rgb (by assumption) ?_; exact rfl) | omega) (rgl rfl) (fun h36 => ?_) (fun h36 => ?_)
      · refine jr.ldc2 (x := (-1)) rfl rfl (by decide) ?_
        exact jr.lreturn rfl rfl (q _ _ hI_M hH_M hS_M  (by omega) (fun a i f603 => rfl))
      · have sx36 : (0 : Int) ≤ v1 := by omega
        clear h36
        refine jr.iload_n rfl rfl ?_
        refine jr.i2l rfl (by omega) ?_
        refine jr.lconst (x := 0) rfl (by decide) ?_
        refine jr.aload_n rfl rfl ?_
        refine jr.getf (i := 118) (v := .ref 675) rfl rfl (nlt rfl) rfl (nlt rfl) rfl rfl rfl rfl ?_
        refine jr.iload_n rfl rfl ?_
        obtain ⟨v2, e2⟩ : ∃ z, M 675 k = z := ⟨_, rfl⟩
        have b2 : 0 ≤ v2 ∧ v2 ≤ 40 := by rw [← e2]; exact (by have q := hI_M 675 k (Nat.le_of_ble_eq_true rfl); rw [xri_row rfl rfl] at q; exact q)
        refine jr.iald (i := k) (x := v2) rfl (nlt rfl) rfl (Nat.le_of_ble_eq_true rfl) (by omega) (by omega) e2 ?_
        refine jr.iconst rfl ?_
        refine jr.isub rfl ?_
        refine jr.i2l rfl (by omega) ?_
        refine jr_s rfl rfl (Or.inl rfl) ⟨Nat.le_of_ble_eq_true rfl, Nat.le_of_ble_eq_true rfl⟩ rfl rfl (jc.deep (c_within (by omega) (by omega) (by omega) (fun l51 u51 => ?_) (fun n51 => ?_)) (Nat.le_of_ble_eq_true rfl))
        · refine jr.if_ne rfl rfl (by first | exact rgl rfl | omega) (fun _ => ?_) (fun h => absurd (by decide) h)
          refine jr.aload_n rfl rfl ?_
          refine jr.getf (i := 117) (v := .ref 674) rfl rfl (nlt rfl) rfl (nlt rfl) rfl rfl rfl rfl ?_
          refine jr.iload_n rfl rfl ?_
          refine jr.iald (i := k) (x := v1) rfl (nlt rfl) rfl (Nat.le_of_ble_eq_true rfl) (by omega) (by omega) e1 ?_
          refine jr.iconst rfl ?_
          refine jr.icmp_le rfl rfl (by first | (refine rgb (by assumption) ?_; exact rfl) | omega) (rgl rfl) (fun h68 => ?_) (fun h68 => ?_)
          · refine jr.aload_n rfl rfl ?_
            refine jr.getf (i := 119) (v := .ref 676) rfl rfl (nlt rfl) rfl (nlt rfl) rfl rfl rfl rfl ?_
            refine jr.bipush rfl (jbp _ (nlt rfl)) ?_
            refine jr.iload_n rfl rfl ?_
            refine jr.imul rfl ?_
            refine jr.iload_n rfl rfl ?_
            refine jr.iadd rfl ?_
            obtain ⟨v3, e3⟩ : ∃ z, M 676 ((40 * k) + i) = z := ⟨_, rfl⟩
            have b3 : (-9223372036854775808) ≤ v3 ∧ v3 ≤ 9223372036854775807 := by rw [← e3]; exact (by have q := hI_M 676 ((40 * k) + i) (by decide); rw [xri_row rfl rfl] at q; exact q)
            refine jr.lald (i := ((40 * k) + i)) (x := v3) rfl (nlt rfl) rfl (Nat.le_of_ble_eq_true rfl) (by omega) (by omega) e3 ?_
            exact jr.lreturn rfl rfl (q _ _ hI_M hH_M hS_M  (by omega) (fun a i f603 => rfl))
          · refine jr.aload_n rfl rfl ?_
            refine jr.getf (i := 120) (v := .ref 677) rfl rfl (nlt rfl) rfl (nlt rfl) rfl rfl rfl rfl ?_
            refine jr.bipush rfl (jbp _ (nlt rfl)) ?_
            refine jr.iload_n rfl rfl ?_
            refine jr.imul rfl ?_
            refine jr.iload_n rfl rfl ?_
            refine jr.iadd rfl ?_
            obtain ⟨v4, e4⟩ : ∃ z, M 677 ((40 * k) + i) = z := ⟨_, rfl⟩
            have b4 : (-1) ≤ v4 ∧ v4 ≤ 11 := by rw [← e4]; exact (by have q := hI_M 677 ((40 * k) + i) (by decide); rw [xri_row rfl rfl] at q; exact q)
            refine jr.iald (i := ((40 * k) + i)) (x := v4) rfl (nlt rfl) rfl (Nat.le_of_ble_eq_true rfl) (by omega) (by omega) e4 ?_
            refine jr.i2l rfl (by omega) ?_
            refine jr.goto rfl rfl ?_
            exact jr.lreturn rfl rfl (q _ _ hI_M hH_M hS_M  (by omega) (fun a i f603 => rfl))
        · refine jr.if_ne rfl rfl (by first | exact rgl rfl | omega) (fun h => absurd h (by decide)) (fun _ => ?_)
          refine jr.ldc2 (x := (-1)) rfl rfl (by decide) ?_
          exact jr.lreturn rfl rfl (q _ _ hI_M hH_M hS_M  (by omega) (fun a i f603 => rfl))
    · refine jr.aload_n rfl rfl ?_
      refine jr.getf (i := 117) (v := .ref 674) rfl rfl (nlt rfl) rfl (nlt rfl) rfl rfl rfl rfl ?_
      refine jr.iload_n rfl rfl ?_
      obtain ⟨v5, e5⟩ : ∃ z, M 674 k = z := ⟨_, rfl⟩
      have b5 : (-1) ≤ v5 ∧ v5 ≤ 6 := by rw [← e5]; exact (by have q := hI_M 674 k (Nat.le_of_ble_eq_true rfl); rw [xri_row rfl rfl] at q; exact q)
      refine jr.iald (i := k) (x := v5) rfl (nlt rfl) rfl (Nat.le_of_ble_eq_true rfl) (by omega) (by omega) e5 ?_
      refine jr.i2l rfl (by omega) ?_
      exact jr.lreturn rfl rfl (q _ _ hI_M hH_M hS_M  (by omega) (fun a i f603 => rfl))
  · refine jr.if_ne rfl rfl (by first | exact rgl rfl | omega) (fun h => absurd h (by decide)) (fun _ => ?_)
    refine jr.ldc2 (x := (-3)) rfl rfl (by decide) ?_
    exact jr.lreturn rfl rfl (q _ _ hI_M hH_M hS_M  (by omega) (fun a i f603 => rfl))
theorem r_bucket_x {A : Nat → Option (Nat × (Nat → Int32))} {Q : Option Value → jm → Prop} {M : jm} (hI_M : RI M) (hH_M : RH M) (hS_M : RF M) {k : Int} (h_k : (-2147483648) ≤ k ∧ k ≤ 2147483647) {c : Int} (h_c : (-2147483648) ≤ c ∧ c ≤ 2147483647) {e : Int} (h_e : (-2147483648) ≤ e ∧ e ≤ 2147483647) (q : ∀ (r : Int) (M' : jm), RI M' → RH M' → RF M' → (-3) ≤ r ∧ r ≤ 1000 → (∀ (a : Nat) (i : Int), a ≠ 623 → a ≠ 624 → a ≠ 625 → a ≠ 626 → M' a i = M a i) → Q (some (.int (Int32.ofInt r))) M') : jc A 2 299 [.ref (598), .int (Int32.ofInt (k)), .int (Int32.ofInt (c)), .int (Int32.ofInt (e))] M Q := by
  refine jc_of (m := xm_299) rfl (Nat.le_of_ble_eq_true rfl) rfl ?_
  refine jr.iload_n rfl rfl ?_
  refine jr.i2l rfl (by omega) ?_
  refine jr.lconst (x := 0) rfl (by decide) ?_
  refine jr.ldc2 (x := 3) rfl rfl (by decide) ?_
  refine jr_s rfl rfl (Or.inl rfl) ⟨Nat.le_of_ble_eq_true rfl, Nat.le_of_ble_eq_true rfl⟩ rfl rfl (jc.deep (c_within (by omega) (by omega) (by omega) (fun l6 u6 => ?_) (fun n6 => ?_)) (Nat.le_of_ble_eq_true rfl))
  · refine jr.if_eq rfl rfl (by first | exact rgl rfl | omega) (fun h => absurd h (by decide)) (fun _ => ?_)
    refine jr.iload_n rfl rfl ?_
    refine jr.i2l rfl (by omega) ?_
    refine jr.lconst (x := 0) rfl (by decide) ?_
    refine jr.ldc2 (x := 1000) rfl rfl (by decide) ?_
    refine jr_s rfl rfl (Or.inl rfl) ⟨Nat.le_of_ble_eq_true rfl, Nat.le_of_ble_eq_true rfl⟩ rfl rfl (jc.deep (c_within (by omega) (by omega) (by omega) (fun l18 u18 => ?_) (fun n18 => ?_)) (Nat.le_of_ble_eq_true rfl))
    · refine jr.if_eq rfl rfl (by first | exact rgl rfl | omega) (fun h => absurd h (by decide)) (fun _ => ?_)
      refine jr.iload_n rfl rfl ?_
      refine jr.i2l rfl (by omega) ?_
      refine jr.lconst (x := 1) rfl (by decide) ?_
      refine jr.ldc2 (x := 1000) rfl rfl (by decide) ?_
      refine jr_s rfl rfl (Or.inl rfl) ⟨Nat.le_of_ble_eq_true rfl, Nat.le_of_ble_eq_true rfl⟩ rfl rfl (jc.deep (c_within (by omega) (by omega) (by omega) (fun l30 u30 => ?_) (fun n30 => ?_)) (Nat.le_of_ble_eq_true rfl))
      · refine jr.if_ne rfl rfl (by first | exact rgl rfl | omega) (fun _ => ?_) (fun h => absurd (by decide) h)
        refine jr.aload_n rfl rfl ?_
        refine jr.getf (i := 35) (v := .ref 623) rfl rfl (nlt rfl) rfl (nlt rfl) rfl rfl rfl rfl ?_
        refine jr.iload_n rfl rfl ?_
        refine jr.iload_n rfl rfl ?_
        refine jr.iast (i := k) (x := c) rfl (nlt rfl) rfl (Nat.le_of_ble_eq_true rfl) (by omega) (by omega) ?_
        refine jr.aload_n rfl rfl ?_
        refine jr.getf (i := 36) (v := .ref 624) rfl rfl (nlt rfl) rfl (nlt rfl) rfl rfl rfl rfl ?_
        refine jr.iload_n rfl rfl ?_
        refine jr.iload_n rfl rfl ?_
        refine jr.iast (i := k) (x := c) rfl (nlt rfl) rfl (Nat.le_of_ble_eq_true rfl) (by omega) (by omega) ?_
        refine jr.aload_n rfl rfl ?_
        refine jr.getf (i := 37) (v := .ref 625) rfl rfl (nlt rfl) rfl (nlt rfl) rfl rfl rfl rfl ?_
        refine jr.iload_n rfl rfl ?_
        refine jr.iload_n rfl rfl ?_
        refine jr.iast (i := k) (x := e) rfl (nlt rfl) rfl (Nat.le_of_ble_eq_true rfl) (by omega) (by omega) ?_
        refine jr.aload_n rfl rfl ?_
        refine jr.getf (i := 38) (v := .ref 626) rfl rfl (nlt rfl) rfl (nlt rfl) rfl rfl rfl rfl ?_
        refine jr.iload_n rfl rfl ?_
        refine jr.aload_n rfl rfl ?_
        obtain ⟨v1, e1⟩ : ∃ z, M 598 2 = z := ⟨_, rfl⟩
        have b1 : 0 ≤ v1 ∧ v1 ≤ 2000000 := by rw [← e1]; exact hI_M 598 2 (Nat.le_of_ble_eq_true rfl)
        refine jr.getf (i := 2) (x := v1) (v := .int (Int32.ofInt (v1))) rfl rfl (nlt rfl) rfl (nlt rfl) rfl rfl ((ju_c _ _ (by decide)).trans ((ju_c _ _ (by decide)).trans ((ju_c _ _ (by decide)).trans e1))) rfl ?_
        refine jr.iast (i := k) (x := v1) rfl (nlt rfl) rfl (Nat.le_of_ble_eq_true rfl) (by omega) (by omega) ?_
        refine jr.iload_n rfl rfl ?_
        exact jr.ireturn rfl rfl rfl (q _ _ (RI.u (RI.u (RI.u (RI.u hI_M (a := 623) (i := k) (by rw [xri_row rfl rfl]; show (0 : Int) ≤ _ ∧ _ ≤ (1000 : Int); omega)) (a := 624) (i := k) (by rw [xri_row rfl rfl]; show (0 : Int) ≤ _ ∧ _ ≤ (1000 : Int); omega)) (a := 625) (i := k) (by rw [xri_row rfl rfl]; show (0 : Int) ≤ _ ∧ _ ≤ (1000 : Int); omega)) (a := 626) (i := k) (by rw [xri_row rfl rfl]; show (0 : Int) ≤ _ ∧ _ ≤ (2000000 : Int); omega)) (RH.o (RH.o (RH.o (RH.o hH_M (by decide) (by decide) (by decide)) (by decide) (by decide) (by decide)) (by decide) (by decide) (by decide)) (by decide) (by decide) (by decide)) (RF.o (RF.o (RF.o (RF.o hS_M (by decide) (by decide)) (by decide) (by decide)) (by decide) (by decide)) (by decide) (by decide))  (by omega) (fun a i f623 f624 f625 f626 => ((ju_c _ _ f626).trans ((ju_c _ _ f625).trans ((ju_c _ _ f624).trans ((ju_c _ _ f623).trans rfl))))))
      · refine jr.if_ne rfl rfl (by first | exact rgl rfl | omega) (fun h => absurd h (by decide)) (fun _ => ?_)
        refine jr.bipush rfl (by decide) ?_
        exact jr.ireturn rfl rfl rfl (q _ _ hI_M hH_M hS_M  (by first | exact rgq rfl | omega) (fun a i f623 f624 f625 f626 => rfl))
    · refine jr.if_eq rfl rfl (by first | exact rgl rfl | omega) (fun _ => ?_) (fun h => absurd (by decide) h)
      refine jr.bipush rfl (by decide) ?_
      exact jr.ireturn rfl rfl rfl (q _ _ hI_M hH_M hS_M  (by first | exact rgq rfl | omega) (fun a i f623 f624 f625 f626 => rfl))
  · refine jr.if_eq rfl rfl (by first | exact rgl rfl | omega) (fun _ => ?_) (fun h => absurd (by decide) h)
    refine jr.bipush rfl (by decide) ?_
    exact jr.ireturn rfl rfl rfl (q _ _ hI_M hH_M hS_M  (by first | exact rgq rfl | omega) (fun a i f623 f624 f625 f626 => rfl))
theorem r_has_x {A : Nat → Option (Nat × (Nat → Int32))} {Q : Option Value → jm → Prop} {M : jm} (hI_M : RI M) (hH_M : RH M) (hS_M : RF M) {k : Int} (h_k : (-2147483648) ≤ k ∧ k ≤ 2147483647) (q : ∀ (r : Int) (M' : jm), RI M' → RH M' → RF M' → (-3) ≤ r ∧ r ≤ 1000 → (∀ (a : Nat) (i : Int), a ≠ 603 → M' a i = M a i) → Q (some (.int (Int32.ofInt r))) M') : jc A 2 300 [.ref (598), .int (Int32.ofInt (k))] M Q := by
  refine jc_of (m := xm_300) rfl (Nat.le_of_ble_eq_true rfl) rfl ?_
  refine jr.iload_n rfl rfl ?_
  refine jr.i2l rfl (by omega) ?_
  refine jr.lconst (x := 0) rfl (by decide) ?_
  refine jr.ldc2 (x := 3) rfl rfl (by decide) ?_
  refine jr_s rfl rfl (Or.inl rfl) ⟨Nat.le_of_ble_eq_true rfl, Nat.le_of_ble_eq_true rfl⟩ rfl rfl (jc.deep (c_within (by omega) (by omega) (by omega) (fun l6 u6 => ?_) (fun n6 => ?_)) (Nat.le_of_ble_eq_true rfl))
  · refine jr.if_eq rfl rfl (by first | exact rgl rfl | omega) (fun h => absurd h (by decide)) (fun _ => ?_)
    refine jr.aload_n rfl rfl ?_
    refine jr.getf (i := 36) (v := .ref 624) rfl rfl (nlt rfl) rfl (nlt rfl) rfl rfl rfl rfl ?_
    refine jr.iload_n rfl rfl ?_
    obtain ⟨v1, e1⟩ : ∃ z, M 624 k = z := ⟨_, rfl⟩
    have b1 : 0 ≤ v1 ∧ v1 ≤ 1000 := by rw [← e1]; exact (by have q := hI_M 624 k (Nat.le_of_ble_eq_true rfl); rw [xri_row rfl rfl] at q; exact q)
    refine jr.iald (i := k) (x := v1) rfl (nlt rfl) rfl (Nat.le_of_ble_eq_true rfl) (by omega) (by omega) e1 ?_
    refine jr.goto rfl rfl ?_
    exact jr.ireturn rfl rfl rfl (q _ _ hI_M hH_M hS_M  (by omega) (fun a i f603 => rfl))
  · refine jr.if_eq rfl rfl (by first | exact rgl rfl | omega) (fun _ => ?_) (fun h => absurd (by decide) h)
    refine jr.bipush rfl (by decide) ?_
    exact jr.ireturn rfl rfl rfl (q _ _ hI_M hH_M hS_M  (by first | exact rgq rfl | omega) (fun a i f603 => rfl))
theorem r_mark_335_x {A : Nat → Option (Nat × (Nat → Int32))} {Q : Option Value → jm → Prop} {M : jm} (hI_M : RI M) (hH_M : RH M) (hS_M : RF M) {x : Int} (h_x : (-2147483648) ≤ x ∧ x ≤ 2147483647) (q : ∀ (r : Int) (M' : jm), RI M' → RH M' → RF M' → (-9223372036854775808) ≤ r ∧ r ≤ 9223372036854775807 → (∀ (a : Nat) (i : Int), a ≠ 603 → M' a i = M a i) → Q (some (.long (Int64.ofInt r))) M') : jc A 4 335 [.ref (598), .int (Int32.ofInt (x))] M Q := by
  refine jc_of (m := xm_335) rfl (Nat.le_of_ble_eq_true rfl) rfl ?_
  refine jr.aload_n rfl rfl ?_
  refine jr.iload_n rfl rfl ?_
  refine jr_v rfl rfl (Or.inl rfl) rfl rfl (nlt rfl) rfl ⟨rfl, Nat.le_of_ble_eq_true rfl, Nat.le_of_ble_eq_true rfl⟩ rfl (jc.deep (c_isThere hI_M (by omega) (fun l2 u2 t2 => ?_) (fun n2 => ?_)) (Nat.le_of_ble_eq_true rfl))
  · refine jr.if_eq rfl rfl (by first | exact rgl rfl | omega) (fun h => absurd h (by decide)) (fun _ => ?_)
    refine jr.aload_n rfl rfl ?_
    refine jr.getf (i := 5) (v := .ref 602) rfl rfl (nlt rfl) rfl (nlt rfl) rfl rfl rfl rfl ?_
    refine jr.iload_n rfl rfl ?_
    obtain ⟨v1, e1⟩ : ∃ z, M 602 x = z := ⟨_, rfl⟩
    have b1 : (-9223372036854775808) ≤ v1 ∧ v1 ≤ 9223372036854775807 := by rw [← e1]; exact (by have q := hI_M 602 x (Nat.le_of_ble_eq_true rfl); rw [xri_row rfl rfl] at q; exact q)
    refine jr.lald (i := x) (x := v1) rfl (nlt rfl) rfl (Nat.le_of_ble_eq_true rfl) (by omega) (by omega) e1 ?_
    refine jr.goto rfl rfl ?_
    exact jr.lreturn rfl rfl (q _ _ hI_M hH_M hS_M  (by omega) (fun a i f603 => rfl))
  · refine jr.if_eq rfl rfl (by first | exact rgl rfl | omega) (fun _ => ?_) (fun h => absurd (by decide) h)
    refine jr.lconst (x := 0) rfl (by decide) ?_
    exact jr.lreturn rfl rfl (q _ _ hI_M hH_M hS_M  (by omega) (fun a i f603 => rfl))
theorem r_told_L122_x {A : Nat → Option (Nat × (Nat → Int32))} {Q : Option Value → jm → Prop} {M0 : jm} (q : ∀ (r : Int) (M' : jm), RI M' → RH M' → RF M' → (-2147483648) ≤ r ∧ r ≤ 2147483647 → (∀ (a : Nat) (i : Int), a ≠ 603 → M' a i = M0 a i) → Q (some (.int (Int32.ofInt r))) M') : ∀ (nM : Nat) (M : jm) (k : Int) (c : Int) (w : Int), RI M → RH M → RF M → (∀ (a : Nat) (i : Int), a ≠ 603 → M a i = M0 a i) → 0 ≤ k ∧ k ≤ 24 → 0 ≤ c ∧ c ≤ 24 → (-2147483648) ≤ w ∧ w ≤ 2147483647 → c ≤ k → 24 - k ≤ nM → jr A 0 xm_336 122 [(3, .int (Int32.ofInt (k))), (2, .int (Int32.ofInt (c))), (1, .int (Int32.ofInt (w))), (0, .ref (598))] [] M Q := by
  intro nM
  induction nM using Nat.strongRecOn with
  | ind nM ih =>
    intro M k c w hI_M hH_M hS_M hF_M h_k h_c h_w hy0 hm
    refine jr.iload_n rfl rfl ?_
    refine jr.bipush rfl (jbp _ (nlt rfl)) ?_
    refine jr.icmp_ge rfl rfl (by first | (refine rgb (by assumption) ?_; exact rfl) | omega) (rgl rfl) (fun h125 => ?_) (fun h125 => ?_)
    · refine jr.iload_n rfl rfl ?_
      exact jr.ireturn rfl rfl rfl (q _ _ hI_M hH_M hS_M  (by omega) (fun a i f603 => (hF_M a i f603)))
    · refine jr.iload_n rfl rfl ?_
      refine jr.aload_n rfl rfl ?_
      refine jr.getf (i := 39) (v := .ref 627) rfl rfl (nlt rfl) rfl (nlt rfl) rfl rfl rfl rfl ?_
      refine jr.iload_n rfl rfl ?_
      obtain ⟨v1, e1⟩ : ∃ z, M 627 k = z := ⟨_, rfl⟩
      have b1 : 0 ≤ v1 ∧ v1 ≤ 1 := by rw [← e1]; exact (by have q := hI_M 627 k (Nat.le_of_ble_eq_true rfl); rw [xri_row rfl rfl] at q; exact q)
      refine jr.zald (i := k) (x := v1) rfl (nlt rfl) rfl (Nat.le_of_ble_eq_true rfl) (by omega) (by omega) e1 ?_
      refine jr.if_eq rfl rfl (by first | (refine rgb (by assumption) ?_; exact rfl) | omega) (fun h135 => ?_) (fun h135 => ?_)
      · refine jr.iconst rfl ?_
        refine jr.iadd rfl ?_
        refine jr.istore_n (ls' := [_, _, _, _]) rfl (nlt rfl) rfl ?_
        refine jr.iinc (ls' := [_, _, _, _]) rfl rfl (nlt rfl) rfl ?_
        refine jr.goto rfl rfl ?_
        refine jr.pick (ls := [_, _, _, _]) [0, 1, 2, 3] rfl rfl ?_
        exact ih (nM - 1) (by omega) M (k + 1) (c + 0) w hI_M hH_M hS_M  (fun a i f603 => (hF_M a i f603)) (by omega) (by omega) (by omega) (by omega) (by omega)
      · have sx135 : (1 : Int) ≤ v1 := by omega
        clear h135
        refine jr.iconst rfl ?_
        refine jr.goto rfl rfl ?_
        refine jr.iadd rfl ?_
        refine jr.istore_n (ls' := [_, _, _, _]) rfl (nlt rfl) rfl ?_
        refine jr.iinc (ls' := [_, _, _, _]) rfl rfl (nlt rfl) rfl ?_
        refine jr.goto rfl rfl ?_
        refine jr.pick (ls := [_, _, _, _]) [0, 1, 2, 3] rfl rfl ?_
        exact ih (nM - 1) (by omega) M (k + 1) (c + 1) w hI_M hH_M hS_M  (fun a i f603 => (hF_M a i f603)) (by omega) (by omega) (by omega) (by omega) (by omega)
theorem r_told_L89_x {A : Nat → Option (Nat × (Nat → Int32))} {Q : Option Value → jm → Prop} {M0 : jm} (q : ∀ (r : Int) (M' : jm), RI M' → RH M' → RF M' → (-2147483648) ≤ r ∧ r ≤ 2147483647 → (∀ (a : Nat) (i : Int), a ≠ 603 → M' a i = M0 a i) → Q (some (.int (Int32.ofInt r))) M') : ∀ (nM : Nat) (M : jm) (k : Int) (c : Int) (w : Int), RI M → RH M → RF M → (∀ (a : Nat) (i : Int), a ≠ 603 → M a i = M0 a i) → 0 ≤ k ∧ k ≤ 8 → 0 ≤ c ∧ c ≤ 24 → (-2147483648) ≤ w ∧ w ≤ 2147483647 → c ≤ k → 8 - k ≤ nM → jr A 0 xm_336 89 [(3, .int (Int32.ofInt (k))), (2, .int (Int32.ofInt (c))), (1, .int (Int32.ofInt (w))), (0, .ref (598))] [] M Q := by
  intro nM
  induction nM using Nat.strongRecOn with
  | ind nM ih =>
    intro M k c w hI_M hH_M hS_M hF_M h_k h_c h_w hy0 hm
    refine jr.iload_n rfl rfl ?_
    refine jr.bipush rfl (jbp _ (nlt rfl)) ?_
    refine jr.icmp_ge rfl rfl (by first | (refine rgb (by assumption) ?_; exact rfl) | omega) (rgl rfl) (fun h92 => ?_) (fun h92 => ?_)
    · refine jr.iload_n rfl rfl ?_
      exact jr.ireturn rfl rfl rfl (q _ _ hI_M hH_M hS_M  (by omega) (fun a i f603 => (hF_M a i f603)))
    · refine jr.iload_n rfl rfl ?_
      refine jr.aload_n rfl rfl ?_
      refine jr.getf (i := 17) (v := .ref 606) rfl rfl (nlt rfl) rfl (nlt rfl) rfl rfl rfl rfl ?_
      refine jr.iload_n rfl rfl ?_
      obtain ⟨v1, e1⟩ : ∃ z, M 606 k = z := ⟨_, rfl⟩
      have b1 : 0 ≤ v1 ∧ v1 ≤ 1 := by rw [← e1]; exact (by have q := hI_M 606 k (Nat.le_of_ble_eq_true rfl); rw [xri_row rfl rfl] at q; exact q)
      refine jr.zald (i := k) (x := v1) rfl (nlt rfl) rfl (Nat.le_of_ble_eq_true rfl) (by omega) (by omega) e1 ?_
      refine jr.if_eq rfl rfl (by first | (refine rgb (by assumption) ?_; exact rfl) | omega) (fun h102 => ?_) (fun h102 => ?_)
      · refine jr.iconst rfl ?_
        refine jr.iadd rfl ?_
        refine jr.istore_n (ls' := [_, _, _, _]) rfl (nlt rfl) rfl ?_
        refine jr.iinc (ls' := [_, _, _, _]) rfl rfl (nlt rfl) rfl ?_
        refine jr.goto rfl rfl ?_
        refine jr.pick (ls := [_, _, _, _]) [0, 1, 2, 3] rfl rfl ?_
        exact ih (nM - 1) (by omega) M (k + 1) (c + 0) w hI_M hH_M hS_M  (fun a i f603 => (hF_M a i f603)) (by omega) (by omega) (by omega) (by omega) (by omega)
      · have sx102 : (1 : Int) ≤ v1 := by omega
        clear h102
        refine jr.iconst rfl ?_
        refine jr.goto rfl rfl ?_
        refine jr.iadd rfl ?_
        refine jr.istore_n (ls' := [_, _, _, _]) rfl (nlt rfl) rfl ?_
        refine jr.iinc (ls' := [_, _, _, _]) rfl rfl (nlt rfl) rfl ?_
        refine jr.goto rfl rfl ?_
        refine jr.pick (ls := [_, _, _, _]) [0, 1, 2, 3] rfl rfl ?_
        exact ih (nM - 1) (by omega) M (k + 1) (c + 1) w hI_M hH_M hS_M  (fun a i f603 => (hF_M a i f603)) (by omega) (by omega) (by omega) (by omega) (by omega)
theorem r_told_L55_x {A : Nat → Option (Nat × (Nat → Int32))} {Q : Option Value → jm → Prop} {M0 : jm} (q : ∀ (r : Int) (M' : jm), RI M' → RH M' → RF M' → (-2147483648) ≤ r ∧ r ≤ 2147483647 → (∀ (a : Nat) (i : Int), a ≠ 603 → M' a i = M0 a i) → Q (some (.int (Int32.ofInt r))) M') : ∀ (nM : Nat) (M : jm) (k : Int) (c : Int) (w : Int), RI M → RH M → RF M → (∀ (a : Nat) (i : Int), a ≠ 603 → M a i = M0 a i) → 0 ≤ k ∧ k ≤ 24 → 0 ≤ c ∧ c ≤ 24 → (-2147483648) ≤ w ∧ w ≤ 2147483647 → c ≤ k → 24 - k ≤ nM → jr A 0 xm_336 55 [(3, .int (Int32.ofInt (k))), (2, .int (Int32.ofInt (c))), (1, .int (Int32.ofInt (w))), (0, .ref (598))] [] M Q := by
  intro nM
  induction nM using Nat.strongRecOn with
  | ind nM ih =>
    intro M k c w hI_M hH_M hS_M hF_M h_k h_c h_w hy0 hm
    refine jr.iload_n rfl rfl ?_
    refine jr.bipush rfl (jbp _ (nlt rfl)) ?_
    refine jr.icmp_ge rfl rfl (by first | (refine rgb (by assumption) ?_; exact rfl) | omega) (rgl rfl) (fun h58 => ?_) (fun h58 => ?_)
    · refine jr.iload_n rfl rfl ?_
      exact jr.ireturn rfl rfl rfl (q _ _ hI_M hH_M hS_M  (by omega) (fun a i f603 => (hF_M a i f603)))
    · refine jr.iload_n rfl rfl ?_
      refine jr.aload_n rfl rfl ?_
      refine jr.getf (i := 3) (v := .ref 600) rfl rfl (nlt rfl) rfl (nlt rfl) rfl rfl rfl rfl ?_
      refine jr.iload_n rfl rfl ?_
      obtain ⟨v1, e1⟩ : ∃ z, M 600 k = z := ⟨_, rfl⟩
      have b1 : (-1) ≤ v1 ∧ v1 ≤ 400 := by rw [← e1]; exact (by have q := hI_M 600 k (Nat.le_of_ble_eq_true rfl); rw [xri_row rfl rfl] at q; exact q)
      refine jr.iald (i := k) (x := v1) rfl (nlt rfl) rfl (Nat.le_of_ble_eq_true rfl) (by omega) (by omega) e1 ?_
      refine jr.iconst rfl ?_
      refine jr.icmp_ne rfl rfl (by first | (refine rgb (by assumption) ?_; exact rfl) | omega) (rgl rfl) (fun h69 => ?_) (fun h69 => ?_)
      · have sx69 : (0 : Int) ≤ v1 := by omega
        clear h69
        refine jr.iconst rfl ?_
        refine jr.iadd rfl ?_
        refine jr.istore_n (ls' := [_, _, _, _]) rfl (nlt rfl) rfl ?_
        refine jr.iinc (ls' := [_, _, _, _]) rfl rfl (nlt rfl) rfl ?_
        refine jr.goto rfl rfl ?_
        refine jr.pick (ls := [_, _, _, _]) [0, 1, 2, 3] rfl rfl ?_
        exact ih (nM - 1) (by omega) M (k + 1) (c + 1) w hI_M hH_M hS_M  (fun a i f603 => (hF_M a i f603)) (by omega) (by omega) (by omega) (by omega) (by omega)
      · refine jr.iconst rfl ?_
        refine jr.goto rfl rfl ?_
        refine jr.iadd rfl ?_
        refine jr.istore_n (ls' := [_, _, _, _]) rfl (nlt rfl) rfl ?_
        refine jr.iinc (ls' := [_, _, _, _]) rfl rfl (nlt rfl) rfl ?_
        refine jr.goto rfl rfl ?_
        refine jr.pick (ls := [_, _, _, _]) [0, 1, 2, 3] rfl rfl ?_
        exact ih (nM - 1) (by omega) M (k + 1) (c + 0) w hI_M hH_M hS_M  (fun a i f603 => (hF_M a i f603)) (by omega) (by omega) (by omega) (by omega) (by omega)
theorem r_told_x {A : Nat → Option (Nat × (Nat → Int32))} {Q : Option Value → jm → Prop} {M : jm} (hI_M : RI M) (hH_M : RH M) (hS_M : RF M) {w : Int} (h_w : (-2147483648) ≤ w ∧ w ≤ 2147483647) (q : ∀ (r : Int) (M' : jm), RI M' → RH M' → RF M' → (-2147483648) ≤ r ∧ r ≤ 2147483647 → (∀ (a : Nat) (i : Int), a ≠ 603 → M' a i = M a i) → Q (some (.int (Int32.ofInt r))) M') : jc A 1 336 [.ref (598), .int (Int32.ofInt (w))] M Q := by
  refine jc_of (m := xm_336) rfl (Nat.le_of_ble_eq_true rfl) rfl ?_
  refine jr.iconst rfl ?_
  refine jr.istore_n (ls' := [_, _, _]) rfl (nlt rfl) rfl ?_
  refine jr.iload_n rfl rfl ?_
  rcases (show w = 0 ∨ w = 1 ∨ w = 2 ∨ w = 3 ∨ w = 4 ∨ w = 5 ∨ w = 6 ∨ w = 7 ∨ (w ≠ 0 ∧ w ≠ 1 ∧ w ≠ 2 ∧ w ≠ 3 ∧ w ≠ 4 ∧ w ≠ 5 ∧ w ≠ 6 ∧ w ≠ 7) by omega) with h3 | h3 | h3 | h3 | h3 | h3 | h3 | h3 | h3
  · refine jr.tsw_k 0 rfl h3 rfl ?_
    refine jr.aload_n rfl rfl ?_
    obtain ⟨v1, e1⟩ : ∃ z, M 598 2 = z := ⟨_, rfl⟩
    have b1 : 0 ≤ v1 ∧ v1 ≤ 2000000 := by rw [← e1]; exact hI_M 598 2 (Nat.le_of_ble_eq_true rfl)
    refine jr.getf (i := 2) (x := v1) (v := .int (Int32.ofInt (v1))) rfl rfl (nlt rfl) rfl (nlt rfl) rfl rfl e1 rfl ?_
    exact jr.ireturn rfl rfl rfl (q _ _ hI_M hH_M hS_M  (by omega) (fun a i f603 => rfl))
  · refine jr.tsw_k 1 rfl h3 rfl ?_
    refine jr.iconst rfl ?_
    refine jr.istore_n (ls' := [_, _, _, _]) rfl (nlt rfl) rfl ?_
    refine jr.pick (ls := [_, _, _, _]) [0, 1, 3, 2] rfl rfl ?_
    exact r_told_L55_x q 24 M 0 0 w hI_M hH_M hS_M  (fun a i f603 => rfl) (by omega) (by omega) (by omega) (by omega) (by omega)
  · refine jr.tsw_k 2 rfl h3 rfl ?_
    refine jr.iconst rfl ?_
    refine jr.istore_n (ls' := [_, _, _, _]) rfl (nlt rfl) rfl ?_
    refine jr.pick (ls := [_, _, _, _]) [0, 1, 3, 2] rfl rfl ?_
    exact r_told_L89_x q 24 M 0 0 w hI_M hH_M hS_M  (fun a i f603 => rfl) (by omega) (by omega) (by omega) (by omega) (by omega)
  · refine jr.tsw_k 3 rfl h3 rfl ?_
    refine jr.iconst rfl ?_
    refine jr.istore_n (ls' := [_, _, _, _]) rfl (nlt rfl) rfl ?_
    refine jr.pick (ls := [_, _, _, _]) [0, 1, 3, 2] rfl rfl ?_
    exact r_told_L122_x q 24 M 0 0 w hI_M hH_M hS_M  (fun a i f603 => rfl) (by omega) (by omega) (by omega) (by omega) (by omega)
  · refine jr.tsw_k 4 rfl h3 rfl ?_
    refine jr.aload_n rfl rfl ?_
    obtain ⟨v2, e2⟩ : ∃ z, M 598 82 = z := ⟨_, rfl⟩
    have b2 : 0 ≤ v2 ∧ v2 ≤ 16 := by rw [← e2]; exact hI_M 598 82 (Nat.le_of_ble_eq_true rfl)
    refine jr.getf (i := 82) (x := v2) (v := .int (Int32.ofInt (v2))) rfl rfl (nlt rfl) rfl (nlt rfl) rfl rfl e2 rfl ?_
    exact jr.ireturn rfl rfl rfl (q _ _ hI_M hH_M hS_M  (by omega) (fun a i f603 => rfl))
  · refine jr.tsw_k 5 rfl h3 rfl ?_
    refine jr.aload_n rfl rfl ?_
    obtain ⟨v3, e3⟩ : ∃ z, M 598 83 = z := ⟨_, rfl⟩
    have b3 : 0 ≤ v3 ∧ v3 ≤ 301 := by rw [← e3]; exact hI_M 598 83 (Nat.le_of_ble_eq_true rfl)
    refine jr.getf (i := 83) (x := v3) (v := .int (Int32.ofInt (v3))) rfl rfl (nlt rfl) rfl (nlt rfl) rfl rfl e3 rfl ?_
    exact jr.ireturn rfl rfl rfl (q _ _ hI_M hH_M hS_M  (by omega) (fun a i f603 => rfl))
  · refine jr.tsw_k 6 rfl h3 rfl ?_
    refine jr.aload_n rfl rfl ?_
    obtain ⟨v4, e4⟩ : ∃ z, M 598 111 = z := ⟨_, rfl⟩
    have b4 : 0 ≤ v4 ∧ v4 ≤ 2000 := by rw [← e4]; exact hI_M 598 111 (Nat.le_of_ble_eq_true rfl)
    refine jr.getf (i := 111) (x := v4) (v := .int (Int32.ofInt (v4))) rfl rfl (nlt rfl) rfl (nlt rfl) rfl rfl e4 rfl ?_
    exact jr.ireturn rfl rfl rfl (q _ _ hI_M hH_M hS_M  (by omega) (fun a i f603 => rfl))
  · refine jr.tsw_k 7 rfl h3 rfl ?_
    refine jr.aload_n rfl rfl ?_
    obtain ⟨v5, e5⟩ : ∃ z, M 598 1 = z := ⟨_, rfl⟩
    have b5 : 0 ≤ v5 ∧ v5 ≤ 1600 := by rw [← e5]; exact hI_M 598 1 (Nat.le_of_ble_eq_true rfl)
    refine jr.getf (i := 1) (x := v5) (v := .int (Int32.ofInt (v5))) rfl rfl (nlt rfl) rfl (nlt rfl) rfl rfl e5 rfl ?_
    exact jr.ireturn rfl rfl rfl (q _ _ hI_M hH_M hS_M  (by omega) (fun a i f603 => rfl))
  · refine jr.tsw_d rfl (by omega) (by omega) rfl ?_
    refine jr.iload_n rfl rfl ?_
    refine jr.bipush rfl (jbp _ (nlt rfl)) ?_
    refine jr.icmp_ne rfl rfl (by first | (refine rgb (by assumption) ?_; exact rfl) | omega) (rgl rfl) (fun h176 => ?_) (fun h176 => ?_)
    · refine jr.bipush rfl (by decide) ?_
      exact jr.ireturn rfl rfl rfl (q _ _ hI_M hH_M hS_M  (by first | exact rgq rfl | omega) (fun a i f603 => rfl))
    · refine jr.aload_n rfl rfl ?_
      obtain ⟨v6, e6⟩ : ∃ z, M 598 112 = z := ⟨_, rfl⟩
      have b6 : 0 ≤ v6 ∧ v6 ≤ 2147483647 := by rw [← e6]; exact hI_M 598 112 (Nat.le_of_ble_eq_true rfl)
      refine jr.getf (i := 112) (x := v6) (v := .int (Int32.ofInt (v6))) rfl rfl (nlt rfl) rfl (nlt rfl) rfl rfl e6 rfl ?_
      refine jr.goto rfl rfl ?_
      exact jr.ireturn rfl rfl rfl (q _ _ hI_M hH_M hS_M  (by omega) (fun a i f603 => rfl))
theorem r_rules_L202_x {A : Nat → Option (Nat × (Nat → Int32))} {Q : Option Value → jm → Prop} {M0 : jm} (q : ∀ (r : Int) (M' : jm), RI M' → RH M' → RF M' → (-17) ≤ r ∧ r ≤ 16 → MC M' → M' 598 1 = 0 → (∀ (a : Nat) (i : Int), a ≠ 598 → a ≠ 651 → a ≠ 652 → a ≠ 653 → a ≠ 654 → a ≠ 655 → a ≠ 656 → a ≠ 657 → a ≠ 658 → a ≠ 659 → a ≠ 660 → a ≠ 661 → a ≠ 662 → a ≠ 663 → a ≠ 664 → a ≠ 665 → a ≠ 666 → a ≠ 667 → a ≠ 668 → a ≠ 669 → M' a i = M0 a i) → (∀ (i : Int), i ≠ 1 → i ≠ 72 → i ≠ 73 → i ≠ 74 → i ≠ 75 → i ≠ 76 → i ≠ 77 → i ≠ 78 → i ≠ 79 → i ≠ 80 → i ≠ 81 → i ≠ 82 → i ≠ 83 → i ≠ 88 → i ≠ 89 → i ≠ 90 → i ≠ 96 → i ≠ 100 → i ≠ 101 → i ≠ 102 → i ≠ 107 → M' 598 i = M0 598 i) → Q (some (.int (Int32.ofInt r))) M') : ∀ (nM : Nat) (M : jm) (k : Int), RI M → RH M → RF M → (∀ (a : Nat) (i : Int), a ≠ 598 → a ≠ 651 → a ≠ 652 → a ≠ 653 → a ≠ 654 → a ≠ 655 → a ≠ 656 → a ≠ 657 → a ≠ 658 → a ≠ 659 → a ≠ 660 → a ≠ 661 → a ≠ 662 → a ≠ 663 → a ≠ 664 → a ≠ 665 → a ≠ 666 → a ≠ 667 → a ≠ 668 → a ≠ 669 → M a i = M0 a i) → (∀ (i : Int), i ≠ 1 → i ≠ 72 → i ≠ 73 → i ≠ 74 → i ≠ 75 → i ≠ 76 → i ≠ 77 → i ≠ 78 → i ≠ 79 → i ≠ 80 → i ≠ 81 → i ≠ 82 → i ≠ 83 → i ≠ 88 → i ≠ 89 → i ≠ 90 → i ≠ 96 → i ≠ 100 → i ≠ 101 → i ≠ 102 → i ≠ 107 → M 598 i = M0 598 i) → 0 ≤ k ∧ k ≤ 2200 → RD M → M 598 82 = M 598 88 → CQ M (M 598 82) → CD M k → M 598 1 = 0 → 2200 - k ≤ nM → jr A 9 xm_371 202 [(1, .int (Int32.ofInt (k))), (0, .ref (598))] [] M Q := by
  intro nM
  induction nM using Nat.strongRecOn with
  | ind nM ih =>
    intro M k hI_M hH_M hS_M hF_M hG_M h_k hy0 hy1 hy2 hy3 hy4 hm
    have hR := hy0
    have hQ := hy2
    have hC := hy3
    obtain ⟨_, r1, r2, r3, r4⟩ := id hy0
    refine jr.iload_n rfl rfl ?_
    refine jr.aload_n rfl rfl ?_
    obtain ⟨v1, e1⟩ : ∃ z, M 598 90 = z := ⟨_, rfl⟩
    have b1 : 0 ≤ v1 ∧ v1 ≤ 2200 := by rw [← e1]; exact hI_M 598 90 (Nat.le_of_ble_eq_true rfl)
    refine jr.getf (i := 90) (x := v1) (v := .int (Int32.ofInt (v1))) rfl rfl (nlt rfl) rfl (nlt rfl) rfl rfl e1 rfl ?_
    refine jr.icmp_ge rfl rfl (by first | (refine rgb (by assumption) ?_; exact rfl) | omega) (by first | (refine rgb (by assumption) ?_; exact rfl) | omega) (fun h207 => ?_) (fun h207 => ?_)
    · refine jr.aload_n rfl rfl ?_
      obtain ⟨v2, e2⟩ : ∃ z, M 598 82 = z := ⟨_, rfl⟩
      have b2 : 0 ≤ v2 ∧ v2 ≤ 16 := by rw [← e2]; exact hI_M 598 82 (Nat.le_of_ble_eq_true rfl)
      refine jr.getf (i := 82) (x := v2) (v := .int (Int32.ofInt (v2))) rfl rfl (nlt rfl) rfl (nlt rfl) rfl rfl e2 rfl ?_
      obtain ⟨v3, e3⟩ : ∃ z, M 598 1 = z := ⟨_, rfl⟩
      have b3 : 0 ≤ v3 ∧ v3 ≤ 1600 := by rw [← e3]; exact hI_M 598 1 (Nat.le_of_ble_eq_true rfl)
      exact jr.ireturn rfl rfl rfl (q _ _ hI_M hH_M hS_M  (by omega) (MC.make hR hy1 hQ hC (by omega)) (by have hq : M 598 1 = v3 := e3; omega) (fun a i f598 f651 f652 f653 f654 f655 f656 f657 f658 f659 f660 f661 f662 f663 f664 f665 f666 f667 f668 f669 => (hF_M a i f598 f651 f652 f653 f654 f655 f656 f657 f658 f659 f660 f661 f662 f663 f664 f665 f666 f667 f668 f669)) (fun i g1 g72 g73 g74 g75 g76 g77 g78 g79 g80 g81 g82 g83 g88 g89 g90 g96 g100 g101 g102 g107 => (hG_M i g1 g72 g73 g74 g75 g76 g77 g78 g79 g80 g81 g82 g83 g88 g89 g90 g96 g100 g101 g102 g107)))
    · refine jr.aload_n rfl rfl ?_
      refine jr.getf (i := 86) (v := .ref 654) rfl rfl (nlt rfl) rfl (nlt rfl) rfl rfl rfl rfl ?_
      refine jr.iload_n rfl rfl ?_
      refine jr.aload_n rfl rfl ?_
      refine jr.getf (i := 94) (v := .ref 659) rfl rfl (nlt rfl) rfl (nlt rfl) rfl rfl rfl rfl ?_
      refine jr.iload_n rfl rfl ?_
      obtain ⟨v4, e4⟩ : ∃ z, M 659 k = z := ⟨_, rfl⟩
      have b4 : 0 ≤ v4 ∧ v4 ≤ 1000 := by rw [← e4]; exact (by have q := hI_M 659 k (Nat.le_of_ble_eq_true rfl); rw [xri_row rfl rfl] at q; exact q)
      refine jr.iald (i := k) (x := v4) rfl (nlt rfl) rfl (Nat.le_of_ble_eq_true rfl) (by omega) (by omega) e4 ?_
      refine jr.iast (i := k) (x := v4) rfl (nlt rfl) rfl (Nat.le_of_ble_eq_true rfl) (by omega) (by omega) ?_
      refine jr.aload_n rfl rfl ?_
      refine jr.getf (i := 87) (v := .ref 655) rfl rfl (nlt rfl) rfl (nlt rfl) rfl rfl rfl rfl ?_
      refine jr.iload_n rfl rfl ?_
      refine jr.aload_n rfl rfl ?_
      refine jr.getf (i := 95) (v := .ref 660) rfl rfl (nlt rfl) rfl (nlt rfl) rfl rfl rfl rfl ?_
      refine jr.iload_n rfl rfl ?_
      obtain ⟨v5, e5⟩ : ∃ z, M 660 k = z := ⟨_, rfl⟩
      have b5 : (-9223372036854775808) ≤ v5 ∧ v5 ≤ 9223372036854775807 := by rw [← e5]; exact (by have q := hI_M 660 k (Nat.le_of_ble_eq_true rfl); rw [xri_row rfl rfl] at q; exact q)
      refine jr.lald (i := k) (x := v5) rfl (nlt rfl) rfl (Nat.le_of_ble_eq_true rfl) (by omega) (by omega) ((ju_c _ _ (by decide)).trans e5) ?_
      refine jr.last (i := k) (x := v5) rfl (nlt rfl) rfl (Nat.le_of_ble_eq_true rfl) (by omega) (by omega) ?_
      refine jr.iinc (ls' := [_, _]) rfl rfl (nlt rfl) rfl ?_
      refine jr.goto rfl rfl ?_
      obtain ⟨v6, e6⟩ : ∃ z, M 598 82 = z := ⟨_, rfl⟩
      have b6 : 0 ≤ v6 ∧ v6 ≤ 16 := by rw [← e6]; exact hI_M 598 82 (Nat.le_of_ble_eq_true rfl)
      obtain ⟨v7, e7⟩ : ∃ z, M 598 88 = z := ⟨_, rfl⟩
      have b7 : 0 ≤ v7 ∧ v7 ≤ 16 := by rw [← e7]; exact hI_M 598 88 (Nat.le_of_ble_eq_true rfl)
      obtain ⟨v8, e8⟩ : ∃ z, M 598 1 = z := ⟨_, rfl⟩
      have b8 : 0 ≤ v8 ∧ v8 ≤ 1600 := by rw [← e8]; exact hI_M 598 1 (Nat.le_of_ble_eq_true rfl)
      refine jr.pick (ls := [_, _]) [0, 1] rfl rfl ?_
      exact ih (nM - 1) (by omega) (ju (ju M 654 k v4) 655 k v5) (k + 1) (RI.u (RI.u hI_M (a := 654) (i := k) (by rw [xri_row rfl rfl]; show (0 : Int) ≤ _ ∧ _ ≤ (1000 : Int); omega)) (a := 655) (i := k) (by rw [xri_row rfl rfl]; show (-9223372036854775808 : Int) ≤ _ ∧ _ ≤ (9223372036854775807 : Int); omega)) (RH.o (RH.o hH_M (by decide) (by decide) (by decide)) (by decide) (by decide) (by decide)) (RF.o (RF.o hS_M (by decide) (by decide)) (by decide) (by decide))  (fun a i f598 f651 f652 f653 f654 f655 f656 f657 f658 f659 f660 f661 f662 f663 f664 f665 f666 f667 f668 f669 => ((ju_c _ _ f655).trans ((ju_c _ _ f654).trans (hF_M a i f598 f651 f652 f653 f654 f655 f656 f657 f658 f659 f660 f661 f662 f663 f664 f665 f666 f667 f668 f669)))) (fun i g1 g72 g73 g74 g75 g76 g77 g78 g79 g80 g81 g82 g83 g88 g89 g90 g96 g100 g101 g102 g107 => ((ju_c _ _ (by decide)).trans ((ju_c _ _ (by decide)).trans (hG_M i g1 g72 g73 g74 g75 g76 g77 g78 g79 g80 g81 g82 g83 g88 g89 g90 g96 g100 g101 g102 g107)))) (by omega) (RD.o (RD.o hR (Or.inl (by decide))) (Or.inl (by decide))) (by rw [((ju_c _ _ (by decide)).trans ((ju_c _ _ (by decide)).trans e6)), ((ju_c _ _ (by decide)).trans ((ju_c _ _ (by decide)).trans e7))] <;> omega) (by rw [ju_c _ _ (by decide), ju_c _ _ (by decide)]; exact CQ.o hQ) (CD.add hC e4 e5) (by rw [((ju_c _ _ (by decide)).trans ((ju_c _ _ (by decide)).trans e8))] <;> omega) (by omega)
theorem r_rules_L162_x {A : Nat → Option (Nat × (Nat → Int32))} {Q : Option Value → jm → Prop} {M0 : jm} (q : ∀ (r : Int) (M' : jm), RI M' → RH M' → RF M' → (-17) ≤ r ∧ r ≤ 16 → MC M' → M' 598 1 = 0 → (∀ (a : Nat) (i : Int), a ≠ 598 → a ≠ 651 → a ≠ 652 → a ≠ 653 → a ≠ 654 → a ≠ 655 → a ≠ 656 → a ≠ 657 → a ≠ 658 → a ≠ 659 → a ≠ 660 → a ≠ 661 → a ≠ 662 → a ≠ 663 → a ≠ 664 → a ≠ 665 → a ≠ 666 → a ≠ 667 → a ≠ 668 → a ≠ 669 → M' a i = M0 a i) → (∀ (i : Int), i ≠ 1 → i ≠ 72 → i ≠ 73 → i ≠ 74 → i ≠ 75 → i ≠ 76 → i ≠ 77 → i ≠ 78 → i ≠ 79 → i ≠ 80 → i ≠ 81 → i ≠ 82 → i ≠ 83 → i ≠ 88 → i ≠ 89 → i ≠ 90 → i ≠ 96 → i ≠ 100 → i ≠ 101 → i ≠ 102 → i ≠ 107 → M' 598 i = M0 598 i) → Q (some (.int (Int32.ofInt r))) M') : ∀ (nM : Nat) (M : jm) (k : Int), RI M → RH M → RF M → (∀ (a : Nat) (i : Int), a ≠ 598 → a ≠ 651 → a ≠ 652 → a ≠ 653 → a ≠ 654 → a ≠ 655 → a ≠ 656 → a ≠ 657 → a ≠ 658 → a ≠ 659 → a ≠ 660 → a ≠ 661 → a ≠ 662 → a ≠ 663 → a ≠ 664 → a ≠ 665 → a ≠ 666 → a ≠ 667 → a ≠ 668 → a ≠ 669 → M a i = M0 a i) → (∀ (i : Int), i ≠ 1 → i ≠ 72 → i ≠ 73 → i ≠ 74 → i ≠ 75 → i ≠ 76 → i ≠ 77 → i ≠ 78 → i ≠ 79 → i ≠ 80 → i ≠ 81 → i ≠ 82 → i ≠ 83 → i ≠ 88 → i ≠ 89 → i ≠ 90 → i ≠ 96 → i ≠ 100 → i ≠ 101 → i ≠ 102 → i ≠ 107 → M 598 i = M0 598 i) → 0 ≤ k ∧ k ≤ 16 → RD M → M 598 82 = M 598 88 ∧ 1 ≤ M 598 88 ∧ M 598 88 ≤ 16 → CQ M k → M 598 1 = 0 → 16 - k ≤ nM → jr A 9 xm_371 162 [(1, .int (Int32.ofInt (k))), (0, .ref (598))] [] M Q := by
  intro nM
  induction nM using Nat.strongRecOn with
  | ind nM ih =>
    intro M k hI_M hH_M hS_M hF_M hG_M h_k hy0 hy1 hy2 hy3 hm
    have hR := hy0
    have hQ := hy2
    obtain ⟨_, r1, r2, r3, r4⟩ := id hy0
    refine jr.iload_n rfl rfl ?_
    refine jr.aload_n rfl rfl ?_
    obtain ⟨v1, e1⟩ : ∃ z, M 598 82 = z := ⟨_, rfl⟩
    have b1 : 0 ≤ v1 ∧ v1 ≤ 16 := by rw [← e1]; exact hI_M 598 82 (Nat.le_of_ble_eq_true rfl)
    refine jr.getf (i := 82) (x := v1) (v := .int (Int32.ofInt (v1))) rfl rfl (nlt rfl) rfl (nlt rfl) rfl rfl e1 rfl ?_
    refine jr.icmp_ge rfl rfl (by first | (refine rgb (by assumption) ?_; exact rfl) | omega) (by first | (refine rgb (by assumption) ?_; exact rfl) | omega) (fun h167 => ?_) (fun h167 => ?_)
    · refine jr.iconst rfl ?_
      refine jr.istore_n (ls' := [_, _]) rfl (nlt rfl) rfl ?_
      obtain ⟨v2, e2⟩ : ∃ z, M 598 88 = z := ⟨_, rfl⟩
      have b2 : 0 ≤ v2 ∧ v2 ≤ 16 := by rw [← e2]; exact hI_M 598 88 (Nat.le_of_ble_eq_true rfl)
      obtain ⟨v3, e3⟩ : ∃ z, M 598 1 = z := ⟨_, rfl⟩
      have b3 : 0 ≤ v3 ∧ v3 ≤ 1600 := by rw [← e3]; exact hI_M 598 1 (Nat.le_of_ble_eq_true rfl)
      refine jr.pick (ls := [_, _]) [0, 1] rfl rfl ?_
      exact r_rules_L202_x q 2200 M 0 hI_M hH_M hS_M  (fun a i f598 f651 f652 f653 f654 f655 f656 f657 f658 f659 f660 f661 f662 f663 f664 f665 f666 f667 f668 f669 => (hF_M a i f598 f651 f652 f653 f654 f655 f656 f657 f658 f659 f660 f661 f662 f663 f664 f665 f666 f667 f668 f669)) (fun i g1 g72 g73 g74 g75 g76 g77 g78 g79 g80 g81 g82 g83 g88 g89 g90 g96 g100 g101 g102 g107 => (hG_M i g1 g72 g73 g74 g75 g76 g77 g78 g79 g80 g81 g82 g83 g88 g89 g90 g96 g100 g101 g102 g107)) (by omega) hR (by rw [e1, e2] <;> omega) (fun c c0 c1 => hQ c c0 (by omega)) (fun c c0 c1 => by omega) (by rw [e3] <;> omega) (by omega)
    · refine jr.aload_n rfl rfl ?_
      refine jr.getf (i := 84) (v := .ref 652) rfl rfl (nlt rfl) rfl (nlt rfl) rfl rfl rfl rfl ?_
      refine jr.iload_n rfl rfl ?_
      refine jr.aload_n rfl rfl ?_
      refine jr.getf (i := 92) (v := .ref 657) rfl rfl (nlt rfl) rfl (nlt rfl) rfl rfl rfl rfl ?_
      refine jr.iload_n rfl rfl ?_
      obtain ⟨v4, e4⟩ : ∃ z, M 657 k = z := ⟨_, rfl⟩
      have b4 : 0 ≤ v4 ∧ v4 ≤ 2200 := by rw [← e4]; exact (by have q := hI_M 657 k (Nat.le_of_ble_eq_true rfl); rw [xri_row rfl rfl] at q; exact q)
      refine jr.iald (i := k) (x := v4) rfl (nlt rfl) rfl (Nat.le_of_ble_eq_true rfl) (by omega) (by omega) e4 ?_
      refine jr.iast (i := k) (x := v4) rfl (nlt rfl) rfl (Nat.le_of_ble_eq_true rfl) (by omega) (by omega) ?_
      refine jr.aload_n rfl rfl ?_
      refine jr.getf (i := 85) (v := .ref 653) rfl rfl (nlt rfl) rfl (nlt rfl) rfl rfl rfl rfl ?_
      refine jr.iload_n rfl rfl ?_
      refine jr.aload_n rfl rfl ?_
      refine jr.getf (i := 93) (v := .ref 658) rfl rfl (nlt rfl) rfl (nlt rfl) rfl rfl rfl rfl ?_
      refine jr.iload_n rfl rfl ?_
      obtain ⟨v5, e5⟩ : ∃ z, M 658 k = z := ⟨_, rfl⟩
      have b5 : (-1) ≤ v5 ∧ v5 ≤ 2200 := by rw [← e5]; exact (by have q := hI_M 658 k (Nat.le_of_ble_eq_true rfl); rw [xri_row rfl rfl] at q; exact q)
      refine jr.iald (i := k) (x := v5) rfl (nlt rfl) rfl (Nat.le_of_ble_eq_true rfl) (by omega) (by omega) ((ju_c _ _ (by decide)).trans e5) ?_
      refine jr.iast (i := k) (x := v5) rfl (nlt rfl) rfl (Nat.le_of_ble_eq_true rfl) (by omega) (by omega) ?_
      refine jr.iinc (ls' := [_, _]) rfl rfl (nlt rfl) rfl ?_
      refine jr.goto rfl rfl ?_
      obtain ⟨v6, e6⟩ : ∃ z, M 598 88 = z := ⟨_, rfl⟩
      have b6 : 0 ≤ v6 ∧ v6 ≤ 16 := by rw [← e6]; exact hI_M 598 88 (Nat.le_of_ble_eq_true rfl)
      obtain ⟨v7, e7⟩ : ∃ z, M 598 1 = z := ⟨_, rfl⟩
      have b7 : 0 ≤ v7 ∧ v7 ≤ 1600 := by rw [← e7]; exact hI_M 598 1 (Nat.le_of_ble_eq_true rfl)
      refine jr.pick (ls := [_, _]) [0, 1] rfl rfl ?_
      exact ih (nM - 1) (by omega) (ju (ju M 652 k v4) 653 k v5) (k + 1) (RI.u (RI.u hI_M (a := 652) (i := k) (by rw [xri_row rfl rfl]; show (0 : Int) ≤ _ ∧ _ ≤ (2200 : Int); omega)) (a := 653) (i := k) (by rw [xri_row rfl rfl]; show (-1 : Int) ≤ _ ∧ _ ≤ (2200 : Int); omega)) (RH.o (RH.o hH_M (by decide) (by decide) (by decide)) (by decide) (by decide) (by decide)) (RF.o (RF.o hS_M (by decide) (by decide)) (by decide) (by decide))  (fun a i f598 f651 f652 f653 f654 f655 f656 f657 f658 f659 f660 f661 f662 f663 f664 f665 f666 f667 f668 f669 => ((ju_c _ _ f653).trans ((ju_c _ _ f652).trans (hF_M a i f598 f651 f652 f653 f654 f655 f656 f657 f658 f659 f660 f661 f662 f663 f664 f665 f666 f667 f668 f669)))) (fun i g1 g72 g73 g74 g75 g76 g77 g78 g79 g80 g81 g82 g83 g88 g89 g90 g96 g100 g101 g102 g107 => ((ju_c _ _ (by decide)).trans ((ju_c _ _ (by decide)).trans (hG_M i g1 g72 g73 g74 g75 g76 g77 g78 g79 g80 g81 g82 g83 g88 g89 g90 g96 g100 g101 g102 g107)))) (by omega) (RD.o (RD.o hR (Or.inl (by decide))) (Or.inl (by decide))) (by rw [((ju_c _ _ (by decide)).trans ((ju_c _ _ (by decide)).trans e1)), ((ju_c _ _ (by decide)).trans ((ju_c _ _ (by decide)).trans e6))] <;> omega) (CQ.add hQ e4 e5) (by rw [((ju_c _ _ (by decide)).trans ((ju_c _ _ (by decide)).trans e7))] <;> omega) (by omega)
theorem r_rules_L144_x {A : Nat → Option (Nat × (Nat → Int32))} {Q : Option Value → jm → Prop} {M0 : jm} (q : ∀ (r : Int) (M' : jm), RI M' → RH M' → RF M' → (-17) ≤ r ∧ r ≤ 16 → MC M' → M' 598 1 = 0 → (∀ (a : Nat) (i : Int), a ≠ 598 → a ≠ 651 → a ≠ 652 → a ≠ 653 → a ≠ 654 → a ≠ 655 → a ≠ 656 → a ≠ 657 → a ≠ 658 → a ≠ 659 → a ≠ 660 → a ≠ 661 → a ≠ 662 → a ≠ 663 → a ≠ 664 → a ≠ 665 → a ≠ 666 → a ≠ 667 → a ≠ 668 → a ≠ 669 → M' a i = M0 a i) → (∀ (i : Int), i ≠ 1 → i ≠ 72 → i ≠ 73 → i ≠ 74 → i ≠ 75 → i ≠ 76 → i ≠ 77 → i ≠ 78 → i ≠ 79 → i ≠ 80 → i ≠ 81 → i ≠ 82 → i ≠ 83 → i ≠ 88 → i ≠ 89 → i ≠ 90 → i ≠ 96 → i ≠ 100 → i ≠ 101 → i ≠ 102 → i ≠ 107 → M' 598 i = M0 598 i) → Q (some (.int (Int32.ofInt r))) M') : ∀ (M : jm) , RI M → RH M → RF M → (∀ (a : Nat) (i : Int), a ≠ 598 → a ≠ 651 → a ≠ 652 → a ≠ 653 → a ≠ 654 → a ≠ 655 → a ≠ 656 → a ≠ 657 → a ≠ 658 → a ≠ 659 → a ≠ 660 → a ≠ 661 → a ≠ 662 → a ≠ 663 → a ≠ 664 → a ≠ 665 → a ≠ 666 → a ≠ 667 → a ≠ 668 → a ≠ 669 → M a i = M0 a i) → (∀ (i : Int), i ≠ 1 → i ≠ 72 → i ≠ 73 → i ≠ 74 → i ≠ 75 → i ≠ 76 → i ≠ 77 → i ≠ 78 → i ≠ 79 → i ≠ 80 → i ≠ 81 → i ≠ 82 → i ≠ 83 → i ≠ 88 → i ≠ 89 → i ≠ 90 → i ≠ 96 → i ≠ 100 → i ≠ 101 → i ≠ 102 → i ≠ 107 → M 598 i = M0 598 i) → RD M → 1 ≤ M 598 88 ∧ M 598 88 ≤ 16 → M 598 1 = 0 → jr A 9 xm_371 144 [(0, .ref (598))] [] M Q := by
    intro M  hI_M hH_M hS_M hF_M hG_M  hy0 hy1 hy2
    have hR := hy0
    obtain ⟨_, r1, r2, r3, r4⟩ := id hy0
    refine jr.aload_n rfl rfl ?_
    refine jr.aload_n rfl rfl ?_
    obtain ⟨v1, e1⟩ : ∃ z, M 598 88 = z := ⟨_, rfl⟩
    have b1 : 0 ≤ v1 ∧ v1 ≤ 16 := by rw [← e1]; exact hI_M 598 88 (Nat.le_of_ble_eq_true rfl)
    refine jr.getf (i := 88) (x := v1) (v := .int (Int32.ofInt (v1))) rfl rfl (nlt rfl) rfl (nlt rfl) rfl rfl e1 rfl ?_
    refine jr.putf (i := 82) (x := v1) rfl rfl (nlt rfl) rfl (nlt rfl) rfl rfl rfl rfl rfl ?_
    refine jr.aload_n rfl rfl ?_
    refine jr.aload_n rfl rfl ?_
    obtain ⟨v2, e2⟩ : ∃ z, M 598 89 = z := ⟨_, rfl⟩
    have b2 : 0 ≤ v2 ∧ v2 ≤ 301 := by rw [← e2]; exact hI_M 598 89 (Nat.le_of_ble_eq_true rfl)
    refine jr.getf (i := 89) (x := v2) (v := .int (Int32.ofInt (v2))) rfl rfl (nlt rfl) rfl (nlt rfl) rfl rfl ((ju_i _ _ (zne (by decide))).trans e2) rfl ?_
    refine jr.putf (i := 83) (x := v2) rfl rfl (nlt rfl) rfl (nlt rfl) rfl rfl rfl rfl rfl ?_
    refine jr.iconst rfl ?_
    refine jr.istore_n (ls' := [_, _]) rfl (nlt rfl) rfl ?_
    obtain ⟨v3, e3⟩ : ∃ z, M 598 1 = z := ⟨_, rfl⟩
    have b3 : 0 ≤ v3 ∧ v3 ≤ 1600 := by rw [← e3]; exact hI_M 598 1 (Nat.le_of_ble_eq_true rfl)
    refine jr.pick (ls := [_, _]) [0, 1] rfl rfl ?_
    exact r_rules_L162_x q 16 (ju (ju M 598 82 v1) 598 83 v2) 0 (RI.u (RI.u hI_M (a := 598) (i := 82) (show (0 : Int) ≤ _ ∧ _ ≤ (16 : Int) from by omega)) (a := 598) (i := 83) (show (0 : Int) ≤ _ ∧ _ ≤ (301 : Int) from by omega)) (RH.o (RH.o hH_M (by decide) (by decide) (by decide)) (by decide) (by decide) (by decide)) (RF.o (RF.o hS_M (by decide) (by decide)) (by decide) (by decide))  (fun a i f598 f651 f652 f653 f654 f655 f656 f657 f658 f659 f660 f661 f662 f663 f664 f665 f666 f667 f668 f669 => ((ju_c _ _ f598).trans ((ju_c _ _ f598).trans (hF_M a i f598 f651 f652 f653 f654 f655 f656 f657 f658 f659 f660 f661 f662 f663 f664 f665 f666 f667 f668 f669)))) (fun i g1 g72 g73 g74 g75 g76 g77 g78 g79 g80 g81 g82 g83 g88 g89 g90 g96 g100 g101 g102 g107 => ((ju_i _ _ g83).trans ((ju_i _ _ g82).trans (hG_M i g1 g72 g73 g74 g75 g76 g77 g78 g79 g80 g81 g82 g83 g88 g89 g90 g96 g100 g101 g102 g107)))) (by omega) (RD.o (RD.o hR (Or.inr (by decide))) (Or.inr (by decide))) (by rw [((ju_i _ _ (zne (by decide))).trans (ju_same _ _ _ _)), ((ju_i _ _ (zne (by decide))).trans ((ju_i _ _ (zne (by decide))).trans e1))] <;> omega) (fun c c0 c1 => by omega) (by rw [((ju_i _ _ (zne (by decide))).trans ((ju_i _ _ (zne (by decide))).trans e3))] <;> omega) (by omega)
theorem r_rules_L85_x {A : Nat → Option (Nat × (Nat → Int32))} {Q : Option Value → jm → Prop} {M0 : jm} (q : ∀ (r : Int) (M' : jm), RI M' → RH M' → RF M' → (-17) ≤ r ∧ r ≤ 16 → MC M' → M' 598 1 = 0 → (∀ (a : Nat) (i : Int), a ≠ 598 → a ≠ 651 → a ≠ 652 → a ≠ 653 → a ≠ 654 → a ≠ 655 → a ≠ 656 → a ≠ 657 → a ≠ 658 → a ≠ 659 → a ≠ 660 → a ≠ 661 → a ≠ 662 → a ≠ 663 → a ≠ 664 → a ≠ 665 → a ≠ 666 → a ≠ 667 → a ≠ 668 → a ≠ 669 → M' a i = M0 a i) → (∀ (i : Int), i ≠ 1 → i ≠ 72 → i ≠ 73 → i ≠ 74 → i ≠ 75 → i ≠ 76 → i ≠ 77 → i ≠ 78 → i ≠ 79 → i ≠ 80 → i ≠ 81 → i ≠ 82 → i ≠ 83 → i ≠ 88 → i ≠ 89 → i ≠ 90 → i ≠ 96 → i ≠ 100 → i ≠ 101 → i ≠ 102 → i ≠ 107 → M' 598 i = M0 598 i) → Q (some (.int (Int32.ofInt r))) M') : ∀ (nM : Nat) (M : jm) , RI M → RH M → RF M → (∀ (a : Nat) (i : Int), a ≠ 598 → a ≠ 651 → a ≠ 652 → a ≠ 653 → a ≠ 654 → a ≠ 655 → a ≠ 656 → a ≠ 657 → a ≠ 658 → a ≠ 659 → a ≠ 660 → a ≠ 661 → a ≠ 662 → a ≠ 663 → a ≠ 664 → a ≠ 665 → a ≠ 666 → a ≠ 667 → a ≠ 668 → a ≠ 669 → M a i = M0 a i) → (∀ (i : Int), i ≠ 1 → i ≠ 72 → i ≠ 73 → i ≠ 74 → i ≠ 75 → i ≠ 76 → i ≠ 77 → i ≠ 78 → i ≠ 79 → i ≠ 80 → i ≠ 81 → i ≠ 82 → i ≠ 83 → i ≠ 88 → i ≠ 89 → i ≠ 90 → i ≠ 96 → i ≠ 100 → i ≠ 101 → i ≠ 102 → i ≠ 107 → M 598 i = M0 598 i) → XS M 0 0 (M 598 100) 1 (-1) → AK M → LB M → M 598 80 = 0 → M 598 96 ≤ M 598 89 ∧ M 598 89 ≤ 300 ∧ M 598 107 = 0 → M 598 73 ≤ M 598 72 → (M 598 74 = 3 → M 598 79 ≠ 10 ∧ M 598 79 ≠ 11) → MC M → M 598 1 = 0 → TK M ≤ nM → jr A 9 xm_371 85 [(0, .ref (598))] [] M Q := by
  intro nM
  induction nM using Nat.strongRecOn with
  | ind nM ih =>
    intro M  hI_M hH_M hS_M hF_M hG_M  hy0 hy1 hy2 hy3 hy4 hy5 hy6 hy7 hy8 hm
    have hX := hy0
    have hA := hy1
    have hB := hy2
    have hM := hy7
    have b74 : (0 : Int) ≤ M 598 74 ∧ M 598 74 ≤ 4 := hI_M 598 74 (Nat.le_of_ble_eq_true rfl)
    have b73 : (0 : Int) ≤ M 598 73 ∧ M 598 73 ≤ 1600 := hI_M 598 73 (Nat.le_of_ble_eq_true rfl)
    have tg := TK.ge (M := M) (by omega) (by omega)
    refine jr.aload_n rfl rfl ?_
    refine jr.iconst rfl ?_
    refine jr_v rfl rfl (Or.inl rfl) rfl rfl (nlt rfl) rfl ⟨rfl, Nat.le_of_ble_eq_true rfl, Nat.le_of_ble_eq_true rfl⟩ rfl (jc.deep (c_isWord hI_M (by omega) (fun t87_0 t87_1 => ?_) (fun f87_0 => ?_)) (Nat.le_of_ble_eq_true rfl))
    · refine jr.if_eq rfl rfl (by first | exact rgl rfl | omega) (fun h => absurd h (by decide)) (fun _ => ?_)
      refine jr.aload_n rfl rfl ?_
      obtain ⟨v2, e2⟩ : ∃ z, M 598 80 = z := ⟨_, rfl⟩
      have b2 : 0 ≤ v2 ∧ v2 ≤ 7 := by rw [← e2]; exact hI_M 598 80 (Nat.le_of_ble_eq_true rfl)
      obtain ⟨v3, e3⟩ : ∃ z, M 598 96 = z := ⟨_, rfl⟩
      have b3 : 0 ≤ v3 ∧ v3 ≤ 300 := by rw [← e3]; exact hI_M 598 96 (Nat.le_of_ble_eq_true rfl)
      obtain ⟨v4, e4⟩ : ∃ z, M 598 89 = z := ⟨_, rfl⟩
      have b4 : 0 ≤ v4 ∧ v4 ≤ 301 := by rw [← e4]; exact hI_M 598 89 (Nat.le_of_ble_eq_true rfl)
      obtain ⟨v5, e5⟩ : ∃ z, M 598 107 = z := ⟨_, rfl⟩
      have b5 : 0 ≤ v5 ∧ v5 ≤ 16 := by rw [← e5]; exact hI_M 598 107 (Nat.le_of_ble_eq_true rfl)
      obtain ⟨v6, e6⟩ : ∃ z, M 598 73 = z := ⟨_, rfl⟩
      have b6 : 0 ≤ v6 ∧ v6 ≤ 1600 := by rw [← e6]; exact hI_M 598 73 (Nat.le_of_ble_eq_true rfl)
      obtain ⟨v7, e7⟩ : ∃ z, M 598 72 = z := ⟨_, rfl⟩
      have b7 : 0 ≤ v7 ∧ v7 ≤ 1600 := by rw [← e7]; exact hI_M 598 72 (Nat.le_of_ble_eq_true rfl)
      obtain ⟨v8, e8⟩ : ∃ z, M 598 74 = z := ⟨_, rfl⟩
      have b8 : 0 ≤ v8 ∧ v8 ≤ 4 := by rw [← e8]; exact hI_M 598 74 (Nat.le_of_ble_eq_true rfl)
      obtain ⟨v9, e9⟩ : ∃ z, M 598 79 = z := ⟨_, rfl⟩
      have b9 : 0 ≤ v9 ∧ v9 ≤ 255 := by rw [← e9]; exact hI_M 598 79 (Nat.le_of_ble_eq_true rfl)
      refine jr_v rfl rfl (Or.inl rfl) rfl rfl (nlt rfl) rfl ⟨rfl, Nat.le_of_ble_eq_true rfl, Nat.le_of_ble_eq_true rfl⟩ rfl (jc.deep (r_chain hI_M hH_M hS_M   hX hA hB (by rw [e2, e3, e4, e5]; omega) (by rw [e6, e7]; omega) (by rw [e8, e9]; intro q; omega) (by rw [e8]; omega) (fun M1 hI_M1 hH_M1 hS_M1  w1_0 w1_1 w1_2 w1_3 w1_4 w1_5 => ?_)) (Nat.le_of_ble_eq_true rfl))
      refine jr.goto rfl rfl ?_
      refine jr.aload_n rfl rfl ?_
      refine jr_v rfl rfl (Or.inl rfl) rfl rfl (nlt rfl) rfl ⟨rfl, Nat.le_of_ble_eq_true rfl, Nat.le_of_ble_eq_true rfl⟩ rfl (jc.deep (c_good hI_M1  (fun t105_0 => ?_) (fun f105_0 => ?_)) (Nat.le_of_ble_eq_true rfl))
      · obtain ⟨⟨ds1, ds2, ds3, ds4, ds5, ds6, ds7, ds8, ds9⟩, zb, ztk, zn, zc, zl⟩ := w1_0.resolve_left (fun z => z.1 t105_0)
        have dpx := XS.dep ds2
        have sl := XS.sgle ds2
        have hX : XS M1 0 0 (M1 598 100) 1 (-1) := by rw [show M1 598 100 = 0 by omega]; exact ds2
        have hA := ds8
        have hB := ds7
        have bM1_107 : (0 : Int) ≤ M1 598 107 ∧ M1 598 107 ≤ 16 := hI_M1 598 107 (Nat.le_of_ble_eq_true rfl)
        have bM1_73 : (0 : Int) ≤ M1 598 73 ∧ M1 598 73 ≤ 1600 := hI_M1 598 73 (Nat.le_of_ble_eq_true rfl)
        have bM1_88 : (0 : Int) ≤ M1 598 88 ∧ M1 598 88 ≤ 16 := hI_M1 598 88 (Nat.le_of_ble_eq_true rfl)
        have bM1_100 : (0 : Int) ≤ M1 598 100 ∧ M1 598 100 ≤ 13 := hI_M1 598 100 (Nat.le_of_ble_eq_true rfl)
        have bq74 : (0 : Int) ≤ M1 598 74 ∧ M1 598 74 ≤ 4 := hI_M1 598 74 (Nat.le_of_ble_eq_true rfl)
        have tg1 := TK.ge (M := M1) (by omega) (by omega)
        refine jr.if_eq rfl rfl (by first | exact rgl rfl | omega) (fun h => absurd h (by decide)) (fun _ => ?_)
        refine jr.aload_n rfl rfl ?_
        obtain ⟨v10, e10⟩ : ∃ z, M1 598 74 = z := ⟨_, rfl⟩
        have b10 : 0 ≤ v10 ∧ v10 ≤ 4 := by rw [← e10]; exact hI_M1 598 74 (Nat.le_of_ble_eq_true rfl)
        refine jr.getf (i := 74) (x := v10) (v := .int (Int32.ofInt (v10))) rfl rfl (nlt rfl) rfl (nlt rfl) rfl rfl e10 rfl ?_
        refine jr.if_ne rfl rfl (by first | (refine rgb (by assumption) ?_; exact rfl) | omega) (fun h115 => ?_) (fun h115 => ?_)
        · have sx115 : (1 : Int) ≤ v10 := by omega
          clear h115
          obtain ⟨v11, e11⟩ : ∃ z, M1 598 80 = z := ⟨_, rfl⟩
          have b11 : 0 ≤ v11 ∧ v11 ≤ 7 := by rw [← e11]; exact hI_M1 598 80 (Nat.le_of_ble_eq_true rfl)
          obtain ⟨v12, e12⟩ : ∃ z, M1 598 96 = z := ⟨_, rfl⟩
          have b12 : 0 ≤ v12 ∧ v12 ≤ 300 := by rw [← e12]; exact hI_M1 598 96 (Nat.le_of_ble_eq_true rfl)
          obtain ⟨v13, e13⟩ : ∃ z, M1 598 89 = z := ⟨_, rfl⟩
          have b13 : 0 ≤ v13 ∧ v13 ≤ 301 := by rw [← e13]; exact hI_M1 598 89 (Nat.le_of_ble_eq_true rfl)
          obtain ⟨v14, e14⟩ : ∃ z, M1 598 107 = z := ⟨_, rfl⟩
          have b14 : 0 ≤ v14 ∧ v14 ≤ 16 := by rw [← e14]; exact hI_M1 598 107 (Nat.le_of_ble_eq_true rfl)
          obtain ⟨v15, e15⟩ : ∃ z, M1 598 73 = z := ⟨_, rfl⟩
          have b15 : 0 ≤ v15 ∧ v15 ≤ 1600 := by rw [← e15]; exact hI_M1 598 73 (Nat.le_of_ble_eq_true rfl)
          have e16 : M1 598 72 = v7 := ((w1_5 72 (zne rfl) (zne rfl) (zne rfl) (zne rfl) (zne rfl) (zne rfl) (zne rfl) (zne rfl) (zne rfl) (zne rfl) (zne rfl) (zne rfl) (zne rfl) (zne rfl) (zne rfl) (zne rfl) (zne rfl)).trans e7)
          obtain ⟨v17, e17⟩ : ∃ z, M1 598 79 = z := ⟨_, rfl⟩
          have b17 : 0 ≤ v17 ∧ v17 ≤ 255 := by rw [← e17]; exact hI_M1 598 79 (Nat.le_of_ble_eq_true rfl)
          obtain ⟨v18, e18⟩ : ∃ z, M 598 1 = z := ⟨_, rfl⟩
          have b18 : 0 ≤ v18 ∧ v18 ≤ 1600 := by rw [← e18]; exact hI_M 598 1 (Nat.le_of_ble_eq_true rfl)
          have e19 : M1 598 1 = v18 := ((w1_5 1 (zne rfl) (zne rfl) (zne rfl) (zne rfl) (zne rfl) (zne rfl) (zne rfl) (zne rfl) (zne rfl) (zne rfl) (zne rfl) (zne rfl) (zne rfl) (zne rfl) (zne rfl) (zne rfl) (zne rfl)).trans e18)
          refine jr.pick (ls := [_]) [0] rfl rfl ?_
          exact ih (nM - 1) (by omega) M1  hI_M1 hH_M1 hS_M1  (fun a i f598 f651 f652 f653 f654 f655 f656 f657 f658 f659 f660 f661 f662 f663 f664 f665 f666 f667 f668 f669 => ((w1_4 a i f598 f659 f660 f661 f662 f663 f664 f665 f666 f667 f668 f669 f656 f657 f658).trans (hF_M a i f598 f651 f652 f653 f654 f655 f656 f657 f658 f659 f660 f661 f662 f663 f664 f665 f666 f667 f668 f669))) (fun i g1 g72 g73 g74 g75 g76 g77 g78 g79 g80 g81 g82 g83 g88 g89 g90 g96 g100 g101 g102 g107 => ((w1_5 i g73 g74 g75 g76 g77 g78 g79 g80 g81 g89 g90 g96 g100 g102 g107 g88 g101).trans (hG_M i g1 g72 g73 g74 g75 g76 g77 g78 g79 g80 g81 g82 g83 g88 g89 g90 g96 g100 g101 g102 g107)))  hX hA hB (by rw [e11] <;> omega) (by rw [e12, e13, e14] <;> omega) (by rw [e15, e16] <;> omega) (by rw [e10, e17] <;> omega) (MC.fr hM (fun i => w1_4 652 i (nne rfl) (nne rfl) (nne rfl) (nne rfl) (nne rfl) (nne rfl) (nne rfl) (nne rfl) (nne rfl) (nne rfl) (nne rfl) (nne rfl) (nne rfl) (nne rfl) (nne rfl)) (fun i => w1_4 653 i (nne rfl) (nne rfl) (nne rfl) (nne rfl) (nne rfl) (nne rfl) (nne rfl) (nne rfl) (nne rfl) (nne rfl) (nne rfl) (nne rfl) (nne rfl) (nne rfl) (nne rfl)) (fun i => w1_4 654 i (nne rfl) (nne rfl) (nne rfl) (nne rfl) (nne rfl) (nne rfl) (nne rfl) (nne rfl) (nne rfl) (nne rfl) (nne rfl) (nne rfl) (nne rfl) (nne rfl) (nne rfl)) (fun i => w1_4 655 i (nne rfl) (nne rfl) (nne rfl) (nne rfl) (nne rfl) (nne rfl) (nne rfl) (nne rfl) (nne rfl) (nne rfl) (nne rfl) (nne rfl) (nne rfl) (nne rfl) (nne rfl)) (w1_5 82 (zne rfl) (zne rfl) (zne rfl) (zne rfl) (zne rfl) (zne rfl) (zne rfl) (zne rfl) (zne rfl) (zne rfl) (zne rfl) (zne rfl) (zne rfl) (zne rfl) (zne rfl) (zne rfl) (zne rfl))) (by rw [e19] <;> omega) (by omega)
        · refine jr.aload_n rfl rfl ?_
          obtain ⟨v20, e20⟩ : ∃ z, M1 598 80 = z := ⟨_, rfl⟩
          have b20 : 0 ≤ v20 ∧ v20 ≤ 7 := by rw [← e20]; exact hI_M1 598 80 (Nat.le_of_ble_eq_true rfl)
          refine jr_v rfl rfl (Or.inl rfl) rfl rfl (nlt rfl) rfl ⟨rfl, Nat.le_of_ble_eq_true rfl, Nat.le_of_ble_eq_true rfl⟩ rfl (jc.deep (c_good hI_M1  (fun t119_0 => ?_) (fun f119_0 => ?_)) (Nat.le_of_ble_eq_true rfl))
          · refine jr.if_eq rfl rfl (by first | exact rgl rfl | omega) (fun h => absurd h (by decide)) (fun _ => ?_)
            refine jr.aload_n rfl rfl ?_
            refine jr_v rfl rfl (Or.inl rfl) rfl rfl (nlt rfl) rfl ⟨rfl, Nat.le_of_ble_eq_true rfl, Nat.le_of_ble_eq_true rfl⟩ rfl (jc.deep (r_resolve hI_M1 hH_M1 hS_M1   ds2 hA (fun M21 hI_M21 hH_M21 hS_M21  w21_0 w21_1 w21_2 => ?_)) (Nat.le_of_ble_eq_true rfl))
            have tk21 : TK M21 = TK M1 := TK.fr (w21_2 73 (zne rfl) (zne rfl)) (w21_2 74 (zne rfl) (zne rfl))
            refine jr.aload_n rfl rfl ?_
            refine jr_v rfl rfl (Or.inl rfl) rfl rfl (nlt rfl) rfl ⟨rfl, Nat.le_of_ble_eq_true rfl, Nat.le_of_ble_eq_true rfl⟩ rfl (jc.deep (c_good hI_M21  (fun t130_0 => ?_) (fun f130_0 => ?_)) (Nat.le_of_ble_eq_true rfl))
            · refine jr.if_ne rfl rfl (by first | exact rgl rfl | omega) (fun _ => ?_) (fun h => absurd (by decide) h)
              obtain ⟨v22, e22⟩ : ∃ z, M1 598 107 = z := ⟨_, rfl⟩
              have b22 : 0 ≤ v22 ∧ v22 ≤ 16 := by rw [← e22]; exact hI_M1 598 107 (Nat.le_of_ble_eq_true rfl)
              have e23 : M21 598 107 = v22 := ((w21_2 107 (zne rfl) (zne rfl)).trans e22)
              obtain ⟨v25, e25⟩ : ∃ z, M1 598 90 = z := ⟨_, rfl⟩
              have b25 : 0 ≤ v25 ∧ v25 ≤ 2200 := by rw [← e25]; exact hI_M1 598 90 (Nat.le_of_ble_eq_true rfl)
              have e26 : M21 598 90 = v25 := ((w21_2 90 (zne rfl) (zne rfl)).trans e25)
              obtain ⟨v28, e28⟩ : ∃ z, M1 598 88 = z := ⟨_, rfl⟩
              have b28 : 0 ≤ v28 ∧ v28 ≤ 16 := by rw [← e28]; exact hI_M1 598 88 (Nat.le_of_ble_eq_true rfl)
              have e29 : M21 598 88 = v28 := ((w21_2 88 (zne rfl) (zne rfl)).trans e28)
              obtain ⟨v30, e30⟩ : ∃ z, M 598 1 = z := ⟨_, rfl⟩
              have b30 : 0 ≤ v30 ∧ v30 ≤ 1600 := by rw [← e30]; exact hI_M 598 1 (Nat.le_of_ble_eq_true rfl)
              have e31 : M1 598 1 = v30 := ((w1_5 1 (zne rfl) (zne rfl) (zne rfl) (zne rfl) (zne rfl) (zne rfl) (zne rfl) (zne rfl) (zne rfl) (zne rfl) (zne rfl) (zne rfl) (zne rfl) (zne rfl) (zne rfl) (zne rfl) (zne rfl)).trans e30)
              have e32 : M21 598 1 = v30 := ((w21_2 1 (zne rfl) (zne rfl)).trans e31)
              refine jr.pick (ls := [_]) [0] rfl rfl ?_
              exact r_rules_L144_x q M21  hI_M21 hH_M21 hS_M21  (fun a i f598 f651 f652 f653 f654 f655 f656 f657 f658 f659 f660 f661 f662 f663 f664 f665 f666 f667 f668 f669 => ((w21_1 a i f598 f660).trans ((w1_4 a i f598 f659 f660 f661 f662 f663 f664 f665 f666 f667 f668 f669 f656 f657 f658).trans (hF_M a i f598 f651 f652 f653 f654 f655 f656 f657 f658 f659 f660 f661 f662 f663 f664 f665 f666 f667 f668 f669)))) (fun i g1 g72 g73 g74 g75 g76 g77 g78 g79 g80 g81 g82 g83 g88 g89 g90 g96 g100 g101 g102 g107 => ((w21_2 i g80 g81).trans ((w1_5 i g73 g74 g75 g76 g77 g78 g79 g80 g81 g89 g90 g96 g100 g102 g107 g88 g101).trans (hG_M i g1 g72 g73 g74 g75 g76 g77 g78 g79 g80 g81 g82 g83 g88 g89 g90 g96 g100 g101 g102 g107))))  ⟨w21_0, by omega, by omega, by omega, by rw [w21_2 90 (zne rfl) (zne rfl), w21_1 659 _ (nne rfl) (nne rfl)]; exact zl⟩ (by rw [e29] <;> omega) (by rw [e32] <;> omega)
            · refine jr.if_ne rfl rfl (by first | exact rgl rfl | omega) (fun h => absurd h (by decide)) (fun _ => ?_)
              refine jr.bipush rfl (by decide) ?_
              refine jr.aload_n rfl rfl ?_
              obtain ⟨v33, e33⟩ : ∃ z, M21 598 80 = z := ⟨_, rfl⟩
              have b33 : 0 ≤ v33 ∧ v33 ≤ 7 := by rw [← e33]; exact hI_M21 598 80 (Nat.le_of_ble_eq_true rfl)
              refine jr.getf (i := 80) (x := v33) (v := .int (Int32.ofInt (v33))) rfl rfl (nlt rfl) rfl (nlt rfl) rfl rfl e33 rfl ?_
              refine jr.isub rfl ?_
              obtain ⟨v34, e34⟩ : ∃ z, M 598 1 = z := ⟨_, rfl⟩
              have b34 : 0 ≤ v34 ∧ v34 ≤ 1600 := by rw [← e34]; exact hI_M 598 1 (Nat.le_of_ble_eq_true rfl)
              have e35 : M1 598 1 = v34 := ((w1_5 1 (zne rfl) (zne rfl) (zne rfl) (zne rfl) (zne rfl) (zne rfl) (zne rfl) (zne rfl) (zne rfl) (zne rfl) (zne rfl) (zne rfl) (zne rfl) (zne rfl) (zne rfl) (zne rfl) (zne rfl)).trans e34)
              have e36 : M21 598 1 = v34 := ((w21_2 1 (zne rfl) (zne rfl)).trans e35)
              exact jr.ireturn rfl rfl rfl (q _ _ hI_M21 hH_M21 hS_M21  (by omega) (MC.fr (MC.fr hM (fun i => w1_4 652 i (nne rfl) (nne rfl) (nne rfl) (nne rfl) (nne rfl) (nne rfl) (nne rfl) (nne rfl) (nne rfl) (nne rfl) (nne rfl) (nne rfl) (nne rfl) (nne rfl) (nne rfl)) (fun i => w1_4 653 i (nne rfl) (nne rfl) (nne rfl) (nne rfl) (nne rfl) (nne rfl) (nne rfl) (nne rfl) (nne rfl) (nne rfl) (nne rfl) (nne rfl) (nne rfl) (nne rfl) (nne rfl)) (fun i => w1_4 654 i (nne rfl) (nne rfl) (nne rfl) (nne rfl) (nne rfl) (nne rfl) (nne rfl) (nne rfl) (nne rfl) (nne rfl) (nne rfl) (nne rfl) (nne rfl) (nne rfl) (nne rfl)) (fun i => w1_4 655 i (nne rfl) (nne rfl) (nne rfl) (nne rfl) (nne rfl) (nne rfl) (nne rfl) (nne rfl) (nne rfl) (nne rfl) (nne rfl) (nne rfl) (nne rfl) (nne rfl) (nne rfl)) (w1_5 82 (zne rfl) (zne rfl) (zne rfl) (zne rfl) (zne rfl) (zne rfl) (zne rfl) (zne rfl) (zne rfl) (zne rfl) (zne rfl) (zne rfl) (zne rfl) (zne rfl) (zne rfl) (zne rfl) (zne rfl))) (fun i => w21_1 652 i (nne rfl) (nne rfl)) (fun i => w21_1 653 i (nne rfl) (nne rfl)) (fun i => w21_1 654 i (nne rfl) (nne rfl)) (fun i => w21_1 655 i (nne rfl) (nne rfl)) (w21_2 82 (zne rfl) (zne rfl))) (by have hq : M21 598 1 = v34 := e36; omega) (fun a i f598 f651 f652 f653 f654 f655 f656 f657 f658 f659 f660 f661 f662 f663 f664 f665 f666 f667 f668 f669 => ((w21_1 a i f598 f660).trans ((w1_4 a i f598 f659 f660 f661 f662 f663 f664 f665 f666 f667 f668 f669 f656 f657 f658).trans (hF_M a i f598 f651 f652 f653 f654 f655 f656 f657 f658 f659 f660 f661 f662 f663 f664 f665 f666 f667 f668 f669)))) (fun i g1 g72 g73 g74 g75 g76 g77 g78 g79 g80 g81 g82 g83 g88 g89 g90 g96 g100 g101 g102 g107 => ((w21_2 i g80 g81).trans ((w1_5 i g73 g74 g75 g76 g77 g78 g79 g80 g81 g89 g90 g96 g100 g102 g107 g88 g101).trans (hG_M i g1 g72 g73 g74 g75 g76 g77 g78 g79 g80 g81 g82 g83 g88 g89 g90 g96 g100 g101 g102 g107)))))
          · exfalso
            omega
      · refine jr.if_eq rfl rfl (by first | exact rgl rfl | omega) (fun _ => ?_) (fun h => absurd (by decide) h)
        refine jr.aload_n rfl rfl ?_
        obtain ⟨v37, e37⟩ : ∃ z, M1 598 80 = z := ⟨_, rfl⟩
        have b37 : 0 ≤ v37 ∧ v37 ≤ 7 := by rw [← e37]; exact hI_M1 598 80 (Nat.le_of_ble_eq_true rfl)
        refine jr_v rfl rfl (Or.inl rfl) rfl rfl (nlt rfl) rfl ⟨rfl, Nat.le_of_ble_eq_true rfl, Nat.le_of_ble_eq_true rfl⟩ rfl (jc.deep (c_good hI_M1  (fun t119_0 => ?_) (fun f119_0 => ?_)) (Nat.le_of_ble_eq_true rfl))
        · exfalso
          omega
        · refine jr.if_eq rfl rfl (by first | exact rgl rfl | omega) (fun _ => ?_) (fun h => absurd (by decide) h)
          refine jr.aload_n rfl rfl ?_
          refine jr_v rfl rfl (Or.inl rfl) rfl rfl (nlt rfl) rfl ⟨rfl, Nat.le_of_ble_eq_true rfl, Nat.le_of_ble_eq_true rfl⟩ rfl (jc.deep (c_good hI_M1  (fun t130_0 => ?_) (fun f130_0 => ?_)) (Nat.le_of_ble_eq_true rfl))
          · exfalso
            omega
          · refine jr.if_ne rfl rfl (by first | exact rgl rfl | omega) (fun h => absurd h (by decide)) (fun _ => ?_)
            refine jr.bipush rfl (by decide) ?_
            refine jr.aload_n rfl rfl ?_
            refine jr.getf (i := 80) (x := v37) (v := .int (Int32.ofInt (v37))) rfl rfl (nlt rfl) rfl (nlt rfl) rfl rfl e37 rfl ?_
            refine jr.isub rfl ?_
            obtain ⟨v38, e38⟩ : ∃ z, M 598 1 = z := ⟨_, rfl⟩
            have b38 : 0 ≤ v38 ∧ v38 ≤ 1600 := by rw [← e38]; exact hI_M 598 1 (Nat.le_of_ble_eq_true rfl)
            have e39 : M1 598 1 = v38 := ((w1_5 1 (zne rfl) (zne rfl) (zne rfl) (zne rfl) (zne rfl) (zne rfl) (zne rfl) (zne rfl) (zne rfl) (zne rfl) (zne rfl) (zne rfl) (zne rfl) (zne rfl) (zne rfl) (zne rfl) (zne rfl)).trans e38)
            exact jr.ireturn rfl rfl rfl (q _ _ hI_M1 hH_M1 hS_M1  (by omega) (MC.fr hM (fun i => w1_4 652 i (nne rfl) (nne rfl) (nne rfl) (nne rfl) (nne rfl) (nne rfl) (nne rfl) (nne rfl) (nne rfl) (nne rfl) (nne rfl) (nne rfl) (nne rfl) (nne rfl) (nne rfl)) (fun i => w1_4 653 i (nne rfl) (nne rfl) (nne rfl) (nne rfl) (nne rfl) (nne rfl) (nne rfl) (nne rfl) (nne rfl) (nne rfl) (nne rfl) (nne rfl) (nne rfl) (nne rfl) (nne rfl)) (fun i => w1_4 654 i (nne rfl) (nne rfl) (nne rfl) (nne rfl) (nne rfl) (nne rfl) (nne rfl) (nne rfl) (nne rfl) (nne rfl) (nne rfl) (nne rfl) (nne rfl) (nne rfl) (nne rfl)) (fun i => w1_4 655 i (nne rfl) (nne rfl) (nne rfl) (nne rfl) (nne rfl) (nne rfl) (nne rfl) (nne rfl) (nne rfl) (nne rfl) (nne rfl) (nne rfl) (nne rfl) (nne rfl) (nne rfl)) (w1_5 82 (zne rfl) (zne rfl) (zne rfl) (zne rfl) (zne rfl) (zne rfl) (zne rfl) (zne rfl) (zne rfl) (zne rfl) (zne rfl) (zne rfl) (zne rfl) (zne rfl) (zne rfl) (zne rfl) (zne rfl))) (by have hq : M1 598 1 = v38 := e39; omega) (fun a i f598 f651 f652 f653 f654 f655 f656 f657 f658 f659 f660 f661 f662 f663 f664 f665 f666 f667 f668 f669 => ((w1_4 a i f598 f659 f660 f661 f662 f663 f664 f665 f666 f667 f668 f669 f656 f657 f658).trans (hF_M a i f598 f651 f652 f653 f654 f655 f656 f657 f658 f659 f660 f661 f662 f663 f664 f665 f666 f667 f668 f669))) (fun i g1 g72 g73 g74 g75 g76 g77 g78 g79 g80 g81 g82 g83 g88 g89 g90 g96 g100 g101 g102 g107 => ((w1_5 i g73 g74 g75 g76 g77 g78 g79 g80 g81 g89 g90 g96 g100 g102 g107 g88 g101).trans (hG_M i g1 g72 g73 g74 g75 g76 g77 g78 g79 g80 g81 g82 g83 g88 g89 g90 g96 g100 g101 g102 g107))))
    · refine jr.if_eq rfl rfl (by first | exact rgl rfl | omega) (fun _ => ?_) (fun h => absurd (by decide) h)
      refine jr.aload_n rfl rfl ?_
      refine jr_v rfl rfl (Or.inl rfl) rfl rfl (nlt rfl) rfl ⟨rfl, Nat.le_of_ble_eq_true rfl, Nat.le_of_ble_eq_true rfl⟩ rfl (jc.deep (r_wrongToken hI_M hH_M hS_M    (fun M40 hI_M40 hH_M40 hS_M40  w40_0 w40_1 w40_2 => ?_)) (Nat.le_of_ble_eq_true rfl))
      have tk40 : TK M40 = TK M := TK.fr (w40_2 73 (zne rfl) (zne rfl)) (w40_2 74 (zne rfl) (zne rfl))
      refine jr.aload_n rfl rfl ?_
      obtain ⟨v41, e41⟩ : ∃ z, M40 598 80 = z := ⟨_, rfl⟩
      have b41 : 0 ≤ v41 ∧ v41 ≤ 7 := by rw [← e41]; exact hI_M40 598 80 (Nat.le_of_ble_eq_true rfl)
      refine jr_v rfl rfl (Or.inl rfl) rfl rfl (nlt rfl) rfl ⟨rfl, Nat.le_of_ble_eq_true rfl, Nat.le_of_ble_eq_true rfl⟩ rfl (jc.deep (c_good hI_M40  (fun t105_0 => ?_) (fun f105_0 => ?_)) (Nat.le_of_ble_eq_true rfl))
      · exfalso
        omega
      · refine jr.if_eq rfl rfl (by first | exact rgl rfl | omega) (fun _ => ?_) (fun h => absurd (by decide) h)
        refine jr.aload_n rfl rfl ?_
        refine jr_v rfl rfl (Or.inl rfl) rfl rfl (nlt rfl) rfl ⟨rfl, Nat.le_of_ble_eq_true rfl, Nat.le_of_ble_eq_true rfl⟩ rfl (jc.deep (c_good hI_M40  (fun t119_0 => ?_) (fun f119_0 => ?_)) (Nat.le_of_ble_eq_true rfl))
        · exfalso
          omega
        · refine jr.if_eq rfl rfl (by first | exact rgl rfl | omega) (fun _ => ?_) (fun h => absurd (by decide) h)
          refine jr.aload_n rfl rfl ?_
          refine jr_v rfl rfl (Or.inl rfl) rfl rfl (nlt rfl) rfl ⟨rfl, Nat.le_of_ble_eq_true rfl, Nat.le_of_ble_eq_true rfl⟩ rfl (jc.deep (c_good hI_M40  (fun t130_0 => ?_) (fun f130_0 => ?_)) (Nat.le_of_ble_eq_true rfl))
          · exfalso
            omega
          · refine jr.if_ne rfl rfl (by first | exact rgl rfl | omega) (fun h => absurd h (by decide)) (fun _ => ?_)
            refine jr.bipush rfl (by decide) ?_
            refine jr.aload_n rfl rfl ?_
            refine jr.getf (i := 80) (x := v41) (v := .int (Int32.ofInt (v41))) rfl rfl (nlt rfl) rfl (nlt rfl) rfl rfl e41 rfl ?_
            refine jr.isub rfl ?_
            obtain ⟨v42, e42⟩ : ∃ z, M 598 1 = z := ⟨_, rfl⟩
            have b42 : 0 ≤ v42 ∧ v42 ≤ 1600 := by rw [← e42]; exact hI_M 598 1 (Nat.le_of_ble_eq_true rfl)
            have e43 : M40 598 1 = v42 := ((w40_2 1 (zne rfl) (zne rfl)).trans e42)
            exact jr.ireturn rfl rfl rfl (q _ _ hI_M40 hH_M40 hS_M40  (by omega) (MC.fr hM (fun i => w40_1 652 i (nne rfl)) (fun i => w40_1 653 i (nne rfl)) (fun i => w40_1 654 i (nne rfl)) (fun i => w40_1 655 i (nne rfl)) (w40_2 82 (zne rfl) (zne rfl))) (by have hq : M40 598 1 = v42 := e43; omega) (fun a i f598 f651 f652 f653 f654 f655 f656 f657 f658 f659 f660 f661 f662 f663 f664 f665 f666 f667 f668 f669 => ((w40_1 a i f598).trans (hF_M a i f598 f651 f652 f653 f654 f655 f656 f657 f658 f659 f660 f661 f662 f663 f664 f665 f666 f667 f668 f669))) (fun i g1 g72 g73 g74 g75 g76 g77 g78 g79 g80 g81 g82 g83 g88 g89 g90 g96 g100 g101 g102 g107 => ((w40_2 i g80 g81).trans (hG_M i g1 g72 g73 g74 g75 g76 g77 g78 g79 g80 g81 g82 g83 g88 g89 g90 g96 g100 g101 g102 g107))))
theorem r_rules_L10_x {A : Nat → Option (Nat × (Nat → Int32))} {Q : Option Value → jm → Prop} {M0 : jm} (q : ∀ (r : Int) (M' : jm), RI M' → RH M' → RF M' → (-17) ≤ r ∧ r ≤ 16 → MC M' → M' 598 1 = 0 → (∀ (a : Nat) (i : Int), a ≠ 598 → a ≠ 651 → a ≠ 652 → a ≠ 653 → a ≠ 654 → a ≠ 655 → a ≠ 656 → a ≠ 657 → a ≠ 658 → a ≠ 659 → a ≠ 660 → a ≠ 661 → a ≠ 662 → a ≠ 663 → a ≠ 664 → a ≠ 665 → a ≠ 666 → a ≠ 667 → a ≠ 668 → a ≠ 669 → M' a i = M0 a i) → (∀ (i : Int), i ≠ 1 → i ≠ 72 → i ≠ 73 → i ≠ 74 → i ≠ 75 → i ≠ 76 → i ≠ 77 → i ≠ 78 → i ≠ 79 → i ≠ 80 → i ≠ 81 → i ≠ 82 → i ≠ 83 → i ≠ 88 → i ≠ 89 → i ≠ 90 → i ≠ 96 → i ≠ 100 → i ≠ 101 → i ≠ 102 → i ≠ 107 → M' 598 i = M0 598 i) → Q (some (.int (Int32.ofInt r))) M') : ∀ (nM : Nat) (M : jm) (k : Int), RI M → RH M → RF M → (∀ (a : Nat) (i : Int), a ≠ 598 → a ≠ 651 → a ≠ 652 → a ≠ 653 → a ≠ 654 → a ≠ 655 → a ≠ 656 → a ≠ 657 → a ≠ 658 → a ≠ 659 → a ≠ 660 → a ≠ 661 → a ≠ 662 → a ≠ 663 → a ≠ 664 → a ≠ 665 → a ≠ 666 → a ≠ 667 → a ≠ 668 → a ≠ 669 → M a i = M0 a i) → (∀ (i : Int), i ≠ 1 → i ≠ 72 → i ≠ 73 → i ≠ 74 → i ≠ 75 → i ≠ 76 → i ≠ 77 → i ≠ 78 → i ≠ 79 → i ≠ 80 → i ≠ 81 → i ≠ 82 → i ≠ 83 → i ≠ 88 → i ≠ 89 → i ≠ 90 → i ≠ 96 → i ≠ 100 → i ≠ 101 → i ≠ 102 → i ≠ 107 → M 598 i = M0 598 i) → 0 ≤ k ∧ k ≤ 1600 → M 598 72 = M 598 1 → MC M → FWq (M 650) → 1600 - k ≤ nM → jr A 9 xm_371 10 [(1, .int (Int32.ofInt (k))), (0, .ref (598))] [] M Q := by
  intro nM
  induction nM using Nat.strongRecOn with
  | ind nM ih =>
    intro M k hI_M hH_M hS_M hF_M hG_M h_k hy0 hy1 hy2 hm
    have hM := hy1
    have hF := hy2
    refine jr.iload_n rfl rfl ?_
    refine jr.aload_n rfl rfl ?_
    obtain ⟨v1, e1⟩ : ∃ z, M 598 1 = z := ⟨_, rfl⟩
    have b1 : 0 ≤ v1 ∧ v1 ≤ 1600 := by rw [← e1]; exact hI_M 598 1 (Nat.le_of_ble_eq_true rfl)
    refine jr.getf (i := 1) (x := v1) (v := .int (Int32.ofInt (v1))) rfl rfl (nlt rfl) rfl (nlt rfl) rfl rfl e1 rfl ?_
    refine jr.icmp_ge rfl rfl (by first | (refine rgb (by assumption) ?_; exact rfl) | omega) (by first | (refine rgb (by assumption) ?_; exact rfl) | omega) (fun h15 => ?_) (fun h15 => ?_)
    · refine jr.aload_n rfl rfl ?_
      refine jr.iconst rfl ?_
      refine jr.putf (i := 1) (x := 0) rfl rfl (nlt rfl) rfl (nlt rfl) rfl rfl rfl rfl rfl ?_
      refine jr.aload_n rfl rfl ?_
      refine jr.iconst rfl ?_
      refine jr.putf (i := 73) (x := 0) rfl rfl (nlt rfl) rfl (nlt rfl) rfl rfl rfl rfl rfl ?_
      refine jr.aload_n rfl rfl ?_
      refine jr.iconst rfl ?_
      refine jr.putf (i := 80) (x := 0) rfl rfl (nlt rfl) rfl (nlt rfl) rfl rfl rfl rfl rfl ?_
      refine jr.aload_n rfl rfl ?_
      refine jr.iconst rfl ?_
      refine jr.putf (i := 81) (x := (-1)) rfl rfl (nlt rfl) rfl (nlt rfl) rfl rfl rfl rfl rfl ?_
      refine jr.aload_n rfl rfl ?_
      refine jr.iconst rfl ?_
      refine jr.putf (i := 88) (x := 0) rfl rfl (nlt rfl) rfl (nlt rfl) rfl rfl rfl rfl rfl ?_
      refine jr.aload_n rfl rfl ?_
      refine jr.iconst rfl ?_
      refine jr.putf (i := 89) (x := 0) rfl rfl (nlt rfl) rfl (nlt rfl) rfl rfl rfl rfl rfl ?_
      refine jr.aload_n rfl rfl ?_
      refine jr.iconst rfl ?_
      refine jr.putf (i := 90) (x := 0) rfl rfl (nlt rfl) rfl (nlt rfl) rfl rfl rfl rfl rfl ?_
      refine jr.aload_n rfl rfl ?_
      refine jr.iconst rfl ?_
      refine jr.putf (i := 96) (x := 0) rfl rfl (nlt rfl) rfl (nlt rfl) rfl rfl rfl rfl rfl ?_
      refine jr.aload_n rfl rfl ?_
      refine jr.iconst rfl ?_
      refine jr.putf (i := 107) (x := 0) rfl rfl (nlt rfl) rfl (nlt rfl) rfl rfl rfl rfl rfl ?_
      refine jr.aload_n rfl rfl ?_
      obtain ⟨v3, e3⟩ : ∃ z, M 598 72 = z := ⟨_, rfl⟩
      have b3 : 0 ≤ v3 ∧ v3 ≤ 1600 := by rw [← e3]; exact hI_M 598 72 (Nat.le_of_ble_eq_true rfl)
      obtain ⟨v5, e5⟩ : ∃ z, M 598 74 = z := ⟨_, rfl⟩
      have b5 : 0 ≤ v5 ∧ v5 ≤ 4 := by rw [← e5]; exact hI_M 598 74 (Nat.le_of_ble_eq_true rfl)
      obtain ⟨v8, e8⟩ : ∃ z, M 598 100 = z := ⟨_, rfl⟩
      have b8 : 0 ≤ v8 ∧ v8 ≤ 13 := by rw [← e8]; exact hI_M 598 100 (Nat.le_of_ble_eq_true rfl)
      refine jr_v rfl rfl (Or.inl rfl) rfl rfl (nlt rfl) rfl ⟨rfl, Nat.le_of_ble_eq_true rfl, Nat.le_of_ble_eq_true rfl⟩ rfl (jc.deep (r_next (RI.u (RI.u (RI.u (RI.u (RI.u (RI.u (RI.u (RI.u (RI.u hI_M (a := 598) (i := 1) (show (0 : Int) ≤ _ ∧ _ ≤ (1600 : Int) from by omega)) (a := 598) (i := 73) (show (0 : Int) ≤ _ ∧ _ ≤ (1600 : Int) from by omega)) (a := 598) (i := 80) (show (0 : Int) ≤ _ ∧ _ ≤ (7 : Int) from by omega)) (a := 598) (i := 81) (show (-1 : Int) ≤ _ ∧ _ ≤ (1600 : Int) from by omega)) (a := 598) (i := 88) (show (0 : Int) ≤ _ ∧ _ ≤ (16 : Int) from by omega)) (a := 598) (i := 89) (show (0 : Int) ≤ _ ∧ _ ≤ (301 : Int) from by omega)) (a := 598) (i := 90) (show (0 : Int) ≤ _ ∧ _ ≤ (2200 : Int) from by omega)) (a := 598) (i := 96) (show (0 : Int) ≤ _ ∧ _ ≤ (300 : Int) from by omega)) (a := 598) (i := 107) (show (0 : Int) ≤ _ ∧ _ ≤ (16 : Int) from by omega)) (RH.o (RH.o (RH.o (RH.o (RH.o (RH.o (RH.o (RH.o (RH.o hH_M (by decide) (by decide) (by decide)) (by decide) (by decide) (by decide)) (by decide) (by decide) (by decide)) (by decide) (by decide) (by decide)) (by decide) (by decide) (by decide)) (by decide) (by decide) (by decide)) (by decide) (by decide) (by decide)) (by decide) (by decide) (by decide)) (by decide) (by decide) (by decide)) (RF.o (RF.o (RF.o (RF.o (RF.o (RF.o (RF.o (RF.o (RF.o hS_M (by decide) (by decide)) (by decide) (by decide)) (by decide) (by decide)) (by decide) (by decide)) (by decide) (by decide)) (by decide) (by decide)) (by decide) (by decide)) (by decide) (by decide)) (by decide) (by decide))   (by rw [((ju_i _ _ (zne (by decide))).trans ((ju_i _ _ (zne (by decide))).trans ((ju_i _ _ (zne (by decide))).trans ((ju_i _ _ (zne (by decide))).trans ((ju_i _ _ (zne (by decide))).trans ((ju_i _ _ (zne (by decide))).trans ((ju_i _ _ (zne (by decide))).trans (ju_same _ _ _ _)))))))), ((ju_i _ _ (zne (by decide))).trans ((ju_i _ _ (zne (by decide))).trans ((ju_i _ _ (zne (by decide))).trans ((ju_i _ _ (zne (by decide))).trans ((ju_i _ _ (zne (by decide))).trans ((ju_i _ _ (zne (by decide))).trans ((ju_i _ _ (zne (by decide))).trans ((ju_i _ _ (zne (by decide))).trans ((ju_i _ _ (zne (by decide))).trans e3)))))))))]; omega) (fun M2 hI_M2 hH_M2 hS_M2  w2_0 w2_1 w2_2 w2_3 w2_4 w2_5 w2_6 => ?_)) (Nat.le_of_ble_eq_true rfl))
      have y17 : (ju (ju (ju (ju (ju (ju (ju (ju (ju M 598 1 0) 598 73 0) 598 80 0) 598 81 (-1)) 598 88 0) 598 89 0) 598 90 0) 598 96 0) 598 107 0) 598 73 = 0 := ((ju_i _ _ (zne (by decide))).trans ((ju_i _ _ (zne (by decide))).trans ((ju_i _ _ (zne (by decide))).trans ((ju_i _ _ (zne (by decide))).trans ((ju_i _ _ (zne (by decide))).trans ((ju_i _ _ (zne (by decide))).trans ((ju_i _ _ (zne (by decide))).trans (ju_same _ _ _ _))))))))
      have y18 : (ju (ju (ju (ju (ju (ju (ju (ju (ju M 598 1 0) 598 73 0) 598 80 0) 598 81 (-1)) 598 88 0) 598 89 0) 598 90 0) 598 96 0) 598 107 0) 598 74 = v5 := ((ju_i _ _ (zne (by decide))).trans ((ju_i _ _ (zne (by decide))).trans ((ju_i _ _ (zne (by decide))).trans ((ju_i _ _ (zne (by decide))).trans ((ju_i _ _ (zne (by decide))).trans ((ju_i _ _ (zne (by decide))).trans ((ju_i _ _ (zne (by decide))).trans ((ju_i _ _ (zne (by decide))).trans ((ju_i _ _ (zne (by decide))).trans e5)))))))))
      have hX := XS.init (M := (ju (ju (ju (ju (ju (ju (ju (ju (ju M 598 1 0) 598 73 0) 598 80 0) 598 81 (-1)) 598 88 0) 598 89 0) 598 90 0) 598 96 0) 598 107 0)) (by rw [jw_o (by decide), jw_o (by decide), jw_o (by decide), jw_o (by decide), jw_o (by decide), jw_o (by decide), jw_o (by decide), jw_o (by decide), jw_o (by decide)]; exact hF) (((ju_i _ _ (zne (by decide))).trans ((ju_i _ _ (zne (by decide))).trans ((ju_i _ _ (zne (by decide))).trans ((ju_i _ _ (zne (by decide))).trans (ju_same _ _ _ _)))))) (((ju_i _ _ (zne (by decide))).trans ((ju_i _ _ (zne (by decide))).trans (ju_same _ _ _ _)))) ((ju_same _ _ _ _)) (Int.le_of_eq (((ju_i _ _ (zne (by decide))).trans ((ju_i _ _ (zne (by decide))).trans ((ju_i _ _ (zne (by decide))).trans (ju_same _ _ _ _))))).symm) (Int.le_of_eq (((ju_i _ _ (zne (by decide))).trans ((ju_i _ _ (zne (by decide))).trans ((ju_i _ _ (zne (by decide))).trans ((ju_i _ _ (zne (by decide))).trans ((ju_i _ _ (zne (by decide))).trans ((ju_i _ _ (zne (by decide))).trans ((ju_i _ _ (zne (by decide))).trans (ju_same _ _ _ _))))))))).symm)
      have hA := AK.zero (M := (ju (ju (ju (ju (ju (ju (ju (ju (ju M 598 1 0) 598 73 0) 598 80 0) 598 81 (-1)) 598 88 0) 598 89 0) 598 90 0) 598 96 0) 598 107 0)) (((ju_i _ _ (zne (by decide))).trans (ju_same _ _ _ _)))
      have hB : LB (ju (ju (ju (ju (ju (ju (ju (ju (ju M 598 1 0) 598 73 0) 598 80 0) 598 81 (-1)) 598 88 0) 598 89 0) 598 90 0) 598 96 0) 598 107 0) := Or.inl (((ju_i _ _ (zne (by decide))).trans ((ju_i _ _ (zne (by decide))).trans (ju_same _ _ _ _))))
      have y4 : (ju (ju (ju (ju (ju (ju (ju (ju (ju M 598 1 0) 598 73 0) 598 80 0) 598 81 (-1)) 598 88 0) 598 89 0) 598 90 0) 598 96 0) 598 107 0) 598 73 = 0 := ((ju_i _ _ (zne (by decide))).trans ((ju_i _ _ (zne (by decide))).trans ((ju_i _ _ (zne (by decide))).trans ((ju_i _ _ (zne (by decide))).trans ((ju_i _ _ (zne (by decide))).trans ((ju_i _ _ (zne (by decide))).trans ((ju_i _ _ (zne (by decide))).trans (ju_same _ _ _ _))))))))
      have y6 : (ju (ju (ju (ju (ju (ju (ju (ju (ju M 598 1 0) 598 73 0) 598 80 0) 598 81 (-1)) 598 88 0) 598 89 0) 598 90 0) 598 96 0) 598 107 0) 598 74 = v5 := ((ju_i _ _ (zne (by decide))).trans ((ju_i _ _ (zne (by decide))).trans ((ju_i _ _ (zne (by decide))).trans ((ju_i _ _ (zne (by decide))).trans ((ju_i _ _ (zne (by decide))).trans ((ju_i _ _ (zne (by decide))).trans ((ju_i _ _ (zne (by decide))).trans ((ju_i _ _ (zne (by decide))).trans ((ju_i _ _ (zne (by decide))).trans e5)))))))))
      have y7 : (ju (ju (ju (ju (ju (ju (ju (ju (ju M 598 1 0) 598 73 0) 598 80 0) 598 81 (-1)) 598 88 0) 598 89 0) 598 90 0) 598 96 0) 598 107 0) 598 89 = 0 := ((ju_i _ _ (zne (by decide))).trans ((ju_i _ _ (zne (by decide))).trans ((ju_i _ _ (zne (by decide))).trans (ju_same _ _ _ _))))
      have y9 : (ju (ju (ju (ju (ju (ju (ju (ju (ju M 598 1 0) 598 73 0) 598 80 0) 598 81 (-1)) 598 88 0) 598 89 0) 598 90 0) 598 96 0) 598 107 0) 598 100 = v8 := ((ju_i _ _ (zne (by decide))).trans ((ju_i _ _ (zne (by decide))).trans ((ju_i _ _ (zne (by decide))).trans ((ju_i _ _ (zne (by decide))).trans ((ju_i _ _ (zne (by decide))).trans ((ju_i _ _ (zne (by decide))).trans ((ju_i _ _ (zne (by decide))).trans ((ju_i _ _ (zne (by decide))).trans ((ju_i _ _ (zne (by decide))).trans e8)))))))))
      have y10 : (ju (ju (ju (ju (ju (ju (ju (ju (ju M 598 1 0) 598 73 0) 598 80 0) 598 81 (-1)) 598 88 0) 598 89 0) 598 90 0) 598 96 0) 598 107 0) 598 96 = 0 := ((ju_i _ _ (zne (by decide))).trans (ju_same _ _ _ _))
      have y11 : (ju (ju (ju (ju (ju (ju (ju (ju (ju M 598 1 0) 598 73 0) 598 80 0) 598 81 (-1)) 598 88 0) 598 89 0) 598 90 0) 598 96 0) 598 107 0) 598 90 = 0 := ((ju_i _ _ (zne (by decide))).trans ((ju_i _ _ (zne (by decide))).trans (ju_same _ _ _ _)))
      have y12 : (ju (ju (ju (ju (ju (ju (ju (ju (ju M 598 1 0) 598 73 0) 598 80 0) 598 81 (-1)) 598 88 0) 598 89 0) 598 90 0) 598 96 0) 598 107 0) 598 107 = 0 := (ju_same _ _ _ _)
      have y13 : (ju (ju (ju (ju (ju (ju (ju (ju (ju M 598 1 0) 598 73 0) 598 80 0) 598 81 (-1)) 598 88 0) 598 89 0) 598 90 0) 598 96 0) 598 107 0) 598 73 = 0 := ((ju_i _ _ (zne (by decide))).trans ((ju_i _ _ (zne (by decide))).trans ((ju_i _ _ (zne (by decide))).trans ((ju_i _ _ (zne (by decide))).trans ((ju_i _ _ (zne (by decide))).trans ((ju_i _ _ (zne (by decide))).trans ((ju_i _ _ (zne (by decide))).trans (ju_same _ _ _ _))))))))
      have y14 : (ju (ju (ju (ju (ju (ju (ju (ju (ju M 598 1 0) 598 73 0) 598 80 0) 598 81 (-1)) 598 88 0) 598 89 0) 598 90 0) 598 96 0) 598 107 0) 598 74 = v5 := ((ju_i _ _ (zne (by decide))).trans ((ju_i _ _ (zne (by decide))).trans ((ju_i _ _ (zne (by decide))).trans ((ju_i _ _ (zne (by decide))).trans ((ju_i _ _ (zne (by decide))).trans ((ju_i _ _ (zne (by decide))).trans ((ju_i _ _ (zne (by decide))).trans ((ju_i _ _ (zne (by decide))).trans ((ju_i _ _ (zne (by decide))).trans e5)))))))))
      have y15 : (ju (ju (ju (ju (ju (ju (ju (ju (ju M 598 1 0) 598 73 0) 598 80 0) 598 81 (-1)) 598 88 0) 598 89 0) 598 90 0) 598 96 0) 598 107 0) 598 89 = 0 := ((ju_i _ _ (zne (by decide))).trans ((ju_i _ _ (zne (by decide))).trans ((ju_i _ _ (zne (by decide))).trans (ju_same _ _ _ _))))
      have y16 : (ju (ju (ju (ju (ju (ju (ju (ju (ju M 598 1 0) 598 73 0) 598 80 0) 598 81 (-1)) 598 88 0) 598 89 0) 598 90 0) 598 96 0) 598 107 0) 598 100 = v8 := ((ju_i _ _ (zne (by decide))).trans ((ju_i _ _ (zne (by decide))).trans ((ju_i _ _ (zne (by decide))).trans ((ju_i _ _ (zne (by decide))).trans ((ju_i _ _ (zne (by decide))).trans ((ju_i _ _ (zne (by decide))).trans ((ju_i _ _ (zne (by decide))).trans ((ju_i _ _ (zne (by decide))).trans ((ju_i _ _ (zne (by decide))).trans e8)))))))))
      have x2_89 := w2_6 89 (zne rfl) (zne rfl) (zne rfl) (zne rfl) (zne rfl) (zne rfl) (zne rfl)
      have x2_100 := w2_6 100 (zne rfl) (zne rfl) (zne rfl) (zne rfl) (zne rfl) (zne rfl) (zne rfl)
      have hX := XS.fr2 hX w2_5 (w2_6 88 (zne rfl) (zne rfl) (zne rfl) (zne rfl) (zne rfl) (zne rfl) (zne rfl)) (w2_6 90 (zne rfl) (zne rfl) (zne rfl) (zne rfl) (zne rfl) (zne rfl) (zne rfl)) (w2_6 101 (zne rfl) (zne rfl) (zne rfl) (zne rfl) (zne rfl) (zne rfl) (zne rfl)) (w2_6 107 (zne rfl) (zne rfl) (zne rfl) (zne rfl) (zne rfl) (zne rfl) (zne rfl)) (k' := 0) (d' := (M2 598 100)) (z' := 1) (by omega) (by omega) (by omega) (by omega)
      have hA := AK.cp hA (CP.f (CP.rfl _) (fun i => w2_5 659 i (nne rfl)) (w2_6 90 (zne rfl) (zne rfl) (zne rfl) (zne rfl) (zne rfl) (zne rfl) (zne rfl))) (fun i => w2_5 663 i (nne rfl)) (w2_6 96 (zne rfl) (zne rfl) (zne rfl) (zne rfl) (zne rfl) (zne rfl) (zne rfl))
      have hB := LB.fr hB (fun i => w2_5 659 i (nne rfl)) (w2_6 90 (zne rfl) (zne rfl) (zne rfl) (zne rfl) (zne rfl) (zne rfl) (zne rfl))
      have e19 : M2 598 80 = 0 := ((w2_6 80 (zne rfl) (zne rfl) (zne rfl) (zne rfl) (zne rfl) (zne rfl) (zne rfl)).trans ((ju_i _ _ (zne (by decide))).trans ((ju_i _ _ (zne (by decide))).trans ((ju_i _ _ (zne (by decide))).trans ((ju_i _ _ (zne (by decide))).trans ((ju_i _ _ (zne (by decide))).trans ((ju_i _ _ (zne (by decide))).trans (ju_same _ _ _ _))))))))
      have e20 : M2 598 96 = 0 := ((w2_6 96 (zne rfl) (zne rfl) (zne rfl) (zne rfl) (zne rfl) (zne rfl) (zne rfl)).trans ((ju_i _ _ (zne (by decide))).trans (ju_same _ _ _ _)))
      have e21 : M2 598 89 = 0 := ((w2_6 89 (zne rfl) (zne rfl) (zne rfl) (zne rfl) (zne rfl) (zne rfl) (zne rfl)).trans ((ju_i _ _ (zne (by decide))).trans ((ju_i _ _ (zne (by decide))).trans ((ju_i _ _ (zne (by decide))).trans (ju_same _ _ _ _)))))
      have e22 : M2 598 107 = 0 := ((w2_6 107 (zne rfl) (zne rfl) (zne rfl) (zne rfl) (zne rfl) (zne rfl) (zne rfl)).trans (ju_same _ _ _ _))
      obtain ⟨v23, e23⟩ : ∃ z, M2 598 73 = z := ⟨_, rfl⟩
      have b23 : 0 ≤ v23 ∧ v23 ≤ 1600 := by rw [← e23]; exact hI_M2 598 73 (Nat.le_of_ble_eq_true rfl)
      have e24 : M2 598 72 = v3 := ((w2_6 72 (zne rfl) (zne rfl) (zne rfl) (zne rfl) (zne rfl) (zne rfl) (zne rfl)).trans ((ju_i _ _ (zne (by decide))).trans ((ju_i _ _ (zne (by decide))).trans ((ju_i _ _ (zne (by decide))).trans ((ju_i _ _ (zne (by decide))).trans ((ju_i _ _ (zne (by decide))).trans ((ju_i _ _ (zne (by decide))).trans ((ju_i _ _ (zne (by decide))).trans ((ju_i _ _ (zne (by decide))).trans ((ju_i _ _ (zne (by decide))).trans e3))))))))))
      obtain ⟨v25, e25⟩ : ∃ z, M2 598 74 = z := ⟨_, rfl⟩
      have b25 : 0 ≤ v25 ∧ v25 ≤ 4 := by rw [← e25]; exact hI_M2 598 74 (Nat.le_of_ble_eq_true rfl)
      obtain ⟨v26, e26⟩ : ∃ z, M2 598 79 = z := ⟨_, rfl⟩
      have b26 : 0 ≤ v26 ∧ v26 ≤ 255 := by rw [← e26]; exact hI_M2 598 79 (Nat.le_of_ble_eq_true rfl)
      have e27 : M2 598 1 = 0 := ((w2_6 1 (zne rfl) (zne rfl) (zne rfl) (zne rfl) (zne rfl) (zne rfl) (zne rfl)).trans ((ju_i _ _ (zne (by decide))).trans ((ju_i _ _ (zne (by decide))).trans ((ju_i _ _ (zne (by decide))).trans ((ju_i _ _ (zne (by decide))).trans ((ju_i _ _ (zne (by decide))).trans ((ju_i _ _ (zne (by decide))).trans ((ju_i _ _ (zne (by decide))).trans ((ju_i _ _ (zne (by decide))).trans (ju_same _ _ _ _))))))))))
      refine jr.pick (ls := [_]) [1] rfl rfl ?_
      exact r_rules_L85_x q 3201 M2  hI_M2 hH_M2 hS_M2  (fun a i f598 f651 f652 f653 f654 f655 f656 f657 f658 f659 f660 f661 f662 f663 f664 f665 f666 f667 f668 f669 => ((w2_5 a i f598).trans ((ju_c _ _ f598).trans ((ju_c _ _ f598).trans ((ju_c _ _ f598).trans ((ju_c _ _ f598).trans ((ju_c _ _ f598).trans ((ju_c _ _ f598).trans ((ju_c _ _ f598).trans ((ju_c _ _ f598).trans ((ju_c _ _ f598).trans (hF_M a i f598 f651 f652 f653 f654 f655 f656 f657 f658 f659 f660 f661 f662 f663 f664 f665 f666 f667 f668 f669)))))))))))) (fun i g1 g72 g73 g74 g75 g76 g77 g78 g79 g80 g81 g82 g83 g88 g89 g90 g96 g100 g101 g102 g107 => ((w2_6 i g73 g74 g75 g76 g77 g78 g79).trans ((ju_i _ _ g107).trans ((ju_i _ _ g96).trans ((ju_i _ _ g90).trans ((ju_i _ _ g89).trans ((ju_i _ _ g88).trans ((ju_i _ _ g81).trans ((ju_i _ _ g80).trans ((ju_i _ _ g73).trans ((ju_i _ _ g1).trans (hG_M i g1 g72 g73 g74 g75 g76 g77 g78 g79 g80 g81 g82 g83 g88 g89 g90 g96 g100 g101 g102 g107))))))))))))  hX hA hB (by rw [e19] <;> omega) (by rw [e20, e21, e22] <;> omega) (by rw [e23, e24] <;> omega) (by rw [e25, e26] <;> omega) (MC.fr (MC.o (MC.o (MC.o (MC.o (MC.o (MC.o (MC.o (MC.o (MC.o hM (by decide) (Or.inr (by decide))) (by decide) (Or.inr (by decide))) (by decide) (Or.inr (by decide))) (by decide) (Or.inr (by decide))) (by decide) (Or.inr (by decide))) (by decide) (Or.inr (by decide))) (by decide) (Or.inr (by decide))) (by decide) (Or.inr (by decide))) (by decide) (Or.inr (by decide))) (fun i => w2_5 652 i (nne rfl)) (fun i => w2_5 653 i (nne rfl)) (fun i => w2_5 654 i (nne rfl)) (fun i => w2_5 655 i (nne rfl)) (w2_6 82 (zne rfl) (zne rfl) (zne rfl) (zne rfl) (zne rfl) (zne rfl) (zne rfl))) (by rw [e27] <;> omega) (by have t := TK.le (M := M2) (by omega); omega)
    · refine jr.aload_n rfl rfl ?_
      refine jr.getf (i := 71) (v := .ref 651) rfl rfl (nlt rfl) rfl (nlt rfl) rfl rfl rfl rfl ?_
      refine jr.iload_n rfl rfl ?_
      refine jr.aload_n rfl rfl ?_
      refine jr.getf (i := 0) (v := .ref 599) rfl rfl (nlt rfl) rfl (nlt rfl) rfl rfl rfl rfl ?_
      refine jr.iload_n rfl rfl ?_
      obtain ⟨v28, e28⟩ : ∃ z, M 599 k = z := ⟨_, rfl⟩
      have b28 : 0 ≤ v28 ∧ v28 ≤ 255 := by rw [← e28]; exact (by have q := hI_M 599 k (Nat.le_of_ble_eq_true rfl); rw [xri_row rfl rfl] at q; exact q)
      refine jr.iald (i := k) (x := v28) rfl (nlt rfl) rfl (Nat.le_of_ble_eq_true rfl) (by omega) (by omega) e28 ?_
      refine jr.iast (i := k) (x := v28) rfl (nlt rfl) rfl (Nat.le_of_ble_eq_true rfl) (by omega) (by omega) ?_
      refine jr.iinc (ls' := [_, _]) rfl rfl (nlt rfl) rfl ?_
      refine jr.goto rfl rfl ?_
      obtain ⟨v29, e29⟩ : ∃ z, M 598 72 = z := ⟨_, rfl⟩
      have b29 : 0 ≤ v29 ∧ v29 ≤ 1600 := by rw [← e29]; exact hI_M 598 72 (Nat.le_of_ble_eq_true rfl)
      refine jr.pick (ls := [_, _]) [0, 1] rfl rfl ?_
      exact ih (nM - 1) (by omega) (ju M 651 k v28) (k + 1) (RI.u hI_M (a := 651) (i := k) (by rw [xri_row rfl rfl]; show (0 : Int) ≤ _ ∧ _ ≤ (255 : Int); omega)) (RH.o hH_M (by decide) (by decide) (by decide)) (RF.o hS_M (by decide) (by decide))  (fun a i f598 f651 f652 f653 f654 f655 f656 f657 f658 f659 f660 f661 f662 f663 f664 f665 f666 f667 f668 f669 => ((ju_c _ _ f651).trans (hF_M a i f598 f651 f652 f653 f654 f655 f656 f657 f658 f659 f660 f661 f662 f663 f664 f665 f666 f667 f668 f669))) (fun i g1 g72 g73 g74 g75 g76 g77 g78 g79 g80 g81 g82 g83 g88 g89 g90 g96 g100 g101 g102 g107 => ((ju_c _ _ (by decide)).trans (hG_M i g1 g72 g73 g74 g75 g76 g77 g78 g79 g80 g81 g82 g83 g88 g89 g90 g96 g100 g101 g102 g107))) (by omega) (by rw [((ju_c _ _ (by decide)).trans e29), ((ju_c _ _ (by decide)).trans e1)] <;> omega) (MC.o hM (by decide) (Or.inl (by decide))) (by rw [jw_o (by decide)]; exact hF) (by omega)
theorem r_rules_x {A : Nat → Option (Nat × (Nat → Int32))} {Q : Option Value → jm → Prop} {M : jm} (hI_M : RI M) (hH_M : RH M) (hS_M : RF M) (p0 : MC M) (p1 : FWq (M 650)) (q : ∀ (r : Int) (M' : jm), RI M' → RH M' → RF M' → (-17) ≤ r ∧ r ≤ 16 → MC M' → M' 598 1 = 0 → (∀ (a : Nat) (i : Int), a ≠ 598 → a ≠ 651 → a ≠ 652 → a ≠ 653 → a ≠ 654 → a ≠ 655 → a ≠ 656 → a ≠ 657 → a ≠ 658 → a ≠ 659 → a ≠ 660 → a ≠ 661 → a ≠ 662 → a ≠ 663 → a ≠ 664 → a ≠ 665 → a ≠ 666 → a ≠ 667 → a ≠ 668 → a ≠ 669 → M' a i = M a i) → (∀ (i : Int), i ≠ 1 → i ≠ 72 → i ≠ 73 → i ≠ 74 → i ≠ 75 → i ≠ 76 → i ≠ 77 → i ≠ 78 → i ≠ 79 → i ≠ 80 → i ≠ 81 → i ≠ 82 → i ≠ 83 → i ≠ 88 → i ≠ 89 → i ≠ 90 → i ≠ 96 → i ≠ 100 → i ≠ 101 → i ≠ 102 → i ≠ 107 → M' 598 i = M 598 i) → Q (some (.int (Int32.ofInt r))) M') : jc A 10 371 [.ref (598)] M Q := by
  have hM := p0
  have hF := p1
  refine jc_of (m := xm_371) rfl (Nat.le_of_ble_eq_true rfl) rfl ?_
  refine jr.aload_n rfl rfl ?_
  refine jr.aload_n rfl rfl ?_
  obtain ⟨v1, e1⟩ : ∃ z, M 598 1 = z := ⟨_, rfl⟩
  have b1 : 0 ≤ v1 ∧ v1 ≤ 1600 := by rw [← e1]; exact hI_M 598 1 (Nat.le_of_ble_eq_true rfl)
  refine jr.getf (i := 1) (x := v1) (v := .int (Int32.ofInt (v1))) rfl rfl (nlt rfl) rfl (nlt rfl) rfl rfl e1 rfl ?_
  refine jr.putf (i := 72) (x := v1) rfl rfl (nlt rfl) rfl (nlt rfl) rfl rfl rfl rfl rfl ?_
  refine jr.iconst rfl ?_
  refine jr.istore_n (ls' := [_, _]) rfl (nlt rfl) rfl ?_
  refine jr.pick (ls := [_, _]) [0, 1] rfl rfl ?_
  exact r_rules_L10_x q 1600 (ju M 598 72 v1) 0 (RI.u hI_M (a := 598) (i := 72) (show (0 : Int) ≤ _ ∧ _ ≤ (1600 : Int) from by omega)) (RH.o hH_M (by decide) (by decide) (by decide)) (RF.o hS_M (by decide) (by decide))  (fun a i f598 f651 f652 f653 f654 f655 f656 f657 f658 f659 f660 f661 f662 f663 f664 f665 f666 f667 f668 f669 => ((ju_c _ _ f598).trans rfl)) (fun i g1 g72 g73 g74 g75 g76 g77 g78 g79 g80 g81 g82 g83 g88 g89 g90 g96 g100 g101 g102 g107 => ((ju_i _ _ g72).trans rfl)) (by omega) (by rw [(ju_same _ _ _ _), ((ju_i _ _ (zne (by decide))).trans e1)] <;> omega) (MC.o hM (by decide) (Or.inr (by decide))) (by rw [jw_o (by decide)]; exact hF) (by omega)
end
section
/-! ===== what both sides keep between the law's calls ===== -/
noncomputable def CV (M : jm) (L S : Int) : Prop := CI M ∧ LC M L ∧ PC M ∧ M 413 2 ≠ M 421 2 ∧ M 421 4 = 0 ∧ M 0 8 = S
noncomputable def X7 (M : jm) : Prop := ∀ i : Int, 0 ≤ i → i < 100 → M 647 i = xcv_5 i
noncomputable def RV (M : jm) (L S : Int) : Prop := RI M ∧ RH M ∧ RF M ∧ RG1 M ∧ FWq (M 650) ∧ MC M ∧ AS M L ∧ M 598 2 = S ∧ X7 M
theorem X7.fr {M M' : jm} (h : X7 M) (e : ∀ i : Int, M' 647 i = M 647 i) : X7 M' := fun i i0 i1 => (e i).trans (h i i0 i1)
theorem kd_hi {a : Nat} (h : 598 ≤ a) : kd a = 0 := by
  unfold kd
  rw [blt_f h]
  rfl
theorem rG_hi {a : Nat} (h : rG a = true) : 598 ≤ a := by
  cases hb : Nat.blt a 598 with
  | false =>
    rcases Nat.lt_or_ge a 598 with q | q
    · rw [Nat.blt_eq.mpr q] at hb
      exact absurd hb (by decide)
    · exact q
  | true =>
    have q := Nat.blt_eq.mp hb
    have e : ∀ k, 598 ≤ k → Nat.beq a k = false := fun k hk => by
      cases hq : Nat.beq a k with
      | false => rfl
      | true => have := Nat.eq_of_beq_eq_true hq; omega
    unfold rG at h
    rw [e 606 (by decide), e 607 (by decide), e 613 (by decide), e 617 (by decide), e 618 (by decide), e 619 (by decide), e 620 (by decide), e 621 (by decide)] at h
    exact absurd h (by decide)
theorem RV.tr {M M' : jm} {L S : Int} (h : RV M L S) (e : ∀ (a : Nat) (i : Int), 598 ≤ a → M' a i = M a i) : RV M' L S := by
  obtain ⟨h1, h2, h3, h4, h5, h6, h7, h8, h9⟩ := h
  exact ⟨fun a i ha => by rw [e a i ha]; exact h1 a i ha, fun j => by rw [e 603 j (by decide), e 604 j (by decide), e 605 j (by decide)]; exact h2 j, RF.fr h3 (fun f => e 629 f (by decide)) (fun f => e 638 f (by decide)), RG1.fr h4 (fun a i ha => e a i (rG_hi ha)), by rw [show M' 650 = M 650 from funext (fun i => e 650 i (by decide))]; exact h5, MC.fr h6 (fun i => e 652 i (by decide)) (fun i => e 653 i (by decide)) (fun i => e 654 i (by decide)) (fun i => e 655 i (by decide)) (e 598 82 (by decide)), AS.fr h7 (fun i => e 685 i (by decide)) (e 598 112 (by decide)), (e 598 2 (by decide)).trans h8, h9.fr (fun i => e 647 i (by decide))⟩
theorem CV.z {M M' : jm} {L S : Int} (h : CV M L S) (e : ∀ (a : Nat) (i : Int), a < 598 → M' a i = M a i) : CV M' L S := by
  obtain ⟨h1, h2, h4, h5, h6, h7⟩ := h
  have f : FR [(0, 1000)] M M' := fun a i hk => e a i (kd_lt (fun q => by
    rw [q] at hk
    have t : kw [(0, 1000)] 0 i = true := rfl
    rw [t] at hk
    exact absurd hk (by decide)))
  exact ⟨⟨fun a i ha => by rw [e a i (kd_lt ha)]; exact h1.1 a i ha, fun a i ha => by rw [e a i (kd_lt (fun q => ha (by rw [q]; rfl)))]; exact h1.2 a i ha⟩, h2.fr f rfl, h4.fr h1 f rfl, by rw [e 413 2 (by decide), e 421 2 (by decide)]; exact h5, (e 421 4 (by decide)).trans h6, (e 0 8 (by decide)).trans h7⟩
theorem CV.le {M : jm} {L L' S : Int} (h : CV M L S) (hl : L ≤ L') : CV M L' S := ⟨h.1, h.2.1.le hl, h.2.2⟩
theorem RV.le {M : jm} {L L' S : Int} (h : RV M L S) (hl : L ≤ L') : RV M L' S := ⟨h.1, h.2.1, h.2.2.1, h.2.2.2.1, h.2.2.2.2.1, h.2.2.2.2.2.1, h.2.2.2.2.2.2.1.up hl, h.2.2.2.2.2.2.2⟩
/-- the reference's cells alone -/
theorem RDA.rr {C R S : jm} (h : RDA C R) (hG : RG1 R) (hI : RI R) (e : ∀ (a : Nat) (i : Int), 598 ≤ a → S a i = R a i) : RDA C S :=
  ⟨h.1.r (fun i => e 599 i (by decide)) (e 598 1 (by decide)), h.2.1.r (fun a i h0 _ => e a i (by omega)), h.2.2.1.r (fun i _ _ => e 598 i (by decide)), h.2.2.2.1.r (fun i => e 622 i (by decide)) (e 598 34 (by decide)), h.2.2.2.2.1.r (fun a i h0 _ => e a i (by omega)), h.2.2.2.2.2.1.r (fun a i h0 _ => e a i (by omega)), h.2.2.2.2.2.2.r hG hI (fun a i h0 _ => e a i (by omega))⟩
theorem rf_hi {M M' : jm} (e : ∀ (a : Nat) (i : Int), 598 ≤ a → M' a i = M a i) : rf M = rf M' := funext (fun x => (rf_e (fun i => e 601 i (by decide))).symm)
theorem RDA.gok {C R : jm} (h : RDA C R) (hG : RG1 R) (hI : RI R) : GOK C := fun g g0 g1 u => by
  have q := h.2.2.2.2.2.2.2 g g0 g1
  rw [q.1] at u
  have l := q.2 u
  have z := (hG g g0 u).2
  have a : (-1 : Int) ≤ R 617 g ∧ R 617 g ≤ 400 := by have q := hI 617 g (Nat.le_of_ble_eq_true rfl); rw [xri_row rfl rfl] at q; exact q
  refine ⟨l.2.2.1.2.2, ?_⟩
  by_cases c : R 617 g = -1
  · exact Or.inl (l.2.2.2.2.1.trans c)
  · obtain ⟨l1, l2, l3, l4⟩ := l.2.2.2.2.2 c
    have zz := z c
    refine Or.inr ⟨by rw [l.2.2.2.2.1]; omega, by rw [l2]; omega, ?_, fun k k0 k1 => ?_⟩
    · rcases l.2.1 with e | e
      · right
        rw [l.1.1, l.2.2.2.2.1, l2, e]
        have := l4 e
        unfold hlf
        rw [if_neg (by decide)]
        omega
      · left
        rw [l.1.1, e]
        decide
    · rw [l.2.2.2.2.1] at k1
      rw [l1 k k0 k1]
      have q := hI 618 (400 * g + k) (Nat.le_of_ble_eq_true rfl)
      rw [xri_row rfl rfl] at q
      exact q
theorem RDA.gq6 {C R : jm} (h : RDA C R) : GQ6 R := fun g g0 g1 u => by
  have l := ((h.2.2.2.2.2.2.2 g g0 g1).2 u).2.2.1
  rw [l.1] at l
  rcases l.2.2 with e | e
  · refine Or.inl ⟨e, ?_⟩
    rw [l.2.1, e, rbf_n]
    unfold szf
    (repeat' split) <;> omega
  · exact Or.inr e
theorem rG_ne {a k : Nat} (h : rG a = true) (hk : rG k = false) : a ≠ k := fun e => by
  rw [e, hk] at h
  exact absurd h (by decide)
noncomputable def W_all : List (Nat × Nat) := [(1, 1000), (2, 1000), (3, 1000), (4, 1000), (5, 1000), (6, 1000), (7, 1000), (8, 1000), (9, 1000), (10, 1000), (11, 1000), (12, 1000), (13, 1000), (14, 1000), (15, 1000), (16, 1000), (17, 1000), (18, 1000), (19, 1000), (20, 1000), (21, 1000), (22, 1000), (23, 1000), (24, 1000), (25, 1000), (26, 1000), (27, 1000), (28, 1000), (29, 1000), (30, 1000), (31, 1000), (32, 1000), (33, 1000), (34, 1000), (35, 1000), (36, 1000), (37, 1000), (38, 1000), (39, 1000), (40, 1000), (41, 1000), (42, 1000), (43, 1000), (44, 1000), (45, 1000), (46, 1000), (47, 1000), (48, 1000), (49, 1000), (50, 1000), (51, 1000), (52, 1000), (53, 1000), (54, 1000)]
section JP2
variable {A : Nat → Option (Nat × (Nat → Int32))} {D : Nat} {m : ix_M} {pc : Nat} {ls : ix_L} {st : List Value} {M : jm} {Q : Option Value → jm → Prop}
theorem jr.pop2 {x : Int64} (hi : m.2.2.2.2.2.2 pc = some .pop2) (k : jr A D m (pc + 1) ls st M Q) : jr A D m pc ls (.long x :: st) M Q := jr_sem hi (fun f => by simp [ix_sem, ix_ret, ix_alu, ix_len, Value.category]) k
end JP2
theorem oq_wrong {C R S : jm} (h : RDA C R) (hG : RG1 R) (hI : RI R) (hf : ∀ (a : Nat) (i : Int), a ≠ 603 → S a i = R a i) : RDA C S := ⟨((h.1).r (fun i => hf 599 i (nne rfl)) (hf 598 1 (nne rfl))), ((h.2.1).r (fun a i _ _ => hf a i (by omega))), ((h.2.2.1).r (fun i _ _ => (hf 598 i (nne rfl)))), ((h.2.2.2.1).r (fun i => hf 622 i (nne rfl)) (hf 598 34 (nne rfl))), ((h.2.2.2.2.1).r (fun a i _ _ => hf a i (by omega))), ((h.2.2.2.2.2.1).r (fun a i _ _ => hf a i (by omega))), ((h.2.2.2.2.2.2).r hG hI (fun a i _ _ => hf a i (by omega)))⟩
theorem oq_why {C R S : jm} (h : RDA C R) (hG : RG1 R) (hI : RI R) (hf : ∀ (a : Nat) (i : Int), a ≠ 603 → S a i = R a i) : RDA C S := ⟨((h.1).r (fun i => hf 599 i (nne rfl)) (hf 598 1 (nne rfl))), ((h.2.1).r (fun a i _ _ => hf a i (by omega))), ((h.2.2.1).r (fun i _ _ => (hf 598 i (nne rfl)))), ((h.2.2.2.1).r (fun i => hf 622 i (nne rfl)) (hf 598 34 (nne rfl))), ((h.2.2.2.2.1).r (fun a i _ _ => hf a i (by omega))), ((h.2.2.2.2.2.1).r (fun a i _ _ => hf a i (by omega))), ((h.2.2.2.2.2.2).r hG hI (fun a i _ _ => hf a i (by omega)))⟩
theorem oq_counter {C R S : jm} (h : RDA C R) (hG : RG1 R) (hI : RI R) (hf : ∀ (a : Nat) (i : Int), a ≠ 603 → S a i = R a i) : RDA C S := ⟨((h.1).r (fun i => hf 599 i (nne rfl)) (hf 598 1 (nne rfl))), ((h.2.1).r (fun a i _ _ => hf a i (by omega))), ((h.2.2.1).r (fun i _ _ => (hf 598 i (nne rfl)))), ((h.2.2.2.1).r (fun i => hf 622 i (nne rfl)) (hf 598 34 (nne rfl))), ((h.2.2.2.2.1).r (fun a i _ _ => hf a i (by omega))), ((h.2.2.2.2.2.1).r (fun a i _ _ => hf a i (by omega))), ((h.2.2.2.2.2.2).r hG hI (fun a i _ _ => hf a i (by omega)))⟩
theorem oq_logged {C R S : jm} (h : RDA C R) (hG : RG1 R) (hI : RI R) (hf : ∀ (a : Nat) (i : Int), a ≠ 603 → S a i = R a i) : RDA C S := ⟨((h.1).r (fun i => hf 599 i (nne rfl)) (hf 598 1 (nne rfl))), ((h.2.1).r (fun a i _ _ => hf a i (by omega))), ((h.2.2.1).r (fun i _ _ => (hf 598 i (nne rfl)))), ((h.2.2.2.1).r (fun i => hf 622 i (nne rfl)) (hf 598 34 (nne rfl))), ((h.2.2.2.2.1).r (fun a i _ _ => hf a i (by omega))), ((h.2.2.2.2.2.1).r (fun a i _ _ => hf a i (by omega))), ((h.2.2.2.2.2.2).r hG hI (fun a i _ _ => hf a i (by omega)))⟩
theorem oq_learned {C R S : jm} (h : RDA C R) (hG : RG1 R) (hI : RI R) (hf : ∀ (a : Nat) (i : Int), a ≠ 603 → S a i = R a i) : RDA C S := ⟨((h.1).r (fun i => hf 599 i (nne rfl)) (hf 598 1 (nne rfl))), ((h.2.1).r (fun a i _ _ => hf a i (by omega))), ((h.2.2.1).r (fun i _ _ => (hf 598 i (nne rfl)))), ((h.2.2.2.1).r (fun i => hf 622 i (nne rfl)) (hf 598 34 (nne rfl))), ((h.2.2.2.2.1).r (fun a i _ _ => hf a i (by omega))), ((h.2.2.2.2.2.1).r (fun a i _ _ => hf a i (by omega))), ((h.2.2.2.2.2.2).r hG hI (fun a i _ _ => hf a i (by omega)))⟩
theorem oq_rowAt {C R S : jm} (h : RDA C R) (hG : RG1 R) (hI : RI R) (hf : ∀ (a : Nat) (i : Int), a ≠ 603 → S a i = R a i) : RDA C S := ⟨((h.1).r (fun i => hf 599 i (nne rfl)) (hf 598 1 (nne rfl))), ((h.2.1).r (fun a i _ _ => hf a i (by omega))), ((h.2.2.1).r (fun i _ _ => (hf 598 i (nne rfl)))), ((h.2.2.2.1).r (fun i => hf 622 i (nne rfl)) (hf 598 34 (nne rfl))), ((h.2.2.2.2.1).r (fun a i _ _ => hf a i (by omega))), ((h.2.2.2.2.2.1).r (fun a i _ _ => hf a i (by omega))), ((h.2.2.2.2.2.2).r hG hI (fun a i _ _ => hf a i (by omega)))⟩
theorem oq_has {C R S : jm} (h : RDA C R) (hG : RG1 R) (hI : RI R) (hf : ∀ (a : Nat) (i : Int), a ≠ 603 → S a i = R a i) : RDA C S := ⟨((h.1).r (fun i => hf 599 i (nne rfl)) (hf 598 1 (nne rfl))), ((h.2.1).r (fun a i _ _ => hf a i (by omega))), ((h.2.2.1).r (fun i _ _ => (hf 598 i (nne rfl)))), ((h.2.2.2.1).r (fun i => hf 622 i (nne rfl)) (hf 598 34 (nne rfl))), ((h.2.2.2.2.1).r (fun a i _ _ => hf a i (by omega))), ((h.2.2.2.2.2.1).r (fun a i _ _ => hf a i (by omega))), ((h.2.2.2.2.2.2).r hG hI (fun a i _ _ => hf a i (by omega)))⟩
theorem oq_mark {C R S : jm} (h : RDA C R) (hG : RG1 R) (hI : RI R) (hf : ∀ (a : Nat) (i : Int), a ≠ 603 → S a i = R a i) : RDA C S := ⟨((h.1).r (fun i => hf 599 i (nne rfl)) (hf 598 1 (nne rfl))), ((h.2.1).r (fun a i _ _ => hf a i (by omega))), ((h.2.2.1).r (fun i _ _ => (hf 598 i (nne rfl)))), ((h.2.2.2.1).r (fun i => hf 622 i (nne rfl)) (hf 598 34 (nne rfl))), ((h.2.2.2.2.1).r (fun a i _ _ => hf a i (by omega))), ((h.2.2.2.2.2.1).r (fun a i _ _ => hf a i (by omega))), ((h.2.2.2.2.2.2).r hG hI (fun a i _ _ => hf a i (by omega)))⟩
theorem oq_told {C R S : jm} (h : RDA C R) (hG : RG1 R) (hI : RI R) (hf : ∀ (a : Nat) (i : Int), a ≠ 603 → S a i = R a i) : RDA C S := ⟨((h.1).r (fun i => hf 599 i (nne rfl)) (hf 598 1 (nne rfl))), ((h.2.1).r (fun a i _ _ => hf a i (by omega))), ((h.2.2.1).r (fun i _ _ => (hf 598 i (nne rfl)))), ((h.2.2.2.1).r (fun i => hf 622 i (nne rfl)) (hf 598 34 (nne rfl))), ((h.2.2.2.2.1).r (fun a i _ _ => hf a i (by omega))), ((h.2.2.2.2.2.1).r (fun a i _ _ => hf a i (by omega))), ((h.2.2.2.2.2.2).r hG hI (fun a i _ _ => hf a i (by omega)))⟩
theorem oq_digest {C R S : jm} (h : RDA C R) (hG : RG1 R) (hI : RI R) (hf : ∀ (a : Nat) (i : Int), a ≠ 603 → S a i = R a i) : RDA C S := ⟨((h.1).r (fun i => hf 599 i (nne rfl)) (hf 598 1 (nne rfl))), ((h.2.1).r (fun a i _ _ => hf a i (by omega))), ((h.2.2.1).r (fun i _ _ => (hf 598 i (nne rfl)))), ((h.2.2.2.1).r (fun i => hf 622 i (nne rfl)) (hf 598 34 (nne rfl))), ((h.2.2.2.2.1).r (fun a i _ _ => hf a i (by omega))), ((h.2.2.2.2.2.1).r (fun a i _ _ => hf a i (by omega))), ((h.2.2.2.2.2.2).r hG hI (fun a i _ _ => hf a i (by omega)))⟩
theorem oq_bucket {C D R S : jm} (h : RDA C R) (hG : RG1 R) (hI : RI R) (f : FR W_c_PacketWall_bucket C D) (hf : ∀ (a : Nat) (i : Int), a ≠ 623 → a ≠ 624 → a ≠ 625 → a ≠ 626 → S a i = R a i) : RDA D S := ⟨((h.1.f f rfl).r (fun i => hf 599 i (nne rfl) (nne rfl) (nne rfl) (nne rfl)) (hf 598 1 (nne rfl) (nne rfl) (nne rfl) (nne rfl))), ((h.2.1.f f rfl).r (fun a i _ _ => hf a i (by omega) (by omega) (by omega) (by omega))), ((h.2.2.1.f f rfl).r (fun i _ _ => (hf 598 i (nne rfl) (nne rfl) (nne rfl) (nne rfl)))), ((h.2.2.2.1.f f rfl).r (fun i => hf 622 i (nne rfl) (nne rfl) (nne rfl) (nne rfl)) (hf 598 34 (nne rfl) (nne rfl) (nne rfl) (nne rfl))), ((h.2.2.2.2.1.f f rfl).r (fun a i _ _ => hf a i (by omega) (by omega) (by omega) (by omega))), ((h.2.2.2.2.2.1.f f rfl).r (fun a i _ _ => hf a i (by omega) (by omega) (by omega) (by omega))), ((h.2.2.2.2.2.2.f f rfl).r hG hI (fun a i _ _ => hf a i (by omega) (by omega) (by omega) (by omega)))⟩
theorem oq_rules {C D R S : jm} (h : RDA C R) (hG : RG1 R) (hI : RI R) (f : FR W_c_PacketWall_rules_o C D) (p : D 0 1 = 0) (q : S 598 1 = 0) (hf : ∀ (a : Nat) (i : Int), a ≠ 598 → a ≠ 651 → a ≠ 652 → a ≠ 653 → a ≠ 654 → a ≠ 655 → a ≠ 656 → a ≠ 657 → a ≠ 658 → a ≠ 659 → a ≠ 660 → a ≠ 661 → a ≠ 662 → a ≠ 663 → a ≠ 664 → a ≠ 665 → a ≠ 666 → a ≠ 667 → a ≠ 668 → a ≠ 669 → S a i = R a i) (hk : ∀ (i : Int), i ≠ 1 → i ≠ 72 → i ≠ 73 → i ≠ 74 → i ≠ 75 → i ≠ 76 → i ≠ 77 → i ≠ 78 → i ≠ 79 → i ≠ 80 → i ≠ 81 → i ≠ 82 → i ≠ 83 → i ≠ 88 → i ≠ 89 → i ≠ 90 → i ≠ 96 → i ≠ 100 → i ≠ 101 → i ≠ 102 → i ≠ 107 → S 598 i = R 598 i) : RDA D S := by
  have e1 : D 1 = C 1 := funext (fun i => f.g (show kd 1 = 43 from rfl) rfl)
  have e2 : S 599 = R 599 := funext (fun i => hf 599 i (nne rfl) (nne rfl) (nne rfl) (nne rfl) (nne rfl) (nne rfl) (nne rfl) (nne rfl) (nne rfl) (nne rfl) (nne rfl) (nne rfl) (nne rfl) (nne rfl) (nne rfl) (nne rfl) (nne rfl) (nne rfl) (nne rfl) (nne rfl))
  exact ⟨⟨by rw [e1, e2]; exact h.1.1, by rw [p, q]⟩, ((h.2.1.f f rfl).r (fun a i _ _ => hf a i (by omega) (by omega) (by omega) (by omega) (by omega) (by omega) (by omega) (by omega) (by omega) (by omega) (by omega) (by omega) (by omega) (by omega) (by omega) (by omega) (by omega) (by omega) (by omega) (by omega))), ((h.2.2.1.f f rfl).r (fun i _ _ => (hk i (by omega) (by omega) (by omega) (by omega) (by omega) (by omega) (by omega) (by omega) (by omega) (by omega) (by omega) (by omega) (by omega) (by omega) (by omega) (by omega) (by omega) (by omega) (by omega) (by omega) (by omega)))), ((h.2.2.2.1.f f rfl).r (fun i => hf 622 i (nne rfl) (nne rfl) (nne rfl) (nne rfl) (nne rfl) (nne rfl) (nne rfl) (nne rfl) (nne rfl) (nne rfl) (nne rfl) (nne rfl) (nne rfl) (nne rfl) (nne rfl) (nne rfl) (nne rfl) (nne rfl) (nne rfl) (nne rfl)) (hk 34 (zne rfl) (zne rfl) (zne rfl) (zne rfl) (zne rfl) (zne rfl) (zne rfl) (zne rfl) (zne rfl) (zne rfl) (zne rfl) (zne rfl) (zne rfl) (zne rfl) (zne rfl) (zne rfl) (zne rfl) (zne rfl) (zne rfl) (zne rfl) (zne rfl))), ((h.2.2.2.2.1.f f rfl).r (fun a i _ _ => hf a i (by omega) (by omega) (by omega) (by omega) (by omega) (by omega) (by omega) (by omega) (by omega) (by omega) (by omega) (by omega) (by omega) (by omega) (by omega) (by omega) (by omega) (by omega) (by omega) (by omega))), ((h.2.2.2.2.2.1.f f rfl).r (fun a i _ _ => hf a i (by omega) (by omega) (by omega) (by omega) (by omega) (by omega) (by omega) (by omega) (by omega) (by omega) (by omega) (by omega) (by omega) (by omega) (by omega) (by omega) (by omega) (by omega) (by omega) (by omega))), ((h.2.2.2.2.2.2.f f rfl).r hG hI (fun a i _ _ => hf a i (by omega) (by omega) (by omega) (by omega) (by omega) (by omega) (by omega) (by omega) (by omega) (by omega) (by omega) (by omega) (by omega) (by omega) (by omega) (by omega) (by omega) (by omega) (by omega) (by omega)))⟩
theorem oq_verdict {C D R S : jm} (h : RDA C R) (hG : RG1 R) (hI : RI R) (f : FR W_c_PacketWall_verdict_o C D) (p : OL C D) (hf : ∀ (a : Nat) (i : Int), a ≠ 598 → a ≠ 602 → a ≠ 603 → a ≠ 604 → a ≠ 605 → a ≠ 624 → a ≠ 670 → a ≠ 671 → a ≠ 672 → a ≠ 673 → a ≠ 674 → a ≠ 675 → a ≠ 676 → a ≠ 677 → a ≠ 678 → a ≠ 679 → a ≠ 680 → a ≠ 681 → a ≠ 682 → a ≠ 683 → a ≠ 684 → a ≠ 685 → a ≠ 686 → a ≠ 687 → S a i = R a i) (hk : ∀ (i : Int), i ≠ 6 → i ≠ 10 → i ≠ 11 → i ≠ 12 → i ≠ 59 → i ≠ 60 → i ≠ 61 → i ≠ 62 → i ≠ 63 → i ≠ 64 → i ≠ 65 → i ≠ 66 → i ≠ 110 → i ≠ 111 → i ≠ 112 → i ≠ 122 → i ≠ 131 → i ≠ 132 → i ≠ 133 → i ≠ 134 → i ≠ 135 → i ≠ 136 → i ≠ 137 → i ≠ 138 → i ≠ 139 → i ≠ 140 → i ≠ 141 → i ≠ 142 → i ≠ 143 → i ≠ 144 → i ≠ 145 → i ≠ 147 → S 598 i = R 598 i) : RDA D S := ⟨((h.1.f f rfl).r (fun i => hf 599 i (nne rfl) (nne rfl) (nne rfl) (nne rfl) (nne rfl) (nne rfl) (nne rfl) (nne rfl) (nne rfl) (nne rfl) (nne rfl) (nne rfl) (nne rfl) (nne rfl) (nne rfl) (nne rfl) (nne rfl) (nne rfl) (nne rfl) (nne rfl) (nne rfl) (nne rfl) (nne rfl) (nne rfl)) (hk 1 (zne rfl) (zne rfl) (zne rfl) (zne rfl) (zne rfl) (zne rfl) (zne rfl) (zne rfl) (zne rfl) (zne rfl) (zne rfl) (zne rfl) (zne rfl) (zne rfl) (zne rfl) (zne rfl) (zne rfl) (zne rfl) (zne rfl) (zne rfl) (zne rfl) (zne rfl) (zne rfl) (zne rfl) (zne rfl) (zne rfl) (zne rfl) (zne rfl) (zne rfl) (zne rfl) (zne rfl) (zne rfl))), ((h.2.1.f f rfl).r (fun a i _ _ => hf a i (by omega) (by omega) (by omega) (by omega) (by omega) (by omega) (by omega) (by omega) (by omega) (by omega) (by omega) (by omega) (by omega) (by omega) (by omega) (by omega) (by omega) (by omega) (by omega) (by omega) (by omega) (by omega) (by omega) (by omega))), ((h.2.2.1.f f rfl).r (fun i _ _ => (hk i (by omega) (by omega) (by omega) (by omega) (by omega) (by omega) (by omega) (by omega) (by omega) (by omega) (by omega) (by omega) (by omega) (by omega) (by omega) (by omega) (by omega) (by omega) (by omega) (by omega) (by omega) (by omega) (by omega) (by omega) (by omega) (by omega) (by omega) (by omega) (by omega) (by omega) (by omega) (by omega)))), ((h.2.2.2.1.f f rfl).r (fun i => hf 622 i (nne rfl) (nne rfl) (nne rfl) (nne rfl) (nne rfl) (nne rfl) (nne rfl) (nne rfl) (nne rfl) (nne rfl) (nne rfl) (nne rfl) (nne rfl) (nne rfl) (nne rfl) (nne rfl) (nne rfl) (nne rfl) (nne rfl) (nne rfl) (nne rfl) (nne rfl) (nne rfl) (nne rfl)) (hk 34 (zne rfl) (zne rfl) (zne rfl) (zne rfl) (zne rfl) (zne rfl) (zne rfl) (zne rfl) (zne rfl) (zne rfl) (zne rfl) (zne rfl) (zne rfl) (zne rfl) (zne rfl) (zne rfl) (zne rfl) (zne rfl) (zne rfl) (zne rfl) (zne rfl) (zne rfl) (zne rfl) (zne rfl) (zne rfl) (zne rfl) (zne rfl) (zne rfl) (zne rfl) (zne rfl) (zne rfl) (zne rfl))), ((h.2.2.2.2.1.f f rfl).r (fun a i _ _ => hf a i (by omega) (by omega) (by omega) (by omega) (by omega) (by omega) (by omega) (by omega) (by omega) (by omega) (by omega) (by omega) (by omega) (by omega) (by omega) (by omega) (by omega) (by omega) (by omega) (by omega) (by omega) (by omega) (by omega) (by omega))), ((h.2.2.2.2.2.1.e p (f.g (show kd 15 = 9 from rfl) rfl) (f.g (show kd 15 = 9 from rfl) rfl)).r (fun a i _ _ => hf a i (by omega) (by omega) (by omega) (by omega) (by omega) (by omega) (by omega) (by omega) (by omega) (by omega) (by omega) (by omega) (by omega) (by omega) (by omega) (by omega) (by omega) (by omega) (by omega) (by omega) (by omega) (by omega) (by omega) (by omega))), ((h.2.2.2.2.2.2.f f rfl).r hG hI (fun a i _ _ => hf a i (by omega) (by omega) (by omega) (by omega) (by omega) (by omega) (by omega) (by omega) (by omega) (by omega) (by omega) (by omega) (by omega) (by omega) (by omega) (by omega) (by omega) (by omega) (by omega) (by omega) (by omega) (by omega) (by omega) (by omega)))⟩
end
