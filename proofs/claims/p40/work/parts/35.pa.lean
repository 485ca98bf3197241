/-! ===== the reference: contracts, 35.pa ===== -/
theorem c_good {A : Nat → Option (Nat × (Nat → Int32))} {M : jm} {Q : Option Value → jm → Prop} (hI_M : RI M)  (k1 : M 598 80 = 0 → Q (some (.int (Int32.ofInt 1))) M) (k0 : M 598 80 ≠ 0 → Q (some (.int (Int32.ofInt 0))) M) : jc A 1 339 [.ref (598)] M Q := by
  refine jc_of (m := xm_339) rfl (Nat.le_of_ble_eq_true rfl) rfl ?_
  refine jr.aload_n rfl rfl ?_
  obtain ⟨v1, e1⟩ : ∃ z, M 598 80 = z := ⟨_, rfl⟩
  have b1 : 0 ≤ v1 ∧ v1 ≤ 7 := by rw [← e1]; exact hI_M 598 80 (Nat.le_of_ble_eq_true rfl)
  refine jr.getf (i := 80) (x := v1) (v := .int (Int32.ofInt (v1))) rfl rfl (nlt rfl) rfl (nlt rfl) rfl rfl e1 rfl ?_
  refine jr.if_ne rfl rfl (by first | (refine rgb (by assumption) ?_; exact rfl) | omega) (fun h4 => ?_) (fun h4 => ?_)
  · have sx4 : (1 : Int) ≤ v1 := by omega
    clear h4
    refine jr.iconst rfl ?_
    exact jr.ireturn rfl rfl rfl (k0 (by omega))
  · refine jr.iconst rfl ?_
    refine jr.goto rfl rfl ?_
    exact jr.ireturn rfl rfl rfl (k1 (by omega))
theorem c_isSign {A : Nat → Option (Nat × (Nat → Int32))} {M : jm} {Q : Option Value → jm → Prop} (hI_M : RI M) {c : Int} (h_c : 0 ≤ c ∧ c ≤ 255) (k1 : M 598 74 = 3 → M 598 79 = c → Q (some (.int (Int32.ofInt 1))) M) (k0 : (M 598 74 ≠ 3 ∨ M 598 79 ≠ c) → Q (some (.int (Int32.ofInt 0))) M) : jc A 1 345 [.ref (598), .int (Int32.ofInt (c))] M Q := by
  refine jc_of (m := xm_345) rfl (Nat.le_of_ble_eq_true rfl) rfl ?_
  refine jr.aload_n rfl rfl ?_
  obtain ⟨v1, e1⟩ : ∃ z, M 598 74 = z := ⟨_, rfl⟩
  have b1 : 0 ≤ v1 ∧ v1 ≤ 4 := by rw [← e1]; exact hI_M 598 74 (Nat.le_of_ble_eq_true rfl)
  refine jr.getf (i := 74) (x := v1) (v := .int (Int32.ofInt (v1))) rfl rfl (nlt rfl) rfl (nlt rfl) rfl rfl e1 rfl ?_
  refine jr.iconst rfl ?_
  refine jr.icmp_ne rfl rfl (by first | (refine rgb (by assumption) ?_; exact rfl) | omega) (rgl rfl) (fun h5 => ?_) (fun h5 => ?_)
  · refine jr.iconst rfl ?_
    exact jr.ireturn rfl rfl rfl (k0 (by omega))
  · refine jr.aload_n rfl rfl ?_
    obtain ⟨v2, e2⟩ : ∃ z, M 598 79 = z := ⟨_, rfl⟩
    have b2 : 0 ≤ v2 ∧ v2 ≤ 255 := by rw [← e2]; exact hI_M 598 79 (Nat.le_of_ble_eq_true rfl)
    refine jr.getf (i := 79) (x := v2) (v := .int (Int32.ofInt (v2))) rfl rfl (nlt rfl) rfl (nlt rfl) rfl rfl e2 rfl ?_
    refine jr.iload_n rfl rfl ?_
    refine jr.icmp_ne rfl rfl (by first | (refine rgb (by assumption) ?_; exact rfl) | omega) (by first | (refine rgb (by assumption) ?_; exact rfl) | omega) (fun h13 => ?_) (fun h13 => ?_)
    · refine jr.iconst rfl ?_
      exact jr.ireturn rfl rfl rfl (k0 (by omega))
    · refine jr.iconst rfl ?_
      refine jr.goto rfl rfl ?_
      exact jr.ireturn rfl rfl rfl (k1 (by omega) (by omega))
theorem c_isWord {A : Nat → Option (Nat × (Nat → Int32))} {M : jm} {Q : Option Value → jm → Prop} (hI_M : RI M) {w : Int} (h_w : 0 ≤ w ∧ w ≤ 68) (k1 : M 598 74 = 1 → M 598 76 = w → Q (some (.int (Int32.ofInt 1))) M) (k0 : (M 598 74 ≠ 1 ∨ M 598 76 ≠ w) → Q (some (.int (Int32.ofInt 0))) M) : jc A 1 346 [.ref (598), .int (Int32.ofInt (w))] M Q := by
  refine jc_of (m := xm_346) rfl (Nat.le_of_ble_eq_true rfl) rfl ?_
  refine jr.aload_n rfl rfl ?_
  obtain ⟨v1, e1⟩ : ∃ z, M 598 74 = z := ⟨_, rfl⟩
  have b1 : 0 ≤ v1 ∧ v1 ≤ 4 := by rw [← e1]; exact hI_M 598 74 (Nat.le_of_ble_eq_true rfl)
  refine jr.getf (i := 74) (x := v1) (v := .int (Int32.ofInt (v1))) rfl rfl (nlt rfl) rfl (nlt rfl) rfl rfl e1 rfl ?_
  refine jr.iconst rfl ?_
  refine jr.icmp_ne rfl rfl (by first | (refine rgb (by assumption) ?_; exact rfl) | omega) (rgl rfl) (fun h5 => ?_) (fun h5 => ?_)
  · refine jr.iconst rfl ?_
    exact jr.ireturn rfl rfl rfl (k0 (by omega))
  · refine jr.aload_n rfl rfl ?_
    obtain ⟨v2, e2⟩ : ∃ z, M 598 76 = z := ⟨_, rfl⟩
    have b2 : (-1) ≤ v2 ∧ v2 ≤ 68 := by rw [← e2]; exact hI_M 598 76 (Nat.le_of_ble_eq_true rfl)
    refine jr.getf (i := 76) (x := v2) (v := .int (Int32.ofInt (v2))) rfl rfl (nlt rfl) rfl (nlt rfl) rfl rfl e2 rfl ?_
    refine jr.iload_n rfl rfl ?_
    refine jr.icmp_ne rfl rfl (by first | (refine rgb (by assumption) ?_; exact rfl) | omega) (by first | (refine rgb (by assumption) ?_; exact rfl) | omega) (fun h13 => ?_) (fun h13 => ?_)
    · refine jr.iconst rfl ?_
      exact jr.ireturn rfl rfl rfl (k0 (by omega))
    · refine jr.iconst rfl ?_
      refine jr.goto rfl rfl ?_
      exact jr.ireturn rfl rfl rfl (k1 (by omega) (by omega))
theorem c_isWordIn {A : Nat → Option (Nat × (Nat → Int32))} {M : jm} {Q : Option Value → jm → Prop} (hI_M : RI M) {a : Int} (h_a : 0 ≤ a ∧ a ≤ 68) {b : Int} (h_b : 0 ≤ b ∧ b ≤ 68) (k1 : M 598 74 = 1 → a ≤ M 598 76 → M 598 76 ≤ b → Q (some (.int (Int32.ofInt 1))) M) (k0 : True → Q (some (.int (Int32.ofInt 0))) M) : jc A 2 347 [.ref (598), .int (Int32.ofInt (a)), .int (Int32.ofInt (b))] M Q := by
  refine jc_of (m := xm_347) rfl (Nat.le_of_ble_eq_true rfl) rfl ?_
  refine jr.aload_n rfl rfl ?_
  obtain ⟨v1, e1⟩ : ∃ z, M 598 74 = z := ⟨_, rfl⟩
  have b1 : 0 ≤ v1 ∧ v1 ≤ 4 := by rw [← e1]; exact hI_M 598 74 (Nat.le_of_ble_eq_true rfl)
  refine jr.getf (i := 74) (x := v1) (v := .int (Int32.ofInt (v1))) rfl rfl (nlt rfl) rfl (nlt rfl) rfl rfl e1 rfl ?_
  refine jr.iconst rfl ?_
  refine jr.icmp_ne rfl rfl (by first | (refine rgb (by assumption) ?_; exact rfl) | omega) (rgl rfl) (fun h5 => ?_) (fun h5 => ?_)
  · refine jr.iconst rfl ?_
    exact jr.ireturn rfl rfl rfl (k0 trivial)
  · refine jr.aload_n rfl rfl ?_
    obtain ⟨v2, e2⟩ : ∃ z, M 598 76 = z := ⟨_, rfl⟩
    have b2 : (-1) ≤ v2 ∧ v2 ≤ 68 := by rw [← e2]; exact hI_M 598 76 (Nat.le_of_ble_eq_true rfl)
    refine jr.getf (i := 76) (x := v2) (v := .int (Int32.ofInt (v2))) rfl rfl (nlt rfl) rfl (nlt rfl) rfl rfl e2 rfl ?_
    refine jr.i2l rfl (by omega) ?_
    refine jr.iload_n rfl rfl ?_
    refine jr.i2l rfl (by omega) ?_
    refine jr.iload_n rfl rfl ?_
    refine jr.i2l rfl (by omega) ?_
    refine jr_s rfl rfl (Or.inl rfl) ⟨Nat.le_of_ble_eq_true rfl, Nat.le_of_ble_eq_true rfl⟩ rfl rfl (jc.deep (c_within (by omega) (by omega) (by omega) (fun l17 u17 => ?_) (fun n17 => ?_)) (Nat.le_of_ble_eq_true rfl))
    · refine jr.if_eq rfl rfl (by first | exact rgl rfl | omega) (fun h => absurd h (by decide)) (fun _ => ?_)
      refine jr.iconst rfl ?_
      refine jr.goto rfl rfl ?_
      exact jr.ireturn rfl rfl rfl (k1 (by omega) (by omega) (by omega))
    · refine jr.if_eq rfl rfl (by first | exact rgl rfl | omega) (fun _ => ?_) (fun h => absurd (by decide) h)
      refine jr.iconst rfl ?_
      exact jr.ireturn rfl rfl rfl (k0 trivial)
theorem c_isName {A : Nat → Option (Nat × (Nat → Int32))} {M : jm} {Q : Option Value → jm → Prop} (hI_M : RI M)  (k1 : M 598 74 = 1 → Q (some (.int (Int32.ofInt 1))) M) (k0 : True → Q (some (.int (Int32.ofInt 0))) M) : jc A 1 349 [.ref (598)] M Q := by
  refine jc_of (m := xm_349) rfl (Nat.le_of_ble_eq_true rfl) rfl ?_
  refine jr.aload_n rfl rfl ?_
  obtain ⟨v1, e1⟩ : ∃ z, M 598 74 = z := ⟨_, rfl⟩
  have b1 : 0 ≤ v1 ∧ v1 ≤ 4 := by rw [← e1]; exact hI_M 598 74 (Nat.le_of_ble_eq_true rfl)
  refine jr.getf (i := 74) (x := v1) (v := .int (Int32.ofInt (v1))) rfl rfl (nlt rfl) rfl (nlt rfl) rfl rfl e1 rfl ?_
  refine jr.iconst rfl ?_
  refine jr.icmp_ne rfl rfl (by first | (refine rgb (by assumption) ?_; exact rfl) | omega) (rgl rfl) (fun h5 => ?_) (fun h5 => ?_)
  · refine jr.iconst rfl ?_
    exact jr.ireturn rfl rfl rfl (k0 trivial)
  · refine jr.aload_n rfl rfl ?_
    obtain ⟨v2, e2⟩ : ∃ z, M 598 76 = z := ⟨_, rfl⟩
    have b2 : (-1) ≤ v2 ∧ v2 ≤ 68 := by rw [← e2]; exact hI_M 598 76 (Nat.le_of_ble_eq_true rfl)
    refine jr.getf (i := 76) (x := v2) (v := .int (Int32.ofInt (v2))) rfl rfl (nlt rfl) rfl (nlt rfl) rfl rfl e2 rfl ?_
    refine jr.iconst rfl ?_
    refine jr.icmp_eq rfl rfl (by first | (refine rgb (by assumption) ?_; exact rfl) | omega) (rgl rfl) (fun h13 => ?_) (fun h13 => ?_)
    · refine jr.iconst rfl ?_
      refine jr.goto rfl rfl ?_
      exact jr.ireturn rfl rfl rfl (k1 (by omega))
    · have sx13 : (0 : Int) ≤ v2 := by omega
      clear h13
      refine jr.aload_n rfl rfl ?_
      refine jr.getf (i := 76) (x := v2) (v := .int (Int32.ofInt (v2))) rfl rfl (nlt rfl) rfl (nlt rfl) rfl rfl e2 rfl ?_
      refine jr.bipush rfl (jbp _ (nlt rfl)) ?_
      refine jr.icmp_lt rfl rfl (by first | (refine rgb (by assumption) ?_; exact rfl) | omega) (rgl rfl) (fun h22 => ?_) (fun h22 => ?_)
      · refine jr.iconst rfl ?_
        exact jr.ireturn rfl rfl rfl (k0 trivial)
      · refine jr.iconst rfl ?_
        refine jr.goto rfl rfl ?_
        exact jr.ireturn rfl rfl rfl (k1 (by omega))
theorem c_isLetter {A : Nat → Option (Nat × (Nat → Int32))} {M : jm} {Q : Option Value → jm → Prop} {c : Int} (h_c : (-2147483648) ≤ c ∧ c ≤ 2147483647) (k1 : 97 ≤ c → c ≤ 122 → Q (some (.int (Int32.ofInt 1))) M) (k0 : ¬ (97 ≤ c ∧ c ≤ 122) → Q (some (.int (Int32.ofInt 0))) M) : jc A 1 341 [.int (Int32.ofInt (c))] M Q := by
  refine jc_of (m := xm_341) rfl (Nat.le_of_ble_eq_true rfl) rfl ?_
  refine jr.iload_n rfl rfl ?_
  refine jr.bipush rfl (jbp _ (nlt rfl)) ?_
  refine jr.icmp_lt rfl rfl (by first | (refine rgb (by assumption) ?_; exact rfl) | omega) (rgl rfl) (fun h3 => ?_) (fun h3 => ?_)
  · refine jr.iconst rfl ?_
    exact jr.ireturn rfl rfl rfl (k0 (by omega))
  · refine jr.iload_n rfl rfl ?_
    refine jr.bipush rfl (jbp _ (nlt rfl)) ?_
    refine jr.icmp_gt rfl rfl (by first | (refine rgb (by assumption) ?_; exact rfl) | omega) (rgl rfl) (fun h9 => ?_) (fun h9 => ?_)
    · refine jr.iconst rfl ?_
      exact jr.ireturn rfl rfl rfl (k0 (by omega))
    · refine jr.iconst rfl ?_
      refine jr.goto rfl rfl ?_
      exact jr.ireturn rfl rfl rfl (k1 (by omega) (by omega))
theorem c_isDigit {A : Nat → Option (Nat × (Nat → Int32))} {M : jm} {Q : Option Value → jm → Prop} {c : Int} (h_c : (-2147483648) ≤ c ∧ c ≤ 2147483647) (k1 : 48 ≤ c → c ≤ 57 → Q (some (.int (Int32.ofInt 1))) M) (k0 : ¬ (48 ≤ c ∧ c ≤ 57) → Q (some (.int (Int32.ofInt 0))) M) : jc A 1 342 [.int (Int32.ofInt (c))] M Q := by
  refine jc_of (m := xm_342) rfl (Nat.le_of_ble_eq_true rfl) rfl ?_
  refine jr.iload_n rfl rfl ?_
  refine jr.bipush rfl (jbp _ (nlt rfl)) ?_
  refine jr.icmp_lt rfl rfl (by first | (refine rgb (by assumption) ?_; exact rfl) | omega) (rgl rfl) (fun h3 => ?_) (fun h3 => ?_)
  · refine jr.iconst rfl ?_
    exact jr.ireturn rfl rfl rfl (k0 (by omega))
  · refine jr.iload_n rfl rfl ?_
    refine jr.bipush rfl (jbp _ (nlt rfl)) ?_
    refine jr.icmp_gt rfl rfl (by first | (refine rgb (by assumption) ?_; exact rfl) | omega) (rgl rfl) (fun h9 => ?_) (fun h9 => ?_)
    · refine jr.iconst rfl ?_
      exact jr.ireturn rfl rfl rfl (k0 (by omega))
    · refine jr.iconst rfl ?_
      refine jr.goto rfl rfl ?_
      exact jr.ireturn rfl rfl rfl (k1 (by omega) (by omega))
theorem r_isSignByte {A : Nat → Option (Nat × (Nat → Int32))} {Q : Option Value → jm → Prop} {T : jm} {M : jm} (hI_M : RI M) (hH_M : RH M) (hS_M : RF M) (ht_M : Kp T M) {c : Int} (h_c : 0 ≤ c ∧ c ≤ 255) (q : ∀ (r : Int), 0 ≤ r ∧ r ≤ 1 → (r = 1 → c ≠ 10 ∧ c ≠ 11) → Q (some (.int (Int32.ofInt r))) M) : jc A 1 343 [.int (Int32.ofInt (c))] M Q := by
  refine jc_of (m := xm_343) rfl (Nat.le_of_ble_eq_true rfl) rfl ?_
  refine jr.iload_n rfl rfl ?_
  rcases (show c = 33 ∨ c = 37 ∨ c = 38 ∨ c = 40 ∨ c = 41 ∨ c = 42 ∨ c = 43 ∨ c = 44 ∨ c = 45 ∨ c = 46 ∨ c = 47 ∨ c = 59 ∨ c = 60 ∨ c = 61 ∨ c = 62 ∨ c = 91 ∨ c = 93 ∨ c = 123 ∨ c = 124 ∨ c = 125 ∨ (c ≠ 33 ∧ c ≠ 37 ∧ c ≠ 38 ∧ c ≠ 40 ∧ c ≠ 41 ∧ c ≠ 42 ∧ c ≠ 43 ∧ c ≠ 44 ∧ c ≠ 45 ∧ c ≠ 46 ∧ c ≠ 47 ∧ c ≠ 59 ∧ c ≠ 60 ∧ c ≠ 61 ∧ c ≠ 62 ∧ c ≠ 91 ∧ c ≠ 93 ∧ c ≠ 123 ∧ c ≠ 124 ∧ c ≠ 125) by omega) with h1 | h1 | h1 | h1 | h1 | h1 | h1 | h1 | h1 | h1 | h1 | h1 | h1 | h1 | h1 | h1 | h1 | h1 | h1 | h1 | h1
  · refine jr.lsw_k 33 rfl h1 rfl ?_
    refine jr.iconst rfl ?_
    exact jr.ireturn rfl rfl rfl (q _ (by first | exact rgq rfl | omega) (by omega))
  · refine jr.lsw_k 37 rfl h1 rfl ?_
    refine jr.iconst rfl ?_
    exact jr.ireturn rfl rfl rfl (q _ (by first | exact rgq rfl | omega) (by omega))
  · refine jr.lsw_k 38 rfl h1 rfl ?_
    refine jr.iconst rfl ?_
    exact jr.ireturn rfl rfl rfl (q _ (by first | exact rgq rfl | omega) (by omega))
  · refine jr.lsw_k 40 rfl h1 rfl ?_
    refine jr.iconst rfl ?_
    exact jr.ireturn rfl rfl rfl (q _ (by first | exact rgq rfl | omega) (by omega))
  · refine jr.lsw_k 41 rfl h1 rfl ?_
    refine jr.iconst rfl ?_
    exact jr.ireturn rfl rfl rfl (q _ (by first | exact rgq rfl | omega) (by omega))
  · refine jr.lsw_k 42 rfl h1 rfl ?_
    refine jr.iconst rfl ?_
    exact jr.ireturn rfl rfl rfl (q _ (by first | exact rgq rfl | omega) (by omega))
  · refine jr.lsw_k 43 rfl h1 rfl ?_
    refine jr.iconst rfl ?_
    exact jr.ireturn rfl rfl rfl (q _ (by first | exact rgq rfl | omega) (by omega))
  · refine jr.lsw_k 44 rfl h1 rfl ?_
    refine jr.iconst rfl ?_
    exact jr.ireturn rfl rfl rfl (q _ (by first | exact rgq rfl | omega) (by omega))
  · refine jr.lsw_k 45 rfl h1 rfl ?_
    refine jr.iconst rfl ?_
    exact jr.ireturn rfl rfl rfl (q _ (by first | exact rgq rfl | omega) (by omega))
  · refine jr.lsw_k 46 rfl h1 rfl ?_
    refine jr.iconst rfl ?_
    exact jr.ireturn rfl rfl rfl (q _ (by first | exact rgq rfl | omega) (by omega))
  · refine jr.lsw_k 47 rfl h1 rfl ?_
    refine jr.iconst rfl ?_
    exact jr.ireturn rfl rfl rfl (q _ (by first | exact rgq rfl | omega) (by omega))
  · refine jr.lsw_k 59 rfl h1 rfl ?_
    refine jr.iconst rfl ?_
    exact jr.ireturn rfl rfl rfl (q _ (by first | exact rgq rfl | omega) (by omega))
  · refine jr.lsw_k 60 rfl h1 rfl ?_
    refine jr.iconst rfl ?_
    exact jr.ireturn rfl rfl rfl (q _ (by first | exact rgq rfl | omega) (by omega))
  · refine jr.lsw_k 61 rfl h1 rfl ?_
    refine jr.iconst rfl ?_
    exact jr.ireturn rfl rfl rfl (q _ (by first | exact rgq rfl | omega) (by omega))
  · refine jr.lsw_k 62 rfl h1 rfl ?_
    refine jr.iconst rfl ?_
    exact jr.ireturn rfl rfl rfl (q _ (by first | exact rgq rfl | omega) (by omega))
  · refine jr.lsw_k 91 rfl h1 rfl ?_
    refine jr.iconst rfl ?_
    exact jr.ireturn rfl rfl rfl (q _ (by first | exact rgq rfl | omega) (by omega))
  · refine jr.lsw_k 93 rfl h1 rfl ?_
    refine jr.iconst rfl ?_
    exact jr.ireturn rfl rfl rfl (q _ (by first | exact rgq rfl | omega) (by omega))
  · refine jr.lsw_k 123 rfl h1 rfl ?_
    refine jr.iconst rfl ?_
    exact jr.ireturn rfl rfl rfl (q _ (by first | exact rgq rfl | omega) (by omega))
  · refine jr.lsw_k 124 rfl h1 rfl ?_
    refine jr.iconst rfl ?_
    exact jr.ireturn rfl rfl rfl (q _ (by first | exact rgq rfl | omega) (by omega))
  · refine jr.lsw_k 125 rfl h1 rfl ?_
    refine jr.iconst rfl ?_
    exact jr.ireturn rfl rfl rfl (q _ (by first | exact rgq rfl | omega) (by omega))
  · refine jr.lsw_d rfl (by omega) rfl (fun q hq => by simp only [List.mem_cons, List.not_mem_nil, or_false] at hq; rcases hq with rfl | rfl | rfl | rfl | rfl | rfl | rfl | rfl | rfl | rfl | rfl | rfl | rfl | rfl | rfl | rfl | rfl | rfl | rfl | rfl <;> (simp only; omega)) rfl ?_
    refine jr.iconst rfl ?_
    exact jr.ireturn rfl rfl rfl (q _ (by first | exact rgq rfl | omega) (by omega))
theorem r_fails {A : Nat → Option (Nat × (Nat → Int32))} {Q : Option Value → jm → Prop} {M : jm} (hI_M : RI M) (hH_M : RH M) (hS_M : RF M) {w : Int} (h_w : 1 ≤ w ∧ w ≤ 7) {p : Int} (h_p : 0 ≤ p ∧ p ≤ 1600) (q : ∀ (M' : jm), RI M' → RH M' → RF M' → M' 598 80 ≠ 0 → (∀ (a : Nat) (i : Int), a ≠ 598 → M' a i = M a i) → (∀ (i : Int), i ≠ 80 → i ≠ 81 → M' 598 i = M 598 i) → Q none M') : jc A 1 338 [.ref (598), .int (Int32.ofInt (w)), .int (Int32.ofInt (p))] M Q := by
  refine jc_of (m := xm_338) rfl (Nat.le_of_ble_eq_true rfl) rfl ?_
  refine jr.aload_n rfl rfl ?_
  obtain ⟨v1, e1⟩ : ∃ z, M 598 80 = z := ⟨_, rfl⟩
  have b1 : 0 ≤ v1 ∧ v1 ≤ 7 := by rw [← e1]; exact hI_M 598 80 (Nat.le_of_ble_eq_true rfl)
  refine jr.getf (i := 80) (x := v1) (v := .int (Int32.ofInt (v1))) rfl rfl (nlt rfl) rfl (nlt rfl) rfl rfl e1 rfl ?_
  refine jr.if_ne rfl rfl (by first | (refine rgb (by assumption) ?_; exact rfl) | omega) (fun h4 => ?_) (fun h4 => ?_)
  · have sx4 : (1 : Int) ≤ v1 := by omega
    clear h4
    exact jr.vreturn rfl rfl (q _ hI_M hH_M hS_M  (by rw [e1]; omega) (fun a i f598 => rfl) (fun i g80 g81 => rfl))
  · refine jr.aload_n rfl rfl ?_
    refine jr.iload_n rfl rfl ?_
    refine jr.putf (i := 80) (x := w) rfl rfl (nlt rfl) rfl (nlt rfl) rfl rfl rfl rfl rfl ?_
    refine jr.aload_n rfl rfl ?_
    refine jr.iload_n rfl rfl ?_
    refine jr.putf (i := 81) (x := p) rfl rfl (nlt rfl) rfl (nlt rfl) rfl rfl rfl rfl rfl ?_
    exact jr.vreturn rfl rfl (q _ (RI.u (RI.u hI_M (a := 598) (i := 80) (show (0 : Int) ≤ _ ∧ _ ≤ (7 : Int) from by omega)) (a := 598) (i := 81) (show (-1 : Int) ≤ _ ∧ _ ≤ (1600 : Int) from by omega)) (RH.o (RH.o hH_M (by decide) (by decide) (by decide)) (by decide) (by decide) (by decide)) (RF.o (RF.o hS_M (by decide) (by decide)) (by decide) (by decide))  (by rw [((ju_i _ _ (zne (by decide))).trans (ju_same _ _ _ _))]; omega) (fun a i f598 => ((ju_c _ _ f598).trans ((ju_c _ _ f598).trans rfl))) (fun i g80 g81 => ((ju_i _ _ g81).trans ((ju_i _ _ g80).trans rfl))))
theorem r_wrongToken {A : Nat → Option (Nat × (Nat → Int32))} {Q : Option Value → jm → Prop} {M : jm} (hI_M : RI M) (hH_M : RH M) (hS_M : RF M) (q : ∀ (M' : jm), RI M' → RH M' → RF M' → M' 598 80 ≠ 0 → (∀ (a : Nat) (i : Int), a ≠ 598 → M' a i = M a i) → (∀ (i : Int), i ≠ 80 → i ≠ 81 → M' 598 i = M 598 i) → Q none M') : jc A 2 340 [.ref (598)] M Q := by
  refine jc_of (m := xm_340) rfl (Nat.le_of_ble_eq_true rfl) rfl ?_
  refine jr.aload_n rfl rfl ?_
  refine jr.aload_n rfl rfl ?_
  obtain ⟨v1, e1⟩ : ∃ z, M 598 74 = z := ⟨_, rfl⟩
  have b1 : 0 ≤ v1 ∧ v1 ≤ 4 := by rw [← e1]; exact hI_M 598 74 (Nat.le_of_ble_eq_true rfl)
  refine jr.getf (i := 74) (x := v1) (v := .int (Int32.ofInt (v1))) rfl rfl (nlt rfl) rfl (nlt rfl) rfl rfl e1 rfl ?_
  refine jr.iconst rfl ?_
  refine jr.icmp_ne rfl rfl (by first | (refine rgb (by assumption) ?_; exact rfl) | omega) (rgl rfl) (fun h6 => ?_) (fun h6 => ?_)
  · have sx6 : v1 ≤ (3 : Int) := by omega
    clear h6
    refine jr.iconst rfl ?_
    refine jr.aload_n rfl rfl ?_
    obtain ⟨v2, e2⟩ : ∃ z, M 598 75 = z := ⟨_, rfl⟩
    have b2 : 0 ≤ v2 ∧ v2 ≤ 1600 := by rw [← e2]; exact hI_M 598 75 (Nat.le_of_ble_eq_true rfl)
    refine jr.getf (i := 75) (x := v2) (v := .int (Int32.ofInt (v2))) rfl rfl (nlt rfl) rfl (nlt rfl) rfl rfl e2 rfl ?_
    refine jr_v rfl rfl (Or.inl rfl) rfl rfl (nlt rfl) rfl ⟨rfl, Nat.le_of_ble_eq_true rfl, Nat.le_of_ble_eq_true rfl⟩ rfl (jc.deep (r_fails hI_M hH_M hS_M  (by omega) (by omega)  (fun M3 hI_M3 hH_M3 hS_M3  w3_0 w3_1 w3_2 => ?_)) (Nat.le_of_ble_eq_true rfl))
    have tk3 : TK M3 = TK M := TK.fr (w3_2 73 (zne rfl) (zne rfl)) (w3_2 74 (zne rfl) (zne rfl))
    obtain ⟨v4, e4⟩ : ∃ z, M3 598 80 = z := ⟨_, rfl⟩
    have b4 : 0 ≤ v4 ∧ v4 ≤ 7 := by rw [← e4]; exact hI_M3 598 80 (Nat.le_of_ble_eq_true rfl)
    exact jr.vreturn rfl rfl (q _ hI_M3 hH_M3 hS_M3  (by rw [e4]; omega) (fun a i f598 => ((w3_1 a i f598).trans rfl)) (fun i g80 g81 => ((w3_2 i g80 g81).trans rfl)))
  · refine jr.iconst rfl ?_
    refine jr.goto rfl rfl ?_
    refine jr.aload_n rfl rfl ?_
    obtain ⟨v5, e5⟩ : ∃ z, M 598 75 = z := ⟨_, rfl⟩
    have b5 : 0 ≤ v5 ∧ v5 ≤ 1600 := by rw [← e5]; exact hI_M 598 75 (Nat.le_of_ble_eq_true rfl)
    refine jr.getf (i := 75) (x := v5) (v := .int (Int32.ofInt (v5))) rfl rfl (nlt rfl) rfl (nlt rfl) rfl rfl e5 rfl ?_
    refine jr_v rfl rfl (Or.inl rfl) rfl rfl (nlt rfl) rfl ⟨rfl, Nat.le_of_ble_eq_true rfl, Nat.le_of_ble_eq_true rfl⟩ rfl (jc.deep (r_fails hI_M hH_M hS_M  (by omega) (by omega)  (fun M6 hI_M6 hH_M6 hS_M6  w6_0 w6_1 w6_2 => ?_)) (Nat.le_of_ble_eq_true rfl))
    have tk6 : TK M6 = TK M := TK.fr (w6_2 73 (zne rfl) (zne rfl)) (w6_2 74 (zne rfl) (zne rfl))
    obtain ⟨v7, e7⟩ : ∃ z, M6 598 80 = z := ⟨_, rfl⟩
    have b7 : 0 ≤ v7 ∧ v7 ≤ 7 := by rw [← e7]; exact hI_M6 598 80 (Nat.le_of_ble_eq_true rfl)
    exact jr.vreturn rfl rfl (q _ hI_M6 hH_M6 hS_M6  (by rw [e7]; omega) (fun a i f598 => ((w6_1 a i f598).trans rfl)) (fun i g80 g81 => ((w6_2 i g80 g81).trans rfl)))
theorem r_next_L266 {A : Nat → Option (Nat × (Nat → Int32))} {Q : Option Value → jm → Prop} {M0 : jm} (q : ∀ (M' : jm), RI M' → RH M' → RF M' → M' 598 73 ≤ M' 598 72 → M0 598 73 ≤ M' 598 73 → TK M' ≤ TK M0 → (M0 598 74 ≠ 0 → TK M' < TK M0) → (M' 598 74 = 3 → M' 598 79 ≠ 10 ∧ M' 598 79 ≠ 11) → (∀ (a : Nat) (i : Int), a ≠ 598 → M' a i = M0 a i) → (∀ (i : Int), i ≠ 73 → i ≠ 74 → i ≠ 75 → i ≠ 76 → i ≠ 77 → i ≠ 78 → i ≠ 79 → M' 598 i = M0 598 i) → Q none M') : ∀ (nM : Nat) (M : jm) , RI M → RH M → RF M → (∀ (a : Nat) (i : Int), a ≠ 598 → M a i = M0 a i) → (∀ (i : Int), i ≠ 73 → i ≠ 74 → i ≠ 75 → i ≠ 76 → i ≠ 77 → i ≠ 78 → i ≠ 79 → M 598 i = M0 598 i) → M 598 73 ≤ M 598 72 → M0 598 73 ≤ M 598 75 ∧ M 598 75 ≤ M 598 73 → 0 ≤ M0 598 74 → (M 598 75 < M 598 73 ∨ (M 598 73 < M 598 72 ∧ 48 ≤ M 651 (M 598 73) ∧ M 651 (M 598 73) ≤ 57)) → 1600 - M 598 73 ≤ nM → jr A 1 xm_344 266 [(0, .ref (598))] [] M Q := by
  intro nM
  induction nM using Nat.strongRecOn with
  | ind nM ih =>
    intro M  hI_M hH_M hS_M hF_M hG_M  hy0 hy1 hy2 hy3 hm
    obtain ⟨a0, ha0⟩ : ∃ z, M 598 73 = z := ⟨_, rfl⟩
    rw [ha0] at hy3
    have ba : (0 : Int) ≤ a0 ∧ a0 ≤ 1600 := by rw [← ha0]; exact hI_M 598 73 (Nat.le_of_ble_eq_true rfl)
    refine jr.aload_n rfl rfl ?_
    refine jr.getf (i := 73) (x := a0) (v := .int (Int32.ofInt (a0))) rfl rfl (nlt rfl) rfl (nlt rfl) rfl rfl ha0 rfl ?_
    refine jr.aload_n rfl rfl ?_
    obtain ⟨v1, e1⟩ : ∃ z, M 598 72 = z := ⟨_, rfl⟩
    have b1 : 0 ≤ v1 ∧ v1 ≤ 1600 := by rw [← e1]; exact hI_M 598 72 (Nat.le_of_ble_eq_true rfl)
    refine jr.getf (i := 72) (x := v1) (v := .int (Int32.ofInt (v1))) rfl rfl (nlt rfl) rfl (nlt rfl) rfl rfl e1 rfl ?_
    refine jr.icmp_ge rfl rfl (by first | (refine rgb (by assumption) ?_; exact rfl) | omega) (by first | (refine rgb (by assumption) ?_; exact rfl) | omega) (fun h274 => ?_) (fun h274 => ?_)
    · refine jr.aload_n rfl rfl ?_
      refine jr.aload_n rfl rfl ?_
      refine jr.getf (i := 73) (x := a0) (v := .int (Int32.ofInt (a0))) rfl rfl (nlt rfl) rfl (nlt rfl) rfl rfl ha0 rfl ?_
      refine jr.aload_n rfl rfl ?_
      obtain ⟨v2, e2⟩ : ∃ z, M 598 75 = z := ⟨_, rfl⟩
      have b2 : 0 ≤ v2 ∧ v2 ≤ 1600 := by rw [← e2]; exact hI_M 598 75 (Nat.le_of_ble_eq_true rfl)
      refine jr.getf (i := 75) (x := v2) (v := .int (Int32.ofInt (v2))) rfl rfl (nlt rfl) rfl (nlt rfl) rfl rfl e2 rfl ?_
      refine jr.isub rfl ?_
      refine jr.bipush rfl (jbp _ (nlt rfl)) ?_
      refine jr.icmp_le rfl rfl (by first | (refine rgb (by assumption) ?_; exact rfl) | omega) (rgl rfl) (fun h365 => ?_) (fun h365 => ?_)
      · refine jr.iconst rfl ?_
        refine jr.putf (i := 74) (x := 2) rfl rfl (nlt rfl) rfl (nlt rfl) rfl rfl rfl rfl rfl ?_
        refine jr.goto rfl rfl ?_
        have y3 : (ju M 598 74 2) 598 72 = v1 := ((ju_i _ _ (zne (by decide))).trans e1)
        have y4 : (ju M 598 74 2) 598 73 = a0 := ((ju_i _ _ (zne (by decide))).trans ha0)
        have y5 : (ju M 598 74 2) 598 74 = 2 := (ju_same _ _ _ _)
        obtain ⟨v6, e6⟩ : ∃ z, M 598 79 = z := ⟨_, rfl⟩
        have b6 : 0 ≤ v6 ∧ v6 ≤ 255 := by rw [← e6]; exact hI_M 598 79 (Nat.le_of_ble_eq_true rfl)
        have y7 : (ju M 598 74 2) 598 79 = v6 := ((ju_i _ _ (zne (by decide))).trans e6)
        exact jr.vreturn rfl rfl (q _ (RI.u hI_M (a := 598) (i := 74) (show (0 : Int) ≤ _ ∧ _ ≤ (4 : Int) from by omega)) (RH.o hH_M (by decide) (by decide) (by decide)) (RF.o hS_M (by decide) (by decide))  (by omega) (by omega) (by unfold TK; omega) (fun q => by unfold TK; omega) (by omega) (fun a i f598 => ((ju_c _ _ f598).trans (hF_M a i f598))) (fun i g73 g74 g75 g76 g77 g78 g79 => ((ju_i _ _ g74).trans (hG_M i g73 g74 g75 g76 g77 g78 g79))))
      · refine jr.iconst rfl ?_
        refine jr.goto rfl rfl ?_
        refine jr.putf (i := 74) (x := 4) rfl rfl (nlt rfl) rfl (nlt rfl) rfl rfl rfl rfl rfl ?_
        refine jr.goto rfl rfl ?_
        have y8 : (ju M 598 74 4) 598 72 = v1 := ((ju_i _ _ (zne (by decide))).trans e1)
        have y9 : (ju M 598 74 4) 598 73 = a0 := ((ju_i _ _ (zne (by decide))).trans ha0)
        have y10 : (ju M 598 74 4) 598 74 = 4 := (ju_same _ _ _ _)
        obtain ⟨v11, e11⟩ : ∃ z, M 598 79 = z := ⟨_, rfl⟩
        have b11 : 0 ≤ v11 ∧ v11 ≤ 255 := by rw [← e11]; exact hI_M 598 79 (Nat.le_of_ble_eq_true rfl)
        have y12 : (ju M 598 74 4) 598 79 = v11 := ((ju_i _ _ (zne (by decide))).trans e11)
        exact jr.vreturn rfl rfl (q _ (RI.u hI_M (a := 598) (i := 74) (show (0 : Int) ≤ _ ∧ _ ≤ (4 : Int) from by omega)) (RH.o hH_M (by decide) (by decide) (by decide)) (RF.o hS_M (by decide) (by decide))  (by omega) (by omega) (by unfold TK; omega) (fun q => by unfold TK; omega) (by omega) (fun a i f598 => ((ju_c _ _ f598).trans (hF_M a i f598))) (fun i g73 g74 g75 g76 g77 g78 g79 => ((ju_i _ _ g74).trans (hG_M i g73 g74 g75 g76 g77 g78 g79))))
    · refine jr.aload_n rfl rfl ?_
      refine jr.getf (i := 71) (v := .ref 651) rfl rfl (nlt rfl) rfl (nlt rfl) rfl rfl rfl rfl ?_
      refine jr.aload_n rfl rfl ?_
      refine jr.getf (i := 73) (x := a0) (v := .int (Int32.ofInt (a0))) rfl rfl (nlt rfl) rfl (nlt rfl) rfl rfl ha0 rfl ?_
      obtain ⟨v13, e13⟩ : ∃ z, M 651 a0 = z := ⟨_, rfl⟩
      have b13 : 0 ≤ v13 ∧ v13 ≤ 255 := by rw [← e13]; exact (by have q := hI_M 651 a0 (Nat.le_of_ble_eq_true rfl); rw [xri_row rfl rfl] at q; exact q)
      refine jr.iald (i := a0) (x := v13) rfl (nlt rfl) rfl (Nat.le_of_ble_eq_true rfl) (by omega) (by omega) e13 ?_
      refine jr_s rfl rfl (Or.inl rfl) ⟨Nat.le_of_ble_eq_true rfl, Nat.le_of_ble_eq_true rfl⟩ rfl rfl (jc.deep (c_isDigit  (by omega) (fun t286_0 t286_1 => ?_) (fun f286_0 => ?_)) (Nat.le_of_ble_eq_true rfl))
      · refine jr.if_eq rfl rfl (by first | exact rgl rfl | omega) (fun h => absurd h (by decide)) (fun _ => ?_)
        refine jr.aload_n rfl rfl ?_
        refine jr.aload_n rfl rfl ?_
        refine jr.getf (i := 73) (x := a0) (v := .int (Int32.ofInt (a0))) rfl rfl (nlt rfl) rfl (nlt rfl) rfl rfl ha0 rfl ?_
        refine jr.aload_n rfl rfl ?_
        obtain ⟨v14, e14⟩ : ∃ z, M 598 75 = z := ⟨_, rfl⟩
        have b14 : 0 ≤ v14 ∧ v14 ≤ 1600 := by rw [← e14]; exact hI_M 598 75 (Nat.le_of_ble_eq_true rfl)
        refine jr.getf (i := 75) (x := v14) (v := .int (Int32.ofInt (v14))) rfl rfl (nlt rfl) rfl (nlt rfl) rfl rfl e14 rfl ?_
        refine jr.isub rfl ?_
        refine jr.bipush rfl (jbp _ (nlt rfl)) ?_
        refine jr.icmp_ge rfl rfl (by first | (refine rgb (by assumption) ?_; exact rfl) | omega) (rgl rfl) (fun h304 => ?_) (fun h304 => ?_)
        · refine jr.aload_n rfl rfl ?_
          obtain ⟨v15, e15⟩ : ∃ z, M 598 78 = z := ⟨_, rfl⟩
          have b15 : (-9223372036854775808) ≤ v15 ∧ v15 ≤ 9223372036854775807 := by rw [← e15]; exact hI_M 598 78 (Nat.le_of_ble_eq_true rfl)
          refine jr.getf (i := 78) (x := v15) (v := .long (Int64.ofInt (v15))) rfl rfl (nlt rfl) rfl (nlt rfl) rfl rfl e15 rfl ?_
          refine jr.putf (i := 78) (x := v15) rfl rfl (nlt rfl) rfl (nlt rfl) rfl rfl rfl rfl rfl ?_
          refine jr.aload_n rfl rfl ?_
          refine jr.dup rfl rfl ?_
          refine jr.getf (i := 73) (x := a0) (v := .int (Int32.ofInt (a0))) rfl rfl (nlt rfl) rfl (nlt rfl) rfl rfl ((ju_i _ _ (zne (by decide))).trans ha0) rfl ?_
          refine jr.iconst rfl ?_
          refine jr.iadd rfl ?_
          refine jr.putf (i := 73) (x := (a0 + 1)) rfl rfl (nlt rfl) rfl (nlt rfl) rfl rfl rfl rfl rfl ?_
          refine jr.goto rfl rfl ?_
          refine jr.pick (ls := [_]) [0] rfl rfl ?_
          exact ih (nM - 1) (by omega) (ju (ju M 598 78 v15) 598 73 (a0 + 1))  (RI.u (RI.u hI_M (a := 598) (i := 78) (show (-9223372036854775808 : Int) ≤ _ ∧ _ ≤ (9223372036854775807 : Int) from by omega)) (a := 598) (i := 73) (show (0 : Int) ≤ _ ∧ _ ≤ (1600 : Int) from by omega)) (RH.o (RH.o hH_M (by decide) (by decide) (by decide)) (by decide) (by decide) (by decide)) (RF.o (RF.o hS_M (by decide) (by decide)) (by decide) (by decide))  (fun a i f598 => ((ju_c _ _ f598).trans ((ju_c _ _ f598).trans (hF_M a i f598)))) (fun i g73 g74 g75 g76 g77 g78 g79 => ((ju_i _ _ g73).trans ((ju_i _ _ g78).trans (hG_M i g73 g74 g75 g76 g77 g78 g79))))  (by rw [(ju_same _ _ _ _), ((ju_i _ _ (zne (by decide))).trans ((ju_i _ _ (zne (by decide))).trans e1))] <;> omega) (by rw [((ju_i _ _ (zne (by decide))).trans ((ju_i _ _ (zne (by decide))).trans e14)), (ju_same _ _ _ _)] <;> omega) (by omega) (Or.inl (by rw [(ju_same _ _ _ _), ((ju_i _ _ (zne (by decide))).trans ((ju_i _ _ (zne (by decide))).trans e14))]; omega)) (by rw [(ju_same _ _ _ _)]; omega)
        · refine jr.ldc2 (x := 10) rfl rfl (by decide) ?_
          refine jr.aload_n rfl rfl ?_
          obtain ⟨v16, e16⟩ : ∃ z, M 598 78 = z := ⟨_, rfl⟩
          have b16 : (-9223372036854775808) ≤ v16 ∧ v16 ≤ 9223372036854775807 := by rw [← e16]; exact hI_M 598 78 (Nat.le_of_ble_eq_true rfl)
          refine jr.getf (i := 78) (x := v16) (v := .long (Int64.ofInt (v16))) rfl rfl (nlt rfl) rfl (nlt rfl) rfl rfl e16 rfl ?_
          refine jr.lmul rfl ?_
          refine jr.lw (jl_w (10 * v16)) (jl_w_eq _) ?_
          have b17 : -9223372036854775808 ≤ jl_w (10 * v16) ∧ jl_w (10 * v16) ≤ 9223372036854775807 := jbl_any _
          generalize jl_w (10 * v16) = v17 at b17 ⊢
          refine jr.aload_n rfl rfl ?_
          refine jr.getf (i := 71) (v := .ref 651) rfl rfl (nlt rfl) rfl (nlt rfl) rfl rfl rfl rfl ?_
          refine jr.aload_n rfl rfl ?_
          refine jr.getf (i := 73) (x := a0) (v := .int (Int32.ofInt (a0))) rfl rfl (nlt rfl) rfl (nlt rfl) rfl rfl ha0 rfl ?_
          refine jr.iald (i := a0) (x := v13) rfl (nlt rfl) rfl (Nat.le_of_ble_eq_true rfl) (by omega) (by omega) e13 ?_
          refine jr.i2l rfl (by omega) ?_
          refine jr.ladd rfl ?_
          refine jr.lw (jl_w (v17 + v13)) (jl_w_eq _) ?_
          have b18 : -9223372036854775808 ≤ jl_w (v17 + v13) ∧ jl_w (v17 + v13) ≤ 9223372036854775807 := jbl_any _
          generalize jl_w (v17 + v13) = v18 at b18 ⊢
          refine jr.ldc2 (x := 48) rfl rfl (by decide) ?_
          refine jr.lsub rfl ?_
          refine jr.lw (jl_w (v18 - 48)) (jl_w_eq _) ?_
          have b19 : -9223372036854775808 ≤ jl_w (v18 - 48) ∧ jl_w (v18 - 48) ≤ 9223372036854775807 := jbl_any _
          generalize jl_w (v18 - 48) = v19 at b19 ⊢
          refine jr.goto rfl rfl ?_
          refine jr.putf (i := 78) (x := v19) rfl rfl (nlt rfl) rfl (nlt rfl) rfl rfl rfl rfl rfl ?_
          refine jr.aload_n rfl rfl ?_
          refine jr.dup rfl rfl ?_
          refine jr.getf (i := 73) (x := a0) (v := .int (Int32.ofInt (a0))) rfl rfl (nlt rfl) rfl (nlt rfl) rfl rfl ((ju_i _ _ (zne (by decide))).trans ha0) rfl ?_
          refine jr.iconst rfl ?_
          refine jr.iadd rfl ?_
          refine jr.putf (i := 73) (x := (a0 + 1)) rfl rfl (nlt rfl) rfl (nlt rfl) rfl rfl rfl rfl rfl ?_
          refine jr.goto rfl rfl ?_
          refine jr.pick (ls := [_]) [0] rfl rfl ?_
          exact ih (nM - 1) (by omega) (ju (ju M 598 78 v19) 598 73 (a0 + 1))  (RI.u (RI.u hI_M (a := 598) (i := 78) (show (-9223372036854775808 : Int) ≤ _ ∧ _ ≤ (9223372036854775807 : Int) from by omega)) (a := 598) (i := 73) (show (0 : Int) ≤ _ ∧ _ ≤ (1600 : Int) from by omega)) (RH.o (RH.o hH_M (by decide) (by decide) (by decide)) (by decide) (by decide) (by decide)) (RF.o (RF.o hS_M (by decide) (by decide)) (by decide) (by decide))  (fun a i f598 => ((ju_c _ _ f598).trans ((ju_c _ _ f598).trans (hF_M a i f598)))) (fun i g73 g74 g75 g76 g77 g78 g79 => ((ju_i _ _ g73).trans ((ju_i _ _ g78).trans (hG_M i g73 g74 g75 g76 g77 g78 g79))))  (by rw [(ju_same _ _ _ _), ((ju_i _ _ (zne (by decide))).trans ((ju_i _ _ (zne (by decide))).trans e1))] <;> omega) (by rw [((ju_i _ _ (zne (by decide))).trans ((ju_i _ _ (zne (by decide))).trans e14)), (ju_same _ _ _ _)] <;> omega) (by omega) (Or.inl (by rw [(ju_same _ _ _ _), ((ju_i _ _ (zne (by decide))).trans ((ju_i _ _ (zne (by decide))).trans e14))]; omega)) (by rw [(ju_same _ _ _ _)]; omega)
      · refine jr.if_eq rfl rfl (by first | exact rgl rfl | omega) (fun _ => ?_) (fun h => absurd (by decide) h)
        refine jr.aload_n rfl rfl ?_
        refine jr.aload_n rfl rfl ?_
        refine jr.getf (i := 73) (x := a0) (v := .int (Int32.ofInt (a0))) rfl rfl (nlt rfl) rfl (nlt rfl) rfl rfl ha0 rfl ?_
        refine jr.aload_n rfl rfl ?_
        obtain ⟨v20, e20⟩ : ∃ z, M 598 75 = z := ⟨_, rfl⟩
        have b20 : 0 ≤ v20 ∧ v20 ≤ 1600 := by rw [← e20]; exact hI_M 598 75 (Nat.le_of_ble_eq_true rfl)
        refine jr.getf (i := 75) (x := v20) (v := .int (Int32.ofInt (v20))) rfl rfl (nlt rfl) rfl (nlt rfl) rfl rfl e20 rfl ?_
        refine jr.isub rfl ?_
        refine jr.bipush rfl (jbp _ (nlt rfl)) ?_
        refine jr.icmp_le rfl rfl (by first | (refine rgb (by assumption) ?_; exact rfl) | omega) (rgl rfl) (fun h365 => ?_) (fun h365 => ?_)
        · refine jr.iconst rfl ?_
          refine jr.putf (i := 74) (x := 2) rfl rfl (nlt rfl) rfl (nlt rfl) rfl rfl rfl rfl rfl ?_
          refine jr.goto rfl rfl ?_
          have y21 : (ju M 598 74 2) 598 72 = v1 := ((ju_i _ _ (zne (by decide))).trans e1)
          have y22 : (ju M 598 74 2) 598 73 = a0 := ((ju_i _ _ (zne (by decide))).trans ha0)
          have y23 : (ju M 598 74 2) 598 74 = 2 := (ju_same _ _ _ _)
          obtain ⟨v24, e24⟩ : ∃ z, M 598 79 = z := ⟨_, rfl⟩
          have b24 : 0 ≤ v24 ∧ v24 ≤ 255 := by rw [← e24]; exact hI_M 598 79 (Nat.le_of_ble_eq_true rfl)
          have y25 : (ju M 598 74 2) 598 79 = v24 := ((ju_i _ _ (zne (by decide))).trans e24)
          exact jr.vreturn rfl rfl (q _ (RI.u hI_M (a := 598) (i := 74) (show (0 : Int) ≤ _ ∧ _ ≤ (4 : Int) from by omega)) (RH.o hH_M (by decide) (by decide) (by decide)) (RF.o hS_M (by decide) (by decide))  (by omega) (by omega) (by unfold TK; omega) (fun q => by unfold TK; omega) (by omega) (fun a i f598 => ((ju_c _ _ f598).trans (hF_M a i f598))) (fun i g73 g74 g75 g76 g77 g78 g79 => ((ju_i _ _ g74).trans (hG_M i g73 g74 g75 g76 g77 g78 g79))))
        · refine jr.iconst rfl ?_
          refine jr.goto rfl rfl ?_
          refine jr.putf (i := 74) (x := 4) rfl rfl (nlt rfl) rfl (nlt rfl) rfl rfl rfl rfl rfl ?_
          refine jr.goto rfl rfl ?_
          have y26 : (ju M 598 74 4) 598 72 = v1 := ((ju_i _ _ (zne (by decide))).trans e1)
          have y27 : (ju M 598 74 4) 598 73 = a0 := ((ju_i _ _ (zne (by decide))).trans ha0)
          have y28 : (ju M 598 74 4) 598 74 = 4 := (ju_same _ _ _ _)
          obtain ⟨v29, e29⟩ : ∃ z, M 598 79 = z := ⟨_, rfl⟩
          have b29 : 0 ≤ v29 ∧ v29 ≤ 255 := by rw [← e29]; exact hI_M 598 79 (Nat.le_of_ble_eq_true rfl)
          have y30 : (ju M 598 74 4) 598 79 = v29 := ((ju_i _ _ (zne (by decide))).trans e29)
          exact jr.vreturn rfl rfl (q _ (RI.u hI_M (a := 598) (i := 74) (show (0 : Int) ≤ _ ∧ _ ≤ (4 : Int) from by omega)) (RH.o hH_M (by decide) (by decide) (by decide)) (RF.o hS_M (by decide) (by decide))  (by omega) (by omega) (by unfold TK; omega) (fun q => by unfold TK; omega) (by omega) (fun a i f598 => ((ju_c _ _ f598).trans (hF_M a i f598))) (fun i g73 g74 g75 g76 g77 g78 g79 => ((ju_i _ _ g74).trans (hG_M i g73 g74 g75 g76 g77 g78 g79))))
theorem r_next_L213 {A : Nat → Option (Nat × (Nat → Int32))} {Q : Option Value → jm → Prop} {M0 : jm} (q : ∀ (M' : jm), RI M' → RH M' → RF M' → M' 598 73 ≤ M' 598 72 → M0 598 73 ≤ M' 598 73 → TK M' ≤ TK M0 → (M0 598 74 ≠ 0 → TK M' < TK M0) → (M' 598 74 = 3 → M' 598 79 ≠ 10 ∧ M' 598 79 ≠ 11) → (∀ (a : Nat) (i : Int), a ≠ 598 → M' a i = M0 a i) → (∀ (i : Int), i ≠ 73 → i ≠ 74 → i ≠ 75 → i ≠ 76 → i ≠ 77 → i ≠ 78 → i ≠ 79 → M' 598 i = M0 598 i) → Q none M') : ∀ (nM : Nat) (M : jm) (k : Int), RI M → RH M → RF M → (∀ (a : Nat) (i : Int), a ≠ 598 → M a i = M0 a i) → (∀ (i : Int), i ≠ 73 → i ≠ 74 → i ≠ 75 → i ≠ 76 → i ≠ 77 → i ≠ 78 → i ≠ 79 → M 598 i = M0 598 i) → 0 ≤ k ∧ k ≤ 69 → M 598 73 ≤ M 598 72 → M0 598 73 < M 598 73 → 0 ≤ M0 598 74 → 1 ≤ M 598 74 ∧ M 598 74 ≠ 3 → 69 - k ≤ nM → jr A 1 xm_344 213 [(2, .int (Int32.ofInt (k))), (0, .ref (598))] [] M Q := by
  intro nM
  induction nM using Nat.strongRecOn with
  | ind nM ih =>
    intro M k hI_M hH_M hS_M hF_M hG_M h_k hy0 hy1 hy2 hy3 hm
    refine jr.iload_n rfl rfl ?_
    refine jr.bipush rfl (jbp _ (nlt rfl)) ?_
    refine jr.icmp_ge rfl rfl (by first | (refine rgb (by assumption) ?_; exact rfl) | omega) (rgl rfl) (fun h216 => ?_) (fun h216 => ?_)
    · refine jr.goto rfl rfl ?_
      obtain ⟨v1, e1⟩ : ∃ z, M 598 72 = z := ⟨_, rfl⟩
      have b1 : 0 ≤ v1 ∧ v1 ≤ 1600 := by rw [← e1]; exact hI_M 598 72 (Nat.le_of_ble_eq_true rfl)
      obtain ⟨v3, e3⟩ : ∃ z, M 598 73 = z := ⟨_, rfl⟩
      have b3 : 0 ≤ v3 ∧ v3 ≤ 1600 := by rw [← e3]; exact hI_M 598 73 (Nat.le_of_ble_eq_true rfl)
      obtain ⟨v5, e5⟩ : ∃ z, M 598 74 = z := ⟨_, rfl⟩
      have b5 : 0 ≤ v5 ∧ v5 ≤ 4 := by rw [← e5]; exact hI_M 598 74 (Nat.le_of_ble_eq_true rfl)
      obtain ⟨v7, e7⟩ : ∃ z, M 598 79 = z := ⟨_, rfl⟩
      have b7 : 0 ≤ v7 ∧ v7 ≤ 255 := by rw [← e7]; exact hI_M 598 79 (Nat.le_of_ble_eq_true rfl)
      exact jr.vreturn rfl rfl (q _ hI_M hH_M hS_M  (by omega) (by omega) (by unfold TK; omega) (fun q => by unfold TK; omega) (by omega) (fun a i f598 => (hF_M a i f598)) (fun i g73 g74 g75 g76 g77 g78 g79 => (hG_M i g73 g74 g75 g76 g77 g78 g79)))
    · refine jr.aload_n rfl rfl ?_
      refine jr.aload_n rfl rfl ?_
      refine jr.getf (i := 69) (v := .ref 649) rfl rfl (nlt rfl) rfl (nlt rfl) rfl rfl rfl rfl ?_
      refine jr.iload_n rfl rfl ?_
      obtain ⟨v9, e9⟩ : ∃ z, M 649 k = z := ⟨_, rfl⟩
      have b9 : (-9223372036854775808) ≤ v9 ∧ v9 ≤ 9223372036854775807 := by rw [← e9]; exact (by have q := hI_M 649 k (Nat.le_of_ble_eq_true rfl); rw [xri_row rfl rfl] at q; exact q)
      refine jr.lald (i := k) (x := v9) rfl (nlt rfl) rfl (Nat.le_of_ble_eq_true rfl) (by omega) (by omega) e9 ?_
      refine jr.aload_n rfl rfl ?_
      obtain ⟨v10, e10⟩ : ∃ z, M 598 77 = z := ⟨_, rfl⟩
      have b10 : (-9223372036854775808) ≤ v10 ∧ v10 ≤ 9223372036854775807 := by rw [← e10]; exact hI_M 598 77 (Nat.le_of_ble_eq_true rfl)
      refine jr.getf (i := 77) (x := v10) (v := .long (Int64.ofInt (v10))) rfl rfl (nlt rfl) rfl (nlt rfl) rfl rfl e10 rfl ?_
      refine jr.lcmp_ne rfl rfl rfl (by omega) (by omega) (fun h230 => ?_) (fun h230 => ?_)
      · refine jr.aload_n rfl rfl ?_
        obtain ⟨v11, e11⟩ : ∃ z, M 598 76 = z := ⟨_, rfl⟩
        have b11 : (-1) ≤ v11 ∧ v11 ≤ 68 := by rw [← e11]; exact hI_M 598 76 (Nat.le_of_ble_eq_true rfl)
        refine jr.getf (i := 76) (x := v11) (v := .int (Int32.ofInt (v11))) rfl rfl (nlt rfl) rfl (nlt rfl) rfl rfl e11 rfl ?_
        refine jr.putf (i := 76) (x := v11) rfl rfl (nlt rfl) rfl (nlt rfl) rfl rfl rfl rfl rfl ?_
        refine jr.iinc (ls' := [_, _]) rfl rfl (nlt rfl) rfl ?_
        refine jr.goto rfl rfl ?_
        obtain ⟨v12, e12⟩ : ∃ z, M 598 73 = z := ⟨_, rfl⟩
        have b12 : 0 ≤ v12 ∧ v12 ≤ 1600 := by rw [← e12]; exact hI_M 598 73 (Nat.le_of_ble_eq_true rfl)
        obtain ⟨v13, e13⟩ : ∃ z, M 598 72 = z := ⟨_, rfl⟩
        have b13 : 0 ≤ v13 ∧ v13 ≤ 1600 := by rw [← e13]; exact hI_M 598 72 (Nat.le_of_ble_eq_true rfl)
        obtain ⟨v14, e14⟩ : ∃ z, M 598 74 = z := ⟨_, rfl⟩
        have b14 : 0 ≤ v14 ∧ v14 ≤ 4 := by rw [← e14]; exact hI_M 598 74 (Nat.le_of_ble_eq_true rfl)
        refine jr.pick (ls := [_, _]) [0, 1] rfl rfl ?_
        exact ih (nM - 1) (by omega) (ju M 598 76 v11) (k + 1) (RI.u hI_M (a := 598) (i := 76) (show (-1 : Int) ≤ _ ∧ _ ≤ (68 : Int) from by omega)) (RH.o hH_M (by decide) (by decide) (by decide)) (RF.o hS_M (by decide) (by decide))  (fun a i f598 => ((ju_c _ _ f598).trans (hF_M a i f598))) (fun i g73 g74 g75 g76 g77 g78 g79 => ((ju_i _ _ g76).trans (hG_M i g73 g74 g75 g76 g77 g78 g79))) (by omega) (by rw [((ju_i _ _ (zne (by decide))).trans e12), ((ju_i _ _ (zne (by decide))).trans e13)] <;> omega) (by rw [((ju_i _ _ (zne (by decide))).trans e12)] <;> omega) (by omega) (by rw [((ju_i _ _ (zne (by decide))).trans e14)] <;> omega) (by omega)
      · refine jr.iload_n rfl rfl ?_
        refine jr.goto rfl rfl ?_
        refine jr.putf (i := 76) (x := k) rfl rfl (nlt rfl) rfl (nlt rfl) rfl rfl rfl rfl rfl ?_
        refine jr.iinc (ls' := [_, _]) rfl rfl (nlt rfl) rfl ?_
        refine jr.goto rfl rfl ?_
        obtain ⟨v15, e15⟩ : ∃ z, M 598 73 = z := ⟨_, rfl⟩
        have b15 : 0 ≤ v15 ∧ v15 ≤ 1600 := by rw [← e15]; exact hI_M 598 73 (Nat.le_of_ble_eq_true rfl)
        obtain ⟨v16, e16⟩ : ∃ z, M 598 72 = z := ⟨_, rfl⟩
        have b16 : 0 ≤ v16 ∧ v16 ≤ 1600 := by rw [← e16]; exact hI_M 598 72 (Nat.le_of_ble_eq_true rfl)
        obtain ⟨v17, e17⟩ : ∃ z, M 598 74 = z := ⟨_, rfl⟩
        have b17 : 0 ≤ v17 ∧ v17 ≤ 4 := by rw [← e17]; exact hI_M 598 74 (Nat.le_of_ble_eq_true rfl)
        refine jr.pick (ls := [_, _]) [0, 1] rfl rfl ?_
        exact ih (nM - 1) (by omega) (ju M 598 76 k) (k + 1) (RI.u hI_M (a := 598) (i := 76) (show (-1 : Int) ≤ _ ∧ _ ≤ (68 : Int) from by omega)) (RH.o hH_M (by decide) (by decide) (by decide)) (RF.o hS_M (by decide) (by decide))  (fun a i f598 => ((ju_c _ _ f598).trans (hF_M a i f598))) (fun i g73 g74 g75 g76 g77 g78 g79 => ((ju_i _ _ g76).trans (hG_M i g73 g74 g75 g76 g77 g78 g79))) (by omega) (by rw [((ju_i _ _ (zne (by decide))).trans e15), ((ju_i _ _ (zne (by decide))).trans e16)] <;> omega) (by rw [((ju_i _ _ (zne (by decide))).trans e15)] <;> omega) (by omega) (by rw [((ju_i _ _ (zne (by decide))).trans e17)] <;> omega) (by omega)
theorem r_next_L104 {A : Nat → Option (Nat × (Nat → Int32))} {Q : Option Value → jm → Prop} {M0 : jm} (q : ∀ (M' : jm), RI M' → RH M' → RF M' → M' 598 73 ≤ M' 598 72 → M0 598 73 ≤ M' 598 73 → TK M' ≤ TK M0 → (M0 598 74 ≠ 0 → TK M' < TK M0) → (M' 598 74 = 3 → M' 598 79 ≠ 10 ∧ M' 598 79 ≠ 11) → (∀ (a : Nat) (i : Int), a ≠ 598 → M' a i = M0 a i) → (∀ (i : Int), i ≠ 73 → i ≠ 74 → i ≠ 75 → i ≠ 76 → i ≠ 77 → i ≠ 78 → i ≠ 79 → M' 598 i = M0 598 i) → Q none M') : ∀ (nM : Nat) (M : jm) , RI M → RH M → RF M → (∀ (a : Nat) (i : Int), a ≠ 598 → M a i = M0 a i) → (∀ (i : Int), i ≠ 73 → i ≠ 74 → i ≠ 75 → i ≠ 76 → i ≠ 77 → i ≠ 78 → i ≠ 79 → M 598 i = M0 598 i) → M 598 73 ≤ M 598 72 → M0 598 73 ≤ M 598 75 ∧ M 598 75 ≤ M 598 73 → 0 ≤ M0 598 74 → (M 598 75 < M 598 73 ∨ (M 598 73 < M 598 72 ∧ 97 ≤ M 651 (M 598 73) ∧ M 651 (M 598 73) ≤ 122)) → 1600 - M 598 73 ≤ nM → jr A 1 xm_344 104 [(0, .ref (598))] [] M Q := by
  intro nM
  induction nM using Nat.strongRecOn with
  | ind nM ih =>
    intro M  hI_M hH_M hS_M hF_M hG_M  hy0 hy1 hy2 hy3 hm
    obtain ⟨a0, ha0⟩ : ∃ z, M 598 73 = z := ⟨_, rfl⟩
    rw [ha0] at hy3
    have ba : (0 : Int) ≤ a0 ∧ a0 ≤ 1600 := by rw [← ha0]; exact hI_M 598 73 (Nat.le_of_ble_eq_true rfl)
    refine jr.aload_n rfl rfl ?_
    refine jr.getf (i := 73) (x := a0) (v := .int (Int32.ofInt (a0))) rfl rfl (nlt rfl) rfl (nlt rfl) rfl rfl ha0 rfl ?_
    refine jr.aload_n rfl rfl ?_
    obtain ⟨v1, e1⟩ : ∃ z, M 598 72 = z := ⟨_, rfl⟩
    have b1 : 0 ≤ v1 ∧ v1 ≤ 1600 := by rw [← e1]; exact hI_M 598 72 (Nat.le_of_ble_eq_true rfl)
    refine jr.getf (i := 72) (x := v1) (v := .int (Int32.ofInt (v1))) rfl rfl (nlt rfl) rfl (nlt rfl) rfl rfl e1 rfl ?_
    refine jr.icmp_ge rfl rfl (by first | (refine rgb (by assumption) ?_; exact rfl) | omega) (by first | (refine rgb (by assumption) ?_; exact rfl) | omega) (fun h112 => ?_) (fun h112 => ?_)
    · refine jr.aload_n rfl rfl ?_
      refine jr.aload_n rfl rfl ?_
      refine jr.getf (i := 73) (x := a0) (v := .int (Int32.ofInt (a0))) rfl rfl (nlt rfl) rfl (nlt rfl) rfl rfl ha0 rfl ?_
      refine jr.aload_n rfl rfl ?_
      obtain ⟨v2, e2⟩ : ∃ z, M 598 75 = z := ⟨_, rfl⟩
      have b2 : 0 ≤ v2 ∧ v2 ≤ 1600 := by rw [← e2]; exact hI_M 598 75 (Nat.le_of_ble_eq_true rfl)
      refine jr.getf (i := 75) (x := v2) (v := .int (Int32.ofInt (v2))) rfl rfl (nlt rfl) rfl (nlt rfl) rfl rfl e2 rfl ?_
      refine jr.isub rfl ?_
      refine jr.bipush rfl (jbp _ (nlt rfl)) ?_
      refine jr.icmp_le rfl rfl (by first | (refine rgb (by assumption) ?_; exact rfl) | omega) (rgl rfl) (fun h200 => ?_) (fun h200 => ?_)
      · refine jr.iconst rfl ?_
        refine jr.putf (i := 74) (x := 1) rfl rfl (nlt rfl) rfl (nlt rfl) rfl rfl rfl rfl rfl ?_
        refine jr.iconst rfl ?_
        refine jr.istore_n (ls' := [_, _]) rfl (nlt rfl) rfl ?_
        refine jr.pick (ls := [_, _]) [0, 1] rfl rfl ?_
        exact r_next_L213 q 69 (ju M 598 74 1) 0 (RI.u hI_M (a := 598) (i := 74) (show (0 : Int) ≤ _ ∧ _ ≤ (4 : Int) from by omega)) (RH.o hH_M (by decide) (by decide) (by decide)) (RF.o hS_M (by decide) (by decide))  (fun a i f598 => ((ju_c _ _ f598).trans (hF_M a i f598))) (fun i g73 g74 g75 g76 g77 g78 g79 => ((ju_i _ _ g74).trans (hG_M i g73 g74 g75 g76 g77 g78 g79))) (by omega) (by rw [((ju_i _ _ (zne (by decide))).trans ha0), ((ju_i _ _ (zne (by decide))).trans e1)] <;> omega) (by rw [((ju_i _ _ (zne (by decide))).trans ha0)] <;> omega) (by omega) (by rw [(ju_same _ _ _ _)] <;> omega) (by omega)
      · refine jr.iconst rfl ?_
        refine jr.goto rfl rfl ?_
        refine jr.putf (i := 74) (x := 4) rfl rfl (nlt rfl) rfl (nlt rfl) rfl rfl rfl rfl rfl ?_
        refine jr.iconst rfl ?_
        refine jr.istore_n (ls' := [_, _]) rfl (nlt rfl) rfl ?_
        refine jr.pick (ls := [_, _]) [0, 1] rfl rfl ?_
        exact r_next_L213 q 69 (ju M 598 74 4) 0 (RI.u hI_M (a := 598) (i := 74) (show (0 : Int) ≤ _ ∧ _ ≤ (4 : Int) from by omega)) (RH.o hH_M (by decide) (by decide) (by decide)) (RF.o hS_M (by decide) (by decide))  (fun a i f598 => ((ju_c _ _ f598).trans (hF_M a i f598))) (fun i g73 g74 g75 g76 g77 g78 g79 => ((ju_i _ _ g74).trans (hG_M i g73 g74 g75 g76 g77 g78 g79))) (by omega) (by rw [((ju_i _ _ (zne (by decide))).trans ha0), ((ju_i _ _ (zne (by decide))).trans e1)] <;> omega) (by rw [((ju_i _ _ (zne (by decide))).trans ha0)] <;> omega) (by omega) (by rw [(ju_same _ _ _ _)] <;> omega) (by omega)
    · refine jr.aload_n rfl rfl ?_
      refine jr.getf (i := 71) (v := .ref 651) rfl rfl (nlt rfl) rfl (nlt rfl) rfl rfl rfl rfl ?_
      refine jr.aload_n rfl rfl ?_
      refine jr.getf (i := 73) (x := a0) (v := .int (Int32.ofInt (a0))) rfl rfl (nlt rfl) rfl (nlt rfl) rfl rfl ha0 rfl ?_
      obtain ⟨v3, e3⟩ : ∃ z, M 651 a0 = z := ⟨_, rfl⟩
      have b3 : 0 ≤ v3 ∧ v3 ≤ 255 := by rw [← e3]; exact (by have q := hI_M 651 a0 (Nat.le_of_ble_eq_true rfl); rw [xri_row rfl rfl] at q; exact q)
      refine jr.iald (i := a0) (x := v3) rfl (nlt rfl) rfl (Nat.le_of_ble_eq_true rfl) (by omega) (by omega) e3 ?_
      refine jr_s rfl rfl (Or.inl rfl) ⟨Nat.le_of_ble_eq_true rfl, Nat.le_of_ble_eq_true rfl⟩ rfl rfl (jc.deep (c_isLetter  (by omega) (fun t124_0 t124_1 => ?_) (fun f124_0 => ?_)) (Nat.le_of_ble_eq_true rfl))
      · refine jr.if_eq rfl rfl (by first | exact rgl rfl | omega) (fun h => absurd h (by decide)) (fun _ => ?_)
        refine jr.aload_n rfl rfl ?_
        refine jr.aload_n rfl rfl ?_
        refine jr.getf (i := 73) (x := a0) (v := .int (Int32.ofInt (a0))) rfl rfl (nlt rfl) rfl (nlt rfl) rfl rfl ha0 rfl ?_
        refine jr.aload_n rfl rfl ?_
        obtain ⟨v4, e4⟩ : ∃ z, M 598 75 = z := ⟨_, rfl⟩
        have b4 : 0 ≤ v4 ∧ v4 ≤ 1600 := by rw [← e4]; exact hI_M 598 75 (Nat.le_of_ble_eq_true rfl)
        refine jr.getf (i := 75) (x := v4) (v := .int (Int32.ofInt (v4))) rfl rfl (nlt rfl) rfl (nlt rfl) rfl rfl e4 rfl ?_
        refine jr.isub rfl ?_
        refine jr.bipush rfl (jbp _ (nlt rfl)) ?_
        refine jr.icmp_ge rfl rfl (by first | (refine rgb (by assumption) ?_; exact rfl) | omega) (rgl rfl) (fun h142 => ?_) (fun h142 => ?_)
        · refine jr.aload_n rfl rfl ?_
          obtain ⟨v5, e5⟩ : ∃ z, M 598 77 = z := ⟨_, rfl⟩
          have b5 : (-9223372036854775808) ≤ v5 ∧ v5 ≤ 9223372036854775807 := by rw [← e5]; exact hI_M 598 77 (Nat.le_of_ble_eq_true rfl)
          refine jr.getf (i := 77) (x := v5) (v := .long (Int64.ofInt (v5))) rfl rfl (nlt rfl) rfl (nlt rfl) rfl rfl e5 rfl ?_
          refine jr.putf (i := 77) (x := v5) rfl rfl (nlt rfl) rfl (nlt rfl) rfl rfl rfl rfl rfl ?_
          refine jr.aload_n rfl rfl ?_
          refine jr.dup rfl rfl ?_
          refine jr.getf (i := 73) (x := a0) (v := .int (Int32.ofInt (a0))) rfl rfl (nlt rfl) rfl (nlt rfl) rfl rfl ((ju_i _ _ (zne (by decide))).trans ha0) rfl ?_
          refine jr.iconst rfl ?_
          refine jr.iadd rfl ?_
          refine jr.putf (i := 73) (x := (a0 + 1)) rfl rfl (nlt rfl) rfl (nlt rfl) rfl rfl rfl rfl rfl ?_
          refine jr.goto rfl rfl ?_
          refine jr.pick (ls := [_]) [0] rfl rfl ?_
          exact ih (nM - 1) (by omega) (ju (ju M 598 77 v5) 598 73 (a0 + 1))  (RI.u (RI.u hI_M (a := 598) (i := 77) (show (-9223372036854775808 : Int) ≤ _ ∧ _ ≤ (9223372036854775807 : Int) from by omega)) (a := 598) (i := 73) (show (0 : Int) ≤ _ ∧ _ ≤ (1600 : Int) from by omega)) (RH.o (RH.o hH_M (by decide) (by decide) (by decide)) (by decide) (by decide) (by decide)) (RF.o (RF.o hS_M (by decide) (by decide)) (by decide) (by decide))  (fun a i f598 => ((ju_c _ _ f598).trans ((ju_c _ _ f598).trans (hF_M a i f598)))) (fun i g73 g74 g75 g76 g77 g78 g79 => ((ju_i _ _ g73).trans ((ju_i _ _ g77).trans (hG_M i g73 g74 g75 g76 g77 g78 g79))))  (by rw [(ju_same _ _ _ _), ((ju_i _ _ (zne (by decide))).trans ((ju_i _ _ (zne (by decide))).trans e1))] <;> omega) (by rw [((ju_i _ _ (zne (by decide))).trans ((ju_i _ _ (zne (by decide))).trans e4)), (ju_same _ _ _ _)] <;> omega) (by omega) (Or.inl (by rw [(ju_same _ _ _ _), ((ju_i _ _ (zne (by decide))).trans ((ju_i _ _ (zne (by decide))).trans e4))]; omega)) (by rw [(ju_same _ _ _ _)]; omega)
        · refine jr.aload_n rfl rfl ?_
          obtain ⟨v6, e6⟩ : ∃ z, M 598 77 = z := ⟨_, rfl⟩
          have b6 : (-9223372036854775808) ≤ v6 ∧ v6 ≤ 9223372036854775807 := by rw [← e6]; exact hI_M 598 77 (Nat.le_of_ble_eq_true rfl)
          refine jr.getf (i := 77) (x := v6) (v := .long (Int64.ofInt (v6))) rfl rfl (nlt rfl) rfl (nlt rfl) rfl rfl e6 rfl ?_
          refine jr.iconst rfl ?_
          refine jr.lshl rfl ?_
          have b7 : -9223372036854775808 ≤ jl_shl v6 5 ∧ jl_shl v6 5 ≤ 9223372036854775807 := jbl_any _
          generalize jl_shl v6 5 = v7 at b7 ⊢
          refine jr.aload_n rfl rfl ?_
          refine jr.getf (i := 71) (v := .ref 651) rfl rfl (nlt rfl) rfl (nlt rfl) rfl rfl rfl rfl ?_
          refine jr.aload_n rfl rfl ?_
          refine jr.getf (i := 73) (x := a0) (v := .int (Int32.ofInt (a0))) rfl rfl (nlt rfl) rfl (nlt rfl) rfl rfl ha0 rfl ?_
          refine jr.iald (i := a0) (x := v3) rfl (nlt rfl) rfl (Nat.le_of_ble_eq_true rfl) (by omega) (by omega) e3 ?_
          refine jr.bipush rfl (jbp _ (nlt rfl)) ?_
          refine jr.isub rfl ?_
          refine jr.i2l rfl (by omega) ?_
          refine jr.lor rfl ?_
          have b8 : -9223372036854775808 ≤ jl_or v7 (v3 - 96) ∧ jl_or v7 (v3 - 96) ≤ 9223372036854775807 := jbl_any _
          generalize jl_or v7 (v3 - 96) = v8 at b8 ⊢
          refine jr.goto rfl rfl ?_
          refine jr.putf (i := 77) (x := v8) rfl rfl (nlt rfl) rfl (nlt rfl) rfl rfl rfl rfl rfl ?_
          refine jr.aload_n rfl rfl ?_
          refine jr.dup rfl rfl ?_
          refine jr.getf (i := 73) (x := a0) (v := .int (Int32.ofInt (a0))) rfl rfl (nlt rfl) rfl (nlt rfl) rfl rfl ((ju_i _ _ (zne (by decide))).trans ha0) rfl ?_
          refine jr.iconst rfl ?_
          refine jr.iadd rfl ?_
          refine jr.putf (i := 73) (x := (a0 + 1)) rfl rfl (nlt rfl) rfl (nlt rfl) rfl rfl rfl rfl rfl ?_
          refine jr.goto rfl rfl ?_
          refine jr.pick (ls := [_]) [0] rfl rfl ?_
          exact ih (nM - 1) (by omega) (ju (ju M 598 77 v8) 598 73 (a0 + 1))  (RI.u (RI.u hI_M (a := 598) (i := 77) (show (-9223372036854775808 : Int) ≤ _ ∧ _ ≤ (9223372036854775807 : Int) from by omega)) (a := 598) (i := 73) (show (0 : Int) ≤ _ ∧ _ ≤ (1600 : Int) from by omega)) (RH.o (RH.o hH_M (by decide) (by decide) (by decide)) (by decide) (by decide) (by decide)) (RF.o (RF.o hS_M (by decide) (by decide)) (by decide) (by decide))  (fun a i f598 => ((ju_c _ _ f598).trans ((ju_c _ _ f598).trans (hF_M a i f598)))) (fun i g73 g74 g75 g76 g77 g78 g79 => ((ju_i _ _ g73).trans ((ju_i _ _ g77).trans (hG_M i g73 g74 g75 g76 g77 g78 g79))))  (by rw [(ju_same _ _ _ _), ((ju_i _ _ (zne (by decide))).trans ((ju_i _ _ (zne (by decide))).trans e1))] <;> omega) (by rw [((ju_i _ _ (zne (by decide))).trans ((ju_i _ _ (zne (by decide))).trans e4)), (ju_same _ _ _ _)] <;> omega) (by omega) (Or.inl (by rw [(ju_same _ _ _ _), ((ju_i _ _ (zne (by decide))).trans ((ju_i _ _ (zne (by decide))).trans e4))]; omega)) (by rw [(ju_same _ _ _ _)]; omega)
      · refine jr.if_eq rfl rfl (by first | exact rgl rfl | omega) (fun _ => ?_) (fun h => absurd (by decide) h)
        refine jr.aload_n rfl rfl ?_
        refine jr.aload_n rfl rfl ?_
        refine jr.getf (i := 73) (x := a0) (v := .int (Int32.ofInt (a0))) rfl rfl (nlt rfl) rfl (nlt rfl) rfl rfl ha0 rfl ?_
        refine jr.aload_n rfl rfl ?_
        obtain ⟨v9, e9⟩ : ∃ z, M 598 75 = z := ⟨_, rfl⟩
        have b9 : 0 ≤ v9 ∧ v9 ≤ 1600 := by rw [← e9]; exact hI_M 598 75 (Nat.le_of_ble_eq_true rfl)
        refine jr.getf (i := 75) (x := v9) (v := .int (Int32.ofInt (v9))) rfl rfl (nlt rfl) rfl (nlt rfl) rfl rfl e9 rfl ?_
        refine jr.isub rfl ?_
        refine jr.bipush rfl (jbp _ (nlt rfl)) ?_
        refine jr.icmp_le rfl rfl (by first | (refine rgb (by assumption) ?_; exact rfl) | omega) (rgl rfl) (fun h200 => ?_) (fun h200 => ?_)
        · refine jr.iconst rfl ?_
          refine jr.putf (i := 74) (x := 1) rfl rfl (nlt rfl) rfl (nlt rfl) rfl rfl rfl rfl rfl ?_
          refine jr.iconst rfl ?_
          refine jr.istore_n (ls' := [_, _]) rfl (nlt rfl) rfl ?_
          refine jr.pick (ls := [_, _]) [0, 1] rfl rfl ?_
          exact r_next_L213 q 69 (ju M 598 74 1) 0 (RI.u hI_M (a := 598) (i := 74) (show (0 : Int) ≤ _ ∧ _ ≤ (4 : Int) from by omega)) (RH.o hH_M (by decide) (by decide) (by decide)) (RF.o hS_M (by decide) (by decide))  (fun a i f598 => ((ju_c _ _ f598).trans (hF_M a i f598))) (fun i g73 g74 g75 g76 g77 g78 g79 => ((ju_i _ _ g74).trans (hG_M i g73 g74 g75 g76 g77 g78 g79))) (by omega) (by rw [((ju_i _ _ (zne (by decide))).trans ha0), ((ju_i _ _ (zne (by decide))).trans e1)] <;> omega) (by rw [((ju_i _ _ (zne (by decide))).trans ha0)] <;> omega) (by omega) (by rw [(ju_same _ _ _ _)] <;> omega) (by omega)
        · refine jr.iconst rfl ?_
          refine jr.goto rfl rfl ?_
          refine jr.putf (i := 74) (x := 4) rfl rfl (nlt rfl) rfl (nlt rfl) rfl rfl rfl rfl rfl ?_
          refine jr.iconst rfl ?_
          refine jr.istore_n (ls' := [_, _]) rfl (nlt rfl) rfl ?_
          refine jr.pick (ls := [_, _]) [0, 1] rfl rfl ?_
          exact r_next_L213 q 69 (ju M 598 74 4) 0 (RI.u hI_M (a := 598) (i := 74) (show (0 : Int) ≤ _ ∧ _ ≤ (4 : Int) from by omega)) (RH.o hH_M (by decide) (by decide) (by decide)) (RF.o hS_M (by decide) (by decide))  (fun a i f598 => ((ju_c _ _ f598).trans (hF_M a i f598))) (fun i g73 g74 g75 g76 g77 g78 g79 => ((ju_i _ _ g74).trans (hG_M i g73 g74 g75 g76 g77 g78 g79))) (by omega) (by rw [((ju_i _ _ (zne (by decide))).trans ha0), ((ju_i _ _ (zne (by decide))).trans e1)] <;> omega) (by rw [((ju_i _ _ (zne (by decide))).trans ha0)] <;> omega) (by omega) (by rw [(ju_same _ _ _ _)] <;> omega) (by omega)
theorem r_next_L0 {A : Nat → Option (Nat × (Nat → Int32))} {Q : Option Value → jm → Prop} {M0 : jm} (q : ∀ (M' : jm), RI M' → RH M' → RF M' → M' 598 73 ≤ M' 598 72 → M0 598 73 ≤ M' 598 73 → TK M' ≤ TK M0 → (M0 598 74 ≠ 0 → TK M' < TK M0) → (M' 598 74 = 3 → M' 598 79 ≠ 10 ∧ M' 598 79 ≠ 11) → (∀ (a : Nat) (i : Int), a ≠ 598 → M' a i = M0 a i) → (∀ (i : Int), i ≠ 73 → i ≠ 74 → i ≠ 75 → i ≠ 76 → i ≠ 77 → i ≠ 78 → i ≠ 79 → M' 598 i = M0 598 i) → Q none M') : ∀ (nM : Nat) (M : jm) , RI M → RH M → RF M → (∀ (a : Nat) (i : Int), a ≠ 598 → M a i = M0 a i) → (∀ (i : Int), i ≠ 73 → i ≠ 74 → i ≠ 75 → i ≠ 76 → i ≠ 77 → i ≠ 78 → i ≠ 79 → M 598 i = M0 598 i) → M 598 73 ≤ M 598 72 → M0 598 73 ≤ M 598 73 → 0 ≤ M0 598 74 → 1600 - M 598 73 ≤ nM → jr A 1 xm_344 0 [(0, .ref (598))] [] M Q := by
  intro nM
  induction nM using Nat.strongRecOn with
  | ind nM ih =>
    intro M  hI_M hH_M hS_M hF_M hG_M  hy0 hy1 hy2 hm
    refine jr.aload_n rfl rfl ?_
    obtain ⟨v1, e1⟩ : ∃ z, M 598 73 = z := ⟨_, rfl⟩
    have b1 : 0 ≤ v1 ∧ v1 ≤ 1600 := by rw [← e1]; exact hI_M 598 73 (Nat.le_of_ble_eq_true rfl)
    refine jr.getf (i := 73) (x := v1) (v := .int (Int32.ofInt (v1))) rfl rfl (nlt rfl) rfl (nlt rfl) rfl rfl e1 rfl ?_
    refine jr.aload_n rfl rfl ?_
    obtain ⟨v2, e2⟩ : ∃ z, M 598 72 = z := ⟨_, rfl⟩
    have b2 : 0 ≤ v2 ∧ v2 ≤ 1600 := by rw [← e2]; exact hI_M 598 72 (Nat.le_of_ble_eq_true rfl)
    refine jr.getf (i := 72) (x := v2) (v := .int (Int32.ofInt (v2))) rfl rfl (nlt rfl) rfl (nlt rfl) rfl rfl e2 rfl ?_
    refine jr.icmp_ge rfl rfl (by first | (refine rgb (by assumption) ?_; exact rfl) | omega) (by first | (refine rgb (by assumption) ?_; exact rfl) | omega) (fun h8 => ?_) (fun h8 => ?_)
    · refine jr.aload_n rfl rfl ?_
      refine jr.aload_n rfl rfl ?_
      refine jr.getf (i := 73) (x := v1) (v := .int (Int32.ofInt (v1))) rfl rfl (nlt rfl) rfl (nlt rfl) rfl rfl e1 rfl ?_
      refine jr.putf (i := 75) (x := v1) rfl rfl (nlt rfl) rfl (nlt rfl) rfl rfl rfl rfl rfl ?_
      refine jr.aload_n rfl rfl ?_
      refine jr.iconst rfl ?_
      refine jr.putf (i := 74) (x := 0) rfl rfl (nlt rfl) rfl (nlt rfl) rfl rfl rfl rfl rfl ?_
      refine jr.aload_n rfl rfl ?_
      refine jr.iconst rfl ?_
      refine jr.putf (i := 76) (x := (-1)) rfl rfl (nlt rfl) rfl (nlt rfl) rfl rfl rfl rfl rfl ?_
      refine jr.aload_n rfl rfl ?_
      refine jr.getf (i := 73) (x := v1) (v := .int (Int32.ofInt (v1))) rfl rfl (nlt rfl) rfl (nlt rfl) rfl rfl ((ju_i _ _ (zne (by decide))).trans ((ju_i _ _ (zne (by decide))).trans ((ju_i _ _ (zne (by decide))).trans e1))) rfl ?_
      refine jr.aload_n rfl rfl ?_
      refine jr.getf (i := 72) (x := v2) (v := .int (Int32.ofInt (v2))) rfl rfl (nlt rfl) rfl (nlt rfl) rfl rfl ((ju_i _ _ (zne (by decide))).trans ((ju_i _ _ (zne (by decide))).trans ((ju_i _ _ (zne (by decide))).trans e2))) rfl ?_
      refine jr.icmp_ne rfl rfl (by first | (refine rgb (by assumption) ?_; exact rfl) | omega) (by first | (refine rgb (by assumption) ?_; exact rfl) | omega) (fun h78 => ?_) (fun h78 => ?_)
      · refine jr.aload_n rfl rfl ?_
        refine jr.getf (i := 71) (v := .ref 651) rfl rfl (nlt rfl) rfl (nlt rfl) rfl rfl rfl rfl ?_
        refine jr.aload_n rfl rfl ?_
        refine jr.getf (i := 73) (x := v1) (v := .int (Int32.ofInt (v1))) rfl rfl (nlt rfl) rfl (nlt rfl) rfl rfl ((ju_i _ _ (zne (by decide))).trans ((ju_i _ _ (zne (by decide))).trans ((ju_i _ _ (zne (by decide))).trans e1))) rfl ?_
        obtain ⟨v3, e3⟩ : ∃ z, M 651 v1 = z := ⟨_, rfl⟩
        have b3 : 0 ≤ v3 ∧ v3 ≤ 255 := by rw [← e3]; exact (by have q := hI_M 651 v1 (Nat.le_of_ble_eq_true rfl); rw [xri_row rfl rfl] at q; exact q)
        refine jr.iald (i := v1) (x := v3) rfl (nlt rfl) rfl (Nat.le_of_ble_eq_true rfl) (by omega) (by omega) ((ju_c _ _ (by decide)).trans ((ju_c _ _ (by decide)).trans ((ju_c _ _ (by decide)).trans e3))) ?_
        refine jr.istore_n (ls' := [_, _]) rfl (nlt rfl) rfl ?_
        refine jr.iload_n rfl rfl ?_
        refine jr_s rfl rfl (Or.inl rfl) ⟨Nat.le_of_ble_eq_true rfl, Nat.le_of_ble_eq_true rfl⟩ rfl rfl (jc.deep (c_isLetter  (by omega) (fun t93_0 t93_1 => ?_) (fun f93_0 => ?_)) (Nat.le_of_ble_eq_true rfl))
        · refine jr.if_eq rfl rfl (by first | exact rgl rfl | omega) (fun h => absurd h (by decide)) (fun _ => ?_)
          refine jr.aload_n rfl rfl ?_
          refine jr.lconst (x := 0) rfl (by decide) ?_
          refine jr.putf (i := 77) (x := 0) rfl rfl (nlt rfl) rfl (nlt rfl) rfl rfl rfl rfl rfl ?_
          refine jr.pick (ls := [_]) [1] rfl rfl ?_
          exact r_next_L104 q 1600 (ju (ju (ju (ju M 598 75 v1) 598 74 0) 598 76 (-1)) 598 77 0)  (RI.u (RI.u (RI.u (RI.u hI_M (a := 598) (i := 75) (show (0 : Int) ≤ _ ∧ _ ≤ (1600 : Int) from by omega)) (a := 598) (i := 74) (show (0 : Int) ≤ _ ∧ _ ≤ (4 : Int) from by omega)) (a := 598) (i := 76) (show (-1 : Int) ≤ _ ∧ _ ≤ (68 : Int) from by omega)) (a := 598) (i := 77) (show (-9223372036854775808 : Int) ≤ _ ∧ _ ≤ (9223372036854775807 : Int) from by omega)) (RH.o (RH.o (RH.o (RH.o hH_M (by decide) (by decide) (by decide)) (by decide) (by decide) (by decide)) (by decide) (by decide) (by decide)) (by decide) (by decide) (by decide)) (RF.o (RF.o (RF.o (RF.o hS_M (by decide) (by decide)) (by decide) (by decide)) (by decide) (by decide)) (by decide) (by decide))  (fun a i f598 => ((ju_c _ _ f598).trans ((ju_c _ _ f598).trans ((ju_c _ _ f598).trans ((ju_c _ _ f598).trans (hF_M a i f598)))))) (fun i g73 g74 g75 g76 g77 g78 g79 => ((ju_i _ _ g77).trans ((ju_i _ _ g76).trans ((ju_i _ _ g74).trans ((ju_i _ _ g75).trans (hG_M i g73 g74 g75 g76 g77 g78 g79))))))  (by rw [((ju_i _ _ (zne (by decide))).trans ((ju_i _ _ (zne (by decide))).trans ((ju_i _ _ (zne (by decide))).trans ((ju_i _ _ (zne (by decide))).trans e1)))), ((ju_i _ _ (zne (by decide))).trans ((ju_i _ _ (zne (by decide))).trans ((ju_i _ _ (zne (by decide))).trans ((ju_i _ _ (zne (by decide))).trans e2))))] <;> omega) (by rw [((ju_i _ _ (zne (by decide))).trans ((ju_i _ _ (zne (by decide))).trans ((ju_i _ _ (zne (by decide))).trans (ju_same _ _ _ _)))), ((ju_i _ _ (zne (by decide))).trans ((ju_i _ _ (zne (by decide))).trans ((ju_i _ _ (zne (by decide))).trans ((ju_i _ _ (zne (by decide))).trans e1))))] <;> omega) (by omega) (by rw [((ju_i _ _ (zne (by decide))).trans ((ju_i _ _ (zne (by decide))).trans ((ju_i _ _ (zne (by decide))).trans ((ju_i _ _ (zne (by decide))).trans e1)))), ((ju_i _ _ (zne (by decide))).trans ((ju_i _ _ (zne (by decide))).trans ((ju_i _ _ (zne (by decide))).trans (ju_same _ _ _ _)))), ((ju_i _ _ (zne (by decide))).trans ((ju_i _ _ (zne (by decide))).trans ((ju_i _ _ (zne (by decide))).trans ((ju_i _ _ (zne (by decide))).trans e2)))), ((ju_c _ _ (by decide)).trans ((ju_c _ _ (by decide)).trans ((ju_c _ _ (by decide)).trans ((ju_c _ _ (by decide)).trans e3))))]; omega) (by rw [((ju_i _ _ (zne (by decide))).trans ((ju_i _ _ (zne (by decide))).trans ((ju_i _ _ (zne (by decide))).trans ((ju_i _ _ (zne (by decide))).trans e1))))]; omega)
        · refine jr.if_eq rfl rfl (by first | exact rgl rfl | omega) (fun _ => ?_) (fun h => absurd (by decide) h)
          refine jr.iload_n rfl rfl ?_
          refine jr_s rfl rfl (Or.inl rfl) ⟨Nat.le_of_ble_eq_true rfl, Nat.le_of_ble_eq_true rfl⟩ rfl rfl (jc.deep (c_isDigit  (by omega) (fun t255_0 t255_1 => ?_) (fun f255_0 => ?_)) (Nat.le_of_ble_eq_true rfl))
          · refine jr.if_eq rfl rfl (by first | exact rgl rfl | omega) (fun h => absurd h (by decide)) (fun _ => ?_)
            refine jr.aload_n rfl rfl ?_
            refine jr.lconst (x := 0) rfl (by decide) ?_
            refine jr.putf (i := 78) (x := 0) rfl rfl (nlt rfl) rfl (nlt rfl) rfl rfl rfl rfl rfl ?_
            refine jr.pick (ls := [_]) [1] rfl rfl ?_
            exact r_next_L266 q 1600 (ju (ju (ju (ju M 598 75 v1) 598 74 0) 598 76 (-1)) 598 78 0)  (RI.u (RI.u (RI.u (RI.u hI_M (a := 598) (i := 75) (show (0 : Int) ≤ _ ∧ _ ≤ (1600 : Int) from by omega)) (a := 598) (i := 74) (show (0 : Int) ≤ _ ∧ _ ≤ (4 : Int) from by omega)) (a := 598) (i := 76) (show (-1 : Int) ≤ _ ∧ _ ≤ (68 : Int) from by omega)) (a := 598) (i := 78) (show (-9223372036854775808 : Int) ≤ _ ∧ _ ≤ (9223372036854775807 : Int) from by omega)) (RH.o (RH.o (RH.o (RH.o hH_M (by decide) (by decide) (by decide)) (by decide) (by decide) (by decide)) (by decide) (by decide) (by decide)) (by decide) (by decide) (by decide)) (RF.o (RF.o (RF.o (RF.o hS_M (by decide) (by decide)) (by decide) (by decide)) (by decide) (by decide)) (by decide) (by decide))  (fun a i f598 => ((ju_c _ _ f598).trans ((ju_c _ _ f598).trans ((ju_c _ _ f598).trans ((ju_c _ _ f598).trans (hF_M a i f598)))))) (fun i g73 g74 g75 g76 g77 g78 g79 => ((ju_i _ _ g78).trans ((ju_i _ _ g76).trans ((ju_i _ _ g74).trans ((ju_i _ _ g75).trans (hG_M i g73 g74 g75 g76 g77 g78 g79))))))  (by rw [((ju_i _ _ (zne (by decide))).trans ((ju_i _ _ (zne (by decide))).trans ((ju_i _ _ (zne (by decide))).trans ((ju_i _ _ (zne (by decide))).trans e1)))), ((ju_i _ _ (zne (by decide))).trans ((ju_i _ _ (zne (by decide))).trans ((ju_i _ _ (zne (by decide))).trans ((ju_i _ _ (zne (by decide))).trans e2))))] <;> omega) (by rw [((ju_i _ _ (zne (by decide))).trans ((ju_i _ _ (zne (by decide))).trans ((ju_i _ _ (zne (by decide))).trans (ju_same _ _ _ _)))), ((ju_i _ _ (zne (by decide))).trans ((ju_i _ _ (zne (by decide))).trans ((ju_i _ _ (zne (by decide))).trans ((ju_i _ _ (zne (by decide))).trans e1))))] <;> omega) (by omega) (by rw [((ju_i _ _ (zne (by decide))).trans ((ju_i _ _ (zne (by decide))).trans ((ju_i _ _ (zne (by decide))).trans ((ju_i _ _ (zne (by decide))).trans e1)))), ((ju_i _ _ (zne (by decide))).trans ((ju_i _ _ (zne (by decide))).trans ((ju_i _ _ (zne (by decide))).trans (ju_same _ _ _ _)))), ((ju_i _ _ (zne (by decide))).trans ((ju_i _ _ (zne (by decide))).trans ((ju_i _ _ (zne (by decide))).trans ((ju_i _ _ (zne (by decide))).trans e2)))), ((ju_c _ _ (by decide)).trans ((ju_c _ _ (by decide)).trans ((ju_c _ _ (by decide)).trans ((ju_c _ _ (by decide)).trans e3))))]; omega) (by rw [((ju_i _ _ (zne (by decide))).trans ((ju_i _ _ (zne (by decide))).trans ((ju_i _ _ (zne (by decide))).trans ((ju_i _ _ (zne (by decide))).trans e1))))]; omega)
          · refine jr.if_eq rfl rfl (by first | exact rgl rfl | omega) (fun _ => ?_) (fun h => absurd (by decide) h)
            refine jr.aload_n rfl rfl ?_
            refine jr.dup rfl rfl ?_
            refine jr.getf (i := 73) (x := v1) (v := .int (Int32.ofInt (v1))) rfl rfl (nlt rfl) rfl (nlt rfl) rfl rfl ((ju_i _ _ (zne (by decide))).trans ((ju_i _ _ (zne (by decide))).trans ((ju_i _ _ (zne (by decide))).trans e1))) rfl ?_
            refine jr.iconst rfl ?_
            refine jr.iadd rfl ?_
            refine jr.putf (i := 73) (x := (v1 + 1)) rfl rfl (nlt rfl) rfl (nlt rfl) rfl rfl rfl rfl rfl ?_
            refine jr.aload_n rfl rfl ?_
            refine jr.iload_n rfl rfl ?_
            refine jr.putf (i := 79) (x := v3) rfl rfl (nlt rfl) rfl (nlt rfl) rfl rfl rfl rfl rfl ?_
            refine jr.aload_n rfl rfl ?_
            refine jr.iload_n rfl rfl ?_
            refine jr_s rfl rfl (Or.inl rfl) ⟨Nat.le_of_ble_eq_true rfl, Nat.le_of_ble_eq_true rfl⟩ rfl rfl (jc.deep (r_isSignByte (RI.u (RI.u (RI.u (RI.u (RI.u hI_M (a := 598) (i := 75) (show (0 : Int) ≤ _ ∧ _ ≤ (1600 : Int) from by omega)) (a := 598) (i := 74) (show (0 : Int) ≤ _ ∧ _ ≤ (4 : Int) from by omega)) (a := 598) (i := 76) (show (-1 : Int) ≤ _ ∧ _ ≤ (68 : Int) from by omega)) (a := 598) (i := 73) (show (0 : Int) ≤ _ ∧ _ ≤ (1600 : Int) from by omega)) (a := 598) (i := 79) (show (0 : Int) ≤ _ ∧ _ ≤ (255 : Int) from by omega)) (RH.o (RH.o (RH.o (RH.o (RH.o hH_M (by decide) (by decide) (by decide)) (by decide) (by decide) (by decide)) (by decide) (by decide) (by decide)) (by decide) (by decide) (by decide)) (by decide) (by decide) (by decide)) (RF.o (RF.o (RF.o (RF.o (RF.o hS_M (by decide) (by decide)) (by decide) (by decide)) (by decide) (by decide)) (by decide) (by decide)) (by decide) (by decide)) (Kp.rfl _) (by omega)  (fun r4 z4 w4_0 => ?_)) (Nat.le_of_ble_eq_true rfl))
            refine jr.if_eq rfl rfl (by first | (refine rgb (by assumption) ?_; exact rfl) | omega) (fun h399 => ?_) (fun h399 => ?_)
            · refine jr.iconst rfl ?_
              refine jr.putf (i := 74) (x := 4) rfl rfl (nlt rfl) rfl (nlt rfl) rfl rfl rfl rfl rfl ?_
              have y5 : (ju (ju (ju (ju (ju (ju M 598 75 v1) 598 74 0) 598 76 (-1)) 598 73 (v1 + 1)) 598 79 v3) 598 74 4) 598 72 = v2 := ((ju_i _ _ (zne (by decide))).trans ((ju_i _ _ (zne (by decide))).trans ((ju_i _ _ (zne (by decide))).trans ((ju_i _ _ (zne (by decide))).trans ((ju_i _ _ (zne (by decide))).trans ((ju_i _ _ (zne (by decide))).trans e2))))))
              have y6 : (ju (ju (ju (ju (ju (ju M 598 75 v1) 598 74 0) 598 76 (-1)) 598 73 (v1 + 1)) 598 79 v3) 598 74 4) 598 73 = v1 + 1 := ((ju_i _ _ (zne (by decide))).trans ((ju_i _ _ (zne (by decide))).trans (ju_same _ _ _ _)))
              have y7 : (ju (ju (ju (ju (ju (ju M 598 75 v1) 598 74 0) 598 76 (-1)) 598 73 (v1 + 1)) 598 79 v3) 598 74 4) 598 74 = 4 := (ju_same _ _ _ _)
              have y8 : (ju (ju (ju (ju (ju (ju M 598 75 v1) 598 74 0) 598 76 (-1)) 598 73 (v1 + 1)) 598 79 v3) 598 74 4) 598 79 = v3 := ((ju_i _ _ (zne (by decide))).trans (ju_same _ _ _ _))
              exact jr.vreturn rfl rfl (q _ (RI.u (RI.u (RI.u (RI.u (RI.u (RI.u hI_M (a := 598) (i := 75) (show (0 : Int) ≤ _ ∧ _ ≤ (1600 : Int) from by omega)) (a := 598) (i := 74) (show (0 : Int) ≤ _ ∧ _ ≤ (4 : Int) from by omega)) (a := 598) (i := 76) (show (-1 : Int) ≤ _ ∧ _ ≤ (68 : Int) from by omega)) (a := 598) (i := 73) (show (0 : Int) ≤ _ ∧ _ ≤ (1600 : Int) from by omega)) (a := 598) (i := 79) (show (0 : Int) ≤ _ ∧ _ ≤ (255 : Int) from by omega)) (a := 598) (i := 74) (show (0 : Int) ≤ _ ∧ _ ≤ (4 : Int) from by omega)) (RH.o (RH.o (RH.o (RH.o (RH.o (RH.o hH_M (by decide) (by decide) (by decide)) (by decide) (by decide) (by decide)) (by decide) (by decide) (by decide)) (by decide) (by decide) (by decide)) (by decide) (by decide) (by decide)) (by decide) (by decide) (by decide)) (RF.o (RF.o (RF.o (RF.o (RF.o (RF.o hS_M (by decide) (by decide)) (by decide) (by decide)) (by decide) (by decide)) (by decide) (by decide)) (by decide) (by decide)) (by decide) (by decide))  (by omega) (by omega) (by unfold TK; omega) (fun q => by unfold TK; omega) (by omega) (fun a i f598 => ((ju_c _ _ f598).trans ((ju_c _ _ f598).trans ((ju_c _ _ f598).trans ((ju_c _ _ f598).trans ((ju_c _ _ f598).trans ((ju_c _ _ f598).trans (hF_M a i f598)))))))) (fun i g73 g74 g75 g76 g77 g78 g79 => ((ju_i _ _ g74).trans ((ju_i _ _ g79).trans ((ju_i _ _ g73).trans ((ju_i _ _ g76).trans ((ju_i _ _ g74).trans ((ju_i _ _ g75).trans (hG_M i g73 g74 g75 g76 g77 g78 g79)))))))))
            · have sx399 : (1 : Int) ≤ r4 := by omega
              clear h399
              refine jr.iconst rfl ?_
              refine jr.goto rfl rfl ?_
              refine jr.putf (i := 74) (x := 3) rfl rfl (nlt rfl) rfl (nlt rfl) rfl rfl rfl rfl rfl ?_
              have y9 : (ju (ju (ju (ju (ju (ju M 598 75 v1) 598 74 0) 598 76 (-1)) 598 73 (v1 + 1)) 598 79 v3) 598 74 3) 598 72 = v2 := ((ju_i _ _ (zne (by decide))).trans ((ju_i _ _ (zne (by decide))).trans ((ju_i _ _ (zne (by decide))).trans ((ju_i _ _ (zne (by decide))).trans ((ju_i _ _ (zne (by decide))).trans ((ju_i _ _ (zne (by decide))).trans e2))))))
              have y10 : (ju (ju (ju (ju (ju (ju M 598 75 v1) 598 74 0) 598 76 (-1)) 598 73 (v1 + 1)) 598 79 v3) 598 74 3) 598 73 = v1 + 1 := ((ju_i _ _ (zne (by decide))).trans ((ju_i _ _ (zne (by decide))).trans (ju_same _ _ _ _)))
              have y11 : (ju (ju (ju (ju (ju (ju M 598 75 v1) 598 74 0) 598 76 (-1)) 598 73 (v1 + 1)) 598 79 v3) 598 74 3) 598 74 = 3 := (ju_same _ _ _ _)
              have y12 : (ju (ju (ju (ju (ju (ju M 598 75 v1) 598 74 0) 598 76 (-1)) 598 73 (v1 + 1)) 598 79 v3) 598 74 3) 598 79 = v3 := ((ju_i _ _ (zne (by decide))).trans (ju_same _ _ _ _))
              exact jr.vreturn rfl rfl (q _ (RI.u (RI.u (RI.u (RI.u (RI.u (RI.u hI_M (a := 598) (i := 75) (show (0 : Int) ≤ _ ∧ _ ≤ (1600 : Int) from by omega)) (a := 598) (i := 74) (show (0 : Int) ≤ _ ∧ _ ≤ (4 : Int) from by omega)) (a := 598) (i := 76) (show (-1 : Int) ≤ _ ∧ _ ≤ (68 : Int) from by omega)) (a := 598) (i := 73) (show (0 : Int) ≤ _ ∧ _ ≤ (1600 : Int) from by omega)) (a := 598) (i := 79) (show (0 : Int) ≤ _ ∧ _ ≤ (255 : Int) from by omega)) (a := 598) (i := 74) (show (0 : Int) ≤ _ ∧ _ ≤ (4 : Int) from by omega)) (RH.o (RH.o (RH.o (RH.o (RH.o (RH.o hH_M (by decide) (by decide) (by decide)) (by decide) (by decide) (by decide)) (by decide) (by decide) (by decide)) (by decide) (by decide) (by decide)) (by decide) (by decide) (by decide)) (by decide) (by decide) (by decide)) (RF.o (RF.o (RF.o (RF.o (RF.o (RF.o hS_M (by decide) (by decide)) (by decide) (by decide)) (by decide) (by decide)) (by decide) (by decide)) (by decide) (by decide)) (by decide) (by decide))  (by omega) (by omega) (by unfold TK; omega) (fun q => by unfold TK; omega) (by omega) (fun a i f598 => ((ju_c _ _ f598).trans ((ju_c _ _ f598).trans ((ju_c _ _ f598).trans ((ju_c _ _ f598).trans ((ju_c _ _ f598).trans ((ju_c _ _ f598).trans (hF_M a i f598)))))))) (fun i g73 g74 g75 g76 g77 g78 g79 => ((ju_i _ _ g74).trans ((ju_i _ _ g79).trans ((ju_i _ _ g73).trans ((ju_i _ _ g76).trans ((ju_i _ _ g74).trans ((ju_i _ _ g75).trans (hG_M i g73 g74 g75 g76 g77 g78 g79)))))))))
      · have y13 : (ju (ju (ju M 598 75 v1) 598 74 0) 598 76 (-1)) 598 72 = v2 := ((ju_i _ _ (zne (by decide))).trans ((ju_i _ _ (zne (by decide))).trans ((ju_i _ _ (zne (by decide))).trans e2)))
        have y14 : (ju (ju (ju M 598 75 v1) 598 74 0) 598 76 (-1)) 598 73 = v1 := ((ju_i _ _ (zne (by decide))).trans ((ju_i _ _ (zne (by decide))).trans ((ju_i _ _ (zne (by decide))).trans e1)))
        have y15 : (ju (ju (ju M 598 75 v1) 598 74 0) 598 76 (-1)) 598 74 = 0 := ((ju_i _ _ (zne (by decide))).trans (ju_same _ _ _ _))
        obtain ⟨v16, e16⟩ : ∃ z, M 598 79 = z := ⟨_, rfl⟩
        have b16 : 0 ≤ v16 ∧ v16 ≤ 255 := by rw [← e16]; exact hI_M 598 79 (Nat.le_of_ble_eq_true rfl)
        have y17 : (ju (ju (ju M 598 75 v1) 598 74 0) 598 76 (-1)) 598 79 = v16 := ((ju_i _ _ (zne (by decide))).trans ((ju_i _ _ (zne (by decide))).trans ((ju_i _ _ (zne (by decide))).trans e16)))
        exact jr.vreturn rfl rfl (q _ (RI.u (RI.u (RI.u hI_M (a := 598) (i := 75) (show (0 : Int) ≤ _ ∧ _ ≤ (1600 : Int) from by omega)) (a := 598) (i := 74) (show (0 : Int) ≤ _ ∧ _ ≤ (4 : Int) from by omega)) (a := 598) (i := 76) (show (-1 : Int) ≤ _ ∧ _ ≤ (68 : Int) from by omega)) (RH.o (RH.o (RH.o hH_M (by decide) (by decide) (by decide)) (by decide) (by decide) (by decide)) (by decide) (by decide) (by decide)) (RF.o (RF.o (RF.o hS_M (by decide) (by decide)) (by decide) (by decide)) (by decide) (by decide))  (by omega) (by omega) (by unfold TK; omega) (fun q => by unfold TK; omega) (by omega) (fun a i f598 => ((ju_c _ _ f598).trans ((ju_c _ _ f598).trans ((ju_c _ _ f598).trans (hF_M a i f598))))) (fun i g73 g74 g75 g76 g77 g78 g79 => ((ju_i _ _ g76).trans ((ju_i _ _ g74).trans ((ju_i _ _ g75).trans (hG_M i g73 g74 g75 g76 g77 g78 g79))))))
    · refine jr.aload_n rfl rfl ?_
      refine jr.getf (i := 71) (v := .ref 651) rfl rfl (nlt rfl) rfl (nlt rfl) rfl rfl rfl rfl ?_
      refine jr.aload_n rfl rfl ?_
      refine jr.getf (i := 73) (x := v1) (v := .int (Int32.ofInt (v1))) rfl rfl (nlt rfl) rfl (nlt rfl) rfl rfl e1 rfl ?_
      obtain ⟨v18, e18⟩ : ∃ z, M 651 v1 = z := ⟨_, rfl⟩
      have b18 : 0 ≤ v18 ∧ v18 ≤ 255 := by rw [← e18]; exact (by have q := hI_M 651 v1 (Nat.le_of_ble_eq_true rfl); rw [xri_row rfl rfl] at q; exact q)
      refine jr.iald (i := v1) (x := v18) rfl (nlt rfl) rfl (Nat.le_of_ble_eq_true rfl) (by omega) (by omega) e18 ?_
      refine jr.bipush rfl (jbp _ (nlt rfl)) ?_
      refine jr.icmp_eq rfl rfl (by first | (refine rgb (by assumption) ?_; exact rfl) | omega) (rgl rfl) (fun h22 => ?_) (fun h22 => ?_)
      · refine jr.aload_n rfl rfl ?_
        refine jr.dup rfl rfl ?_
        refine jr.getf (i := 73) (x := v1) (v := .int (Int32.ofInt (v1))) rfl rfl (nlt rfl) rfl (nlt rfl) rfl rfl e1 rfl ?_
        refine jr.iconst rfl ?_
        refine jr.iadd rfl ?_
        refine jr.putf (i := 73) (x := (v1 + 1)) rfl rfl (nlt rfl) rfl (nlt rfl) rfl rfl rfl rfl rfl ?_
        refine jr.goto rfl rfl ?_
        refine jr.pick (ls := [_]) [0] rfl rfl ?_
        exact ih (nM - 1) (by omega) (ju M 598 73 (v1 + 1))  (RI.u hI_M (a := 598) (i := 73) (show (0 : Int) ≤ _ ∧ _ ≤ (1600 : Int) from by omega)) (RH.o hH_M (by decide) (by decide) (by decide)) (RF.o hS_M (by decide) (by decide))  (fun a i f598 => ((ju_c _ _ f598).trans (hF_M a i f598))) (fun i g73 g74 g75 g76 g77 g78 g79 => ((ju_i _ _ g73).trans (hG_M i g73 g74 g75 g76 g77 g78 g79)))  (by rw [(ju_same _ _ _ _), ((ju_i _ _ (zne (by decide))).trans e2)] <;> omega) (by rw [(ju_same _ _ _ _)] <;> omega) (by omega) (by rw [(ju_same _ _ _ _)]; omega)
      · refine jr.aload_n rfl rfl ?_
        refine jr.getf (i := 71) (v := .ref 651) rfl rfl (nlt rfl) rfl (nlt rfl) rfl rfl rfl rfl ?_
        refine jr.aload_n rfl rfl ?_
        refine jr.getf (i := 73) (x := v1) (v := .int (Int32.ofInt (v1))) rfl rfl (nlt rfl) rfl (nlt rfl) rfl rfl e1 rfl ?_
        refine jr.iald (i := v1) (x := v18) rfl (nlt rfl) rfl (Nat.le_of_ble_eq_true rfl) (by omega) (by omega) e18 ?_
        refine jr.bipush rfl (jbp _ (nlt rfl)) ?_
        refine jr.icmp_ne rfl rfl (by first | (refine rgb (by assumption) ?_; exact rfl) | omega) (rgl rfl) (fun h36 => ?_) (fun h36 => ?_)
        · refine jr.aload_n rfl rfl ?_
          refine jr.aload_n rfl rfl ?_
          refine jr.getf (i := 73) (x := v1) (v := .int (Int32.ofInt (v1))) rfl rfl (nlt rfl) rfl (nlt rfl) rfl rfl e1 rfl ?_
          refine jr.putf (i := 75) (x := v1) rfl rfl (nlt rfl) rfl (nlt rfl) rfl rfl rfl rfl rfl ?_
          refine jr.aload_n rfl rfl ?_
          refine jr.iconst rfl ?_
          refine jr.putf (i := 74) (x := 0) rfl rfl (nlt rfl) rfl (nlt rfl) rfl rfl rfl rfl rfl ?_
          refine jr.aload_n rfl rfl ?_
          refine jr.iconst rfl ?_
          refine jr.putf (i := 76) (x := (-1)) rfl rfl (nlt rfl) rfl (nlt rfl) rfl rfl rfl rfl rfl ?_
          refine jr.aload_n rfl rfl ?_
          refine jr.getf (i := 73) (x := v1) (v := .int (Int32.ofInt (v1))) rfl rfl (nlt rfl) rfl (nlt rfl) rfl rfl ((ju_i _ _ (zne (by decide))).trans ((ju_i _ _ (zne (by decide))).trans ((ju_i _ _ (zne (by decide))).trans e1))) rfl ?_
          refine jr.aload_n rfl rfl ?_
          refine jr.getf (i := 72) (x := v2) (v := .int (Int32.ofInt (v2))) rfl rfl (nlt rfl) rfl (nlt rfl) rfl rfl ((ju_i _ _ (zne (by decide))).trans ((ju_i _ _ (zne (by decide))).trans ((ju_i _ _ (zne (by decide))).trans e2))) rfl ?_
          refine jr.icmp_ne rfl rfl (by first | (refine rgb (by assumption) ?_; exact rfl) | omega) (by first | (refine rgb (by assumption) ?_; exact rfl) | omega) (fun h78 => ?_) (fun h78 => ?_)
          · refine jr.aload_n rfl rfl ?_
            refine jr.getf (i := 71) (v := .ref 651) rfl rfl (nlt rfl) rfl (nlt rfl) rfl rfl rfl rfl ?_
            refine jr.aload_n rfl rfl ?_
            refine jr.getf (i := 73) (x := v1) (v := .int (Int32.ofInt (v1))) rfl rfl (nlt rfl) rfl (nlt rfl) rfl rfl ((ju_i _ _ (zne (by decide))).trans ((ju_i _ _ (zne (by decide))).trans ((ju_i _ _ (zne (by decide))).trans e1))) rfl ?_
            refine jr.iald (i := v1) (x := v18) rfl (nlt rfl) rfl (Nat.le_of_ble_eq_true rfl) (by omega) (by omega) ((ju_c _ _ (by decide)).trans ((ju_c _ _ (by decide)).trans ((ju_c _ _ (by decide)).trans e18))) ?_
            refine jr.istore_n (ls' := [_, _]) rfl (nlt rfl) rfl ?_
            refine jr.iload_n rfl rfl ?_
            refine jr_s rfl rfl (Or.inl rfl) ⟨Nat.le_of_ble_eq_true rfl, Nat.le_of_ble_eq_true rfl⟩ rfl rfl (jc.deep (c_isLetter  (by omega) (fun t93_0 t93_1 => ?_) (fun f93_0 => ?_)) (Nat.le_of_ble_eq_true rfl))
            · refine jr.if_eq rfl rfl (by first | exact rgl rfl | omega) (fun h => absurd h (by decide)) (fun _ => ?_)
              refine jr.aload_n rfl rfl ?_
              refine jr.lconst (x := 0) rfl (by decide) ?_
              refine jr.putf (i := 77) (x := 0) rfl rfl (nlt rfl) rfl (nlt rfl) rfl rfl rfl rfl rfl ?_
              refine jr.pick (ls := [_]) [1] rfl rfl ?_
              exact r_next_L104 q 1600 (ju (ju (ju (ju M 598 75 v1) 598 74 0) 598 76 (-1)) 598 77 0)  (RI.u (RI.u (RI.u (RI.u hI_M (a := 598) (i := 75) (show (0 : Int) ≤ _ ∧ _ ≤ (1600 : Int) from by omega)) (a := 598) (i := 74) (show (0 : Int) ≤ _ ∧ _ ≤ (4 : Int) from by omega)) (a := 598) (i := 76) (show (-1 : Int) ≤ _ ∧ _ ≤ (68 : Int) from by omega)) (a := 598) (i := 77) (show (-9223372036854775808 : Int) ≤ _ ∧ _ ≤ (9223372036854775807 : Int) from by omega)) (RH.o (RH.o (RH.o (RH.o hH_M (by decide) (by decide) (by decide)) (by decide) (by decide) (by decide)) (by decide) (by decide) (by decide)) (by decide) (by decide) (by decide)) (RF.o (RF.o (RF.o (RF.o hS_M (by decide) (by decide)) (by decide) (by decide)) (by decide) (by decide)) (by decide) (by decide))  (fun a i f598 => ((ju_c _ _ f598).trans ((ju_c _ _ f598).trans ((ju_c _ _ f598).trans ((ju_c _ _ f598).trans (hF_M a i f598)))))) (fun i g73 g74 g75 g76 g77 g78 g79 => ((ju_i _ _ g77).trans ((ju_i _ _ g76).trans ((ju_i _ _ g74).trans ((ju_i _ _ g75).trans (hG_M i g73 g74 g75 g76 g77 g78 g79))))))  (by rw [((ju_i _ _ (zne (by decide))).trans ((ju_i _ _ (zne (by decide))).trans ((ju_i _ _ (zne (by decide))).trans ((ju_i _ _ (zne (by decide))).trans e1)))), ((ju_i _ _ (zne (by decide))).trans ((ju_i _ _ (zne (by decide))).trans ((ju_i _ _ (zne (by decide))).trans ((ju_i _ _ (zne (by decide))).trans e2))))] <;> omega) (by rw [((ju_i _ _ (zne (by decide))).trans ((ju_i _ _ (zne (by decide))).trans ((ju_i _ _ (zne (by decide))).trans (ju_same _ _ _ _)))), ((ju_i _ _ (zne (by decide))).trans ((ju_i _ _ (zne (by decide))).trans ((ju_i _ _ (zne (by decide))).trans ((ju_i _ _ (zne (by decide))).trans e1))))] <;> omega) (by omega) (by rw [((ju_i _ _ (zne (by decide))).trans ((ju_i _ _ (zne (by decide))).trans ((ju_i _ _ (zne (by decide))).trans ((ju_i _ _ (zne (by decide))).trans e1)))), ((ju_i _ _ (zne (by decide))).trans ((ju_i _ _ (zne (by decide))).trans ((ju_i _ _ (zne (by decide))).trans (ju_same _ _ _ _)))), ((ju_i _ _ (zne (by decide))).trans ((ju_i _ _ (zne (by decide))).trans ((ju_i _ _ (zne (by decide))).trans ((ju_i _ _ (zne (by decide))).trans e2)))), ((ju_c _ _ (by decide)).trans ((ju_c _ _ (by decide)).trans ((ju_c _ _ (by decide)).trans ((ju_c _ _ (by decide)).trans e18))))]; omega) (by rw [((ju_i _ _ (zne (by decide))).trans ((ju_i _ _ (zne (by decide))).trans ((ju_i _ _ (zne (by decide))).trans ((ju_i _ _ (zne (by decide))).trans e1))))]; omega)
            · refine jr.if_eq rfl rfl (by first | exact rgl rfl | omega) (fun _ => ?_) (fun h => absurd (by decide) h)
              refine jr.iload_n rfl rfl ?_
              refine jr_s rfl rfl (Or.inl rfl) ⟨Nat.le_of_ble_eq_true rfl, Nat.le_of_ble_eq_true rfl⟩ rfl rfl (jc.deep (c_isDigit  (by omega) (fun t255_0 t255_1 => ?_) (fun f255_0 => ?_)) (Nat.le_of_ble_eq_true rfl))
              · refine jr.if_eq rfl rfl (by first | exact rgl rfl | omega) (fun h => absurd h (by decide)) (fun _ => ?_)
                refine jr.aload_n rfl rfl ?_
                refine jr.lconst (x := 0) rfl (by decide) ?_
                refine jr.putf (i := 78) (x := 0) rfl rfl (nlt rfl) rfl (nlt rfl) rfl rfl rfl rfl rfl ?_
                refine jr.pick (ls := [_]) [1] rfl rfl ?_
                exact r_next_L266 q 1600 (ju (ju (ju (ju M 598 75 v1) 598 74 0) 598 76 (-1)) 598 78 0)  (RI.u (RI.u (RI.u (RI.u hI_M (a := 598) (i := 75) (show (0 : Int) ≤ _ ∧ _ ≤ (1600 : Int) from by omega)) (a := 598) (i := 74) (show (0 : Int) ≤ _ ∧ _ ≤ (4 : Int) from by omega)) (a := 598) (i := 76) (show (-1 : Int) ≤ _ ∧ _ ≤ (68 : Int) from by omega)) (a := 598) (i := 78) (show (-9223372036854775808 : Int) ≤ _ ∧ _ ≤ (9223372036854775807 : Int) from by omega)) (RH.o (RH.o (RH.o (RH.o hH_M (by decide) (by decide) (by decide)) (by decide) (by decide) (by decide)) (by decide) (by decide) (by decide)) (by decide) (by decide) (by decide)) (RF.o (RF.o (RF.o (RF.o hS_M (by decide) (by decide)) (by decide) (by decide)) (by decide) (by decide)) (by decide) (by decide))  (fun a i f598 => ((ju_c _ _ f598).trans ((ju_c _ _ f598).trans ((ju_c _ _ f598).trans ((ju_c _ _ f598).trans (hF_M a i f598)))))) (fun i g73 g74 g75 g76 g77 g78 g79 => ((ju_i _ _ g78).trans ((ju_i _ _ g76).trans ((ju_i _ _ g74).trans ((ju_i _ _ g75).trans (hG_M i g73 g74 g75 g76 g77 g78 g79))))))  (by rw [((ju_i _ _ (zne (by decide))).trans ((ju_i _ _ (zne (by decide))).trans ((ju_i _ _ (zne (by decide))).trans ((ju_i _ _ (zne (by decide))).trans e1)))), ((ju_i _ _ (zne (by decide))).trans ((ju_i _ _ (zne (by decide))).trans ((ju_i _ _ (zne (by decide))).trans ((ju_i _ _ (zne (by decide))).trans e2))))] <;> omega) (by rw [((ju_i _ _ (zne (by decide))).trans ((ju_i _ _ (zne (by decide))).trans ((ju_i _ _ (zne (by decide))).trans (ju_same _ _ _ _)))), ((ju_i _ _ (zne (by decide))).trans ((ju_i _ _ (zne (by decide))).trans ((ju_i _ _ (zne (by decide))).trans ((ju_i _ _ (zne (by decide))).trans e1))))] <;> omega) (by omega) (by rw [((ju_i _ _ (zne (by decide))).trans ((ju_i _ _ (zne (by decide))).trans ((ju_i _ _ (zne (by decide))).trans ((ju_i _ _ (zne (by decide))).trans e1)))), ((ju_i _ _ (zne (by decide))).trans ((ju_i _ _ (zne (by decide))).trans ((ju_i _ _ (zne (by decide))).trans (ju_same _ _ _ _)))), ((ju_i _ _ (zne (by decide))).trans ((ju_i _ _ (zne (by decide))).trans ((ju_i _ _ (zne (by decide))).trans ((ju_i _ _ (zne (by decide))).trans e2)))), ((ju_c _ _ (by decide)).trans ((ju_c _ _ (by decide)).trans ((ju_c _ _ (by decide)).trans ((ju_c _ _ (by decide)).trans e18))))]; omega) (by rw [((ju_i _ _ (zne (by decide))).trans ((ju_i _ _ (zne (by decide))).trans ((ju_i _ _ (zne (by decide))).trans ((ju_i _ _ (zne (by decide))).trans e1))))]; omega)
              · refine jr.if_eq rfl rfl (by first | exact rgl rfl | omega) (fun _ => ?_) (fun h => absurd (by decide) h)
                refine jr.aload_n rfl rfl ?_
                refine jr.dup rfl rfl ?_
                refine jr.getf (i := 73) (x := v1) (v := .int (Int32.ofInt (v1))) rfl rfl (nlt rfl) rfl (nlt rfl) rfl rfl ((ju_i _ _ (zne (by decide))).trans ((ju_i _ _ (zne (by decide))).trans ((ju_i _ _ (zne (by decide))).trans e1))) rfl ?_
                refine jr.iconst rfl ?_
                refine jr.iadd rfl ?_
                refine jr.putf (i := 73) (x := (v1 + 1)) rfl rfl (nlt rfl) rfl (nlt rfl) rfl rfl rfl rfl rfl ?_
                refine jr.aload_n rfl rfl ?_
                refine jr.iload_n rfl rfl ?_
                refine jr.putf (i := 79) (x := v18) rfl rfl (nlt rfl) rfl (nlt rfl) rfl rfl rfl rfl rfl ?_
                refine jr.aload_n rfl rfl ?_
                refine jr.iload_n rfl rfl ?_
                refine jr_s rfl rfl (Or.inl rfl) ⟨Nat.le_of_ble_eq_true rfl, Nat.le_of_ble_eq_true rfl⟩ rfl rfl (jc.deep (r_isSignByte (RI.u (RI.u (RI.u (RI.u (RI.u hI_M (a := 598) (i := 75) (show (0 : Int) ≤ _ ∧ _ ≤ (1600 : Int) from by omega)) (a := 598) (i := 74) (show (0 : Int) ≤ _ ∧ _ ≤ (4 : Int) from by omega)) (a := 598) (i := 76) (show (-1 : Int) ≤ _ ∧ _ ≤ (68 : Int) from by omega)) (a := 598) (i := 73) (show (0 : Int) ≤ _ ∧ _ ≤ (1600 : Int) from by omega)) (a := 598) (i := 79) (show (0 : Int) ≤ _ ∧ _ ≤ (255 : Int) from by omega)) (RH.o (RH.o (RH.o (RH.o (RH.o hH_M (by decide) (by decide) (by decide)) (by decide) (by decide) (by decide)) (by decide) (by decide) (by decide)) (by decide) (by decide) (by decide)) (by decide) (by decide) (by decide)) (RF.o (RF.o (RF.o (RF.o (RF.o hS_M (by decide) (by decide)) (by decide) (by decide)) (by decide) (by decide)) (by decide) (by decide)) (by decide) (by decide)) (Kp.rfl _) (by omega)  (fun r19 z19 w19_0 => ?_)) (Nat.le_of_ble_eq_true rfl))
                refine jr.if_eq rfl rfl (by first | (refine rgb (by assumption) ?_; exact rfl) | omega) (fun h399 => ?_) (fun h399 => ?_)
                · refine jr.iconst rfl ?_
                  refine jr.putf (i := 74) (x := 4) rfl rfl (nlt rfl) rfl (nlt rfl) rfl rfl rfl rfl rfl ?_
                  have y20 : (ju (ju (ju (ju (ju (ju M 598 75 v1) 598 74 0) 598 76 (-1)) 598 73 (v1 + 1)) 598 79 v18) 598 74 4) 598 72 = v2 := ((ju_i _ _ (zne (by decide))).trans ((ju_i _ _ (zne (by decide))).trans ((ju_i _ _ (zne (by decide))).trans ((ju_i _ _ (zne (by decide))).trans ((ju_i _ _ (zne (by decide))).trans ((ju_i _ _ (zne (by decide))).trans e2))))))
                  have y21 : (ju (ju (ju (ju (ju (ju M 598 75 v1) 598 74 0) 598 76 (-1)) 598 73 (v1 + 1)) 598 79 v18) 598 74 4) 598 73 = v1 + 1 := ((ju_i _ _ (zne (by decide))).trans ((ju_i _ _ (zne (by decide))).trans (ju_same _ _ _ _)))
                  have y22 : (ju (ju (ju (ju (ju (ju M 598 75 v1) 598 74 0) 598 76 (-1)) 598 73 (v1 + 1)) 598 79 v18) 598 74 4) 598 74 = 4 := (ju_same _ _ _ _)
                  have y23 : (ju (ju (ju (ju (ju (ju M 598 75 v1) 598 74 0) 598 76 (-1)) 598 73 (v1 + 1)) 598 79 v18) 598 74 4) 598 79 = v18 := ((ju_i _ _ (zne (by decide))).trans (ju_same _ _ _ _))
                  exact jr.vreturn rfl rfl (q _ (RI.u (RI.u (RI.u (RI.u (RI.u (RI.u hI_M (a := 598) (i := 75) (show (0 : Int) ≤ _ ∧ _ ≤ (1600 : Int) from by omega)) (a := 598) (i := 74) (show (0 : Int) ≤ _ ∧ _ ≤ (4 : Int) from by omega)) (a := 598) (i := 76) (show (-1 : Int) ≤ _ ∧ _ ≤ (68 : Int) from by omega)) (a := 598) (i := 73) (show (0 : Int) ≤ _ ∧ _ ≤ (1600 : Int) from by omega)) (a := 598) (i := 79) (show (0 : Int) ≤ _ ∧ _ ≤ (255 : Int) from by omega)) (a := 598) (i := 74) (show (0 : Int) ≤ _ ∧ _ ≤ (4 : Int) from by omega)) (RH.o (RH.o (RH.o (RH.o (RH.o (RH.o hH_M (by decide) (by decide) (by decide)) (by decide) (by decide) (by decide)) (by decide) (by decide) (by decide)) (by decide) (by decide) (by decide)) (by decide) (by decide) (by decide)) (by decide) (by decide) (by decide)) (RF.o (RF.o (RF.o (RF.o (RF.o (RF.o hS_M (by decide) (by decide)) (by decide) (by decide)) (by decide) (by decide)) (by decide) (by decide)) (by decide) (by decide)) (by decide) (by decide))  (by omega) (by omega) (by unfold TK; omega) (fun q => by unfold TK; omega) (by omega) (fun a i f598 => ((ju_c _ _ f598).trans ((ju_c _ _ f598).trans ((ju_c _ _ f598).trans ((ju_c _ _ f598).trans ((ju_c _ _ f598).trans ((ju_c _ _ f598).trans (hF_M a i f598)))))))) (fun i g73 g74 g75 g76 g77 g78 g79 => ((ju_i _ _ g74).trans ((ju_i _ _ g79).trans ((ju_i _ _ g73).trans ((ju_i _ _ g76).trans ((ju_i _ _ g74).trans ((ju_i _ _ g75).trans (hG_M i g73 g74 g75 g76 g77 g78 g79)))))))))
                · have sx399 : (1 : Int) ≤ r19 := by omega
                  clear h399
                  refine jr.iconst rfl ?_
                  refine jr.goto rfl rfl ?_
                  refine jr.putf (i := 74) (x := 3) rfl rfl (nlt rfl) rfl (nlt rfl) rfl rfl rfl rfl rfl ?_
                  have y24 : (ju (ju (ju (ju (ju (ju M 598 75 v1) 598 74 0) 598 76 (-1)) 598 73 (v1 + 1)) 598 79 v18) 598 74 3) 598 72 = v2 := ((ju_i _ _ (zne (by decide))).trans ((ju_i _ _ (zne (by decide))).trans ((ju_i _ _ (zne (by decide))).trans ((ju_i _ _ (zne (by decide))).trans ((ju_i _ _ (zne (by decide))).trans ((ju_i _ _ (zne (by decide))).trans e2))))))
                  have y25 : (ju (ju (ju (ju (ju (ju M 598 75 v1) 598 74 0) 598 76 (-1)) 598 73 (v1 + 1)) 598 79 v18) 598 74 3) 598 73 = v1 + 1 := ((ju_i _ _ (zne (by decide))).trans ((ju_i _ _ (zne (by decide))).trans (ju_same _ _ _ _)))
                  have y26 : (ju (ju (ju (ju (ju (ju M 598 75 v1) 598 74 0) 598 76 (-1)) 598 73 (v1 + 1)) 598 79 v18) 598 74 3) 598 74 = 3 := (ju_same _ _ _ _)
                  have y27 : (ju (ju (ju (ju (ju (ju M 598 75 v1) 598 74 0) 598 76 (-1)) 598 73 (v1 + 1)) 598 79 v18) 598 74 3) 598 79 = v18 := ((ju_i _ _ (zne (by decide))).trans (ju_same _ _ _ _))
                  exact jr.vreturn rfl rfl (q _ (RI.u (RI.u (RI.u (RI.u (RI.u (RI.u hI_M (a := 598) (i := 75) (show (0 : Int) ≤ _ ∧ _ ≤ (1600 : Int) from by omega)) (a := 598) (i := 74) (show (0 : Int) ≤ _ ∧ _ ≤ (4 : Int) from by omega)) (a := 598) (i := 76) (show (-1 : Int) ≤ _ ∧ _ ≤ (68 : Int) from by omega)) (a := 598) (i := 73) (show (0 : Int) ≤ _ ∧ _ ≤ (1600 : Int) from by omega)) (a := 598) (i := 79) (show (0 : Int) ≤ _ ∧ _ ≤ (255 : Int) from by omega)) (a := 598) (i := 74) (show (0 : Int) ≤ _ ∧ _ ≤ (4 : Int) from by omega)) (RH.o (RH.o (RH.o (RH.o (RH.o (RH.o hH_M (by decide) (by decide) (by decide)) (by decide) (by decide) (by decide)) (by decide) (by decide) (by decide)) (by decide) (by decide) (by decide)) (by decide) (by decide) (by decide)) (by decide) (by decide) (by decide)) (RF.o (RF.o (RF.o (RF.o (RF.o (RF.o hS_M (by decide) (by decide)) (by decide) (by decide)) (by decide) (by decide)) (by decide) (by decide)) (by decide) (by decide)) (by decide) (by decide))  (by omega) (by omega) (by unfold TK; omega) (fun q => by unfold TK; omega) (by omega) (fun a i f598 => ((ju_c _ _ f598).trans ((ju_c _ _ f598).trans ((ju_c _ _ f598).trans ((ju_c _ _ f598).trans ((ju_c _ _ f598).trans ((ju_c _ _ f598).trans (hF_M a i f598)))))))) (fun i g73 g74 g75 g76 g77 g78 g79 => ((ju_i _ _ g74).trans ((ju_i _ _ g79).trans ((ju_i _ _ g73).trans ((ju_i _ _ g76).trans ((ju_i _ _ g74).trans ((ju_i _ _ g75).trans (hG_M i g73 g74 g75 g76 g77 g78 g79)))))))))
          · have y28 : (ju (ju (ju M 598 75 v1) 598 74 0) 598 76 (-1)) 598 72 = v2 := ((ju_i _ _ (zne (by decide))).trans ((ju_i _ _ (zne (by decide))).trans ((ju_i _ _ (zne (by decide))).trans e2)))
            have y29 : (ju (ju (ju M 598 75 v1) 598 74 0) 598 76 (-1)) 598 73 = v1 := ((ju_i _ _ (zne (by decide))).trans ((ju_i _ _ (zne (by decide))).trans ((ju_i _ _ (zne (by decide))).trans e1)))
            have y30 : (ju (ju (ju M 598 75 v1) 598 74 0) 598 76 (-1)) 598 74 = 0 := ((ju_i _ _ (zne (by decide))).trans (ju_same _ _ _ _))
            obtain ⟨v31, e31⟩ : ∃ z, M 598 79 = z := ⟨_, rfl⟩
            have b31 : 0 ≤ v31 ∧ v31 ≤ 255 := by rw [← e31]; exact hI_M 598 79 (Nat.le_of_ble_eq_true rfl)
            have y32 : (ju (ju (ju M 598 75 v1) 598 74 0) 598 76 (-1)) 598 79 = v31 := ((ju_i _ _ (zne (by decide))).trans ((ju_i _ _ (zne (by decide))).trans ((ju_i _ _ (zne (by decide))).trans e31)))
            exact jr.vreturn rfl rfl (q _ (RI.u (RI.u (RI.u hI_M (a := 598) (i := 75) (show (0 : Int) ≤ _ ∧ _ ≤ (1600 : Int) from by omega)) (a := 598) (i := 74) (show (0 : Int) ≤ _ ∧ _ ≤ (4 : Int) from by omega)) (a := 598) (i := 76) (show (-1 : Int) ≤ _ ∧ _ ≤ (68 : Int) from by omega)) (RH.o (RH.o (RH.o hH_M (by decide) (by decide) (by decide)) (by decide) (by decide) (by decide)) (by decide) (by decide) (by decide)) (RF.o (RF.o (RF.o hS_M (by decide) (by decide)) (by decide) (by decide)) (by decide) (by decide))  (by omega) (by omega) (by unfold TK; omega) (fun q => by unfold TK; omega) (by omega) (fun a i f598 => ((ju_c _ _ f598).trans ((ju_c _ _ f598).trans ((ju_c _ _ f598).trans (hF_M a i f598))))) (fun i g73 g74 g75 g76 g77 g78 g79 => ((ju_i _ _ g76).trans ((ju_i _ _ g74).trans ((ju_i _ _ g75).trans (hG_M i g73 g74 g75 g76 g77 g78 g79))))))
        · refine jr.aload_n rfl rfl ?_
          refine jr.dup rfl rfl ?_
          refine jr.getf (i := 73) (x := v1) (v := .int (Int32.ofInt (v1))) rfl rfl (nlt rfl) rfl (nlt rfl) rfl rfl e1 rfl ?_
          refine jr.iconst rfl ?_
          refine jr.iadd rfl ?_
          refine jr.putf (i := 73) (x := (v1 + 1)) rfl rfl (nlt rfl) rfl (nlt rfl) rfl rfl rfl rfl rfl ?_
          refine jr.goto rfl rfl ?_
          refine jr.pick (ls := [_]) [0] rfl rfl ?_
          exact ih (nM - 1) (by omega) (ju M 598 73 (v1 + 1))  (RI.u hI_M (a := 598) (i := 73) (show (0 : Int) ≤ _ ∧ _ ≤ (1600 : Int) from by omega)) (RH.o hH_M (by decide) (by decide) (by decide)) (RF.o hS_M (by decide) (by decide))  (fun a i f598 => ((ju_c _ _ f598).trans (hF_M a i f598))) (fun i g73 g74 g75 g76 g77 g78 g79 => ((ju_i _ _ g73).trans (hG_M i g73 g74 g75 g76 g77 g78 g79)))  (by rw [(ju_same _ _ _ _), ((ju_i _ _ (zne (by decide))).trans e2)] <;> omega) (by rw [(ju_same _ _ _ _)] <;> omega) (by omega) (by rw [(ju_same _ _ _ _)]; omega)
theorem r_next {A : Nat → Option (Nat × (Nat → Int32))} {Q : Option Value → jm → Prop} {M : jm} (hI_M : RI M) (hH_M : RH M) (hS_M : RF M) (p0 : M 598 73 ≤ M 598 72) (q : ∀ (M' : jm), RI M' → RH M' → RF M' → M' 598 73 ≤ M' 598 72 → M 598 73 ≤ M' 598 73 → TK M' ≤ TK M → (M 598 74 ≠ 0 → TK M' < TK M) → (M' 598 74 = 3 → M' 598 79 ≠ 10 ∧ M' 598 79 ≠ 11) → (∀ (a : Nat) (i : Int), a ≠ 598 → M' a i = M a i) → (∀ (i : Int), i ≠ 73 → i ≠ 74 → i ≠ 75 → i ≠ 76 → i ≠ 77 → i ≠ 78 → i ≠ 79 → M' 598 i = M 598 i) → Q none M') : jc A 2 344 [.ref (598)] M Q := by
  have b74 : (0 : Int) ≤ M 598 74 ∧ M 598 74 ≤ 4 := hI_M 598 74 (Nat.le_of_ble_eq_true rfl)
  refine jc_of (m := xm_344) rfl (Nat.le_of_ble_eq_true rfl) rfl ?_
  refine jr.aload_n rfl rfl ?_
  obtain ⟨v1, e1⟩ : ∃ z, M 598 73 = z := ⟨_, rfl⟩
  have b1 : 0 ≤ v1 ∧ v1 ≤ 1600 := by rw [← e1]; exact hI_M 598 73 (Nat.le_of_ble_eq_true rfl)
  refine jr.getf (i := 73) (x := v1) (v := .int (Int32.ofInt (v1))) rfl rfl (nlt rfl) rfl (nlt rfl) rfl rfl e1 rfl ?_
  refine jr.aload_n rfl rfl ?_
  obtain ⟨v2, e2⟩ : ∃ z, M 598 72 = z := ⟨_, rfl⟩
  have b2 : 0 ≤ v2 ∧ v2 ≤ 1600 := by rw [← e2]; exact hI_M 598 72 (Nat.le_of_ble_eq_true rfl)
  refine jr.getf (i := 72) (x := v2) (v := .int (Int32.ofInt (v2))) rfl rfl (nlt rfl) rfl (nlt rfl) rfl rfl e2 rfl ?_
  refine jr.icmp_ge rfl rfl (by first | (refine rgb (by assumption) ?_; exact rfl) | omega) (by first | (refine rgb (by assumption) ?_; exact rfl) | omega) (fun h8 => ?_) (fun h8 => ?_)
  · refine jr.aload_n rfl rfl ?_
    refine jr.aload_n rfl rfl ?_
    refine jr.getf (i := 73) (x := v1) (v := .int (Int32.ofInt (v1))) rfl rfl (nlt rfl) rfl (nlt rfl) rfl rfl e1 rfl ?_
    refine jr.putf (i := 75) (x := v1) rfl rfl (nlt rfl) rfl (nlt rfl) rfl rfl rfl rfl rfl ?_
    refine jr.aload_n rfl rfl ?_
    refine jr.iconst rfl ?_
    refine jr.putf (i := 74) (x := 0) rfl rfl (nlt rfl) rfl (nlt rfl) rfl rfl rfl rfl rfl ?_
    refine jr.aload_n rfl rfl ?_
    refine jr.iconst rfl ?_
    refine jr.putf (i := 76) (x := (-1)) rfl rfl (nlt rfl) rfl (nlt rfl) rfl rfl rfl rfl rfl ?_
    refine jr.aload_n rfl rfl ?_
    refine jr.getf (i := 73) (x := v1) (v := .int (Int32.ofInt (v1))) rfl rfl (nlt rfl) rfl (nlt rfl) rfl rfl ((ju_i _ _ (zne (by decide))).trans ((ju_i _ _ (zne (by decide))).trans ((ju_i _ _ (zne (by decide))).trans e1))) rfl ?_
    refine jr.aload_n rfl rfl ?_
    refine jr.getf (i := 72) (x := v2) (v := .int (Int32.ofInt (v2))) rfl rfl (nlt rfl) rfl (nlt rfl) rfl rfl ((ju_i _ _ (zne (by decide))).trans ((ju_i _ _ (zne (by decide))).trans ((ju_i _ _ (zne (by decide))).trans e2))) rfl ?_
    refine jr.icmp_ne rfl rfl (by first | (refine rgb (by assumption) ?_; exact rfl) | omega) (by first | (refine rgb (by assumption) ?_; exact rfl) | omega) (fun h78 => ?_) (fun h78 => ?_)
    · refine jr.aload_n rfl rfl ?_
      refine jr.getf (i := 71) (v := .ref 651) rfl rfl (nlt rfl) rfl (nlt rfl) rfl rfl rfl rfl ?_
      refine jr.aload_n rfl rfl ?_
      refine jr.getf (i := 73) (x := v1) (v := .int (Int32.ofInt (v1))) rfl rfl (nlt rfl) rfl (nlt rfl) rfl rfl ((ju_i _ _ (zne (by decide))).trans ((ju_i _ _ (zne (by decide))).trans ((ju_i _ _ (zne (by decide))).trans e1))) rfl ?_
      obtain ⟨v3, e3⟩ : ∃ z, M 651 v1 = z := ⟨_, rfl⟩
      have b3 : 0 ≤ v3 ∧ v3 ≤ 255 := by rw [← e3]; exact (by have q := hI_M 651 v1 (Nat.le_of_ble_eq_true rfl); rw [xri_row rfl rfl] at q; exact q)
      refine jr.iald (i := v1) (x := v3) rfl (nlt rfl) rfl (Nat.le_of_ble_eq_true rfl) (by omega) (by omega) ((ju_c _ _ (by decide)).trans ((ju_c _ _ (by decide)).trans ((ju_c _ _ (by decide)).trans e3))) ?_
      refine jr.istore_n (ls' := [_, _]) rfl (nlt rfl) rfl ?_
      refine jr.iload_n rfl rfl ?_
      refine jr_s rfl rfl (Or.inl rfl) ⟨Nat.le_of_ble_eq_true rfl, Nat.le_of_ble_eq_true rfl⟩ rfl rfl (jc.deep (c_isLetter  (by omega) (fun t93_0 t93_1 => ?_) (fun f93_0 => ?_)) (Nat.le_of_ble_eq_true rfl))
      · refine jr.if_eq rfl rfl (by first | exact rgl rfl | omega) (fun h => absurd h (by decide)) (fun _ => ?_)
        refine jr.aload_n rfl rfl ?_
        refine jr.lconst (x := 0) rfl (by decide) ?_
        refine jr.putf (i := 77) (x := 0) rfl rfl (nlt rfl) rfl (nlt rfl) rfl rfl rfl rfl rfl ?_
        refine jr.pick (ls := [_]) [1] rfl rfl ?_
        exact r_next_L104 q 1600 (ju (ju (ju (ju M 598 75 v1) 598 74 0) 598 76 (-1)) 598 77 0)  (RI.u (RI.u (RI.u (RI.u hI_M (a := 598) (i := 75) (show (0 : Int) ≤ _ ∧ _ ≤ (1600 : Int) from by omega)) (a := 598) (i := 74) (show (0 : Int) ≤ _ ∧ _ ≤ (4 : Int) from by omega)) (a := 598) (i := 76) (show (-1 : Int) ≤ _ ∧ _ ≤ (68 : Int) from by omega)) (a := 598) (i := 77) (show (-9223372036854775808 : Int) ≤ _ ∧ _ ≤ (9223372036854775807 : Int) from by omega)) (RH.o (RH.o (RH.o (RH.o hH_M (by decide) (by decide) (by decide)) (by decide) (by decide) (by decide)) (by decide) (by decide) (by decide)) (by decide) (by decide) (by decide)) (RF.o (RF.o (RF.o (RF.o hS_M (by decide) (by decide)) (by decide) (by decide)) (by decide) (by decide)) (by decide) (by decide))  (fun a i f598 => ((ju_c _ _ f598).trans ((ju_c _ _ f598).trans ((ju_c _ _ f598).trans ((ju_c _ _ f598).trans rfl))))) (fun i g73 g74 g75 g76 g77 g78 g79 => ((ju_i _ _ g77).trans ((ju_i _ _ g76).trans ((ju_i _ _ g74).trans ((ju_i _ _ g75).trans rfl)))))  (by rw [((ju_i _ _ (zne (by decide))).trans ((ju_i _ _ (zne (by decide))).trans ((ju_i _ _ (zne (by decide))).trans ((ju_i _ _ (zne (by decide))).trans e1)))), ((ju_i _ _ (zne (by decide))).trans ((ju_i _ _ (zne (by decide))).trans ((ju_i _ _ (zne (by decide))).trans ((ju_i _ _ (zne (by decide))).trans e2))))] <;> omega) (by rw [((ju_i _ _ (zne (by decide))).trans ((ju_i _ _ (zne (by decide))).trans ((ju_i _ _ (zne (by decide))).trans (ju_same _ _ _ _)))), ((ju_i _ _ (zne (by decide))).trans ((ju_i _ _ (zne (by decide))).trans ((ju_i _ _ (zne (by decide))).trans ((ju_i _ _ (zne (by decide))).trans e1))))] <;> omega) (by omega) (by rw [((ju_i _ _ (zne (by decide))).trans ((ju_i _ _ (zne (by decide))).trans ((ju_i _ _ (zne (by decide))).trans ((ju_i _ _ (zne (by decide))).trans e1)))), ((ju_i _ _ (zne (by decide))).trans ((ju_i _ _ (zne (by decide))).trans ((ju_i _ _ (zne (by decide))).trans (ju_same _ _ _ _)))), ((ju_i _ _ (zne (by decide))).trans ((ju_i _ _ (zne (by decide))).trans ((ju_i _ _ (zne (by decide))).trans ((ju_i _ _ (zne (by decide))).trans e2)))), ((ju_c _ _ (by decide)).trans ((ju_c _ _ (by decide)).trans ((ju_c _ _ (by decide)).trans ((ju_c _ _ (by decide)).trans e3))))]; omega) (by rw [((ju_i _ _ (zne (by decide))).trans ((ju_i _ _ (zne (by decide))).trans ((ju_i _ _ (zne (by decide))).trans ((ju_i _ _ (zne (by decide))).trans e1))))]; omega)
      · refine jr.if_eq rfl rfl (by first | exact rgl rfl | omega) (fun _ => ?_) (fun h => absurd (by decide) h)
        refine jr.iload_n rfl rfl ?_
        refine jr_s rfl rfl (Or.inl rfl) ⟨Nat.le_of_ble_eq_true rfl, Nat.le_of_ble_eq_true rfl⟩ rfl rfl (jc.deep (c_isDigit  (by omega) (fun t255_0 t255_1 => ?_) (fun f255_0 => ?_)) (Nat.le_of_ble_eq_true rfl))
        · refine jr.if_eq rfl rfl (by first | exact rgl rfl | omega) (fun h => absurd h (by decide)) (fun _ => ?_)
          refine jr.aload_n rfl rfl ?_
          refine jr.lconst (x := 0) rfl (by decide) ?_
          refine jr.putf (i := 78) (x := 0) rfl rfl (nlt rfl) rfl (nlt rfl) rfl rfl rfl rfl rfl ?_
          refine jr.pick (ls := [_]) [1] rfl rfl ?_
          exact r_next_L266 q 1600 (ju (ju (ju (ju M 598 75 v1) 598 74 0) 598 76 (-1)) 598 78 0)  (RI.u (RI.u (RI.u (RI.u hI_M (a := 598) (i := 75) (show (0 : Int) ≤ _ ∧ _ ≤ (1600 : Int) from by omega)) (a := 598) (i := 74) (show (0 : Int) ≤ _ ∧ _ ≤ (4 : Int) from by omega)) (a := 598) (i := 76) (show (-1 : Int) ≤ _ ∧ _ ≤ (68 : Int) from by omega)) (a := 598) (i := 78) (show (-9223372036854775808 : Int) ≤ _ ∧ _ ≤ (9223372036854775807 : Int) from by omega)) (RH.o (RH.o (RH.o (RH.o hH_M (by decide) (by decide) (by decide)) (by decide) (by decide) (by decide)) (by decide) (by decide) (by decide)) (by decide) (by decide) (by decide)) (RF.o (RF.o (RF.o (RF.o hS_M (by decide) (by decide)) (by decide) (by decide)) (by decide) (by decide)) (by decide) (by decide))  (fun a i f598 => ((ju_c _ _ f598).trans ((ju_c _ _ f598).trans ((ju_c _ _ f598).trans ((ju_c _ _ f598).trans rfl))))) (fun i g73 g74 g75 g76 g77 g78 g79 => ((ju_i _ _ g78).trans ((ju_i _ _ g76).trans ((ju_i _ _ g74).trans ((ju_i _ _ g75).trans rfl)))))  (by rw [((ju_i _ _ (zne (by decide))).trans ((ju_i _ _ (zne (by decide))).trans ((ju_i _ _ (zne (by decide))).trans ((ju_i _ _ (zne (by decide))).trans e1)))), ((ju_i _ _ (zne (by decide))).trans ((ju_i _ _ (zne (by decide))).trans ((ju_i _ _ (zne (by decide))).trans ((ju_i _ _ (zne (by decide))).trans e2))))] <;> omega) (by rw [((ju_i _ _ (zne (by decide))).trans ((ju_i _ _ (zne (by decide))).trans ((ju_i _ _ (zne (by decide))).trans (ju_same _ _ _ _)))), ((ju_i _ _ (zne (by decide))).trans ((ju_i _ _ (zne (by decide))).trans ((ju_i _ _ (zne (by decide))).trans ((ju_i _ _ (zne (by decide))).trans e1))))] <;> omega) (by omega) (by rw [((ju_i _ _ (zne (by decide))).trans ((ju_i _ _ (zne (by decide))).trans ((ju_i _ _ (zne (by decide))).trans ((ju_i _ _ (zne (by decide))).trans e1)))), ((ju_i _ _ (zne (by decide))).trans ((ju_i _ _ (zne (by decide))).trans ((ju_i _ _ (zne (by decide))).trans (ju_same _ _ _ _)))), ((ju_i _ _ (zne (by decide))).trans ((ju_i _ _ (zne (by decide))).trans ((ju_i _ _ (zne (by decide))).trans ((ju_i _ _ (zne (by decide))).trans e2)))), ((ju_c _ _ (by decide)).trans ((ju_c _ _ (by decide)).trans ((ju_c _ _ (by decide)).trans ((ju_c _ _ (by decide)).trans e3))))]; omega) (by rw [((ju_i _ _ (zne (by decide))).trans ((ju_i _ _ (zne (by decide))).trans ((ju_i _ _ (zne (by decide))).trans ((ju_i _ _ (zne (by decide))).trans e1))))]; omega)
        · refine jr.if_eq rfl rfl (by first | exact rgl rfl | omega) (fun _ => ?_) (fun h => absurd (by decide) h)
          refine jr.aload_n rfl rfl ?_
          refine jr.dup rfl rfl ?_
          refine jr.getf (i := 73) (x := v1) (v := .int (Int32.ofInt (v1))) rfl rfl (nlt rfl) rfl (nlt rfl) rfl rfl ((ju_i _ _ (zne (by decide))).trans ((ju_i _ _ (zne (by decide))).trans ((ju_i _ _ (zne (by decide))).trans e1))) rfl ?_
          refine jr.iconst rfl ?_
          refine jr.iadd rfl ?_
          refine jr.putf (i := 73) (x := (v1 + 1)) rfl rfl (nlt rfl) rfl (nlt rfl) rfl rfl rfl rfl rfl ?_
          refine jr.aload_n rfl rfl ?_
          refine jr.iload_n rfl rfl ?_
          refine jr.putf (i := 79) (x := v3) rfl rfl (nlt rfl) rfl (nlt rfl) rfl rfl rfl rfl rfl ?_
          refine jr.aload_n rfl rfl ?_
          refine jr.iload_n rfl rfl ?_
          refine jr_s rfl rfl (Or.inl rfl) ⟨Nat.le_of_ble_eq_true rfl, Nat.le_of_ble_eq_true rfl⟩ rfl rfl (jc.deep (r_isSignByte (RI.u (RI.u (RI.u (RI.u (RI.u hI_M (a := 598) (i := 75) (show (0 : Int) ≤ _ ∧ _ ≤ (1600 : Int) from by omega)) (a := 598) (i := 74) (show (0 : Int) ≤ _ ∧ _ ≤ (4 : Int) from by omega)) (a := 598) (i := 76) (show (-1 : Int) ≤ _ ∧ _ ≤ (68 : Int) from by omega)) (a := 598) (i := 73) (show (0 : Int) ≤ _ ∧ _ ≤ (1600 : Int) from by omega)) (a := 598) (i := 79) (show (0 : Int) ≤ _ ∧ _ ≤ (255 : Int) from by omega)) (RH.o (RH.o (RH.o (RH.o (RH.o hH_M (by decide) (by decide) (by decide)) (by decide) (by decide) (by decide)) (by decide) (by decide) (by decide)) (by decide) (by decide) (by decide)) (by decide) (by decide) (by decide)) (RF.o (RF.o (RF.o (RF.o (RF.o hS_M (by decide) (by decide)) (by decide) (by decide)) (by decide) (by decide)) (by decide) (by decide)) (by decide) (by decide)) (Kp.rfl _) (by omega)  (fun r4 z4 w4_0 => ?_)) (Nat.le_of_ble_eq_true rfl))
          refine jr.if_eq rfl rfl (by first | (refine rgb (by assumption) ?_; exact rfl) | omega) (fun h399 => ?_) (fun h399 => ?_)
          · refine jr.iconst rfl ?_
            refine jr.putf (i := 74) (x := 4) rfl rfl (nlt rfl) rfl (nlt rfl) rfl rfl rfl rfl rfl ?_
            have y5 : (ju (ju (ju (ju (ju (ju M 598 75 v1) 598 74 0) 598 76 (-1)) 598 73 (v1 + 1)) 598 79 v3) 598 74 4) 598 72 = v2 := ((ju_i _ _ (zne (by decide))).trans ((ju_i _ _ (zne (by decide))).trans ((ju_i _ _ (zne (by decide))).trans ((ju_i _ _ (zne (by decide))).trans ((ju_i _ _ (zne (by decide))).trans ((ju_i _ _ (zne (by decide))).trans e2))))))
            have y6 : (ju (ju (ju (ju (ju (ju M 598 75 v1) 598 74 0) 598 76 (-1)) 598 73 (v1 + 1)) 598 79 v3) 598 74 4) 598 73 = v1 + 1 := ((ju_i _ _ (zne (by decide))).trans ((ju_i _ _ (zne (by decide))).trans (ju_same _ _ _ _)))
            have y7 : (ju (ju (ju (ju (ju (ju M 598 75 v1) 598 74 0) 598 76 (-1)) 598 73 (v1 + 1)) 598 79 v3) 598 74 4) 598 74 = 4 := (ju_same _ _ _ _)
            have y8 : (ju (ju (ju (ju (ju (ju M 598 75 v1) 598 74 0) 598 76 (-1)) 598 73 (v1 + 1)) 598 79 v3) 598 74 4) 598 79 = v3 := ((ju_i _ _ (zne (by decide))).trans (ju_same _ _ _ _))
            exact jr.vreturn rfl rfl (q _ (RI.u (RI.u (RI.u (RI.u (RI.u (RI.u hI_M (a := 598) (i := 75) (show (0 : Int) ≤ _ ∧ _ ≤ (1600 : Int) from by omega)) (a := 598) (i := 74) (show (0 : Int) ≤ _ ∧ _ ≤ (4 : Int) from by omega)) (a := 598) (i := 76) (show (-1 : Int) ≤ _ ∧ _ ≤ (68 : Int) from by omega)) (a := 598) (i := 73) (show (0 : Int) ≤ _ ∧ _ ≤ (1600 : Int) from by omega)) (a := 598) (i := 79) (show (0 : Int) ≤ _ ∧ _ ≤ (255 : Int) from by omega)) (a := 598) (i := 74) (show (0 : Int) ≤ _ ∧ _ ≤ (4 : Int) from by omega)) (RH.o (RH.o (RH.o (RH.o (RH.o (RH.o hH_M (by decide) (by decide) (by decide)) (by decide) (by decide) (by decide)) (by decide) (by decide) (by decide)) (by decide) (by decide) (by decide)) (by decide) (by decide) (by decide)) (by decide) (by decide) (by decide)) (RF.o (RF.o (RF.o (RF.o (RF.o (RF.o hS_M (by decide) (by decide)) (by decide) (by decide)) (by decide) (by decide)) (by decide) (by decide)) (by decide) (by decide)) (by decide) (by decide))  (by omega) (by omega) (by unfold TK; omega) (fun q => by unfold TK; omega) (by omega) (fun a i f598 => ((ju_c _ _ f598).trans ((ju_c _ _ f598).trans ((ju_c _ _ f598).trans ((ju_c _ _ f598).trans ((ju_c _ _ f598).trans ((ju_c _ _ f598).trans rfl))))))) (fun i g73 g74 g75 g76 g77 g78 g79 => ((ju_i _ _ g74).trans ((ju_i _ _ g79).trans ((ju_i _ _ g73).trans ((ju_i _ _ g76).trans ((ju_i _ _ g74).trans ((ju_i _ _ g75).trans rfl))))))))
          · have sx399 : (1 : Int) ≤ r4 := by omega
            clear h399
            refine jr.iconst rfl ?_
            refine jr.goto rfl rfl ?_
            refine jr.putf (i := 74) (x := 3) rfl rfl (nlt rfl) rfl (nlt rfl) rfl rfl rfl rfl rfl ?_
            have y9 : (ju (ju (ju (ju (ju (ju M 598 75 v1) 598 74 0) 598 76 (-1)) 598 73 (v1 + 1)) 598 79 v3) 598 74 3) 598 72 = v2 := ((ju_i _ _ (zne (by decide))).trans ((ju_i _ _ (zne (by decide))).trans ((ju_i _ _ (zne (by decide))).trans ((ju_i _ _ (zne (by decide))).trans ((ju_i _ _ (zne (by decide))).trans ((ju_i _ _ (zne (by decide))).trans e2))))))
            have y10 : (ju (ju (ju (ju (ju (ju M 598 75 v1) 598 74 0) 598 76 (-1)) 598 73 (v1 + 1)) 598 79 v3) 598 74 3) 598 73 = v1 + 1 := ((ju_i _ _ (zne (by decide))).trans ((ju_i _ _ (zne (by decide))).trans (ju_same _ _ _ _)))
            have y11 : (ju (ju (ju (ju (ju (ju M 598 75 v1) 598 74 0) 598 76 (-1)) 598 73 (v1 + 1)) 598 79 v3) 598 74 3) 598 74 = 3 := (ju_same _ _ _ _)
            have y12 : (ju (ju (ju (ju (ju (ju M 598 75 v1) 598 74 0) 598 76 (-1)) 598 73 (v1 + 1)) 598 79 v3) 598 74 3) 598 79 = v3 := ((ju_i _ _ (zne (by decide))).trans (ju_same _ _ _ _))
            exact jr.vreturn rfl rfl (q _ (RI.u (RI.u (RI.u (RI.u (RI.u (RI.u hI_M (a := 598) (i := 75) (show (0 : Int) ≤ _ ∧ _ ≤ (1600 : Int) from by omega)) (a := 598) (i := 74) (show (0 : Int) ≤ _ ∧ _ ≤ (4 : Int) from by omega)) (a := 598) (i := 76) (show (-1 : Int) ≤ _ ∧ _ ≤ (68 : Int) from by omega)) (a := 598) (i := 73) (show (0 : Int) ≤ _ ∧ _ ≤ (1600 : Int) from by omega)) (a := 598) (i := 79) (show (0 : Int) ≤ _ ∧ _ ≤ (255 : Int) from by omega)) (a := 598) (i := 74) (show (0 : Int) ≤ _ ∧ _ ≤ (4 : Int) from by omega)) (RH.o (RH.o (RH.o (RH.o (RH.o (RH.o hH_M (by decide) (by decide) (by decide)) (by decide) (by decide) (by decide)) (by decide) (by decide) (by decide)) (by decide) (by decide) (by decide)) (by decide) (by decide) (by decide)) (by decide) (by decide) (by decide)) (RF.o (RF.o (RF.o (RF.o (RF.o (RF.o hS_M (by decide) (by decide)) (by decide) (by decide)) (by decide) (by decide)) (by decide) (by decide)) (by decide) (by decide)) (by decide) (by decide))  (by omega) (by omega) (by unfold TK; omega) (fun q => by unfold TK; omega) (by omega) (fun a i f598 => ((ju_c _ _ f598).trans ((ju_c _ _ f598).trans ((ju_c _ _ f598).trans ((ju_c _ _ f598).trans ((ju_c _ _ f598).trans ((ju_c _ _ f598).trans rfl))))))) (fun i g73 g74 g75 g76 g77 g78 g79 => ((ju_i _ _ g74).trans ((ju_i _ _ g79).trans ((ju_i _ _ g73).trans ((ju_i _ _ g76).trans ((ju_i _ _ g74).trans ((ju_i _ _ g75).trans rfl))))))))
    · have y13 : (ju (ju (ju M 598 75 v1) 598 74 0) 598 76 (-1)) 598 72 = v2 := ((ju_i _ _ (zne (by decide))).trans ((ju_i _ _ (zne (by decide))).trans ((ju_i _ _ (zne (by decide))).trans e2)))
      have y14 : (ju (ju (ju M 598 75 v1) 598 74 0) 598 76 (-1)) 598 73 = v1 := ((ju_i _ _ (zne (by decide))).trans ((ju_i _ _ (zne (by decide))).trans ((ju_i _ _ (zne (by decide))).trans e1)))
      have y15 : (ju (ju (ju M 598 75 v1) 598 74 0) 598 76 (-1)) 598 74 = 0 := ((ju_i _ _ (zne (by decide))).trans (ju_same _ _ _ _))
      obtain ⟨v16, e16⟩ : ∃ z, M 598 79 = z := ⟨_, rfl⟩
      have b16 : 0 ≤ v16 ∧ v16 ≤ 255 := by rw [← e16]; exact hI_M 598 79 (Nat.le_of_ble_eq_true rfl)
      have y17 : (ju (ju (ju M 598 75 v1) 598 74 0) 598 76 (-1)) 598 79 = v16 := ((ju_i _ _ (zne (by decide))).trans ((ju_i _ _ (zne (by decide))).trans ((ju_i _ _ (zne (by decide))).trans e16)))
      exact jr.vreturn rfl rfl (q _ (RI.u (RI.u (RI.u hI_M (a := 598) (i := 75) (show (0 : Int) ≤ _ ∧ _ ≤ (1600 : Int) from by omega)) (a := 598) (i := 74) (show (0 : Int) ≤ _ ∧ _ ≤ (4 : Int) from by omega)) (a := 598) (i := 76) (show (-1 : Int) ≤ _ ∧ _ ≤ (68 : Int) from by omega)) (RH.o (RH.o (RH.o hH_M (by decide) (by decide) (by decide)) (by decide) (by decide) (by decide)) (by decide) (by decide) (by decide)) (RF.o (RF.o (RF.o hS_M (by decide) (by decide)) (by decide) (by decide)) (by decide) (by decide))  (by omega) (by omega) (by unfold TK; omega) (fun q => by unfold TK; omega) (by omega) (fun a i f598 => ((ju_c _ _ f598).trans ((ju_c _ _ f598).trans ((ju_c _ _ f598).trans rfl)))) (fun i g73 g74 g75 g76 g77 g78 g79 => ((ju_i _ _ g76).trans ((ju_i _ _ g74).trans ((ju_i _ _ g75).trans rfl)))))
  · refine jr.aload_n rfl rfl ?_
    refine jr.getf (i := 71) (v := .ref 651) rfl rfl (nlt rfl) rfl (nlt rfl) rfl rfl rfl rfl ?_
    refine jr.aload_n rfl rfl ?_
    refine jr.getf (i := 73) (x := v1) (v := .int (Int32.ofInt (v1))) rfl rfl (nlt rfl) rfl (nlt rfl) rfl rfl e1 rfl ?_
    obtain ⟨v18, e18⟩ : ∃ z, M 651 v1 = z := ⟨_, rfl⟩
    have b18 : 0 ≤ v18 ∧ v18 ≤ 255 := by rw [← e18]; exact (by have q := hI_M 651 v1 (Nat.le_of_ble_eq_true rfl); rw [xri_row rfl rfl] at q; exact q)
    refine jr.iald (i := v1) (x := v18) rfl (nlt rfl) rfl (Nat.le_of_ble_eq_true rfl) (by omega) (by omega) e18 ?_
    refine jr.bipush rfl (jbp _ (nlt rfl)) ?_
    refine jr.icmp_eq rfl rfl (by first | (refine rgb (by assumption) ?_; exact rfl) | omega) (rgl rfl) (fun h22 => ?_) (fun h22 => ?_)
    · refine jr.aload_n rfl rfl ?_
      refine jr.dup rfl rfl ?_
      refine jr.getf (i := 73) (x := v1) (v := .int (Int32.ofInt (v1))) rfl rfl (nlt rfl) rfl (nlt rfl) rfl rfl e1 rfl ?_
      refine jr.iconst rfl ?_
      refine jr.iadd rfl ?_
      refine jr.putf (i := 73) (x := (v1 + 1)) rfl rfl (nlt rfl) rfl (nlt rfl) rfl rfl rfl rfl rfl ?_
      refine jr.goto rfl rfl ?_
      refine jr.pick (ls := [_]) [0] rfl rfl ?_
      exact r_next_L0 q 1600 (ju M 598 73 (v1 + 1))  (RI.u hI_M (a := 598) (i := 73) (show (0 : Int) ≤ _ ∧ _ ≤ (1600 : Int) from by omega)) (RH.o hH_M (by decide) (by decide) (by decide)) (RF.o hS_M (by decide) (by decide))  (fun a i f598 => ((ju_c _ _ f598).trans rfl)) (fun i g73 g74 g75 g76 g77 g78 g79 => ((ju_i _ _ g73).trans rfl))  (by rw [(ju_same _ _ _ _), ((ju_i _ _ (zne (by decide))).trans e2)] <;> omega) (by rw [(ju_same _ _ _ _)] <;> omega) (by omega) (by rw [(ju_same _ _ _ _)]; omega)
    · refine jr.aload_n rfl rfl ?_
      refine jr.getf (i := 71) (v := .ref 651) rfl rfl (nlt rfl) rfl (nlt rfl) rfl rfl rfl rfl ?_
      refine jr.aload_n rfl rfl ?_
      refine jr.getf (i := 73) (x := v1) (v := .int (Int32.ofInt (v1))) rfl rfl (nlt rfl) rfl (nlt rfl) rfl rfl e1 rfl ?_
      refine jr.iald (i := v1) (x := v18) rfl (nlt rfl) rfl (Nat.le_of_ble_eq_true rfl) (by omega) (by omega) e18 ?_
      refine jr.bipush rfl (jbp _ (nlt rfl)) ?_
      refine jr.icmp_ne rfl rfl (by first | (refine rgb (by assumption) ?_; exact rfl) | omega) (rgl rfl) (fun h36 => ?_) (fun h36 => ?_)
      · refine jr.aload_n rfl rfl ?_
        refine jr.aload_n rfl rfl ?_
        refine jr.getf (i := 73) (x := v1) (v := .int (Int32.ofInt (v1))) rfl rfl (nlt rfl) rfl (nlt rfl) rfl rfl e1 rfl ?_
        refine jr.putf (i := 75) (x := v1) rfl rfl (nlt rfl) rfl (nlt rfl) rfl rfl rfl rfl rfl ?_
        refine jr.aload_n rfl rfl ?_
        refine jr.iconst rfl ?_
        refine jr.putf (i := 74) (x := 0) rfl rfl (nlt rfl) rfl (nlt rfl) rfl rfl rfl rfl rfl ?_
        refine jr.aload_n rfl rfl ?_
        refine jr.iconst rfl ?_
        refine jr.putf (i := 76) (x := (-1)) rfl rfl (nlt rfl) rfl (nlt rfl) rfl rfl rfl rfl rfl ?_
        refine jr.aload_n rfl rfl ?_
        refine jr.getf (i := 73) (x := v1) (v := .int (Int32.ofInt (v1))) rfl rfl (nlt rfl) rfl (nlt rfl) rfl rfl ((ju_i _ _ (zne (by decide))).trans ((ju_i _ _ (zne (by decide))).trans ((ju_i _ _ (zne (by decide))).trans e1))) rfl ?_
        refine jr.aload_n rfl rfl ?_
        refine jr.getf (i := 72) (x := v2) (v := .int (Int32.ofInt (v2))) rfl rfl (nlt rfl) rfl (nlt rfl) rfl rfl ((ju_i _ _ (zne (by decide))).trans ((ju_i _ _ (zne (by decide))).trans ((ju_i _ _ (zne (by decide))).trans e2))) rfl ?_
        refine jr.icmp_ne rfl rfl (by first | (refine rgb (by assumption) ?_; exact rfl) | omega) (by first | (refine rgb (by assumption) ?_; exact rfl) | omega) (fun h78 => ?_) (fun h78 => ?_)
        · refine jr.aload_n rfl rfl ?_
          refine jr.getf (i := 71) (v := .ref 651) rfl rfl (nlt rfl) rfl (nlt rfl) rfl rfl rfl rfl ?_
          refine jr.aload_n rfl rfl ?_
          refine jr.getf (i := 73) (x := v1) (v := .int (Int32.ofInt (v1))) rfl rfl (nlt rfl) rfl (nlt rfl) rfl rfl ((ju_i _ _ (zne (by decide))).trans ((ju_i _ _ (zne (by decide))).trans ((ju_i _ _ (zne (by decide))).trans e1))) rfl ?_
          refine jr.iald (i := v1) (x := v18) rfl (nlt rfl) rfl (Nat.le_of_ble_eq_true rfl) (by omega) (by omega) ((ju_c _ _ (by decide)).trans ((ju_c _ _ (by decide)).trans ((ju_c _ _ (by decide)).trans e18))) ?_
          refine jr.istore_n (ls' := [_, _]) rfl (nlt rfl) rfl ?_
          refine jr.iload_n rfl rfl ?_
          refine jr_s rfl rfl (Or.inl rfl) ⟨Nat.le_of_ble_eq_true rfl, Nat.le_of_ble_eq_true rfl⟩ rfl rfl (jc.deep (c_isLetter  (by omega) (fun t93_0 t93_1 => ?_) (fun f93_0 => ?_)) (Nat.le_of_ble_eq_true rfl))
          · refine jr.if_eq rfl rfl (by first | exact rgl rfl | omega) (fun h => absurd h (by decide)) (fun _ => ?_)
            refine jr.aload_n rfl rfl ?_
            refine jr.lconst (x := 0) rfl (by decide) ?_
            refine jr.putf (i := 77) (x := 0) rfl rfl (nlt rfl) rfl (nlt rfl) rfl rfl rfl rfl rfl ?_
            refine jr.pick (ls := [_]) [1] rfl rfl ?_
            exact r_next_L104 q 1600 (ju (ju (ju (ju M 598 75 v1) 598 74 0) 598 76 (-1)) 598 77 0)  (RI.u (RI.u (RI.u (RI.u hI_M (a := 598) (i := 75) (show (0 : Int) ≤ _ ∧ _ ≤ (1600 : Int) from by omega)) (a := 598) (i := 74) (show (0 : Int) ≤ _ ∧ _ ≤ (4 : Int) from by omega)) (a := 598) (i := 76) (show (-1 : Int) ≤ _ ∧ _ ≤ (68 : Int) from by omega)) (a := 598) (i := 77) (show (-9223372036854775808 : Int) ≤ _ ∧ _ ≤ (9223372036854775807 : Int) from by omega)) (RH.o (RH.o (RH.o (RH.o hH_M (by decide) (by decide) (by decide)) (by decide) (by decide) (by decide)) (by decide) (by decide) (by decide)) (by decide) (by decide) (by decide)) (RF.o (RF.o (RF.o (RF.o hS_M (by decide) (by decide)) (by decide) (by decide)) (by decide) (by decide)) (by decide) (by decide))  (fun a i f598 => ((ju_c _ _ f598).trans ((ju_c _ _ f598).trans ((ju_c _ _ f598).trans ((ju_c _ _ f598).trans rfl))))) (fun i g73 g74 g75 g76 g77 g78 g79 => ((ju_i _ _ g77).trans ((ju_i _ _ g76).trans ((ju_i _ _ g74).trans ((ju_i _ _ g75).trans rfl)))))  (by rw [((ju_i _ _ (zne (by decide))).trans ((ju_i _ _ (zne (by decide))).trans ((ju_i _ _ (zne (by decide))).trans ((ju_i _ _ (zne (by decide))).trans e1)))), ((ju_i _ _ (zne (by decide))).trans ((ju_i _ _ (zne (by decide))).trans ((ju_i _ _ (zne (by decide))).trans ((ju_i _ _ (zne (by decide))).trans e2))))] <;> omega) (by rw [((ju_i _ _ (zne (by decide))).trans ((ju_i _ _ (zne (by decide))).trans ((ju_i _ _ (zne (by decide))).trans (ju_same _ _ _ _)))), ((ju_i _ _ (zne (by decide))).trans ((ju_i _ _ (zne (by decide))).trans ((ju_i _ _ (zne (by decide))).trans ((ju_i _ _ (zne (by decide))).trans e1))))] <;> omega) (by omega) (by rw [((ju_i _ _ (zne (by decide))).trans ((ju_i _ _ (zne (by decide))).trans ((ju_i _ _ (zne (by decide))).trans ((ju_i _ _ (zne (by decide))).trans e1)))), ((ju_i _ _ (zne (by decide))).trans ((ju_i _ _ (zne (by decide))).trans ((ju_i _ _ (zne (by decide))).trans (ju_same _ _ _ _)))), ((ju_i _ _ (zne (by decide))).trans ((ju_i _ _ (zne (by decide))).trans ((ju_i _ _ (zne (by decide))).trans ((ju_i _ _ (zne (by decide))).trans e2)))), ((ju_c _ _ (by decide)).trans ((ju_c _ _ (by decide)).trans ((ju_c _ _ (by decide)).trans ((ju_c _ _ (by decide)).trans e18))))]; omega) (by rw [((ju_i _ _ (zne (by decide))).trans ((ju_i _ _ (zne (by decide))).trans ((ju_i _ _ (zne (by decide))).trans ((ju_i _ _ (zne (by decide))).trans e1))))]; omega)
          · refine jr.if_eq rfl rfl (by first | exact rgl rfl | omega) (fun _ => ?_) (fun h => absurd (by decide) h)
            refine jr.iload_n rfl rfl ?_
            refine jr_s rfl rfl (Or.inl rfl) ⟨Nat.le_of_ble_eq_true rfl, Nat.le_of_ble_eq_true rfl⟩ rfl rfl (jc.deep (c_isDigit  (by omega) (fun t255_0 t255_1 => ?_) (fun f255_0 => ?_)) (Nat.le_of_ble_eq_true rfl))
            · refine jr.if_eq rfl rfl (by first | exact rgl rfl | omega) (fun h => absurd h (by decide)) (fun _ => ?_)
              refine jr.aload_n rfl rfl ?_
              refine jr.lconst (x := 0) rfl (by decide) ?_
              refine jr.putf (i := 78) (x := 0) rfl rfl (nlt rfl) rfl (nlt rfl) rfl rfl rfl rfl rfl ?_
              refine jr.pick (ls := [_]) [1] rfl rfl ?_
              exact r_next_L266 q 1600 (ju (ju (ju (ju M 598 75 v1) 598 74 0) 598 76 (-1)) 598 78 0)  (RI.u (RI.u (RI.u (RI.u hI_M (a := 598) (i := 75) (show (0 : Int) ≤ _ ∧ _ ≤ (1600 : Int) from by omega)) (a := 598) (i := 74) (show (0 : Int) ≤ _ ∧ _ ≤ (4 : Int) from by omega)) (a := 598) (i := 76) (show (-1 : Int) ≤ _ ∧ _ ≤ (68 : Int) from by omega)) (a := 598) (i := 78) (show (-9223372036854775808 : Int) ≤ _ ∧ _ ≤ (9223372036854775807 : Int) from by omega)) (RH.o (RH.o (RH.o (RH.o hH_M (by decide) (by decide) (by decide)) (by decide) (by decide) (by decide)) (by decide) (by decide) (by decide)) (by decide) (by decide) (by decide)) (RF.o (RF.o (RF.o (RF.o hS_M (by decide) (by decide)) (by decide) (by decide)) (by decide) (by decide)) (by decide) (by decide))  (fun a i f598 => ((ju_c _ _ f598).trans ((ju_c _ _ f598).trans ((ju_c _ _ f598).trans ((ju_c _ _ f598).trans rfl))))) (fun i g73 g74 g75 g76 g77 g78 g79 => ((ju_i _ _ g78).trans ((ju_i _ _ g76).trans ((ju_i _ _ g74).trans ((ju_i _ _ g75).trans rfl)))))  (by rw [((ju_i _ _ (zne (by decide))).trans ((ju_i _ _ (zne (by decide))).trans ((ju_i _ _ (zne (by decide))).trans ((ju_i _ _ (zne (by decide))).trans e1)))), ((ju_i _ _ (zne (by decide))).trans ((ju_i _ _ (zne (by decide))).trans ((ju_i _ _ (zne (by decide))).trans ((ju_i _ _ (zne (by decide))).trans e2))))] <;> omega) (by rw [((ju_i _ _ (zne (by decide))).trans ((ju_i _ _ (zne (by decide))).trans ((ju_i _ _ (zne (by decide))).trans (ju_same _ _ _ _)))), ((ju_i _ _ (zne (by decide))).trans ((ju_i _ _ (zne (by decide))).trans ((ju_i _ _ (zne (by decide))).trans ((ju_i _ _ (zne (by decide))).trans e1))))] <;> omega) (by omega) (by rw [((ju_i _ _ (zne (by decide))).trans ((ju_i _ _ (zne (by decide))).trans ((ju_i _ _ (zne (by decide))).trans ((ju_i _ _ (zne (by decide))).trans e1)))), ((ju_i _ _ (zne (by decide))).trans ((ju_i _ _ (zne (by decide))).trans ((ju_i _ _ (zne (by decide))).trans (ju_same _ _ _ _)))), ((ju_i _ _ (zne (by decide))).trans ((ju_i _ _ (zne (by decide))).trans ((ju_i _ _ (zne (by decide))).trans ((ju_i _ _ (zne (by decide))).trans e2)))), ((ju_c _ _ (by decide)).trans ((ju_c _ _ (by decide)).trans ((ju_c _ _ (by decide)).trans ((ju_c _ _ (by decide)).trans e18))))]; omega) (by rw [((ju_i _ _ (zne (by decide))).trans ((ju_i _ _ (zne (by decide))).trans ((ju_i _ _ (zne (by decide))).trans ((ju_i _ _ (zne (by decide))).trans e1))))]; omega)
            · refine jr.if_eq rfl rfl (by first | exact rgl rfl | omega) (fun _ => ?_) (fun h => absurd (by decide) h)
              refine jr.aload_n rfl rfl ?_
              refine jr.dup rfl rfl ?_
              refine jr.getf (i := 73) (x := v1) (v := .int (Int32.ofInt (v1))) rfl rfl (nlt rfl) rfl (nlt rfl) rfl rfl ((ju_i _ _ (zne (by decide))).trans ((ju_i _ _ (zne (by decide))).trans ((ju_i _ _ (zne (by decide))).trans e1))) rfl ?_
              refine jr.iconst rfl ?_
              refine jr.iadd rfl ?_
              refine jr.putf (i := 73) (x := (v1 + 1)) rfl rfl (nlt rfl) rfl (nlt rfl) rfl rfl rfl rfl rfl ?_
              refine jr.aload_n rfl rfl ?_
              refine jr.iload_n rfl rfl ?_
              refine jr.putf (i := 79) (x := v18) rfl rfl (nlt rfl) rfl (nlt rfl) rfl rfl rfl rfl rfl ?_
              refine jr.aload_n rfl rfl ?_
              refine jr.iload_n rfl rfl ?_
              refine jr_s rfl rfl (Or.inl rfl) ⟨Nat.le_of_ble_eq_true rfl, Nat.le_of_ble_eq_true rfl⟩ rfl rfl (jc.deep (r_isSignByte (RI.u (RI.u (RI.u (RI.u (RI.u hI_M (a := 598) (i := 75) (show (0 : Int) ≤ _ ∧ _ ≤ (1600 : Int) from by omega)) (a := 598) (i := 74) (show (0 : Int) ≤ _ ∧ _ ≤ (4 : Int) from by omega)) (a := 598) (i := 76) (show (-1 : Int) ≤ _ ∧ _ ≤ (68 : Int) from by omega)) (a := 598) (i := 73) (show (0 : Int) ≤ _ ∧ _ ≤ (1600 : Int) from by omega)) (a := 598) (i := 79) (show (0 : Int) ≤ _ ∧ _ ≤ (255 : Int) from by omega)) (RH.o (RH.o (RH.o (RH.o (RH.o hH_M (by decide) (by decide) (by decide)) (by decide) (by decide) (by decide)) (by decide) (by decide) (by decide)) (by decide) (by decide) (by decide)) (by decide) (by decide) (by decide)) (RF.o (RF.o (RF.o (RF.o (RF.o hS_M (by decide) (by decide)) (by decide) (by decide)) (by decide) (by decide)) (by decide) (by decide)) (by decide) (by decide)) (Kp.rfl _) (by omega)  (fun r19 z19 w19_0 => ?_)) (Nat.le_of_ble_eq_true rfl))
              refine jr.if_eq rfl rfl (by first | (refine rgb (by assumption) ?_; exact rfl) | omega) (fun h399 => ?_) (fun h399 => ?_)
              · refine jr.iconst rfl ?_
                refine jr.putf (i := 74) (x := 4) rfl rfl (nlt rfl) rfl (nlt rfl) rfl rfl rfl rfl rfl ?_
                have y20 : (ju (ju (ju (ju (ju (ju M 598 75 v1) 598 74 0) 598 76 (-1)) 598 73 (v1 + 1)) 598 79 v18) 598 74 4) 598 72 = v2 := ((ju_i _ _ (zne (by decide))).trans ((ju_i _ _ (zne (by decide))).trans ((ju_i _ _ (zne (by decide))).trans ((ju_i _ _ (zne (by decide))).trans ((ju_i _ _ (zne (by decide))).trans ((ju_i _ _ (zne (by decide))).trans e2))))))
                have y21 : (ju (ju (ju (ju (ju (ju M 598 75 v1) 598 74 0) 598 76 (-1)) 598 73 (v1 + 1)) 598 79 v18) 598 74 4) 598 73 = v1 + 1 := ((ju_i _ _ (zne (by decide))).trans ((ju_i _ _ (zne (by decide))).trans (ju_same _ _ _ _)))
                have y22 : (ju (ju (ju (ju (ju (ju M 598 75 v1) 598 74 0) 598 76 (-1)) 598 73 (v1 + 1)) 598 79 v18) 598 74 4) 598 74 = 4 := (ju_same _ _ _ _)
                have y23 : (ju (ju (ju (ju (ju (ju M 598 75 v1) 598 74 0) 598 76 (-1)) 598 73 (v1 + 1)) 598 79 v18) 598 74 4) 598 79 = v18 := ((ju_i _ _ (zne (by decide))).trans (ju_same _ _ _ _))
                exact jr.vreturn rfl rfl (q _ (RI.u (RI.u (RI.u (RI.u (RI.u (RI.u hI_M (a := 598) (i := 75) (show (0 : Int) ≤ _ ∧ _ ≤ (1600 : Int) from by omega)) (a := 598) (i := 74) (show (0 : Int) ≤ _ ∧ _ ≤ (4 : Int) from by omega)) (a := 598) (i := 76) (show (-1 : Int) ≤ _ ∧ _ ≤ (68 : Int) from by omega)) (a := 598) (i := 73) (show (0 : Int) ≤ _ ∧ _ ≤ (1600 : Int) from by omega)) (a := 598) (i := 79) (show (0 : Int) ≤ _ ∧ _ ≤ (255 : Int) from by omega)) (a := 598) (i := 74) (show (0 : Int) ≤ _ ∧ _ ≤ (4 : Int) from by omega)) (RH.o (RH.o (RH.o (RH.o (RH.o (RH.o hH_M (by decide) (by decide) (by decide)) (by decide) (by decide) (by decide)) (by decide) (by decide) (by decide)) (by decide) (by decide) (by decide)) (by decide) (by decide) (by decide)) (by decide) (by decide) (by decide)) (RF.o (RF.o (RF.o (RF.o (RF.o (RF.o hS_M (by decide) (by decide)) (by decide) (by decide)) (by decide) (by decide)) (by decide) (by decide)) (by decide) (by decide)) (by decide) (by decide))  (by omega) (by omega) (by unfold TK; omega) (fun q => by unfold TK; omega) (by omega) (fun a i f598 => ((ju_c _ _ f598).trans ((ju_c _ _ f598).trans ((ju_c _ _ f598).trans ((ju_c _ _ f598).trans ((ju_c _ _ f598).trans ((ju_c _ _ f598).trans rfl))))))) (fun i g73 g74 g75 g76 g77 g78 g79 => ((ju_i _ _ g74).trans ((ju_i _ _ g79).trans ((ju_i _ _ g73).trans ((ju_i _ _ g76).trans ((ju_i _ _ g74).trans ((ju_i _ _ g75).trans rfl))))))))
              · have sx399 : (1 : Int) ≤ r19 := by omega
                clear h399
                refine jr.iconst rfl ?_
                refine jr.goto rfl rfl ?_
                refine jr.putf (i := 74) (x := 3) rfl rfl (nlt rfl) rfl (nlt rfl) rfl rfl rfl rfl rfl ?_
                have y24 : (ju (ju (ju (ju (ju (ju M 598 75 v1) 598 74 0) 598 76 (-1)) 598 73 (v1 + 1)) 598 79 v18) 598 74 3) 598 72 = v2 := ((ju_i _ _ (zne (by decide))).trans ((ju_i _ _ (zne (by decide))).trans ((ju_i _ _ (zne (by decide))).trans ((ju_i _ _ (zne (by decide))).trans ((ju_i _ _ (zne (by decide))).trans ((ju_i _ _ (zne (by decide))).trans e2))))))
                have y25 : (ju (ju (ju (ju (ju (ju M 598 75 v1) 598 74 0) 598 76 (-1)) 598 73 (v1 + 1)) 598 79 v18) 598 74 3) 598 73 = v1 + 1 := ((ju_i _ _ (zne (by decide))).trans ((ju_i _ _ (zne (by decide))).trans (ju_same _ _ _ _)))
                have y26 : (ju (ju (ju (ju (ju (ju M 598 75 v1) 598 74 0) 598 76 (-1)) 598 73 (v1 + 1)) 598 79 v18) 598 74 3) 598 74 = 3 := (ju_same _ _ _ _)
                have y27 : (ju (ju (ju (ju (ju (ju M 598 75 v1) 598 74 0) 598 76 (-1)) 598 73 (v1 + 1)) 598 79 v18) 598 74 3) 598 79 = v18 := ((ju_i _ _ (zne (by decide))).trans (ju_same _ _ _ _))
                exact jr.vreturn rfl rfl (q _ (RI.u (RI.u (RI.u (RI.u (RI.u (RI.u hI_M (a := 598) (i := 75) (show (0 : Int) ≤ _ ∧ _ ≤ (1600 : Int) from by omega)) (a := 598) (i := 74) (show (0 : Int) ≤ _ ∧ _ ≤ (4 : Int) from by omega)) (a := 598) (i := 76) (show (-1 : Int) ≤ _ ∧ _ ≤ (68 : Int) from by omega)) (a := 598) (i := 73) (show (0 : Int) ≤ _ ∧ _ ≤ (1600 : Int) from by omega)) (a := 598) (i := 79) (show (0 : Int) ≤ _ ∧ _ ≤ (255 : Int) from by omega)) (a := 598) (i := 74) (show (0 : Int) ≤ _ ∧ _ ≤ (4 : Int) from by omega)) (RH.o (RH.o (RH.o (RH.o (RH.o (RH.o hH_M (by decide) (by decide) (by decide)) (by decide) (by decide) (by decide)) (by decide) (by decide) (by decide)) (by decide) (by decide) (by decide)) (by decide) (by decide) (by decide)) (by decide) (by decide) (by decide)) (RF.o (RF.o (RF.o (RF.o (RF.o (RF.o hS_M (by decide) (by decide)) (by decide) (by decide)) (by decide) (by decide)) (by decide) (by decide)) (by decide) (by decide)) (by decide) (by decide))  (by omega) (by omega) (by unfold TK; omega) (fun q => by unfold TK; omega) (by omega) (fun a i f598 => ((ju_c _ _ f598).trans ((ju_c _ _ f598).trans ((ju_c _ _ f598).trans ((ju_c _ _ f598).trans ((ju_c _ _ f598).trans ((ju_c _ _ f598).trans rfl))))))) (fun i g73 g74 g75 g76 g77 g78 g79 => ((ju_i _ _ g74).trans ((ju_i _ _ g79).trans ((ju_i _ _ g73).trans ((ju_i _ _ g76).trans ((ju_i _ _ g74).trans ((ju_i _ _ g75).trans rfl))))))))
        · have y28 : (ju (ju (ju M 598 75 v1) 598 74 0) 598 76 (-1)) 598 72 = v2 := ((ju_i _ _ (zne (by decide))).trans ((ju_i _ _ (zne (by decide))).trans ((ju_i _ _ (zne (by decide))).trans e2)))
          have y29 : (ju (ju (ju M 598 75 v1) 598 74 0) 598 76 (-1)) 598 73 = v1 := ((ju_i _ _ (zne (by decide))).trans ((ju_i _ _ (zne (by decide))).trans ((ju_i _ _ (zne (by decide))).trans e1)))
          have y30 : (ju (ju (ju M 598 75 v1) 598 74 0) 598 76 (-1)) 598 74 = 0 := ((ju_i _ _ (zne (by decide))).trans (ju_same _ _ _ _))
          obtain ⟨v31, e31⟩ : ∃ z, M 598 79 = z := ⟨_, rfl⟩
          have b31 : 0 ≤ v31 ∧ v31 ≤ 255 := by rw [← e31]; exact hI_M 598 79 (Nat.le_of_ble_eq_true rfl)
          have y32 : (ju (ju (ju M 598 75 v1) 598 74 0) 598 76 (-1)) 598 79 = v31 := ((ju_i _ _ (zne (by decide))).trans ((ju_i _ _ (zne (by decide))).trans ((ju_i _ _ (zne (by decide))).trans e31)))
          exact jr.vreturn rfl rfl (q _ (RI.u (RI.u (RI.u hI_M (a := 598) (i := 75) (show (0 : Int) ≤ _ ∧ _ ≤ (1600 : Int) from by omega)) (a := 598) (i := 74) (show (0 : Int) ≤ _ ∧ _ ≤ (4 : Int) from by omega)) (a := 598) (i := 76) (show (-1 : Int) ≤ _ ∧ _ ≤ (68 : Int) from by omega)) (RH.o (RH.o (RH.o hH_M (by decide) (by decide) (by decide)) (by decide) (by decide) (by decide)) (by decide) (by decide) (by decide)) (RF.o (RF.o (RF.o hS_M (by decide) (by decide)) (by decide) (by decide)) (by decide) (by decide))  (by omega) (by omega) (by unfold TK; omega) (fun q => by unfold TK; omega) (by omega) (fun a i f598 => ((ju_c _ _ f598).trans ((ju_c _ _ f598).trans ((ju_c _ _ f598).trans rfl)))) (fun i g73 g74 g75 g76 g77 g78 g79 => ((ju_i _ _ g76).trans ((ju_i _ _ g74).trans ((ju_i _ _ g75).trans rfl)))))
      · refine jr.aload_n rfl rfl ?_
        refine jr.dup rfl rfl ?_
        refine jr.getf (i := 73) (x := v1) (v := .int (Int32.ofInt (v1))) rfl rfl (nlt rfl) rfl (nlt rfl) rfl rfl e1 rfl ?_
        refine jr.iconst rfl ?_
        refine jr.iadd rfl ?_
        refine jr.putf (i := 73) (x := (v1 + 1)) rfl rfl (nlt rfl) rfl (nlt rfl) rfl rfl rfl rfl rfl ?_
        refine jr.goto rfl rfl ?_
        refine jr.pick (ls := [_]) [0] rfl rfl ?_
        exact r_next_L0 q 1600 (ju M 598 73 (v1 + 1))  (RI.u hI_M (a := 598) (i := 73) (show (0 : Int) ≤ _ ∧ _ ≤ (1600 : Int) from by omega)) (RH.o hH_M (by decide) (by decide) (by decide)) (RF.o hS_M (by decide) (by decide))  (fun a i f598 => ((ju_c _ _ f598).trans rfl)) (fun i g73 g74 g75 g76 g77 g78 g79 => ((ju_i _ _ g73).trans rfl))  (by rw [(ju_same _ _ _ _), ((ju_i _ _ (zne (by decide))).trans e2)] <;> omega) (by rw [(ju_same _ _ _ _)] <;> omega) (by omega) (by rw [(ju_same _ _ _ _)]; omega)
theorem r_want {A : Nat → Option (Nat × (Nat → Int32))} {Q : Option Value → jm → Prop} {M : jm} (hI_M : RI M) (hH_M : RH M) (hS_M : RF M) {c : Int} (h_c : 0 ≤ c ∧ c ≤ 255) (p0 : M 598 73 ≤ M 598 72) (q : ∀ (M' : jm), RI M' → RH M' → RF M' → M' 598 73 ≤ M' 598 72 → M 598 73 ≤ M' 598 73 → TK M' ≤ TK M → (M 598 80 ≠ 0 → M' 598 80 ≠ 0) → (M' 598 80 = 0 → TK M' < TK M) → ((M 598 74 = 3 → M 598 79 ≠ 10 ∧ M 598 79 ≠ 11) → (M' 598 74 = 3 → M' 598 79 ≠ 10 ∧ M' 598 79 ≠ 11)) → (∀ (a : Nat) (i : Int), a ≠ 598 → M' a i = M a i) → (∀ (i : Int), i ≠ 73 → i ≠ 74 → i ≠ 75 → i ≠ 76 → i ≠ 77 → i ≠ 78 → i ≠ 79 → i ≠ 80 → i ≠ 81 → M' 598 i = M 598 i) → Q none M') : jc A 3 348 [.ref (598), .int (Int32.ofInt (c))] M Q := by
  refine jc_of (m := xm_348) rfl (Nat.le_of_ble_eq_true rfl) rfl ?_
  refine jr.aload_n rfl rfl ?_
  refine jr_v rfl rfl (Or.inl rfl) rfl rfl (nlt rfl) rfl ⟨rfl, Nat.le_of_ble_eq_true rfl, Nat.le_of_ble_eq_true rfl⟩ rfl (jc.deep (c_good hI_M  (fun t1_0 => ?_) (fun f1_0 => ?_)) (Nat.le_of_ble_eq_true rfl))
  · refine jr.if_eq rfl rfl (by first | exact rgl rfl | omega) (fun h => absurd h (by decide)) (fun _ => ?_)
    refine jr.aload_n rfl rfl ?_
    refine jr.iload_n rfl rfl ?_
    refine jr_v rfl rfl (Or.inl rfl) rfl rfl (nlt rfl) rfl ⟨rfl, Nat.le_of_ble_eq_true rfl, Nat.le_of_ble_eq_true rfl⟩ rfl (jc.deep (c_isSign hI_M (by omega) (fun t9_0 t9_1 => ?_) (fun f9_0 => ?_)) (Nat.le_of_ble_eq_true rfl))
    · refine jr.if_eq rfl rfl (by first | exact rgl rfl | omega) (fun h => absurd h (by decide)) (fun _ => ?_)
      refine jr.aload_n rfl rfl ?_
      obtain ⟨v2, e2⟩ : ∃ z, M 598 73 = z := ⟨_, rfl⟩
      have b2 : 0 ≤ v2 ∧ v2 ≤ 1600 := by rw [← e2]; exact hI_M 598 73 (Nat.le_of_ble_eq_true rfl)
      obtain ⟨v3, e3⟩ : ∃ z, M 598 72 = z := ⟨_, rfl⟩
      have b3 : 0 ≤ v3 ∧ v3 ≤ 1600 := by rw [← e3]; exact hI_M 598 72 (Nat.le_of_ble_eq_true rfl)
      refine jr_v rfl rfl (Or.inl rfl) rfl rfl (nlt rfl) rfl ⟨rfl, Nat.le_of_ble_eq_true rfl, Nat.le_of_ble_eq_true rfl⟩ rfl (jc.deep (r_next hI_M hH_M hS_M   (by rw [e2, e3]; omega) (fun M1 hI_M1 hH_M1 hS_M1  w1_0 w1_1 w1_2 w1_3 w1_4 w1_5 w1_6 => ?_)) (Nat.le_of_ble_eq_true rfl))
      refine jr.goto rfl rfl ?_
      have e4 : M1 598 72 = v3 := ((w1_6 72 (zne rfl) (zne rfl) (zne rfl) (zne rfl) (zne rfl) (zne rfl) (zne rfl)).trans e3)
      obtain ⟨v6, e6⟩ : ∃ z, M1 598 73 = z := ⟨_, rfl⟩
      have b6 : 0 ≤ v6 ∧ v6 ≤ 1600 := by rw [← e6]; exact hI_M1 598 73 (Nat.le_of_ble_eq_true rfl)
      obtain ⟨v8, e8⟩ : ∃ z, M1 598 74 = z := ⟨_, rfl⟩
      have b8 : 0 ≤ v8 ∧ v8 ≤ 4 := by rw [← e8]; exact hI_M1 598 74 (Nat.le_of_ble_eq_true rfl)
      obtain ⟨v10, e10⟩ : ∃ z, M1 598 79 = z := ⟨_, rfl⟩
      have b10 : 0 ≤ v10 ∧ v10 ≤ 255 := by rw [← e10]; exact hI_M1 598 79 (Nat.le_of_ble_eq_true rfl)
      obtain ⟨v12, e12⟩ : ∃ z, M 598 80 = z := ⟨_, rfl⟩
      have b12 : 0 ≤ v12 ∧ v12 ≤ 7 := by rw [← e12]; exact hI_M 598 80 (Nat.le_of_ble_eq_true rfl)
      have e13 : M1 598 80 = v12 := ((w1_6 80 (zne rfl) (zne rfl) (zne rfl) (zne rfl) (zne rfl) (zne rfl) (zne rfl)).trans e12)
      exact jr.vreturn rfl rfl (q _ hI_M1 hH_M1 hS_M1  (by omega) (by omega) (by omega) (by omega) (by omega) (by omega) (fun a i f598 => ((w1_5 a i f598).trans rfl)) (fun i g73 g74 g75 g76 g77 g78 g79 g80 g81 => ((w1_6 i g73 g74 g75 g76 g77 g78 g79).trans rfl)))
    · refine jr.if_eq rfl rfl (by first | exact rgl rfl | omega) (fun _ => ?_) (fun h => absurd (by decide) h)
      refine jr.aload_n rfl rfl ?_
      obtain ⟨v15, e15⟩ : ∃ z, M 598 80 = z := ⟨_, rfl⟩
      have b15 : 0 ≤ v15 ∧ v15 ≤ 7 := by rw [← e15]; exact hI_M 598 80 (Nat.le_of_ble_eq_true rfl)
      refine jr_v rfl rfl (Or.inl rfl) rfl rfl (nlt rfl) rfl ⟨rfl, Nat.le_of_ble_eq_true rfl, Nat.le_of_ble_eq_true rfl⟩ rfl (jc.deep (c_good hI_M  (fun t23_0 => ?_) (fun f23_0 => ?_)) (Nat.le_of_ble_eq_true rfl))
      · refine jr.if_eq rfl rfl (by first | exact rgl rfl | omega) (fun h => absurd h (by decide)) (fun _ => ?_)
        refine jr.aload_n rfl rfl ?_
        refine jr_v rfl rfl (Or.inl rfl) rfl rfl (nlt rfl) rfl ⟨rfl, Nat.le_of_ble_eq_true rfl, Nat.le_of_ble_eq_true rfl⟩ rfl (jc.deep (r_wrongToken hI_M hH_M hS_M    (fun M16 hI_M16 hH_M16 hS_M16  w16_0 w16_1 w16_2 => ?_)) (Nat.le_of_ble_eq_true rfl))
        have tk16 : TK M16 = TK M := TK.fr (w16_2 73 (zne rfl) (zne rfl)) (w16_2 74 (zne rfl) (zne rfl))
        obtain ⟨v17, e17⟩ : ∃ z, M 598 72 = z := ⟨_, rfl⟩
        have b17 : 0 ≤ v17 ∧ v17 ≤ 1600 := by rw [← e17]; exact hI_M 598 72 (Nat.le_of_ble_eq_true rfl)
        have e18 : M16 598 72 = v17 := ((w16_2 72 (zne rfl) (zne rfl)).trans e17)
        obtain ⟨v20, e20⟩ : ∃ z, M 598 73 = z := ⟨_, rfl⟩
        have b20 : 0 ≤ v20 ∧ v20 ≤ 1600 := by rw [← e20]; exact hI_M 598 73 (Nat.le_of_ble_eq_true rfl)
        have e21 : M16 598 73 = v20 := ((w16_2 73 (zne rfl) (zne rfl)).trans e20)
        obtain ⟨v23, e23⟩ : ∃ z, M 598 74 = z := ⟨_, rfl⟩
        have b23 : 0 ≤ v23 ∧ v23 ≤ 4 := by rw [← e23]; exact hI_M 598 74 (Nat.le_of_ble_eq_true rfl)
        have e24 : M16 598 74 = v23 := ((w16_2 74 (zne rfl) (zne rfl)).trans e23)
        obtain ⟨v26, e26⟩ : ∃ z, M 598 79 = z := ⟨_, rfl⟩
        have b26 : 0 ≤ v26 ∧ v26 ≤ 255 := by rw [← e26]; exact hI_M 598 79 (Nat.le_of_ble_eq_true rfl)
        have e27 : M16 598 79 = v26 := ((w16_2 79 (zne rfl) (zne rfl)).trans e26)
        obtain ⟨v29, e29⟩ : ∃ z, M16 598 80 = z := ⟨_, rfl⟩
        have b29 : 0 ≤ v29 ∧ v29 ≤ 7 := by rw [← e29]; exact hI_M16 598 80 (Nat.le_of_ble_eq_true rfl)
        exact jr.vreturn rfl rfl (q _ hI_M16 hH_M16 hS_M16  (by omega) (by omega) (by omega) (by omega) (by omega) (by omega) (fun a i f598 => ((w16_1 a i f598).trans rfl)) (fun i g73 g74 g75 g76 g77 g78 g79 g80 g81 => ((w16_2 i g80 g81).trans rfl)))
      · exfalso
        omega
  · refine jr.if_eq rfl rfl (by first | exact rgl rfl | omega) (fun _ => ?_) (fun h => absurd (by decide) h)
    refine jr.aload_n rfl rfl ?_
    obtain ⟨v31, e31⟩ : ∃ z, M 598 80 = z := ⟨_, rfl⟩
    have b31 : 0 ≤ v31 ∧ v31 ≤ 7 := by rw [← e31]; exact hI_M 598 80 (Nat.le_of_ble_eq_true rfl)
    refine jr_v rfl rfl (Or.inl rfl) rfl rfl (nlt rfl) rfl ⟨rfl, Nat.le_of_ble_eq_true rfl, Nat.le_of_ble_eq_true rfl⟩ rfl (jc.deep (c_good hI_M  (fun t23_0 => ?_) (fun f23_0 => ?_)) (Nat.le_of_ble_eq_true rfl))
    · exfalso
      omega
    · refine jr.if_eq rfl rfl (by first | exact rgl rfl | omega) (fun _ => ?_) (fun h => absurd (by decide) h)
      obtain ⟨v32, e32⟩ : ∃ z, M 598 72 = z := ⟨_, rfl⟩
      have b32 : 0 ≤ v32 ∧ v32 ≤ 1600 := by rw [← e32]; exact hI_M 598 72 (Nat.le_of_ble_eq_true rfl)
      obtain ⟨v34, e34⟩ : ∃ z, M 598 73 = z := ⟨_, rfl⟩
      have b34 : 0 ≤ v34 ∧ v34 ≤ 1600 := by rw [← e34]; exact hI_M 598 73 (Nat.le_of_ble_eq_true rfl)
      obtain ⟨v36, e36⟩ : ∃ z, M 598 74 = z := ⟨_, rfl⟩
      have b36 : 0 ≤ v36 ∧ v36 ≤ 4 := by rw [← e36]; exact hI_M 598 74 (Nat.le_of_ble_eq_true rfl)
      obtain ⟨v38, e38⟩ : ∃ z, M 598 79 = z := ⟨_, rfl⟩
      have b38 : 0 ≤ v38 ∧ v38 ≤ 255 := by rw [← e38]; exact hI_M 598 79 (Nat.le_of_ble_eq_true rfl)
      exact jr.vreturn rfl rfl (q _ hI_M hH_M hS_M  (by omega) (by omega) (by omega) (by omega) (by omega) (by omega) (fun a i f598 => rfl) (fun i g73 g74 g75 g76 g77 g78 g79 g80 g81 => rfl))
theorem r_node {A : Nat → Option (Nat × (Nat → Int32))} {Q : Option Value → jm → Prop} {M : jm} (hI_M : RI M) (hH_M : RH M) (hS_M : RF M) (p0 : M 598 89 ≤ 300) (q : ∀ (M' : jm), RI M' → RH M' → RF M' → M' 598 89 = M 598 89 + 1 → (M 598 80 ≠ 0 → M' 598 80 ≠ 0) → (M' 598 80 = 0 → M 598 89 < 300) → (M 598 89 < 300 → M' 598 80 = M 598 80) → (∀ (a : Nat) (i : Int), a ≠ 598 → M' a i = M a i) → (∀ (i : Int), i ≠ 80 → i ≠ 81 → i ≠ 89 → M' 598 i = M 598 i) → Q none M') : jc A 2 351 [.ref (598)] M Q := by
  refine jc_of (m := xm_351) rfl (Nat.le_of_ble_eq_true rfl) rfl ?_
  refine jr.aload_n rfl rfl ?_
  obtain ⟨v1, e1⟩ : ∃ z, M 598 89 = z := ⟨_, rfl⟩
  have b1 : 0 ≤ v1 ∧ v1 ≤ 301 := by rw [← e1]; exact hI_M 598 89 (Nat.le_of_ble_eq_true rfl)
  refine jr.getf (i := 89) (x := v1) (v := .int (Int32.ofInt (v1))) rfl rfl (nlt rfl) rfl (nlt rfl) rfl rfl e1 rfl ?_
  refine jr.sipush rfl (by decide) ?_
  refine jr.icmp_ne rfl rfl (by first | (refine rgb (by assumption) ?_; exact rfl) | omega) (rgl rfl) (fun h7 => ?_) (fun h7 => ?_)
  · refine jr.aload_n rfl rfl ?_
    refine jr.dup rfl rfl ?_
    refine jr.getf (i := 89) (x := v1) (v := .int (Int32.ofInt (v1))) rfl rfl (nlt rfl) rfl (nlt rfl) rfl rfl e1 rfl ?_
    refine jr.iconst rfl ?_
    refine jr.iadd rfl ?_
    refine jr.putf (i := 89) (x := (v1 + 1)) rfl rfl (nlt rfl) rfl (nlt rfl) rfl rfl rfl rfl rfl ?_
    obtain ⟨v2, e2⟩ : ∃ z, M 598 73 = z := ⟨_, rfl⟩
    have b2 : 0 ≤ v2 ∧ v2 ≤ 1600 := by rw [← e2]; exact hI_M 598 73 (Nat.le_of_ble_eq_true rfl)
    have y3 : (ju M 598 89 (v1 + 1)) 598 73 = v2 := ((ju_i _ _ (zne (by decide))).trans e2)
    obtain ⟨v4, e4⟩ : ∃ z, M 598 80 = z := ⟨_, rfl⟩
    have b4 : 0 ≤ v4 ∧ v4 ≤ 7 := by rw [← e4]; exact hI_M 598 80 (Nat.le_of_ble_eq_true rfl)
    have y5 : (ju M 598 89 (v1 + 1)) 598 80 = v4 := ((ju_i _ _ (zne (by decide))).trans e4)
    have y6 : (ju M 598 89 (v1 + 1)) 598 89 = v1 + 1 := (ju_same _ _ _ _)
    obtain ⟨v7, e7⟩ : ∃ z, M 598 100 = z := ⟨_, rfl⟩
    have b7 : 0 ≤ v7 ∧ v7 ≤ 13 := by rw [← e7]; exact hI_M 598 100 (Nat.le_of_ble_eq_true rfl)
    have y8 : (ju M 598 89 (v1 + 1)) 598 100 = v7 := ((ju_i _ _ (zne (by decide))).trans e7)
    have y9 : TK (ju M 598 89 (v1 + 1)) = TK M := ((TK.o (Or.inr ⟨by decide, by decide⟩)).trans rfl)
    exact jr.vreturn rfl rfl (q _ (RI.u hI_M (a := 598) (i := 89) (show (0 : Int) ≤ _ ∧ _ ≤ (301 : Int) from by omega)) (RH.o hH_M (by decide) (by decide) (by decide)) (RF.o hS_M (by decide) (by decide))  (by omega) (by omega) (by omega) (by omega) (fun a i f598 => ((ju_c _ _ f598).trans rfl)) (fun i g80 g81 g89 => ((ju_i _ _ g89).trans rfl)))
  · refine jr.aload_n rfl rfl ?_
    refine jr.iconst rfl ?_
    refine jr.aload_n rfl rfl ?_
    obtain ⟨v10, e10⟩ : ∃ z, M 598 75 = z := ⟨_, rfl⟩
    have b10 : 0 ≤ v10 ∧ v10 ≤ 1600 := by rw [← e10]; exact hI_M 598 75 (Nat.le_of_ble_eq_true rfl)
    refine jr.getf (i := 75) (x := v10) (v := .int (Int32.ofInt (v10))) rfl rfl (nlt rfl) rfl (nlt rfl) rfl rfl e10 rfl ?_
    refine jr_v rfl rfl (Or.inl rfl) rfl rfl (nlt rfl) rfl ⟨rfl, Nat.le_of_ble_eq_true rfl, Nat.le_of_ble_eq_true rfl⟩ rfl (jc.deep (r_fails hI_M hH_M hS_M  (by omega) (by omega)  (fun M11 hI_M11 hH_M11 hS_M11  w11_0 w11_1 w11_2 => ?_)) (Nat.le_of_ble_eq_true rfl))
    have tk11 : TK M11 = TK M := TK.fr (w11_2 73 (zne rfl) (zne rfl)) (w11_2 74 (zne rfl) (zne rfl))
    refine jr.aload_n rfl rfl ?_
    refine jr.dup rfl rfl ?_
    have e12 : M11 598 89 = v1 := ((w11_2 89 (zne rfl) (zne rfl)).trans e1)
    refine jr.getf (i := 89) (x := v1) (v := .int (Int32.ofInt (v1))) rfl rfl (nlt rfl) rfl (nlt rfl) rfl rfl e12 rfl ?_
    refine jr.iconst rfl ?_
    refine jr.iadd rfl ?_
    refine jr.putf (i := 89) (x := (v1 + 1)) rfl rfl (nlt rfl) rfl (nlt rfl) rfl rfl rfl rfl rfl ?_
    obtain ⟨v13, e13⟩ : ∃ z, M 598 73 = z := ⟨_, rfl⟩
    have b13 : 0 ≤ v13 ∧ v13 ≤ 1600 := by rw [← e13]; exact hI_M 598 73 (Nat.le_of_ble_eq_true rfl)
    have e14 : M11 598 73 = v13 := ((w11_2 73 (zne rfl) (zne rfl)).trans e13)
    have y15 : (ju M11 598 89 (v1 + 1)) 598 73 = v13 := ((ju_i _ _ (zne (by decide))).trans e14)
    obtain ⟨v16, e16⟩ : ∃ z, M11 598 80 = z := ⟨_, rfl⟩
    have b16 : 0 ≤ v16 ∧ v16 ≤ 7 := by rw [← e16]; exact hI_M11 598 80 (Nat.le_of_ble_eq_true rfl)
    have y17 : (ju M11 598 89 (v1 + 1)) 598 80 = v16 := ((ju_i _ _ (zne (by decide))).trans e16)
    have y18 : (ju M11 598 89 (v1 + 1)) 598 89 = v1 + 1 := (ju_same _ _ _ _)
    obtain ⟨v19, e19⟩ : ∃ z, M 598 100 = z := ⟨_, rfl⟩
    have b19 : 0 ≤ v19 ∧ v19 ≤ 13 := by rw [← e19]; exact hI_M 598 100 (Nat.le_of_ble_eq_true rfl)
    have e20 : M11 598 100 = v19 := ((w11_2 100 (zne rfl) (zne rfl)).trans e19)
    have y21 : (ju M11 598 89 (v1 + 1)) 598 100 = v19 := ((ju_i _ _ (zne (by decide))).trans e20)
    have y22 : TK (ju M11 598 89 (v1 + 1)) = TK M11 := ((TK.o (Or.inr ⟨by decide, by decide⟩)).trans rfl)
    exact jr.vreturn rfl rfl (q _ (RI.u hI_M11 (a := 598) (i := 89) (show (0 : Int) ≤ _ ∧ _ ≤ (301 : Int) from by omega)) (RH.o hH_M11 (by decide) (by decide) (by decide)) (RF.o hS_M11 (by decide) (by decide))  (by omega) (by omega) (by omega) (by omega) (fun a i f598 => ((ju_c _ _ f598).trans ((w11_1 a i f598).trans rfl))) (fun i g80 g81 g89 => ((ju_i _ _ g89).trans ((w11_2 i g80 g81).trans rfl))))
theorem r_deeper {A : Nat → Option (Nat × (Nat → Int32))} {Q : Option Value → jm → Prop} {M : jm} (hI_M : RI M) (hH_M : RH M) (hS_M : RF M) (p0 : M 598 73 ≤ M 598 72) (p1 : M 598 100 ≤ 12) (q : ∀ (M' : jm), RI M' → RH M' → RF M' → M' 598 73 ≤ M' 598 72 → M 598 73 ≤ M' 598 73 → TK M' ≤ TK M → M' 598 100 = M 598 100 + 1 → (M 598 80 ≠ 0 → M' 598 80 ≠ 0) → (M' 598 80 = 0 → M' 598 100 ≤ 12) → (M' 598 80 = 0 → M 598 74 ≠ 0 → TK M' < TK M) → ((M 598 74 = 3 → M 598 79 ≠ 10 ∧ M 598 79 ≠ 11) → (M' 598 74 = 3 → M' 598 79 ≠ 10 ∧ M' 598 79 ≠ 11)) → (∀ (a : Nat) (i : Int), a ≠ 598 → M' a i = M a i) → (∀ (i : Int), i ≠ 73 → i ≠ 74 → i ≠ 75 → i ≠ 76 → i ≠ 77 → i ≠ 78 → i ≠ 79 → i ≠ 80 → i ≠ 81 → i ≠ 100 → M' 598 i = M 598 i) → Q none M') : jc A 3 352 [.ref (598)] M Q := by
  refine jc_of (m := xm_352) rfl (Nat.le_of_ble_eq_true rfl) rfl ?_
  refine jr.aload_n rfl rfl ?_
  obtain ⟨v1, e1⟩ : ∃ z, M 598 100 = z := ⟨_, rfl⟩
  have b1 : 0 ≤ v1 ∧ v1 ≤ 13 := by rw [← e1]; exact hI_M 598 100 (Nat.le_of_ble_eq_true rfl)
  refine jr.getf (i := 100) (x := v1) (v := .int (Int32.ofInt (v1))) rfl rfl (nlt rfl) rfl (nlt rfl) rfl rfl e1 rfl ?_
  refine jr.bipush rfl (jbp _ (nlt rfl)) ?_
  refine jr.icmp_ne rfl rfl (by first | (refine rgb (by assumption) ?_; exact rfl) | omega) (rgl rfl) (fun h6 => ?_) (fun h6 => ?_)
  · refine jr.aload_n rfl rfl ?_
    refine jr.dup rfl rfl ?_
    refine jr.getf (i := 100) (x := v1) (v := .int (Int32.ofInt (v1))) rfl rfl (nlt rfl) rfl (nlt rfl) rfl rfl e1 rfl ?_
    refine jr.iconst rfl ?_
    refine jr.iadd rfl ?_
    refine jr.putf (i := 100) (x := (v1 + 1)) rfl rfl (nlt rfl) rfl (nlt rfl) rfl rfl rfl rfl rfl ?_
    refine jr.aload_n rfl rfl ?_
    refine jr_v rfl rfl (Or.inl rfl) rfl rfl (nlt rfl) rfl ⟨rfl, Nat.le_of_ble_eq_true rfl, Nat.le_of_ble_eq_true rfl⟩ rfl (jc.deep (c_good (RI.u hI_M (a := 598) (i := 100) (show (0 : Int) ≤ _ ∧ _ ≤ (13 : Int) from by omega))  (fun t29_0 => ?_) (fun f29_0 => ?_)) (Nat.le_of_ble_eq_true rfl))
    · refine jr.if_eq rfl rfl (by first | exact rgl rfl | omega) (fun h => absurd h (by decide)) (fun _ => ?_)
      refine jr.aload_n rfl rfl ?_
      obtain ⟨v3, e3⟩ : ∃ z, M 598 73 = z := ⟨_, rfl⟩
      have b3 : 0 ≤ v3 ∧ v3 ≤ 1600 := by rw [← e3]; exact hI_M 598 73 (Nat.le_of_ble_eq_true rfl)
      obtain ⟨v4, e4⟩ : ∃ z, M 598 72 = z := ⟨_, rfl⟩
      have b4 : 0 ≤ v4 ∧ v4 ≤ 1600 := by rw [← e4]; exact hI_M 598 72 (Nat.le_of_ble_eq_true rfl)
      obtain ⟨v6, e6⟩ : ∃ z, M 598 74 = z := ⟨_, rfl⟩
      have b6 : 0 ≤ v6 ∧ v6 ≤ 4 := by rw [← e6]; exact hI_M 598 74 (Nat.le_of_ble_eq_true rfl)
      refine jr_v rfl rfl (Or.inl rfl) rfl rfl (nlt rfl) rfl ⟨rfl, Nat.le_of_ble_eq_true rfl, Nat.le_of_ble_eq_true rfl⟩ rfl (jc.deep (r_next (RI.u hI_M (a := 598) (i := 100) (show (0 : Int) ≤ _ ∧ _ ≤ (13 : Int) from by omega)) (RH.o hH_M (by decide) (by decide) (by decide)) (RF.o hS_M (by decide) (by decide))   (by rw [((ju_i _ _ (zne (by decide))).trans e3), ((ju_i _ _ (zne (by decide))).trans e4)]; omega) (fun M2 hI_M2 hH_M2 hS_M2  w2_0 w2_1 w2_2 w2_3 w2_4 w2_5 w2_6 => ?_)) (Nat.le_of_ble_eq_true rfl))
      have y5 : (ju M 598 100 (v1 + 1)) 598 73 = v3 := ((ju_i _ _ (zne (by decide))).trans e3)
      have y7 : (ju M 598 100 (v1 + 1)) 598 74 = v6 := ((ju_i _ _ (zne (by decide))).trans e6)
      have tb2 : TK (ju M 598 100 (v1 + 1)) = TK M := ((TK.o (Or.inr ⟨by decide, by decide⟩)).trans rfl)
      have e8 : M2 598 72 = v4 := ((w2_6 72 (zne rfl) (zne rfl) (zne rfl) (zne rfl) (zne rfl) (zne rfl) (zne rfl)).trans ((ju_i _ _ (zne (by decide))).trans e4))
      obtain ⟨v10, e10⟩ : ∃ z, M2 598 73 = z := ⟨_, rfl⟩
      have b10 : 0 ≤ v10 ∧ v10 ≤ 1600 := by rw [← e10]; exact hI_M2 598 73 (Nat.le_of_ble_eq_true rfl)
      obtain ⟨v12, e12⟩ : ∃ z, M2 598 74 = z := ⟨_, rfl⟩
      have b12 : 0 ≤ v12 ∧ v12 ≤ 4 := by rw [← e12]; exact hI_M2 598 74 (Nat.le_of_ble_eq_true rfl)
      obtain ⟨v14, e14⟩ : ∃ z, M2 598 79 = z := ⟨_, rfl⟩
      have b14 : 0 ≤ v14 ∧ v14 ≤ 255 := by rw [← e14]; exact hI_M2 598 79 (Nat.le_of_ble_eq_true rfl)
      obtain ⟨v16, e16⟩ : ∃ z, M 598 80 = z := ⟨_, rfl⟩
      have b16 : 0 ≤ v16 ∧ v16 ≤ 7 := by rw [← e16]; exact hI_M 598 80 (Nat.le_of_ble_eq_true rfl)
      have e17 : M2 598 80 = v16 := ((w2_6 80 (zne rfl) (zne rfl) (zne rfl) (zne rfl) (zne rfl) (zne rfl) (zne rfl)).trans ((ju_i _ _ (zne (by decide))).trans e16))
      have e19 : M2 598 100 = v1 + 1 := ((w2_6 100 (zne rfl) (zne rfl) (zne rfl) (zne rfl) (zne rfl) (zne rfl) (zne rfl)).trans (ju_same _ _ _ _))
      exact jr.vreturn rfl rfl (q _ hI_M2 hH_M2 hS_M2  (by omega) (by omega) (by omega) (by omega) (by omega) (by omega) (by omega) (by omega) (fun a i f598 => ((w2_5 a i f598).trans ((ju_c _ _ f598).trans rfl))) (fun i g73 g74 g75 g76 g77 g78 g79 g80 g81 g100 => ((w2_6 i g73 g74 g75 g76 g77 g78 g79).trans ((ju_i _ _ g100).trans rfl))))
    · refine jr.if_eq rfl rfl (by first | exact rgl rfl | omega) (fun _ => ?_) (fun h => absurd (by decide) h)
      obtain ⟨v21, e21⟩ : ∃ z, M 598 72 = z := ⟨_, rfl⟩
      have b21 : 0 ≤ v21 ∧ v21 ≤ 1600 := by rw [← e21]; exact hI_M 598 72 (Nat.le_of_ble_eq_true rfl)
      have y22 : (ju M 598 100 (v1 + 1)) 598 72 = v21 := ((ju_i _ _ (zne (by decide))).trans e21)
      obtain ⟨v23, e23⟩ : ∃ z, M 598 73 = z := ⟨_, rfl⟩
      have b23 : 0 ≤ v23 ∧ v23 ≤ 1600 := by rw [← e23]; exact hI_M 598 73 (Nat.le_of_ble_eq_true rfl)
      have y24 : (ju M 598 100 (v1 + 1)) 598 73 = v23 := ((ju_i _ _ (zne (by decide))).trans e23)
      obtain ⟨v25, e25⟩ : ∃ z, M 598 74 = z := ⟨_, rfl⟩
      have b25 : 0 ≤ v25 ∧ v25 ≤ 4 := by rw [← e25]; exact hI_M 598 74 (Nat.le_of_ble_eq_true rfl)
      have y26 : (ju M 598 100 (v1 + 1)) 598 74 = v25 := ((ju_i _ _ (zne (by decide))).trans e25)
      obtain ⟨v27, e27⟩ : ∃ z, M 598 79 = z := ⟨_, rfl⟩
      have b27 : 0 ≤ v27 ∧ v27 ≤ 255 := by rw [← e27]; exact hI_M 598 79 (Nat.le_of_ble_eq_true rfl)
      have y28 : (ju M 598 100 (v1 + 1)) 598 79 = v27 := ((ju_i _ _ (zne (by decide))).trans e27)
      obtain ⟨v29, e29⟩ : ∃ z, M 598 80 = z := ⟨_, rfl⟩
      have b29 : 0 ≤ v29 ∧ v29 ≤ 7 := by rw [← e29]; exact hI_M 598 80 (Nat.le_of_ble_eq_true rfl)
      have y30 : (ju M 598 100 (v1 + 1)) 598 80 = v29 := ((ju_i _ _ (zne (by decide))).trans e29)
      have y31 : (ju M 598 100 (v1 + 1)) 598 100 = v1 + 1 := (ju_same _ _ _ _)
      have y32 : TK (ju M 598 100 (v1 + 1)) = TK M := ((TK.o (Or.inr ⟨by decide, by decide⟩)).trans rfl)
      exact jr.vreturn rfl rfl (q _ (RI.u hI_M (a := 598) (i := 100) (show (0 : Int) ≤ _ ∧ _ ≤ (13 : Int) from by omega)) (RH.o hH_M (by decide) (by decide) (by decide)) (RF.o hS_M (by decide) (by decide))  (by omega) (by omega) (by omega) (by omega) (by omega) (by omega) (by omega) (by omega) (fun a i f598 => ((ju_c _ _ f598).trans rfl)) (fun i g73 g74 g75 g76 g77 g78 g79 g80 g81 g100 => ((ju_i _ _ g100).trans rfl)))
  · refine jr.aload_n rfl rfl ?_
    refine jr.iconst rfl ?_
    refine jr.aload_n rfl rfl ?_
    obtain ⟨v33, e33⟩ : ∃ z, M 598 75 = z := ⟨_, rfl⟩
    have b33 : 0 ≤ v33 ∧ v33 ≤ 1600 := by rw [← e33]; exact hI_M 598 75 (Nat.le_of_ble_eq_true rfl)
    refine jr.getf (i := 75) (x := v33) (v := .int (Int32.ofInt (v33))) rfl rfl (nlt rfl) rfl (nlt rfl) rfl rfl e33 rfl ?_
    refine jr_v rfl rfl (Or.inl rfl) rfl rfl (nlt rfl) rfl ⟨rfl, Nat.le_of_ble_eq_true rfl, Nat.le_of_ble_eq_true rfl⟩ rfl (jc.deep (r_fails hI_M hH_M hS_M  (by omega) (by omega)  (fun M34 hI_M34 hH_M34 hS_M34  w34_0 w34_1 w34_2 => ?_)) (Nat.le_of_ble_eq_true rfl))
    have tk34 : TK M34 = TK M := TK.fr (w34_2 73 (zne rfl) (zne rfl)) (w34_2 74 (zne rfl) (zne rfl))
    refine jr.aload_n rfl rfl ?_
    refine jr.dup rfl rfl ?_
    have e35 : M34 598 100 = v1 := ((w34_2 100 (zne rfl) (zne rfl)).trans e1)
    refine jr.getf (i := 100) (x := v1) (v := .int (Int32.ofInt (v1))) rfl rfl (nlt rfl) rfl (nlt rfl) rfl rfl e35 rfl ?_
    refine jr.iconst rfl ?_
    refine jr.iadd rfl ?_
    refine jr.putf (i := 100) (x := (v1 + 1)) rfl rfl (nlt rfl) rfl (nlt rfl) rfl rfl rfl rfl rfl ?_
    refine jr.aload_n rfl rfl ?_
    obtain ⟨v36, e36⟩ : ∃ z, M34 598 80 = z := ⟨_, rfl⟩
    have b36 : 0 ≤ v36 ∧ v36 ≤ 7 := by rw [← e36]; exact hI_M34 598 80 (Nat.le_of_ble_eq_true rfl)
    refine jr_v rfl rfl (Or.inl rfl) rfl rfl (nlt rfl) rfl ⟨rfl, Nat.le_of_ble_eq_true rfl, Nat.le_of_ble_eq_true rfl⟩ rfl (jc.deep (c_good (RI.u hI_M34 (a := 598) (i := 100) (show (0 : Int) ≤ _ ∧ _ ≤ (13 : Int) from by omega))  (fun t29_0 => ?_) (fun f29_0 => ?_)) (Nat.le_of_ble_eq_true rfl))
    · exfalso
      have y37 : (ju M34 598 100 (v1 + 1)) 598 80 = v36 := ((ju_i _ _ (zne (by decide))).trans e36)
      omega
    · refine jr.if_eq rfl rfl (by first | exact rgl rfl | omega) (fun _ => ?_) (fun h => absurd (by decide) h)
      obtain ⟨v38, e38⟩ : ∃ z, M 598 72 = z := ⟨_, rfl⟩
      have b38 : 0 ≤ v38 ∧ v38 ≤ 1600 := by rw [← e38]; exact hI_M 598 72 (Nat.le_of_ble_eq_true rfl)
      have e39 : M34 598 72 = v38 := ((w34_2 72 (zne rfl) (zne rfl)).trans e38)
      have y40 : (ju M34 598 100 (v1 + 1)) 598 72 = v38 := ((ju_i _ _ (zne (by decide))).trans e39)
      obtain ⟨v41, e41⟩ : ∃ z, M 598 73 = z := ⟨_, rfl⟩
      have b41 : 0 ≤ v41 ∧ v41 ≤ 1600 := by rw [← e41]; exact hI_M 598 73 (Nat.le_of_ble_eq_true rfl)
      have e42 : M34 598 73 = v41 := ((w34_2 73 (zne rfl) (zne rfl)).trans e41)
      have y43 : (ju M34 598 100 (v1 + 1)) 598 73 = v41 := ((ju_i _ _ (zne (by decide))).trans e42)
      obtain ⟨v44, e44⟩ : ∃ z, M 598 74 = z := ⟨_, rfl⟩
      have b44 : 0 ≤ v44 ∧ v44 ≤ 4 := by rw [← e44]; exact hI_M 598 74 (Nat.le_of_ble_eq_true rfl)
      have e45 : M34 598 74 = v44 := ((w34_2 74 (zne rfl) (zne rfl)).trans e44)
      have y46 : (ju M34 598 100 (v1 + 1)) 598 74 = v44 := ((ju_i _ _ (zne (by decide))).trans e45)
      obtain ⟨v47, e47⟩ : ∃ z, M 598 79 = z := ⟨_, rfl⟩
      have b47 : 0 ≤ v47 ∧ v47 ≤ 255 := by rw [← e47]; exact hI_M 598 79 (Nat.le_of_ble_eq_true rfl)
      have e48 : M34 598 79 = v47 := ((w34_2 79 (zne rfl) (zne rfl)).trans e47)
      have y49 : (ju M34 598 100 (v1 + 1)) 598 79 = v47 := ((ju_i _ _ (zne (by decide))).trans e48)
      have y50 : (ju M34 598 100 (v1 + 1)) 598 80 = v36 := ((ju_i _ _ (zne (by decide))).trans e36)
      have y51 : (ju M34 598 100 (v1 + 1)) 598 100 = v1 + 1 := (ju_same _ _ _ _)
      have y52 : TK (ju M34 598 100 (v1 + 1)) = TK M34 := ((TK.o (Or.inr ⟨by decide, by decide⟩)).trans rfl)
      exact jr.vreturn rfl rfl (q _ (RI.u hI_M34 (a := 598) (i := 100) (show (0 : Int) ≤ _ ∧ _ ≤ (13 : Int) from by omega)) (RH.o hH_M34 (by decide) (by decide) (by decide)) (RF.o hS_M34 (by decide) (by decide))  (by omega) (by omega) (by omega) (by omega) (by omega) (by omega) (by omega) (by omega) (fun a i f598 => ((ju_c _ _ f598).trans ((w34_1 a i f598).trans rfl))) (fun i g73 g74 g75 g76 g77 g78 g79 g80 g81 g100 => ((ju_i _ _ g100).trans ((w34_2 i g80 g81).trans rfl))))
theorem r_wantDeeper {A : Nat → Option (Nat × (Nat → Int32))} {Q : Option Value → jm → Prop} {M : jm} (hI_M : RI M) (hH_M : RH M) (hS_M : RF M) {c : Int} (h_c : 0 ≤ c ∧ c ≤ 255) (p0 : M 598 73 ≤ M 598 72) (p1 : (M 598 80 = 0 → M 598 100 ≤ 12)) (q : ∀ (M' : jm), RI M' → RH M' → RF M' → (M' 598 80 = 0 → M 598 74 = 3) → M' 598 73 ≤ M' 598 72 → M 598 73 ≤ M' 598 73 → TK M' ≤ TK M → (M' 598 100 = M 598 100 + 1 ∨ (M' 598 80 ≠ 0 ∧ M' 598 100 = M 598 100)) → (M 598 80 ≠ 0 → M' 598 80 ≠ 0) → (M' 598 80 = 0 → M' 598 100 ≤ 12) → (M' 598 80 = 0 → TK M' < TK M) → ((M 598 74 = 3 → M 598 79 ≠ 10 ∧ M 598 79 ≠ 11) → (M' 598 74 = 3 → M' 598 79 ≠ 10 ∧ M' 598 79 ≠ 11)) → (∀ (a : Nat) (i : Int), a ≠ 598 → M' a i = M a i) → (∀ (i : Int), i ≠ 73 → i ≠ 74 → i ≠ 75 → i ≠ 76 → i ≠ 77 → i ≠ 78 → i ≠ 79 → i ≠ 80 → i ≠ 81 → i ≠ 100 → M' 598 i = M 598 i) → Q none M') : jc A 4 353 [.ref (598), .int (Int32.ofInt (c))] M Q := by
  refine jc_of (m := xm_353) rfl (Nat.le_of_ble_eq_true rfl) rfl ?_
  refine jr.aload_n rfl rfl ?_
  refine jr_v rfl rfl (Or.inl rfl) rfl rfl (nlt rfl) rfl ⟨rfl, Nat.le_of_ble_eq_true rfl, Nat.le_of_ble_eq_true rfl⟩ rfl (jc.deep (c_good hI_M  (fun t1_0 => ?_) (fun f1_0 => ?_)) (Nat.le_of_ble_eq_true rfl))
  · refine jr.if_eq rfl rfl (by first | exact rgl rfl | omega) (fun h => absurd h (by decide)) (fun _ => ?_)
    refine jr.aload_n rfl rfl ?_
    refine jr.iload_n rfl rfl ?_
    refine jr_v rfl rfl (Or.inl rfl) rfl rfl (nlt rfl) rfl ⟨rfl, Nat.le_of_ble_eq_true rfl, Nat.le_of_ble_eq_true rfl⟩ rfl (jc.deep (c_isSign hI_M (by omega) (fun t9_0 t9_1 => ?_) (fun f9_0 => ?_)) (Nat.le_of_ble_eq_true rfl))
    · refine jr.if_eq rfl rfl (by first | exact rgl rfl | omega) (fun h => absurd h (by decide)) (fun _ => ?_)
      refine jr.aload_n rfl rfl ?_
      obtain ⟨v2, e2⟩ : ∃ z, M 598 73 = z := ⟨_, rfl⟩
      have b2 : 0 ≤ v2 ∧ v2 ≤ 1600 := by rw [← e2]; exact hI_M 598 73 (Nat.le_of_ble_eq_true rfl)
      obtain ⟨v3, e3⟩ : ∃ z, M 598 72 = z := ⟨_, rfl⟩
      have b3 : 0 ≤ v3 ∧ v3 ≤ 1600 := by rw [← e3]; exact hI_M 598 72 (Nat.le_of_ble_eq_true rfl)
      obtain ⟨v4, e4⟩ : ∃ z, M 598 100 = z := ⟨_, rfl⟩
      have b4 : 0 ≤ v4 ∧ v4 ≤ 13 := by rw [← e4]; exact hI_M 598 100 (Nat.le_of_ble_eq_true rfl)
      refine jr_v rfl rfl (Or.inl rfl) rfl rfl (nlt rfl) rfl ⟨rfl, Nat.le_of_ble_eq_true rfl, Nat.le_of_ble_eq_true rfl⟩ rfl (jc.deep (r_deeper hI_M hH_M hS_M   (by rw [e2, e3]; omega) (by rw [e4]; omega) (fun M1 hI_M1 hH_M1 hS_M1  w1_0 w1_1 w1_2 w1_3 w1_4 w1_5 w1_6 w1_7 w1_8 w1_9 => ?_)) (Nat.le_of_ble_eq_true rfl))
      refine jr.goto rfl rfl ?_
      have e5 : M1 598 72 = v3 := ((w1_9 72 (zne rfl) (zne rfl) (zne rfl) (zne rfl) (zne rfl) (zne rfl) (zne rfl) (zne rfl) (zne rfl) (zne rfl)).trans e3)
      obtain ⟨v7, e7⟩ : ∃ z, M1 598 73 = z := ⟨_, rfl⟩
      have b7 : 0 ≤ v7 ∧ v7 ≤ 1600 := by rw [← e7]; exact hI_M1 598 73 (Nat.le_of_ble_eq_true rfl)
      obtain ⟨v9, e9⟩ : ∃ z, M1 598 74 = z := ⟨_, rfl⟩
      have b9 : 0 ≤ v9 ∧ v9 ≤ 4 := by rw [← e9]; exact hI_M1 598 74 (Nat.le_of_ble_eq_true rfl)
      obtain ⟨v11, e11⟩ : ∃ z, M1 598 79 = z := ⟨_, rfl⟩
      have b11 : 0 ≤ v11 ∧ v11 ≤ 255 := by rw [← e11]; exact hI_M1 598 79 (Nat.le_of_ble_eq_true rfl)
      obtain ⟨v13, e13⟩ : ∃ z, M1 598 80 = z := ⟨_, rfl⟩
      have b13 : 0 ≤ v13 ∧ v13 ≤ 7 := by rw [← e13]; exact hI_M1 598 80 (Nat.le_of_ble_eq_true rfl)
      obtain ⟨v15, e15⟩ : ∃ z, M1 598 100 = z := ⟨_, rfl⟩
      have b15 : 0 ≤ v15 ∧ v15 ≤ 13 := by rw [← e15]; exact hI_M1 598 100 (Nat.le_of_ble_eq_true rfl)
      exact jr.vreturn rfl rfl (q _ hI_M1 hH_M1 hS_M1  (by omega) (by omega) (by omega) (by omega) (by omega) (by omega) (by omega) (by omega) (by omega) (fun a i f598 => ((w1_8 a i f598).trans rfl)) (fun i g73 g74 g75 g76 g77 g78 g79 g80 g81 g100 => ((w1_9 i g73 g74 g75 g76 g77 g78 g79 g80 g81 g100).trans rfl)))
    · refine jr.if_eq rfl rfl (by first | exact rgl rfl | omega) (fun _ => ?_) (fun h => absurd (by decide) h)
      refine jr.aload_n rfl rfl ?_
      obtain ⟨v17, e17⟩ : ∃ z, M 598 80 = z := ⟨_, rfl⟩
      have b17 : 0 ≤ v17 ∧ v17 ≤ 7 := by rw [← e17]; exact hI_M 598 80 (Nat.le_of_ble_eq_true rfl)
      refine jr_v rfl rfl (Or.inl rfl) rfl rfl (nlt rfl) rfl ⟨rfl, Nat.le_of_ble_eq_true rfl, Nat.le_of_ble_eq_true rfl⟩ rfl (jc.deep (c_good hI_M  (fun t23_0 => ?_) (fun f23_0 => ?_)) (Nat.le_of_ble_eq_true rfl))
      · refine jr.if_eq rfl rfl (by first | exact rgl rfl | omega) (fun h => absurd h (by decide)) (fun _ => ?_)
        refine jr.aload_n rfl rfl ?_
        refine jr_v rfl rfl (Or.inl rfl) rfl rfl (nlt rfl) rfl ⟨rfl, Nat.le_of_ble_eq_true rfl, Nat.le_of_ble_eq_true rfl⟩ rfl (jc.deep (r_wrongToken hI_M hH_M hS_M    (fun M18 hI_M18 hH_M18 hS_M18  w18_0 w18_1 w18_2 => ?_)) (Nat.le_of_ble_eq_true rfl))
        have tk18 : TK M18 = TK M := TK.fr (w18_2 73 (zne rfl) (zne rfl)) (w18_2 74 (zne rfl) (zne rfl))
        obtain ⟨v19, e19⟩ : ∃ z, M 598 72 = z := ⟨_, rfl⟩
        have b19 : 0 ≤ v19 ∧ v19 ≤ 1600 := by rw [← e19]; exact hI_M 598 72 (Nat.le_of_ble_eq_true rfl)
        have e20 : M18 598 72 = v19 := ((w18_2 72 (zne rfl) (zne rfl)).trans e19)
        obtain ⟨v22, e22⟩ : ∃ z, M 598 73 = z := ⟨_, rfl⟩
        have b22 : 0 ≤ v22 ∧ v22 ≤ 1600 := by rw [← e22]; exact hI_M 598 73 (Nat.le_of_ble_eq_true rfl)
        have e23 : M18 598 73 = v22 := ((w18_2 73 (zne rfl) (zne rfl)).trans e22)
        obtain ⟨v25, e25⟩ : ∃ z, M 598 74 = z := ⟨_, rfl⟩
        have b25 : 0 ≤ v25 ∧ v25 ≤ 4 := by rw [← e25]; exact hI_M 598 74 (Nat.le_of_ble_eq_true rfl)
        have e26 : M18 598 74 = v25 := ((w18_2 74 (zne rfl) (zne rfl)).trans e25)
        obtain ⟨v28, e28⟩ : ∃ z, M 598 79 = z := ⟨_, rfl⟩
        have b28 : 0 ≤ v28 ∧ v28 ≤ 255 := by rw [← e28]; exact hI_M 598 79 (Nat.le_of_ble_eq_true rfl)
        have e29 : M18 598 79 = v28 := ((w18_2 79 (zne rfl) (zne rfl)).trans e28)
        obtain ⟨v31, e31⟩ : ∃ z, M18 598 80 = z := ⟨_, rfl⟩
        have b31 : 0 ≤ v31 ∧ v31 ≤ 7 := by rw [← e31]; exact hI_M18 598 80 (Nat.le_of_ble_eq_true rfl)
        obtain ⟨v33, e33⟩ : ∃ z, M 598 100 = z := ⟨_, rfl⟩
        have b33 : 0 ≤ v33 ∧ v33 ≤ 13 := by rw [← e33]; exact hI_M 598 100 (Nat.le_of_ble_eq_true rfl)
        have e34 : M18 598 100 = v33 := ((w18_2 100 (zne rfl) (zne rfl)).trans e33)
        exact jr.vreturn rfl rfl (q _ hI_M18 hH_M18 hS_M18  (by omega) (by omega) (by omega) (by omega) (by omega) (by omega) (by omega) (by omega) (by omega) (fun a i f598 => ((w18_1 a i f598).trans rfl)) (fun i g73 g74 g75 g76 g77 g78 g79 g80 g81 g100 => ((w18_2 i g80 g81).trans rfl)))
      · exfalso
        omega
  · refine jr.if_eq rfl rfl (by first | exact rgl rfl | omega) (fun _ => ?_) (fun h => absurd (by decide) h)
    refine jr.aload_n rfl rfl ?_
    obtain ⟨v36, e36⟩ : ∃ z, M 598 80 = z := ⟨_, rfl⟩
    have b36 : 0 ≤ v36 ∧ v36 ≤ 7 := by rw [← e36]; exact hI_M 598 80 (Nat.le_of_ble_eq_true rfl)
    refine jr_v rfl rfl (Or.inl rfl) rfl rfl (nlt rfl) rfl ⟨rfl, Nat.le_of_ble_eq_true rfl, Nat.le_of_ble_eq_true rfl⟩ rfl (jc.deep (c_good hI_M  (fun t23_0 => ?_) (fun f23_0 => ?_)) (Nat.le_of_ble_eq_true rfl))
    · exfalso
      omega
    · refine jr.if_eq rfl rfl (by first | exact rgl rfl | omega) (fun _ => ?_) (fun h => absurd (by decide) h)
      obtain ⟨v37, e37⟩ : ∃ z, M 598 72 = z := ⟨_, rfl⟩
      have b37 : 0 ≤ v37 ∧ v37 ≤ 1600 := by rw [← e37]; exact hI_M 598 72 (Nat.le_of_ble_eq_true rfl)
      obtain ⟨v39, e39⟩ : ∃ z, M 598 73 = z := ⟨_, rfl⟩
      have b39 : 0 ≤ v39 ∧ v39 ≤ 1600 := by rw [← e39]; exact hI_M 598 73 (Nat.le_of_ble_eq_true rfl)
      obtain ⟨v41, e41⟩ : ∃ z, M 598 74 = z := ⟨_, rfl⟩
      have b41 : 0 ≤ v41 ∧ v41 ≤ 4 := by rw [← e41]; exact hI_M 598 74 (Nat.le_of_ble_eq_true rfl)
      obtain ⟨v43, e43⟩ : ∃ z, M 598 79 = z := ⟨_, rfl⟩
      have b43 : 0 ≤ v43 ∧ v43 ≤ 255 := by rw [← e43]; exact hI_M 598 79 (Nat.le_of_ble_eq_true rfl)
      obtain ⟨v46, e46⟩ : ∃ z, M 598 100 = z := ⟨_, rfl⟩
      have b46 : 0 ≤ v46 ∧ v46 ≤ 13 := by rw [← e46]; exact hI_M 598 100 (Nat.le_of_ble_eq_true rfl)
      exact jr.vreturn rfl rfl (q _ hI_M hH_M hS_M  (by omega) (by omega) (by omega) (by omega) (by omega) (by omega) (by omega) (by omega) (by omega) (fun a i f598 => rfl) (fun i g73 g74 g75 g76 g77 g78 g79 g80 g81 g100 => rfl))
theorem r_strength {A : Nat → Option (Nat × (Nat → Int32))} {Q : Option Value → jm → Prop} {T : jm} {M : jm} (hI_M : RI M) (hH_M : RH M) (hS_M : RF M) (ht_M : Kp T M) {s : Int} (h_s : (-2147483648) ≤ s ∧ s ≤ 2147483647) (q : ∀ (r : Int), 0 ≤ r ∧ r ≤ 6 → r = strn s → Q (some (.int (Int32.ofInt r))) M) : jc A 1 354 [.int (Int32.ofInt (s))] M Q := by
  refine jc_of (m := xm_354) rfl (Nat.le_of_ble_eq_true rfl) rfl ?_
  refine jr.iload_n rfl rfl ?_
  rcases (show s = 10 ∨ s = 11 ∨ s = 37 ∨ s = 38 ∨ s = 42 ∨ s = 43 ∨ s = 45 ∨ s = 47 ∨ s = 60 ∨ s = 61 ∨ s = 62 ∨ s = 124 ∨ (s ≠ 10 ∧ s ≠ 11 ∧ s ≠ 37 ∧ s ≠ 38 ∧ s ≠ 42 ∧ s ≠ 43 ∧ s ≠ 45 ∧ s ≠ 47 ∧ s ≠ 60 ∧ s ≠ 61 ∧ s ≠ 62 ∧ s ≠ 124) by omega) with h1 | h1 | h1 | h1 | h1 | h1 | h1 | h1 | h1 | h1 | h1 | h1 | h1
  · refine jr.lsw_k 10 rfl h1 rfl ?_
    refine jr.bipush rfl (jbp _ (nlt rfl)) ?_
    exact jr.ireturn rfl rfl rfl (q _ (by first | exact rgq rfl | omega) (by rw [h1]; rfl))
  · refine jr.lsw_k 11 rfl h1 rfl ?_
    refine jr.bipush rfl (jbp _ (nlt rfl)) ?_
    exact jr.ireturn rfl rfl rfl (q _ (by first | exact rgq rfl | omega) (by rw [h1]; rfl))
  · refine jr.lsw_k 37 rfl h1 rfl ?_
    refine jr.iconst rfl ?_
    exact jr.ireturn rfl rfl rfl (q _ (by first | exact rgq rfl | omega) (by rw [h1]; rfl))
  · refine jr.lsw_k 38 rfl h1 rfl ?_
    refine jr.iconst rfl ?_
    exact jr.ireturn rfl rfl rfl (q _ (by first | exact rgq rfl | omega) (by rw [h1]; rfl))
  · refine jr.lsw_k 42 rfl h1 rfl ?_
    refine jr.iconst rfl ?_
    exact jr.ireturn rfl rfl rfl (q _ (by first | exact rgq rfl | omega) (by rw [h1]; rfl))
  · refine jr.lsw_k 43 rfl h1 rfl ?_
    refine jr.iconst rfl ?_
    exact jr.ireturn rfl rfl rfl (q _ (by first | exact rgq rfl | omega) (by rw [h1]; rfl))
  · refine jr.lsw_k 45 rfl h1 rfl ?_
    refine jr.iconst rfl ?_
    exact jr.ireturn rfl rfl rfl (q _ (by first | exact rgq rfl | omega) (by rw [h1]; rfl))
  · refine jr.lsw_k 47 rfl h1 rfl ?_
    refine jr.iconst rfl ?_
    exact jr.ireturn rfl rfl rfl (q _ (by first | exact rgq rfl | omega) (by rw [h1]; rfl))
  · refine jr.lsw_k 60 rfl h1 rfl ?_
    refine jr.iconst rfl ?_
    exact jr.ireturn rfl rfl rfl (q _ (by first | exact rgq rfl | omega) (by rw [h1]; rfl))
  · refine jr.lsw_k 61 rfl h1 rfl ?_
    refine jr.iconst rfl ?_
    exact jr.ireturn rfl rfl rfl (q _ (by first | exact rgq rfl | omega) (by rw [h1]; rfl))
  · refine jr.lsw_k 62 rfl h1 rfl ?_
    refine jr.iconst rfl ?_
    exact jr.ireturn rfl rfl rfl (q _ (by first | exact rgq rfl | omega) (by rw [h1]; rfl))
  · refine jr.lsw_k 124 rfl h1 rfl ?_
    refine jr.iconst rfl ?_
    exact jr.ireturn rfl rfl rfl (q _ (by first | exact rgq rfl | omega) (by rw [h1]; rfl))
  · refine jr.lsw_d rfl (by omega) rfl (fun q hq => by simp only [List.mem_cons, List.not_mem_nil, or_false] at hq; rcases hq with rfl | rfl | rfl | rfl | rfl | rfl | rfl | rfl | rfl | rfl | rfl | rfl <;> (simp only; omega)) rfl ?_
    refine jr.iconst rfl ?_
    exact jr.ireturn rfl rfl rfl (q _ (by first | exact rgq rfl | omega) (by unfold strn; (repeat' split) <;> omega))
theorem r_argsOf {A : Nat → Option (Nat × (Nat → Int32))} {Q : Option Value → jm → Prop} {T : jm} {M : jm} (hI_M : RI M) (hH_M : RH M) (hS_M : RF M) (ht_M : Kp T M) {w : Int} (h_w : (-2147483648) ≤ w ∧ w ≤ 2147483647) (q : ∀ (r : Int), 1 ≤ r ∧ r ≤ 3 → r = argn w → Q (some (.int (Int32.ofInt r))) M) : jc A 1 357 [.int (Int32.ofInt (w))] M Q := by
  refine jc_of (m := xm_357) rfl (Nat.le_of_ble_eq_true rfl) rfl ?_
  refine jr.iload_n rfl rfl ?_
  refine jr.bipush rfl (jbp _ (nlt rfl)) ?_
  refine jr.icmp_ne rfl rfl (by first | (refine rgb (by assumption) ?_; exact rfl) | omega) (rgl rfl) (fun h3 => ?_) (fun h3 => ?_)
  · refine jr.iload_n rfl rfl ?_
    refine jr.bipush rfl (jbp _ (nlt rfl)) ?_
    refine jr.icmp_eq rfl rfl (by first | (refine rgb (by assumption) ?_; exact rfl) | omega) (rgl rfl) (fun h13 => ?_) (fun h13 => ?_)
    · refine jr.iconst rfl ?_
      refine jr.goto rfl rfl ?_
      exact jr.ireturn rfl rfl rfl (q _ (by first | exact rgq rfl | omega) (by unfold argn; (repeat' split) <;> omega))
    · refine jr.iload_n rfl rfl ?_
      refine jr.bipush rfl (jbp _ (nlt rfl)) ?_
      refine jr.icmp_ne rfl rfl (by first | (refine rgb (by assumption) ?_; exact rfl) | omega) (rgl rfl) (fun h19 => ?_) (fun h19 => ?_)
      · refine jr.iconst rfl ?_
        exact jr.ireturn rfl rfl rfl (q _ (by first | exact rgq rfl | omega) (by unfold argn; (repeat' split) <;> omega))
      · refine jr.iconst rfl ?_
        refine jr.goto rfl rfl ?_
        exact jr.ireturn rfl rfl rfl (q _ (by first | exact rgq rfl | omega) (by unfold argn; (repeat' split) <;> omega))
  · refine jr.iconst rfl ?_
    refine jr.goto rfl rfl ?_
    exact jr.ireturn rfl rfl rfl (q _ (by first | exact rgq rfl | omega) (by unfold argn; (repeat' split) <;> omega))
theorem r_exps {A : Nat → Option (Nat × (Nat → Int32))} {Q : Option Value → jm → Prop} {T : jm} {M : jm} (hI_M : RI M) (hH_M : RH M) (hS_M : RF M) (ht_M : Kp T M) {w : Int} (h_w : 10 ≤ w ∧ w ≤ 18) (q : ∀ (r : Int), 1 ≤ r ∧ r ≤ 5 → r = ndo (20 + w) → Q (some (.int (Int32.ofInt r))) M) : jc A 1 366 [.int (Int32.ofInt (w))] M Q := by
  refine jc_of (m := xm_366) rfl (Nat.le_of_ble_eq_true rfl) rfl ?_
  refine jr.iload_n rfl rfl ?_
  refine jr.bipush rfl (jbp _ (nlt rfl)) ?_
  refine jr.icmp_ne rfl rfl (by first | (refine rgb (by assumption) ?_; exact rfl) | omega) (rgl rfl) (fun h3 => ?_) (fun h3 => ?_)
  · refine jr.iload_n rfl rfl ?_
    refine jr.bipush rfl (jbp _ (nlt rfl)) ?_
    refine jr.icmp_eq rfl rfl (by first | (refine rgb (by assumption) ?_; exact rfl) | omega) (rgl rfl) (fun h13 => ?_) (fun h13 => ?_)
    · refine jr.iconst rfl ?_
      refine jr.goto rfl rfl ?_
      exact jr.ireturn rfl rfl rfl (q _ (by first | exact rgq rfl | omega) (by unfold ndo; (repeat' split) <;> omega))
    · refine jr.iload_n rfl rfl ?_
      refine jr.bipush rfl (jbp _ (nlt rfl)) ?_
      refine jr.icmp_ne rfl rfl (by first | (refine rgb (by assumption) ?_; exact rfl) | omega) (rgl rfl) (fun h19 => ?_) (fun h19 => ?_)
      · refine jr.iload_n rfl rfl ?_
        refine jr.bipush rfl (jbp _ (nlt rfl)) ?_
        refine jr.icmp_eq rfl rfl (by first | (refine rgb (by assumption) ?_; exact rfl) | omega) (rgl rfl) (fun h29 => ?_) (fun h29 => ?_)
        · refine jr.iconst rfl ?_
          refine jr.goto rfl rfl ?_
          exact jr.ireturn rfl rfl rfl (q _ (by first | exact rgq rfl | omega) (by unfold ndo; (repeat' split) <;> omega))
        · refine jr.iload_n rfl rfl ?_
          refine jr.bipush rfl (jbp _ (nlt rfl)) ?_
          refine jr.icmp_ne rfl rfl (by first | (refine rgb (by assumption) ?_; exact rfl) | omega) (rgl rfl) (fun h35 => ?_) (fun h35 => ?_)
          · refine jr.iconst rfl ?_
            exact jr.ireturn rfl rfl rfl (q _ (by first | exact rgq rfl | omega) (by unfold ndo; (repeat' split) <;> omega))
          · refine jr.iconst rfl ?_
            refine jr.goto rfl rfl ?_
            exact jr.ireturn rfl rfl rfl (q _ (by first | exact rgq rfl | omega) (by unfold ndo; (repeat' split) <;> omega))
      · refine jr.iconst rfl ?_
        refine jr.goto rfl rfl ?_
        exact jr.ireturn rfl rfl rfl (q _ (by first | exact rgq rfl | omega) (by unfold ndo; (repeat' split) <;> omega))
  · refine jr.iconst rfl ?_
    refine jr.goto rfl rfl ?_
    exact jr.ireturn rfl rfl rfl (q _ (by first | exact rgq rfl | omega) (by unfold ndo; (repeat' split) <;> omega))
