/-! ===== the reference: contracts, d ===== -/
theorem r_bucket {A : Nat → Option (Nat × (Nat → Int32))} {Q : Option Value → jm → Prop} {T : jm} {M : jm} (hI_M : RI M) (hH_M : RH M) (hS_M : RF M) (ht_M : Kp T M) {k : Int} (h_k : (-2147483648) ≤ k ∧ k ≤ 2147483647) {c : Int} (h_c : (-2147483648) ≤ c ∧ c ≤ 2147483647) {e : Int} (h_e : (-2147483648) ≤ e ∧ e ≤ 2147483647) (q : ∀ (r : Int) (M' : jm), RI M' → RH M' → RF M' → Kp T M' → (-3) ≤ r ∧ r ≤ 1000 → Q (some (.int (Int32.ofInt r))) M') : jc A 2 299 [.ref (598), .int (Int32.ofInt (k)), .int (Int32.ofInt (c)), .int (Int32.ofInt (e))] M Q := by
  refine jc_of (m := xm_299) rfl (Nat.le_of_ble_eq_true rfl) rfl ?_
  refine jr.iload_n rfl rfl ?_
  refine jr.i2l rfl (by omega) ?_
  refine jr.lconst (x := 0) rfl (by decide) ?_
  refine jr.ldc2 (x := 3) rfl rfl (by decide) ?_
  refine jr_s rfl rfl (Or.inl rfl) ⟨Nat.le_of_ble_eq_true rfl, Nat.le_of_ble_eq_true rfl⟩ rfl rfl (jc.deep (c_within (by omega) (by omega) (by omega) (fun l6 u6 => ?_) (fun n6 => ?_)) (by decide))
  · refine jr.if_eq rfl rfl (by omega) (fun h => absurd h (by decide)) (fun _ => ?_)
    refine jr.iload_n rfl rfl ?_
    refine jr.i2l rfl (by omega) ?_
    refine jr.lconst (x := 0) rfl (by decide) ?_
    refine jr.ldc2 (x := 1000) rfl rfl (by decide) ?_
    refine jr_s rfl rfl (Or.inl rfl) ⟨Nat.le_of_ble_eq_true rfl, Nat.le_of_ble_eq_true rfl⟩ rfl rfl (jc.deep (c_within (by omega) (by omega) (by omega) (fun l18 u18 => ?_) (fun n18 => ?_)) (by decide))
    · refine jr.if_eq rfl rfl (by omega) (fun h => absurd h (by decide)) (fun _ => ?_)
      refine jr.iload_n rfl rfl ?_
      refine jr.i2l rfl (by omega) ?_
      refine jr.lconst (x := 1) rfl (by decide) ?_
      refine jr.ldc2 (x := 1000) rfl rfl (by decide) ?_
      refine jr_s rfl rfl (Or.inl rfl) ⟨Nat.le_of_ble_eq_true rfl, Nat.le_of_ble_eq_true rfl⟩ rfl rfl (jc.deep (c_within (by omega) (by omega) (by omega) (fun l30 u30 => ?_) (fun n30 => ?_)) (by decide))
      · refine jr.if_ne rfl rfl (by omega) (fun _ => ?_) (fun h => absurd (by decide) h)
        refine jr.aload_n rfl rfl ?_
        refine jr.getf (i := 35) (v := .ref 623) rfl rfl (by decide) rfl (by decide) rfl rfl rfl rfl ?_
        refine jr.iload_n rfl rfl ?_
        refine jr.iload_n rfl rfl ?_
        refine jr.iast (i := k) (x := c) rfl (by decide) rfl (by decide) (by omega) (by omega) ?_
        refine jr.aload_n rfl rfl ?_
        refine jr.getf (i := 36) (v := .ref 624) rfl rfl (by decide) rfl (by decide) rfl rfl rfl rfl ?_
        refine jr.iload_n rfl rfl ?_
        refine jr.iload_n rfl rfl ?_
        refine jr.iast (i := k) (x := c) rfl (by decide) rfl (by decide) (by omega) (by omega) ?_
        refine jr.aload_n rfl rfl ?_
        refine jr.getf (i := 37) (v := .ref 625) rfl rfl (by decide) rfl (by decide) rfl rfl rfl rfl ?_
        refine jr.iload_n rfl rfl ?_
        refine jr.iload_n rfl rfl ?_
        refine jr.iast (i := k) (x := e) rfl (by decide) rfl (by decide) (by omega) (by omega) ?_
        refine jr.aload_n rfl rfl ?_
        refine jr.getf (i := 38) (v := .ref 626) rfl rfl (by decide) rfl (by decide) rfl rfl rfl rfl ?_
        refine jr.iload_n rfl rfl ?_
        refine jr.aload_n rfl rfl ?_
        obtain ⟨v1, e1⟩ : ∃ z, M 598 2 = z := ⟨_, rfl⟩
        have b1 : 0 ≤ v1 ∧ v1 ≤ 2000000 := by rw [← e1]; exact hI_M 598 2 (by decide)
        refine jr.getf (i := 2) (x := v1) (v := .int (Int32.ofInt (v1))) rfl rfl (by decide) rfl (by decide) rfl rfl ((ju_c _ _ (by decide)).trans ((ju_c _ _ (by decide)).trans ((ju_c _ _ (by decide)).trans e1))) rfl ?_
        refine jr.iast (i := k) (x := v1) rfl (by decide) rfl (by decide) (by omega) (by omega) ?_
        refine jr.iload_n rfl rfl ?_
        exact jr.ireturn rfl rfl rfl (q _ _ (RI.u (RI.u (RI.u (RI.u hI_M (a := 623) (i := k) (by rw [xri_row rfl rfl]; show (0 : Int) ≤ _ ∧ _ ≤ (1000 : Int); omega)) (a := 624) (i := k) (by rw [xri_row rfl rfl]; show (0 : Int) ≤ _ ∧ _ ≤ (1000 : Int); omega)) (a := 625) (i := k) (by rw [xri_row rfl rfl]; show (0 : Int) ≤ _ ∧ _ ≤ (1000 : Int); omega)) (a := 626) (i := k) (by rw [xri_row rfl rfl]; show (0 : Int) ≤ _ ∧ _ ≤ (2000000 : Int); omega)) (RH.o (RH.o (RH.o (RH.o hH_M (by decide) (by decide) (by decide)) (by decide) (by decide) (by decide)) (by decide) (by decide) (by decide)) (by decide) (by decide) (by decide)) (RF.o (RF.o (RF.o (RF.o hS_M (by decide) (by decide)) (by decide) (by decide)) (by decide) (by decide)) (by decide) (by decide)) (Kp.o (Kp.o (Kp.o (Kp.o ht_M rfl) rfl) rfl) rfl) (by omega) )
      · refine jr.if_ne rfl rfl (by omega) (fun h => absurd h (by decide)) (fun _ => ?_)
        refine jr.bipush rfl (by decide) ?_
        exact jr.ireturn rfl rfl rfl (q _ _ hI_M hH_M hS_M ht_M (by omega) )
    · refine jr.if_eq rfl rfl (by omega) (fun _ => ?_) (fun h => absurd (by decide) h)
      refine jr.bipush rfl (by decide) ?_
      exact jr.ireturn rfl rfl rfl (q _ _ hI_M hH_M hS_M ht_M (by omega) )
  · refine jr.if_eq rfl rfl (by omega) (fun _ => ?_) (fun h => absurd (by decide) h)
    refine jr.bipush rfl (by decide) ?_
    exact jr.ireturn rfl rfl rfl (q _ _ hI_M hH_M hS_M ht_M (by omega) )
theorem r_has {A : Nat → Option (Nat × (Nat → Int32))} {Q : Option Value → jm → Prop} {T : jm} {M : jm} (hI_M : RI M) (hH_M : RH M) (hS_M : RF M) (ht_M : Kp T M) {k : Int} (h_k : (-2147483648) ≤ k ∧ k ≤ 2147483647) (q : ∀ (r : Int) (M' : jm), RI M' → RH M' → RF M' → Kp T M' → (-3) ≤ r ∧ r ≤ 1000 → Q (some (.int (Int32.ofInt r))) M') : jc A 2 300 [.ref (598), .int (Int32.ofInt (k))] M Q := by
  refine jc_of (m := xm_300) rfl (Nat.le_of_ble_eq_true rfl) rfl ?_
  refine jr.iload_n rfl rfl ?_
  refine jr.i2l rfl (by omega) ?_
  refine jr.lconst (x := 0) rfl (by decide) ?_
  refine jr.ldc2 (x := 3) rfl rfl (by decide) ?_
  refine jr_s rfl rfl (Or.inl rfl) ⟨Nat.le_of_ble_eq_true rfl, Nat.le_of_ble_eq_true rfl⟩ rfl rfl (jc.deep (c_within (by omega) (by omega) (by omega) (fun l6 u6 => ?_) (fun n6 => ?_)) (by decide))
  · refine jr.if_eq rfl rfl (by omega) (fun h => absurd h (by decide)) (fun _ => ?_)
    refine jr.aload_n rfl rfl ?_
    refine jr.getf (i := 36) (v := .ref 624) rfl rfl (by decide) rfl (by decide) rfl rfl rfl rfl ?_
    refine jr.iload_n rfl rfl ?_
    obtain ⟨v1, e1⟩ : ∃ z, M 624 k = z := ⟨_, rfl⟩
    have b1 : 0 ≤ v1 ∧ v1 ≤ 1000 := by rw [← e1]; exact (by have q := hI_M 624 k (by decide); rw [xri_row rfl rfl] at q; exact q)
    refine jr.iald (i := k) (x := v1) rfl (by decide) rfl (by decide) (by omega) (by omega) e1 ?_
    refine jr.goto rfl rfl ?_
    exact jr.ireturn rfl rfl rfl (q _ _ hI_M hH_M hS_M ht_M (by omega) )
  · refine jr.if_eq rfl rfl (by omega) (fun _ => ?_) (fun h => absurd (by decide) h)
    refine jr.bipush rfl (by decide) ?_
    exact jr.ireturn rfl rfl rfl (q _ _ hI_M hH_M hS_M ht_M (by omega) )
theorem r_gathered {A : Nat → Option (Nat × (Nat → Int32))} {Q : Option Value → jm → Prop} {T : jm} {M : jm} (hI_M : RI M) (hH_M : RH M) (hS_M : RF M) (ht_M : Kp T M) {w : Int} (h_w : (-2147483648) ≤ w ∧ w ≤ 2147483647) (q : ∀ (r : Int) (M' : jm), RI M' → RH M' → RF M' → Kp T M' → (-3) ≤ r ∧ r ≤ 720 → Q (some (.int (Int32.ofInt r))) M') : jc A 2 297 [.ref (598), .int (Int32.ofInt (w))] M Q := by
  refine jc_of (m := xm_297) rfl (Nat.le_of_ble_eq_true rfl) rfl ?_
  refine jr.iload_n rfl rfl ?_
  refine jr.i2l rfl (by omega) ?_
  refine jr.lconst (x := 0) rfl (by decide) ?_
  refine jr.ldc2 (x := 4) rfl rfl (by decide) ?_
  refine jr_s rfl rfl (Or.inl rfl) ⟨Nat.le_of_ble_eq_true rfl, Nat.le_of_ble_eq_true rfl⟩ rfl rfl (jc.deep (c_within (by omega) (by omega) (by omega) (fun l6 u6 => ?_) (fun n6 => ?_)) (by decide))
  · refine jr.if_ne rfl rfl (by omega) (fun _ => ?_) (fun h => absurd (by decide) h)
    refine jr.aload_n rfl rfl ?_
    obtain ⟨v1, e1⟩ : ∃ z, M 598 34 = z := ⟨_, rfl⟩
    have b1 : 0 ≤ v1 ∧ v1 ≤ 1 := by rw [← e1]; exact hI_M 598 34 (by decide)
    refine jr.getf (i := 34) (x := v1) (v := .int (Int32.ofInt (v1))) rfl rfl (by decide) rfl (by decide) rfl rfl e1 rfl ?_
    refine jr.if_eq rfl rfl (by omega) (fun h19 => ?_) (fun h19 => ?_)
    · refine jr.iconst rfl ?_
      exact jr.ireturn rfl rfl rfl (q _ _ hI_M hH_M hS_M ht_M (by omega) )
    · refine jr.aload_n rfl rfl ?_
      refine jr.getf (i := 33) (v := .ref 622) rfl rfl (by decide) rfl (by decide) rfl rfl rfl rfl ?_
      refine jr.iload_n rfl rfl ?_
      obtain ⟨v2, e2⟩ : ∃ z, M 622 w = z := ⟨_, rfl⟩
      have b2 : (-1) ≤ v2 ∧ v2 ≤ 720 := by rw [← e2]; exact (by have q := hI_M 622 w (by decide); rw [xri_row rfl rfl] at q; exact q)
      refine jr.iald (i := w) (x := v2) rfl (by decide) rfl (by decide) (by omega) (by omega) e2 ?_
      refine jr.goto rfl rfl ?_
      exact jr.ireturn rfl rfl rfl (q _ _ hI_M hH_M hS_M ht_M (by omega) )
  · refine jr.if_ne rfl rfl (by omega) (fun h => absurd h (by decide)) (fun _ => ?_)
    refine jr.bipush rfl (by decide) ?_
    exact jr.ireturn rfl rfl rfl (q _ _ hI_M hH_M hS_M ht_M (by omega) )
theorem r_tape {A : Nat → Option (Nat × (Nat → Int32))} {Q : Option Value → jm → Prop} {T : jm} {M : jm} (hI_M : RI M) (hH_M : RH M) (hS_M : RF M) (ht_M : Kp T M) {i : Int} (h_i : (-2147483648) ≤ i ∧ i ≤ 2147483647) (q : ∀ (r : Int) (M' : jm), RI M' → RH M' → RF M' → Kp T M' → (-1) ≤ r ∧ r ≤ 255 → Q (some (.int (Int32.ofInt r))) M') : jc A 2 334 [.ref (598), .int (Int32.ofInt (i))] M Q := by
  refine jc_of (m := xm_334) rfl (Nat.le_of_ble_eq_true rfl) rfl ?_
  refine jr.iload_n rfl rfl ?_
  refine jr.i2l rfl (by omega) ?_
  refine jr.lconst (x := 0) rfl (by decide) ?_
  refine jr.aload_n rfl rfl ?_
  obtain ⟨v1, e1⟩ : ∃ z, M 598 1 = z := ⟨_, rfl⟩
  have b1 : 0 ≤ v1 ∧ v1 ≤ 1600 := by rw [← e1]; exact hI_M 598 1 (by decide)
  refine jr.getf (i := 1) (x := v1) (v := .int (Int32.ofInt (v1))) rfl rfl (by decide) rfl (by decide) rfl rfl e1 rfl ?_
  refine jr.iconst rfl ?_
  refine jr.isub rfl ?_
  refine jr.i2l rfl (by omega) ?_
  refine jr_s rfl rfl (Or.inl rfl) ⟨Nat.le_of_ble_eq_true rfl, Nat.le_of_ble_eq_true rfl⟩ rfl rfl (jc.deep (c_within (by omega) (by omega) (by omega) (fun l10 u10 => ?_) (fun n10 => ?_)) (by decide))
  · refine jr.if_eq rfl rfl (by omega) (fun h => absurd h (by decide)) (fun _ => ?_)
    refine jr.aload_n rfl rfl ?_
    refine jr.getf (i := 0) (v := .ref 599) rfl rfl (by decide) rfl (by decide) rfl rfl rfl rfl ?_
    refine jr.iload_n rfl rfl ?_
    obtain ⟨v2, e2⟩ : ∃ z, M 599 i = z := ⟨_, rfl⟩
    have b2 : 0 ≤ v2 ∧ v2 ≤ 255 := by rw [← e2]; exact (by have q := hI_M 599 i (by decide); rw [xri_row rfl rfl] at q; exact q)
    refine jr.iald (i := i) (x := v2) rfl (by decide) rfl (by decide) (by omega) (by omega) e2 ?_
    refine jr.goto rfl rfl ?_
    exact jr.ireturn rfl rfl rfl (q _ _ hI_M hH_M hS_M ht_M (by omega) )
  · refine jr.if_eq rfl rfl (by omega) (fun _ => ?_) (fun h => absurd (by decide) h)
    refine jr.iconst rfl ?_
    exact jr.ireturn rfl rfl rfl (q _ _ hI_M hH_M hS_M ht_M (by omega) )
theorem r_mark {A : Nat → Option (Nat × (Nat → Int32))} {Q : Option Value → jm → Prop} {T : jm} {M : jm} (hI_M : RI M) (hH_M : RH M) (hS_M : RF M) (ht_M : Kp T M) {x : Int} (h_x : (-2147483648) ≤ x ∧ x ≤ 2147483647) (q : ∀ (r : Int) (M' : jm), RI M' → RH M' → RF M' → Kp T M' → (-9223372036854775808) ≤ r ∧ r ≤ 9223372036854775807 → Q (some (.long (Int64.ofInt r))) M') : jc A 4 335 [.ref (598), .int (Int32.ofInt (x))] M Q := by
  refine jc_of (m := xm_335) rfl (Nat.le_of_ble_eq_true rfl) rfl ?_
  refine jr.aload_n rfl rfl ?_
  refine jr.iload_n rfl rfl ?_
  refine jr_v rfl rfl (Or.inl rfl) rfl rfl (by decide) rfl ⟨rfl, Nat.le_of_ble_eq_true rfl, Nat.le_of_ble_eq_true rfl⟩ rfl (jc.deep (c_isThere hI_M (by omega) (fun l2 u2 t2 => ?_) (fun n2 => ?_)) (by decide))
  · refine jr.if_eq rfl rfl (by omega) (fun h => absurd h (by decide)) (fun _ => ?_)
    refine jr.aload_n rfl rfl ?_
    refine jr.getf (i := 5) (v := .ref 602) rfl rfl (by decide) rfl (by decide) rfl rfl rfl rfl ?_
    refine jr.iload_n rfl rfl ?_
    obtain ⟨v1, e1⟩ : ∃ z, M 602 x = z := ⟨_, rfl⟩
    have b1 : (-9223372036854775808) ≤ v1 ∧ v1 ≤ 9223372036854775807 := by rw [← e1]; exact (by have q := hI_M 602 x (by decide); rw [xri_row rfl rfl] at q; exact q)
    refine jr.lald (i := x) (x := v1) rfl (by decide) rfl (by decide) (by omega) (by omega) e1 ?_
    refine jr.goto rfl rfl ?_
    exact jr.lreturn rfl rfl (q _ _ hI_M hH_M hS_M ht_M (by omega) )
  · refine jr.if_eq rfl rfl (by omega) (fun _ => ?_) (fun h => absurd (by decide) h)
    refine jr.lconst (x := 0) rfl (by decide) ?_
    exact jr.lreturn rfl rfl (q _ _ hI_M hH_M hS_M ht_M (by omega) )
theorem r_forget_L4 {A : Nat → Option (Nat × (Nat → Int32))} {Q : Option Value → jm → Prop} {T : jm} {M0 : jm} (q : ∀ (M' : jm), RI M' → RH M' → Kp T M' → (∀ (a : Nat) (i : Int), a ≠ 632 → a ≠ 633 → a ≠ 634 → a ≠ 635 → a ≠ 636 → a ≠ 637 → M' a i = M0 a i) → Q none M') : ∀ (n : Nat) (M : jm) (s : Int) (f : Int), RI M → RH M → Kp T M → (∀ (a : Nat) (i : Int), a ≠ 632 → a ≠ 633 → a ≠ 634 → a ≠ 635 → a ≠ 636 → a ≠ 637 → M a i = M0 a i) → 0 ≤ s ∧ s ≤ 48 → 0 ≤ f ∧ f ≤ 23 → 2 * f ≤ s → 48 - s ≤ n → jr A 0 xm_309 4 [(2, .int (Int32.ofInt (s))), (1, .int (Int32.ofInt (f))), (0, .ref (598))] [] M Q := by
  intro n
  induction n using Nat.strongRecOn with
  | ind n ih =>
    intro M s f hI_M hH_M ht_M hF_M h_s h_f hy0 hm
    refine jr.iload_n rfl rfl ?_
    refine jr.iconst rfl ?_
    refine jr.iload_n rfl rfl ?_
    refine jr.imul rfl ?_
    refine jr.iconst rfl ?_
    refine jr.iadd rfl ?_
    refine jr.icmp_ge rfl rfl (by omega) (by omega) (fun h10 => ?_) (fun h10 => ?_)
    · exact jr.vreturn rfl rfl (q _ hI_M hH_M ht_M (fun a i f632 f633 f634 f635 f636 f637 => (hF_M a i f632 f633 f634 f635 f636 f637)))
    · refine jr.aload_n rfl rfl ?_
      refine jr.getf (i := 44) (v := .ref 632) rfl rfl (by decide) rfl (by decide) rfl rfl rfl rfl ?_
      refine jr.iload_n rfl rfl ?_
      refine jr.iconst rfl ?_
      refine jr.zast (i := s) (x := 0) rfl (by decide) rfl (by decide) (by omega) (by omega) (j_zn (by omega)) ?_
      refine jr.aload_n rfl rfl ?_
      refine jr.getf (i := 45) (v := .ref 633) rfl rfl (by decide) rfl (by decide) rfl rfl rfl rfl ?_
      refine jr.iload_n rfl rfl ?_
      refine jr.iconst rfl ?_
      refine jr.iast (i := s) (x := 0) rfl (by decide) rfl (by decide) (by omega) (by omega) ?_
      refine jr.aload_n rfl rfl ?_
      refine jr.getf (i := 46) (v := .ref 634) rfl rfl (by decide) rfl (by decide) rfl rfl rfl rfl ?_
      refine jr.iload_n rfl rfl ?_
      refine jr.iconst rfl ?_
      refine jr.zast (i := s) (x := 0) rfl (by decide) rfl (by decide) (by omega) (by omega) (j_zn (by omega)) ?_
      refine jr.aload_n rfl rfl ?_
      refine jr.getf (i := 47) (v := .ref 635) rfl rfl (by decide) rfl (by decide) rfl rfl rfl rfl ?_
      refine jr.iload_n rfl rfl ?_
      refine jr.iconst rfl ?_
      refine jr.iast (i := s) (x := 0) rfl (by decide) rfl (by decide) (by omega) (by omega) ?_
      refine jr.aload_n rfl rfl ?_
      refine jr.getf (i := 48) (v := .ref 636) rfl rfl (by decide) rfl (by decide) rfl rfl rfl rfl ?_
      refine jr.iload_n rfl rfl ?_
      refine jr.lconst (x := 0) rfl (by decide) ?_
      refine jr.last (i := s) (x := 0) rfl (by decide) rfl (by decide) (by omega) (by omega) ?_
      refine jr.aload_n rfl rfl ?_
      refine jr.getf (i := 49) (v := .ref 637) rfl rfl (by decide) rfl (by decide) rfl rfl rfl rfl ?_
      refine jr.iload_n rfl rfl ?_
      refine jr.lconst (x := 0) rfl (by decide) ?_
      refine jr.last (i := s) (x := 0) rfl (by decide) rfl (by decide) (by omega) (by omega) ?_
      refine jr.iinc rfl rfl (by decide) rfl ?_
      refine jr.goto rfl rfl ?_
      refine jr.pick [0, 1, 2] rfl rfl ?_
      exact ih (n - 1) (by omega) (ju (ju (ju (ju (ju (ju M 632 s 0) 633 s 0) 634 s 0) 635 s 0) 636 s 0) 637 s 0) (s + 1) f (RI.u (RI.u (RI.u (RI.u (RI.u (RI.u hI_M (a := 632) (i := s) (by rw [xri_row rfl rfl]; show (0 : Int) ≤ _ ∧ _ ≤ (1 : Int); omega)) (a := 633) (i := s) (by rw [xri_row rfl rfl]; show (-2147483648 : Int) ≤ _ ∧ _ ≤ (2147483647 : Int); omega)) (a := 634) (i := s) (by rw [xri_row rfl rfl]; show (0 : Int) ≤ _ ∧ _ ≤ (1 : Int); omega)) (a := 635) (i := s) (by rw [xri_row rfl rfl]; show (0 : Int) ≤ _ ∧ _ ≤ (65535 : Int); omega)) (a := 636) (i := s) (by rw [xri_row rfl rfl]; show (-9223372036854775808 : Int) ≤ _ ∧ _ ≤ (9223372036854775807 : Int); omega)) (a := 637) (i := s) (by rw [xri_row rfl rfl]; show (-9223372036854775808 : Int) ≤ _ ∧ _ ≤ (9223372036854775807 : Int); omega)) (RH.o (RH.o (RH.o (RH.o (RH.o (RH.o hH_M (by decide) (by decide) (by decide)) (by decide) (by decide) (by decide)) (by decide) (by decide) (by decide)) (by decide) (by decide) (by decide)) (by decide) (by decide) (by decide)) (by decide) (by decide) (by decide)) (Kp.o (Kp.o (Kp.o (Kp.o (Kp.o (Kp.o ht_M rfl) rfl) rfl) rfl) rfl) rfl) (fun a i f632 f633 f634 f635 f636 f637 => ((ju_c _ _ f637).trans ((ju_c _ _ f636).trans ((ju_c _ _ f635).trans ((ju_c _ _ f634).trans ((ju_c _ _ f633).trans ((ju_c _ _ f632).trans (hF_M a i f632 f633 f634 f635 f636 f637)))))))) (by omega) (by omega) (by omega) (by omega)
theorem r_forget {A : Nat → Option (Nat × (Nat → Int32))} {Q : Option Value → jm → Prop} {T : jm} {M : jm} (hI_M : RI M) (hH_M : RH M) (ht_M : Kp T M) {f : Int} (h_f : 0 ≤ f ∧ f ≤ 23) (q : ∀ (M' : jm), RI M' → RH M' → Kp T M' → (∀ (a : Nat) (i : Int), a ≠ 632 → a ≠ 633 → a ≠ 634 → a ≠ 635 → a ≠ 636 → a ≠ 637 → M' a i = M a i) → Q none M') : jc A 1 309 [.ref (598), .int (Int32.ofInt (f))] M Q := by
  refine jc_of (m := xm_309) rfl (Nat.le_of_ble_eq_true rfl) rfl ?_
  refine jr.iconst rfl ?_
  refine jr.iload_n rfl rfl ?_
  refine jr.imul rfl ?_
  refine jr.istore_n rfl (by decide) rfl ?_
  refine jr.pick [0, 2, 1] rfl rfl ?_
  exact r_forget_L4 q 48 M (2 * f) f hI_M hH_M ht_M (fun a i f632 f633 f634 f635 f636 f637 => rfl) (by omega) (by omega) (by omega) (by omega)
theorem r_lives {A : Nat → Option (Nat × (Nat → Int32))} {Q : Option Value → jm → Prop} {T : jm} {M : jm} (hI_M : RI M) (hH_M : RH M) (hS_M : RF M) (ht_M : Kp T M) {w : Int} (h_w : (-2147483648) ≤ w ∧ w ≤ 2147483647) {s : Int} (h_s : (-2147483648) ≤ s ∧ s ≤ 2147483647) (q : ∀ (r : Int), 3 ≤ r ∧ r ≤ 200 → Q (some (.int (Int32.ofInt r))) M) : jc A 1 306 [.int (Int32.ofInt (w)), .int (Int32.ofInt (s))] M Q := by
  refine jc_of (m := xm_306) rfl (Nat.le_of_ble_eq_true rfl) rfl ?_
  refine jr.iload_n rfl rfl ?_
  refine jr.iconst rfl ?_
  refine jr.icmp_ne rfl rfl (by omega) (by omega) (fun h2 => ?_) (fun h2 => ?_)
  · refine jr.iload_n rfl rfl ?_
    refine jr.bipush rfl (by decide) ?_
    refine jr.icmp_ne rfl rfl (by omega) (by omega) (fun h10 => ?_) (fun h10 => ?_)
    · refine jr.iload_n rfl rfl ?_
      rcases (show s = 1 ∨ s = 2 ∨ s = 3 ∨ s = 4 ∨ s = 5 ∨ s = 6 ∨ s = 7 ∨ s = 8 ∨ s = 9 ∨ s = 10 ∨ (s ≠ 1 ∧ s ≠ 2 ∧ s ≠ 3 ∧ s ≠ 4 ∧ s ≠ 5 ∧ s ≠ 6 ∧ s ≠ 7 ∧ s ≠ 8 ∧ s ≠ 9 ∧ s ≠ 10) by omega) with h26 | h26 | h26 | h26 | h26 | h26 | h26 | h26 | h26 | h26 | h26
      · refine jr.tsw_k 1 rfl h26 rfl ?_
        refine jr.bipush rfl (by decide) ?_
        exact jr.ireturn rfl rfl rfl (q _ (by omega) )
      · refine jr.tsw_k 2 rfl h26 rfl ?_
        refine jr.bipush rfl (by decide) ?_
        exact jr.ireturn rfl rfl rfl (q _ (by omega) )
      · refine jr.tsw_k 3 rfl h26 rfl ?_
        refine jr.sipush rfl (by decide) ?_
        exact jr.ireturn rfl rfl rfl (q _ (by omega) )
      · refine jr.tsw_k 4 rfl h26 rfl ?_
        refine jr.bipush rfl (by decide) ?_
        exact jr.ireturn rfl rfl rfl (q _ (by omega) )
      · refine jr.tsw_k 5 rfl h26 rfl ?_
        refine jr.bipush rfl (by decide) ?_
        exact jr.ireturn rfl rfl rfl (q _ (by omega) )
      · refine jr.tsw_k 6 rfl h26 rfl ?_
        refine jr.bipush rfl (by decide) ?_
        exact jr.ireturn rfl rfl rfl (q _ (by omega) )
      · refine jr.tsw_k 7 rfl h26 rfl ?_
        refine jr.bipush rfl (by decide) ?_
        exact jr.ireturn rfl rfl rfl (q _ (by omega) )
      · refine jr.tsw_k 8 rfl h26 rfl ?_
        refine jr.bipush rfl (by decide) ?_
        exact jr.ireturn rfl rfl rfl (q _ (by omega) )
      · refine jr.tsw_k 9 rfl h26 rfl ?_
        refine jr.bipush rfl (by decide) ?_
        exact jr.ireturn rfl rfl rfl (q _ (by omega) )
      · refine jr.tsw_k 10 rfl h26 rfl ?_
        refine jr.iconst rfl ?_
        exact jr.ireturn rfl rfl rfl (q _ (by omega) )
      · refine jr.tsw_d rfl (by omega) (by omega) rfl ?_
        refine jr.bipush rfl (by decide) ?_
        exact jr.ireturn rfl rfl rfl (q _ (by omega) )
    · refine jr.iload_n rfl rfl ?_
      refine jr.if_ne rfl rfl (by omega) (fun h14 => ?_) (fun h14 => ?_)
      · refine jr.bipush rfl (by decide) ?_
        exact jr.ireturn rfl rfl rfl (q _ (by omega) )
      · refine jr.bipush rfl (by decide) ?_
        refine jr.goto rfl rfl ?_
        exact jr.ireturn rfl rfl rfl (q _ (by omega) )
  · refine jr.iconst rfl ?_
    exact jr.ireturn rfl rfl rfl (q _ (by omega) )
theorem r_classOf {A : Nat → Option (Nat × (Nat → Int32))} {Q : Option Value → jm → Prop} {T : jm} {M : jm} (hI_M : RI M) (hH_M : RH M) (hS_M : RF M) (ht_M : Kp T M) {w : Int} (h_w : (-2147483648) ≤ w ∧ w ≤ 2147483647) (q : ∀ (r : Int), 0 ≤ r ∧ r ≤ 5 → Q (some (.int (Int32.ofInt r))) M) : jc A 1 307 [.int (Int32.ofInt (w))] M Q := by
  refine jc_of (m := xm_307) rfl (Nat.le_of_ble_eq_true rfl) rfl ?_
  refine jr.iload_n rfl rfl ?_
  refine jr.iconst rfl ?_
  refine jr.iand rfl ?_
  have b1 : 0 ≤ j_and w 4 ∧ j_and w 4 ≤ 4 := j_and_le (by decide)
  generalize j_and w 4 = v1 at b1 ⊢
  refine jr.if_eq rfl rfl (by omega) (fun h3 => ?_) (fun h3 => ?_)
  · refine jr.iload_n rfl rfl ?_
    refine jr.iconst rfl ?_
    refine jr.iand rfl ?_
    have b2 : 0 ≤ j_and w 2 ∧ j_and w 2 ≤ 2 := j_and_le (by decide)
    generalize j_and w 2 = v2 at b2 ⊢
    refine jr.if_eq rfl rfl (by omega) (fun h13 => ?_) (fun h13 => ?_)
    · refine jr.iload_n rfl rfl ?_
      refine jr.iconst rfl ?_
      refine jr.iand rfl ?_
      have b3 : 0 ≤ j_and w 1 ∧ j_and w 1 ≤ 1 := j_and_le (by decide)
      generalize j_and w 1 = v3 at b3 ⊢
      refine jr.if_eq rfl rfl (by omega) (fun h34 => ?_) (fun h34 => ?_)
      · refine jr.iload_n rfl rfl ?_
        refine jr.bipush rfl (by decide) ?_
        refine jr.iand rfl ?_
        have b4 : 0 ≤ j_and w 16 ∧ j_and w 16 ≤ 16 := j_and_le (by decide)
        generalize j_and w 16 = v4 at b4 ⊢
        refine jr.if_eq rfl rfl (by omega) (fun h45 => ?_) (fun h45 => ?_)
        · refine jr.iconst rfl ?_
          exact jr.ireturn rfl rfl rfl (q _ (by omega) )
        · refine jr.iconst rfl ?_
          refine jr.goto rfl rfl ?_
          exact jr.ireturn rfl rfl rfl (q _ (by omega) )
      · refine jr.iconst rfl ?_
        refine jr.goto rfl rfl ?_
        exact jr.ireturn rfl rfl rfl (q _ (by omega) )
    · refine jr.iload_n rfl rfl ?_
      refine jr.bipush rfl (by decide) ?_
      refine jr.iand rfl ?_
      have b5 : 0 ≤ j_and w 16 ∧ j_and w 16 ≤ 16 := j_and_le (by decide)
      generalize j_and w 16 = v5 at b5 ⊢
      refine jr.if_eq rfl rfl (by omega) (fun h20 => ?_) (fun h20 => ?_)
      · refine jr.iconst rfl ?_
        refine jr.goto rfl rfl ?_
        exact jr.ireturn rfl rfl rfl (q _ (by omega) )
      · refine jr.iconst rfl ?_
        refine jr.goto rfl rfl ?_
        exact jr.ireturn rfl rfl rfl (q _ (by omega) )
  · refine jr.iconst rfl ?_
    refine jr.goto rfl rfl ?_
    exact jr.ireturn rfl rfl rfl (q _ (by omega) )
theorem r_after {A : Nat → Option (Nat × (Nat → Int32))} {Q : Option Value → jm → Prop} {T : jm} {M : jm} (hI_M : RI M) (hH_M : RH M) (hS_M : RF M) (ht_M : Kp T M) {s : Int} (h_s : 1 ≤ s ∧ s ≤ 10) {b : Int} (h_b : 0 ≤ b ∧ b ≤ 1) {c : Int} (h_c : 0 ≤ c ∧ c ≤ 5) (q : ∀ (r : Int), 0 ≤ r ∧ r ≤ 10 → Q (some (.int (Int32.ofInt r))) M) : jc A 1 308 [.ref (598), .int (Int32.ofInt (s)), .int (Int32.ofInt (b)), .int (Int32.ofInt (c))] M Q := by
  refine jc_of (m := xm_308) rfl (Nat.le_of_ble_eq_true rfl) rfl ?_
  refine jr.iload_n rfl rfl ?_
  refine jr.iconst rfl ?_
  refine jr.icmp_ne rfl rfl (by omega) (by omega) (fun h2 => ?_) (fun h2 => ?_)
  · refine jr.aload_n rfl rfl ?_
    refine jr.getf (i := 67) (v := .ref 647) rfl rfl (by decide) rfl (by decide) rfl rfl rfl rfl ?_
    refine jr.bipush rfl (by decide) ?_
    refine jr.iload_n rfl rfl ?_
    refine jr.iconst rfl ?_
    refine jr.isub rfl ?_
    refine jr.imul rfl ?_
    refine jr.iconst rfl ?_
    refine jr.iload_n rfl rfl ?_
    refine jr.imul rfl ?_
    refine jr.iadd rfl ?_
    refine jr.iload_n rfl rfl ?_
    refine jr.iadd rfl ?_
    obtain ⟨v1, e1⟩ : ∃ z, M 647 (((10 * (s - 1)) + (5 * b)) + c) = z := ⟨_, rfl⟩
    have b1 : 0 ≤ v1 ∧ v1 ≤ 10 := by rw [← e1]; exact (by have q := hI_M 647 (((10 * (s - 1)) + (5 * b)) + c) (by decide); rw [xri_row rfl rfl] at q; exact q)
    refine jr.iald (i := (((10 * (s - 1)) + (5 * b)) + c)) (x := v1) rfl (by decide) rfl (by decide) (by omega) (by omega) e1 ?_
    exact jr.ireturn rfl rfl rfl (q _ (by omega) )
  · refine jr.iconst rfl ?_
    refine jr.goto rfl rfl ?_
    exact jr.ireturn rfl rfl rfl (q _ (by omega) )
theorem c_isFlow {A : Nat → Option (Nat × (Nat → Int32))} {M : jm} {Q : Option Value → jm → Prop} (hI_M : RI M) {x : Int} (h_x : -2147483648 ≤ x ∧ x ≤ 2147483647) (k1 : 0 ≤ x → x ≤ 23 → M 627 x ≠ 0 → Q (some (.int (Int32.ofInt 1))) M) (k0 : ¬ (0 ≤ x ∧ x ≤ 23 ∧ M 627 x ≠ 0) → Q (some (.int (Int32.ofInt 0))) M) : jc A 2 315 [.ref (598), .int (Int32.ofInt (x))] M Q := by
  refine jc_of (m := xm_315) rfl (Nat.le_of_ble_eq_true rfl) rfl ?_
  refine jr.iload_n rfl rfl ?_
  refine jr.i2l rfl (by omega) ?_
  refine jr.lconst (x := 0) rfl (by decide) ?_
  refine jr.ldc2 (x := 23) rfl rfl (by decide) ?_
  refine jr_s rfl rfl (Or.inl rfl) ⟨Nat.le_of_ble_eq_true rfl, Nat.le_of_ble_eq_true rfl⟩ rfl rfl (jc.deep (c_within (by omega) (by omega) (by omega) (fun l6 u6 => ?_) (fun n6 => ?_)) (by decide))
  · refine jr.if_eq rfl rfl (by omega) (fun h => absurd h (by decide)) (fun _ => ?_)
    refine jr.aload_n rfl rfl ?_
    refine jr.getf (i := 39) (v := .ref 627) rfl rfl (by decide) rfl (by decide) rfl rfl rfl rfl ?_
    refine jr.iload_n rfl rfl ?_
    obtain ⟨v1, e1⟩ : ∃ z, M 627 x = z := ⟨_, rfl⟩
    have b1 : 0 ≤ v1 ∧ v1 ≤ 1 := by rw [← e1]; exact (by have q := hI_M 627 x (by decide); rw [xri_row rfl rfl] at q; exact q)
    refine jr.zald (i := x) (x := v1) rfl (by decide) rfl (by decide) (by omega) (by omega) e1 ?_
    refine jr.if_eq rfl rfl (by omega) (fun h18 => ?_) (fun h18 => ?_)
    · refine jr.iconst rfl ?_
      exact jr.ireturn rfl rfl rfl (k0 (by omega))
    · refine jr.iconst rfl ?_
      refine jr.goto rfl rfl ?_
      exact jr.ireturn rfl rfl rfl (k1 (by omega) (by omega) (by omega))
  · refine jr.if_eq rfl rfl (by omega) (fun _ => ?_) (fun h => absurd (by decide) h)
    refine jr.iconst rfl ?_
    exact jr.ireturn rfl rfl rfl (k0 (by omega))
theorem r_flow {A : Nat → Option (Nat × (Nat → Int32))} {Q : Option Value → jm → Prop} {T : jm} {M : jm} (hI_M : RI M) (hH_M : RH M) (hS_M : RF M) (ht_M : Kp T M) {f : Int} (h_f : (-2147483648) ≤ f ∧ f ≤ 2147483647) {w : Int} (h_w : (-2147483648) ≤ w ∧ w ≤ 2147483647) (q : ∀ (r : Int) (M' : jm), RI M' → RH M' → RF M' → Kp T M' → (-2147483648) ≤ r ∧ r ≤ 2147483647 → Q (some (.int (Int32.ofInt r))) M') : jc A 3 316 [.ref (598), .int (Int32.ofInt (f)), .int (Int32.ofInt (w))] M Q := by
  refine jc_of (m := xm_316) rfl (Nat.le_of_ble_eq_true rfl) rfl ?_
  refine jr.aload_n rfl rfl ?_
  refine jr.iload_n rfl rfl ?_
  refine jr_v rfl rfl (Or.inl rfl) rfl rfl (by decide) rfl ⟨rfl, Nat.le_of_ble_eq_true rfl, Nat.le_of_ble_eq_true rfl⟩ rfl (jc.deep (c_isFlow hI_M (by omega) (fun l2 u2 t2 => ?_) (fun n2 => ?_)) (by decide))
  · refine jr.if_ne rfl rfl (by omega) (fun _ => ?_) (fun h => absurd (by decide) h)
    refine jr.iload_n rfl rfl ?_
    rcases (show w = 0 ∨ w = 1 ∨ w = 2 ∨ w = 3 ∨ w = 4 ∨ w = 5 ∨ w = 6 ∨ w = 7 ∨ w = 8 ∨ w = 9 ∨ (w ≠ 0 ∧ w ≠ 1 ∧ w ≠ 2 ∧ w ≠ 3 ∧ w ≠ 4 ∧ w ≠ 5 ∧ w ≠ 6 ∧ w ≠ 7 ∧ w ≠ 8 ∧ w ≠ 9) by omega) with h12 | h12 | h12 | h12 | h12 | h12 | h12 | h12 | h12 | h12 | h12
    · refine jr.tsw_k 0 rfl h12 rfl ?_
      refine jr.aload_n rfl rfl ?_
      refine jr.getf (i := 41) (v := .ref 629) rfl rfl (by decide) rfl (by decide) rfl rfl rfl rfl ?_
      refine jr.iload_n rfl rfl ?_
      obtain ⟨v1, e1⟩ : ∃ z, M 629 f = z := ⟨_, rfl⟩
      have b1 : 0 ≤ v1 ∧ v1 ≤ 255 := by rw [← e1]; exact (by have q := hI_M 629 f (by decide); rw [xri_row rfl rfl] at q; exact q)
      refine jr.iald (i := f) (x := v1) rfl (by decide) rfl (by decide) (by omega) (by omega) e1 ?_
      exact jr.ireturn rfl rfl rfl (q _ _ hI_M hH_M hS_M ht_M (by omega) )
    · refine jr.tsw_k 1 rfl h12 rfl ?_
      refine jr.aload_n rfl rfl ?_
      refine jr.getf (i := 50) (v := .ref 638) rfl rfl (by decide) rfl (by decide) rfl rfl rfl rfl ?_
      refine jr.iload_n rfl rfl ?_
      obtain ⟨v2, e2⟩ : ∃ z, M 638 f = z := ⟨_, rfl⟩
      have b2 : 0 ≤ v2 ∧ v2 ≤ 15 := by rw [← e2]; exact (by have q := hI_M 638 f (by decide); rw [xri_row rfl rfl] at q; exact q)
      refine jr.iald (i := f) (x := v2) rfl (by decide) rfl (by decide) (by omega) (by omega) e2 ?_
      exact jr.ireturn rfl rfl rfl (q _ _ hI_M hH_M hS_M ht_M (by omega) )
    · refine jr.tsw_k 2 rfl h12 rfl ?_
      refine jr.aload_n rfl rfl ?_
      refine jr.getf (i := 43) (v := .ref 631) rfl rfl (by decide) rfl (by decide) rfl rfl rfl rfl ?_
      refine jr.iconst rfl ?_
      refine jr.iload_n rfl rfl ?_
      refine jr.imul rfl ?_
      refine jr.iload_n rfl rfl ?_
      refine jr.iadd rfl ?_
      refine jr.iconst rfl ?_
      refine jr.isub rfl ?_
      obtain ⟨v3, e3⟩ : ∃ z, M 631 (((2 * f) + w) - 2) = z := ⟨_, rfl⟩
      have b3 : 0 ≤ v3 ∧ v3 ≤ 65535 := by rw [← e3]; exact (by have q := hI_M 631 (((2 * f) + w) - 2) (by decide); rw [xri_row rfl rfl] at q; exact q)
      refine jr.iald (i := (((2 * f) + w) - 2)) (x := v3) rfl (by decide) rfl (by decide) (by omega) (by omega) e3 ?_
      exact jr.ireturn rfl rfl rfl (q _ _ hI_M hH_M hS_M ht_M (by omega) )
    · refine jr.tsw_k 3 rfl h12 rfl ?_
      refine jr.aload_n rfl rfl ?_
      refine jr.getf (i := 43) (v := .ref 631) rfl rfl (by decide) rfl (by decide) rfl rfl rfl rfl ?_
      refine jr.iconst rfl ?_
      refine jr.iload_n rfl rfl ?_
      refine jr.imul rfl ?_
      refine jr.iload_n rfl rfl ?_
      refine jr.iadd rfl ?_
      refine jr.iconst rfl ?_
      refine jr.isub rfl ?_
      obtain ⟨v4, e4⟩ : ∃ z, M 631 (((2 * f) + w) - 2) = z := ⟨_, rfl⟩
      have b4 : 0 ≤ v4 ∧ v4 ≤ 65535 := by rw [← e4]; exact (by have q := hI_M 631 (((2 * f) + w) - 2) (by decide); rw [xri_row rfl rfl] at q; exact q)
      refine jr.iald (i := (((2 * f) + w) - 2)) (x := v4) rfl (by decide) rfl (by decide) (by omega) (by omega) e4 ?_
      exact jr.ireturn rfl rfl rfl (q _ _ hI_M hH_M hS_M ht_M (by omega) )
    · refine jr.tsw_k 4 rfl h12 rfl ?_
      refine jr.aload_n rfl rfl ?_
      refine jr.getf (i := 51) (v := .ref 639) rfl rfl (by decide) rfl (by decide) rfl rfl rfl rfl ?_
      refine jr.iload_n rfl rfl ?_
      obtain ⟨v5, e5⟩ : ∃ z, M 639 f = z := ⟨_, rfl⟩
      have b5 : (-2147483648) ≤ v5 ∧ v5 ≤ 2147483647 := by rw [← e5]; exact (by have q := hI_M 639 f (by decide); rw [xri_row rfl rfl] at q; exact q)
      refine jr.iald (i := f) (x := v5) rfl (by decide) rfl (by decide) (by omega) (by omega) e5 ?_
      refine jr.aload_n rfl rfl ?_
      obtain ⟨v6, e6⟩ : ∃ z, M 598 2 = z := ⟨_, rfl⟩
      have b6 : 0 ≤ v6 ∧ v6 ≤ 2000000 := by rw [← e6]; exact hI_M 598 2 (by decide)
      refine jr.getf (i := 2) (x := v6) (v := .int (Int32.ofInt (v6))) rfl rfl (by decide) rfl (by decide) rfl rfl e6 rfl ?_
      refine jr.isub rfl ?_
      refine jr.iw (j_w (v5 - v6)) (j_w_eq _) ?_
      have b7 : -2147483648 ≤ j_w (v5 - v6) ∧ j_w (v5 - v6) ≤ 2147483647 := jb_any _
      generalize j_w (v5 - v6) = v7 at b7 ⊢
      exact jr.ireturn rfl rfl rfl (q _ _ hI_M hH_M hS_M ht_M (by omega) )
    · refine jr.tsw_k 5 rfl h12 rfl ?_
      refine jr.aload_n rfl rfl ?_
      refine jr.getf (i := 44) (v := .ref 632) rfl rfl (by decide) rfl (by decide) rfl rfl rfl rfl ?_
      refine jr.iconst rfl ?_
      refine jr.iload_n rfl rfl ?_
      refine jr.imul rfl ?_
      refine jr.iload_n rfl rfl ?_
      refine jr.iadd rfl ?_
      refine jr.iconst rfl ?_
      refine jr.isub rfl ?_
      obtain ⟨v8, e8⟩ : ∃ z, M 632 (((2 * f) + w) - 5) = z := ⟨_, rfl⟩
      have b8 : 0 ≤ v8 ∧ v8 ≤ 1 := by rw [← e8]; exact (by have q := hI_M 632 (((2 * f) + w) - 5) (by decide); rw [xri_row rfl rfl] at q; exact q)
      refine jr.zald (i := (((2 * f) + w) - 5)) (x := v8) rfl (by decide) rfl (by decide) (by omega) (by omega) e8 ?_
      refine jr.if_eq rfl rfl (by omega) (fun h119 => ?_) (fun h119 => ?_)
      · refine jr.iconst rfl ?_
        exact jr.ireturn rfl rfl rfl (q _ _ hI_M hH_M hS_M ht_M (by omega) )
      · refine jr.aload_n rfl rfl ?_
        refine jr.getf (i := 45) (v := .ref 633) rfl rfl (by decide) rfl (by decide) rfl rfl rfl rfl ?_
        refine jr.iconst rfl ?_
        refine jr.iload_n rfl rfl ?_
        refine jr.imul rfl ?_
        refine jr.iload_n rfl rfl ?_
        refine jr.iadd rfl ?_
        refine jr.iconst rfl ?_
        refine jr.isub rfl ?_
        obtain ⟨v9, e9⟩ : ∃ z, M 633 (((2 * f) + w) - 5) = z := ⟨_, rfl⟩
        have b9 : (-2147483648) ≤ v9 ∧ v9 ≤ 2147483647 := by rw [← e9]; exact (by have q := hI_M 633 (((2 * f) + w) - 5) (by decide); rw [xri_row rfl rfl] at q; exact q)
        refine jr.iald (i := (((2 * f) + w) - 5)) (x := v9) rfl (by decide) rfl (by decide) (by omega) (by omega) e9 ?_
        refine jr.goto rfl rfl ?_
        exact jr.ireturn rfl rfl rfl (q _ _ hI_M hH_M hS_M ht_M (by omega) )
    · refine jr.tsw_k 6 rfl h12 rfl ?_
      refine jr.aload_n rfl rfl ?_
      refine jr.getf (i := 44) (v := .ref 632) rfl rfl (by decide) rfl (by decide) rfl rfl rfl rfl ?_
      refine jr.iconst rfl ?_
      refine jr.iload_n rfl rfl ?_
      refine jr.imul rfl ?_
      refine jr.iload_n rfl rfl ?_
      refine jr.iadd rfl ?_
      refine jr.iconst rfl ?_
      refine jr.isub rfl ?_
      obtain ⟨v10, e10⟩ : ∃ z, M 632 (((2 * f) + w) - 5) = z := ⟨_, rfl⟩
      have b10 : 0 ≤ v10 ∧ v10 ≤ 1 := by rw [← e10]; exact (by have q := hI_M 632 (((2 * f) + w) - 5) (by decide); rw [xri_row rfl rfl] at q; exact q)
      refine jr.zald (i := (((2 * f) + w) - 5)) (x := v10) rfl (by decide) rfl (by decide) (by omega) (by omega) e10 ?_
      refine jr.if_eq rfl rfl (by omega) (fun h119 => ?_) (fun h119 => ?_)
      · refine jr.iconst rfl ?_
        exact jr.ireturn rfl rfl rfl (q _ _ hI_M hH_M hS_M ht_M (by omega) )
      · refine jr.aload_n rfl rfl ?_
        refine jr.getf (i := 45) (v := .ref 633) rfl rfl (by decide) rfl (by decide) rfl rfl rfl rfl ?_
        refine jr.iconst rfl ?_
        refine jr.iload_n rfl rfl ?_
        refine jr.imul rfl ?_
        refine jr.iload_n rfl rfl ?_
        refine jr.iadd rfl ?_
        refine jr.iconst rfl ?_
        refine jr.isub rfl ?_
        obtain ⟨v11, e11⟩ : ∃ z, M 633 (((2 * f) + w) - 5) = z := ⟨_, rfl⟩
        have b11 : (-2147483648) ≤ v11 ∧ v11 ≤ 2147483647 := by rw [← e11]; exact (by have q := hI_M 633 (((2 * f) + w) - 5) (by decide); rw [xri_row rfl rfl] at q; exact q)
        refine jr.iald (i := (((2 * f) + w) - 5)) (x := v11) rfl (by decide) rfl (by decide) (by omega) (by omega) e11 ?_
        refine jr.goto rfl rfl ?_
        exact jr.ireturn rfl rfl rfl (q _ _ hI_M hH_M hS_M ht_M (by omega) )
    · refine jr.tsw_k 7 rfl h12 rfl ?_
      refine jr.aload_n rfl rfl ?_
      refine jr.getf (i := 47) (v := .ref 635) rfl rfl (by decide) rfl (by decide) rfl rfl rfl rfl ?_
      refine jr.iconst rfl ?_
      refine jr.iload_n rfl rfl ?_
      refine jr.imul rfl ?_
      refine jr.iload_n rfl rfl ?_
      refine jr.iadd rfl ?_
      refine jr.bipush rfl (by decide) ?_
      refine jr.isub rfl ?_
      obtain ⟨v12, e12⟩ : ∃ z, M 635 (((2 * f) + w) - 7) = z := ⟨_, rfl⟩
      have b12 : 0 ≤ v12 ∧ v12 ≤ 65535 := by rw [← e12]; exact (by have q := hI_M 635 (((2 * f) + w) - 7) (by decide); rw [xri_row rfl rfl] at q; exact q)
      refine jr.iald (i := (((2 * f) + w) - 7)) (x := v12) rfl (by decide) rfl (by decide) (by omega) (by omega) e12 ?_
      exact jr.ireturn rfl rfl rfl (q _ _ hI_M hH_M hS_M ht_M (by omega) )
    · refine jr.tsw_k 8 rfl h12 rfl ?_
      refine jr.aload_n rfl rfl ?_
      refine jr.getf (i := 47) (v := .ref 635) rfl rfl (by decide) rfl (by decide) rfl rfl rfl rfl ?_
      refine jr.iconst rfl ?_
      refine jr.iload_n rfl rfl ?_
      refine jr.imul rfl ?_
      refine jr.iload_n rfl rfl ?_
      refine jr.iadd rfl ?_
      refine jr.bipush rfl (by decide) ?_
      refine jr.isub rfl ?_
      obtain ⟨v13, e13⟩ : ∃ z, M 635 (((2 * f) + w) - 7) = z := ⟨_, rfl⟩
      have b13 : 0 ≤ v13 ∧ v13 ≤ 65535 := by rw [← e13]; exact (by have q := hI_M 635 (((2 * f) + w) - 7) (by decide); rw [xri_row rfl rfl] at q; exact q)
      refine jr.iald (i := (((2 * f) + w) - 7)) (x := v13) rfl (by decide) rfl (by decide) (by omega) (by omega) e13 ?_
      exact jr.ireturn rfl rfl rfl (q _ _ hI_M hH_M hS_M ht_M (by omega) )
    · refine jr.tsw_k 9 rfl h12 rfl ?_
      refine jr.aload_n rfl rfl ?_
      refine jr.getf (i := 52) (v := .ref 640) rfl rfl (by decide) rfl (by decide) rfl rfl rfl rfl ?_
      refine jr.iload_n rfl rfl ?_
      obtain ⟨v14, e14⟩ : ∃ z, M 640 f = z := ⟨_, rfl⟩
      have b14 : (-1) ≤ v14 ∧ v14 ≤ 3 := by rw [← e14]; exact (by have q := hI_M 640 f (by decide); rw [xri_row rfl rfl] at q; exact q)
      refine jr.iald (i := f) (x := v14) rfl (by decide) rfl (by decide) (by omega) (by omega) e14 ?_
      refine jr.iconst rfl ?_
      refine jr.icmp_ne rfl rfl (by omega) (by omega) (fun h160 => ?_) (fun h160 => ?_)
      · refine jr.aload_n rfl rfl ?_
        refine jr.getf (i := 54) (v := .ref 642) rfl rfl (by decide) rfl (by decide) rfl rfl rfl rfl ?_
        refine jr.iload_n rfl rfl ?_
        obtain ⟨v15, e15⟩ : ∃ z, M 642 f = z := ⟨_, rfl⟩
        have b15 : 0 ≤ v15 ∧ v15 ≤ 70000 := by rw [← e15]; exact (by have q := hI_M 642 f (by decide); rw [xri_row rfl rfl] at q; exact q)
        refine jr.iald (i := f) (x := v15) rfl (by decide) rfl (by decide) (by omega) (by omega) e15 ?_
        exact jr.ireturn rfl rfl rfl (q _ _ hI_M hH_M hS_M ht_M (by omega) )
      · refine jr.iconst rfl ?_
        refine jr.goto rfl rfl ?_
        exact jr.ireturn rfl rfl rfl (q _ _ hI_M hH_M hS_M ht_M (by omega) )
    · refine jr.tsw_d rfl (by omega) (by omega) rfl ?_
      refine jr.iload_n rfl rfl ?_
      refine jr.bipush rfl (by decide) ?_
      refine jr.icmp_eq rfl rfl (by omega) (by omega) (fun h177 => ?_) (fun h177 => ?_)
      · refine jr.aload_n rfl rfl ?_
        refine jr.getf (i := 40) (v := .ref 628) rfl rfl (by decide) rfl (by decide) rfl rfl rfl rfl ?_
        refine jr.iload_n rfl rfl ?_
        obtain ⟨v16, e16⟩ : ∃ z, M 628 f = z := ⟨_, rfl⟩
        have b16 : 0 ≤ v16 ∧ v16 ≤ 1 := by rw [← e16]; exact (by have q := hI_M 628 f (by decide); rw [xri_row rfl rfl] at q; exact q)
        refine jr.zald (i := f) (x := v16) rfl (by decide) rfl (by decide) (by omega) (by omega) e16 ?_
        refine jr.if_eq rfl rfl (by omega) (fun h191 => ?_) (fun h191 => ?_)
        · refine jr.iconst rfl ?_
          exact jr.ireturn rfl rfl rfl (q _ _ hI_M hH_M hS_M ht_M (by omega) )
        · refine jr.iconst rfl ?_
          refine jr.goto rfl rfl ?_
          exact jr.ireturn rfl rfl rfl (q _ _ hI_M hH_M hS_M ht_M (by omega) )
      · refine jr.bipush rfl (by decide) ?_
        refine jr.goto rfl rfl ?_
        exact jr.ireturn rfl rfl rfl (q _ _ hI_M hH_M hS_M ht_M (by omega) )
  · refine jr.if_ne rfl rfl (by omega) (fun h => absurd h (by decide)) (fun _ => ?_)
    refine jr.bipush rfl (by decide) ?_
    exact jr.ireturn rfl rfl rfl (q _ _ hI_M hH_M hS_M ht_M (by omega) )
theorem r_flowed {A : Nat → Option (Nat × (Nat → Int32))} {Q : Option Value → jm → Prop} {T : jm} {M : jm} (hI_M : RI M) (hH_M : RH M) (hS_M : RF M) (ht_M : Kp T M) {f : Int} (h_f : (-2147483648) ≤ f ∧ f ≤ 2147483647) {w : Int} (h_w : (-2147483648) ≤ w ∧ w ≤ 2147483647) (q : ∀ (r : Int) (M' : jm), RI M' → RH M' → RF M' → Kp T M' → (-9223372036854775808) ≤ r ∧ r ≤ 9223372036854775807 → Q (some (.long (Int64.ofInt r))) M') : jc A 3 317 [.ref (598), .int (Int32.ofInt (f)), .int (Int32.ofInt (w))] M Q := by
  refine jc_of (m := xm_317) rfl (Nat.le_of_ble_eq_true rfl) rfl ?_
  refine jr.aload_n rfl rfl ?_
  refine jr.iload_n rfl rfl ?_
  refine jr_v rfl rfl (Or.inl rfl) rfl rfl (by decide) rfl ⟨rfl, Nat.le_of_ble_eq_true rfl, Nat.le_of_ble_eq_true rfl⟩ rfl (jc.deep (c_isFlow hI_M (by omega) (fun l2 u2 t2 => ?_) (fun n2 => ?_)) (by decide))
  · refine jr.if_eq rfl rfl (by omega) (fun h => absurd h (by decide)) (fun _ => ?_)
    refine jr.iload_n rfl rfl ?_
    refine jr.i2l rfl (by omega) ?_
    refine jr.lconst (x := 0) rfl (by decide) ?_
    refine jr.ldc2 (x := 5) rfl rfl (by decide) ?_
    refine jr_s rfl rfl (Or.inl rfl) ⟨Nat.le_of_ble_eq_true rfl, Nat.le_of_ble_eq_true rfl⟩ rfl rfl (jc.deep (c_within (by omega) (by omega) (by omega) (fun l14 u14 => ?_) (fun n14 => ?_)) (by decide))
    · refine jr.if_ne rfl rfl (by omega) (fun _ => ?_) (fun h => absurd (by decide) h)
      refine jr.iconst rfl ?_
      refine jr.iload_n rfl rfl ?_
      refine jr.imul rfl ?_
      refine jr.iload_n rfl rfl ?_
      refine jr.iconst rfl ?_
      refine jr.irem rfl (by decide) ?_
      have b1 : j_rem w 2 = w % 2 := j_rem_ex (by omega) (by omega)
      generalize j_rem w 2 = v1 at b1 ⊢
      refine jr.iadd rfl ?_
      refine jr.istore_n rfl (by decide) rfl ?_
      refine jr.iload_n rfl rfl ?_
      refine jr.iconst rfl ?_
      refine jr.icmp_ge rfl rfl (by omega) (by omega) (fun h34 => ?_) (fun h34 => ?_)
      · refine jr.iload_n rfl rfl ?_
        refine jr.iconst rfl ?_
        refine jr.icmp_ge rfl rfl (by omega) (by omega) (fun h48 => ?_) (fun h48 => ?_)
        · refine jr.aload_n rfl rfl ?_
          refine jr.getf (i := 49) (v := .ref 637) rfl rfl (by decide) rfl (by decide) rfl rfl rfl rfl ?_
          refine jr.iload_n rfl rfl ?_
          obtain ⟨v2, e2⟩ : ∃ z, M 637 ((2 * f) + v1) = z := ⟨_, rfl⟩
          have b2 : (-9223372036854775808) ≤ v2 ∧ v2 ≤ 9223372036854775807 := by rw [← e2]; exact (by have q := hI_M 637 ((2 * f) + v1) (by decide); rw [xri_row rfl rfl] at q; exact q)
          refine jr.lald (i := ((2 * f) + v1)) (x := v2) rfl (by decide) rfl (by decide) (by omega) (by omega) e2 ?_
          exact jr.lreturn rfl rfl (q _ _ hI_M hH_M hS_M ht_M (by omega) )
        · refine jr.aload_n rfl rfl ?_
          refine jr.getf (i := 48) (v := .ref 636) rfl rfl (by decide) rfl (by decide) rfl rfl rfl rfl ?_
          refine jr.iload_n rfl rfl ?_
          obtain ⟨v3, e3⟩ : ∃ z, M 636 ((2 * f) + v1) = z := ⟨_, rfl⟩
          have b3 : (-9223372036854775808) ≤ v3 ∧ v3 ≤ 9223372036854775807 := by rw [← e3]; exact (by have q := hI_M 636 ((2 * f) + v1) (by decide); rw [xri_row rfl rfl] at q; exact q)
          refine jr.lald (i := ((2 * f) + v1)) (x := v3) rfl (by decide) rfl (by decide) (by omega) (by omega) e3 ?_
          refine jr.goto rfl rfl ?_
          exact jr.lreturn rfl rfl (q _ _ hI_M hH_M hS_M ht_M (by omega) )
      · refine jr.aload_n rfl rfl ?_
        refine jr.getf (i := 42) (v := .ref 630) rfl rfl (by decide) rfl (by decide) rfl rfl rfl rfl ?_
        refine jr.iload_n rfl rfl ?_
        obtain ⟨v4, e4⟩ : ∃ z, M 630 ((2 * f) + v1) = z := ⟨_, rfl⟩
        have b4 : (-9223372036854775808) ≤ v4 ∧ v4 ≤ 9223372036854775807 := by rw [← e4]; exact (by have q := hI_M 630 ((2 * f) + v1) (by decide); rw [xri_row rfl rfl] at q; exact q)
        refine jr.lald (i := ((2 * f) + v1)) (x := v4) rfl (by decide) rfl (by decide) (by omega) (by omega) e4 ?_
        refine jr.goto rfl rfl ?_
        exact jr.lreturn rfl rfl (q _ _ hI_M hH_M hS_M ht_M (by omega) )
    · refine jr.if_ne rfl rfl (by omega) (fun h => absurd h (by decide)) (fun _ => ?_)
      refine jr.ldc2 (x := (-1)) rfl rfl (by decide) ?_
      exact jr.lreturn rfl rfl (q _ _ hI_M hH_M hS_M ht_M (by omega) )
  · refine jr.if_eq rfl rfl (by omega) (fun _ => ?_) (fun h => absurd (by decide) h)
    refine jr.ldc2 (x := (-1)) rfl rfl (by decide) ?_
    exact jr.lreturn rfl rfl (q _ _ hI_M hH_M hS_M ht_M (by omega) )
theorem r_close {A : Nat → Option (Nat × (Nat → Int32))} {Q : Option Value → jm → Prop} {T : jm} {M : jm} (hI_M : RI M) (hH_M : RH M) (hS_M : RF M) (ht_M : Kp T M) {f : Int} (h_f : (-2147483648) ≤ f ∧ f ≤ 2147483647) (q : ∀ (r : Int) (M' : jm), RI M' → RH M' → RF M' → Kp T M' → (-2) ≤ r ∧ r ≤ 1 → Q (some (.int (Int32.ofInt r))) M') : jc A 3 318 [.ref (598), .int (Int32.ofInt (f))] M Q := by
  refine jc_of (m := xm_318) rfl (Nat.le_of_ble_eq_true rfl) rfl ?_
  refine jr.aload_n rfl rfl ?_
  refine jr.iload_n rfl rfl ?_
  refine jr_v rfl rfl (Or.inl rfl) rfl rfl (by decide) rfl ⟨rfl, Nat.le_of_ble_eq_true rfl, Nat.le_of_ble_eq_true rfl⟩ rfl (jc.deep (c_isFlow hI_M (by omega) (fun l2 u2 t2 => ?_) (fun n2 => ?_)) (by decide))
  · refine jr.if_ne rfl rfl (by omega) (fun _ => ?_) (fun h => absurd (by decide) h)
    refine jr.aload_n rfl rfl ?_
    refine jr.getf (i := 39) (v := .ref 627) rfl rfl (by decide) rfl (by decide) rfl rfl rfl rfl ?_
    refine jr.iload_n rfl rfl ?_
    refine jr.iconst rfl ?_
    refine jr.zast (i := f) (x := 0) rfl (by decide) rfl (by decide) (by omega) (by omega) (j_zn (by omega)) ?_
    refine jr.iconst rfl ?_
    exact jr.ireturn rfl rfl rfl (q _ _ (RI.u hI_M (a := 627) (i := f) (by rw [xri_row rfl rfl]; show (0 : Int) ≤ _ ∧ _ ≤ (1 : Int); omega)) (RH.o hH_M (by decide) (by decide) (by decide)) (RF.o hS_M (by decide) (by decide)) (Kp.o ht_M rfl) (by omega) )
  · refine jr.if_ne rfl rfl (by omega) (fun h => absurd h (by decide)) (fun _ => ?_)
    refine jr.bipush rfl (by decide) ?_
    exact jr.ireturn rfl rfl rfl (q _ _ hI_M hH_M hS_M ht_M (by omega) )
theorem r_isTaken_L6 {A : Nat → Option (Nat × (Nat → Int32))} {Q : Option Value → jm → Prop} {T : jm} {M : jm} (hI_M : RI M) (hH_M : RH M) (hS_M : RF M) (ht_M : Kp T M) (q : ∀ (r : Int), 0 ≤ r ∧ r ≤ 1 → Q (some (.int (Int32.ofInt r))) M) : ∀ (n : Nat) (f : Int) (b : Int) (o : Int) (a : Int), 0 ≤ f ∧ f ≤ 24 → 0 ≤ b ∧ b ≤ 1 → (-2147483648) ≤ o ∧ o ≤ 2147483647 → (-9223372036854775808) ≤ a ∧ a ≤ 9223372036854775807 → 24 - f ≤ n → jr A 0 xm_320 6 [(5, .int (Int32.ofInt (f))), (4, .int (Int32.ofInt (b))), (3, .int (Int32.ofInt (o))), (1, .long (Int64.ofInt (a))), (0, .ref (598))] [] M Q := by
  intro n
  induction n using Nat.strongRecOn with
  | ind n ih =>
    intro f b o a h_f h_b h_o h_a hm
    refine jr.iload rfl rfl ?_
    refine jr.bipush rfl (by decide) ?_
    refine jr.icmp_ge rfl rfl (by omega) (by omega) (fun h10 => ?_) (fun h10 => ?_)
    · refine jr.iload rfl rfl ?_
      exact jr.ireturn rfl rfl (j_zr (by omega)) (q _ (by omega) )
    · refine jr.iload rfl rfl ?_
      refine jr.if_ne rfl rfl (by omega) (fun h15 => ?_) (fun h15 => ?_)
      · refine jr.iconst rfl ?_
        refine jr.goto rfl rfl ?_
        refine jr.istore rfl (by decide) rfl ?_
        refine jr.iinc rfl rfl (by decide) rfl ?_
        refine jr.goto rfl rfl ?_
        refine jr.pick [0, 1, 2, 3, 4] rfl rfl ?_
        exact ih (n - 1) (by omega) (f + 1) 1 o a (by omega) (by omega) (by omega) (by omega)  (by omega)
      · refine jr.aload_n rfl rfl ?_
        refine jr.getf (i := 39) (v := .ref 627) rfl rfl (by decide) rfl (by decide) rfl rfl rfl rfl ?_
        refine jr.iload rfl rfl ?_
        obtain ⟨v1, e1⟩ : ∃ z, M 627 f = z := ⟨_, rfl⟩
        have b1 : 0 ≤ v1 ∧ v1 ≤ 1 := by rw [← e1]; exact (by have q := hI_M 627 f (by decide); rw [xri_row rfl rfl] at q; exact q)
        refine jr.zald (i := f) (x := v1) rfl (by decide) rfl (by decide) (by omega) (by omega) e1 ?_
        refine jr.if_eq rfl rfl (by omega) (fun h25 => ?_) (fun h25 => ?_)
        · refine jr.iconst rfl ?_
          refine jr.istore rfl (by decide) rfl ?_
          refine jr.iinc rfl rfl (by decide) rfl ?_
          refine jr.goto rfl rfl ?_
          refine jr.pick [0, 1, 2, 3, 4] rfl rfl ?_
          exact ih (n - 1) (by omega) (f + 1) 0 o a (by omega) (by omega) (by omega) (by omega)  (by omega)
        · refine jr.aload_n rfl rfl ?_
          refine jr.getf (i := 52) (v := .ref 640) rfl rfl (by decide) rfl (by decide) rfl rfl rfl rfl ?_
          refine jr.iload rfl rfl ?_
          obtain ⟨v2, e2⟩ : ∃ z, M 640 f = z := ⟨_, rfl⟩
          have b2 : (-1) ≤ v2 ∧ v2 ≤ 3 := by rw [← e2]; exact (by have q := hI_M 640 f (by decide); rw [xri_row rfl rfl] at q; exact q)
          refine jr.iald (i := f) (x := v2) rfl (by decide) rfl (by decide) (by omega) (by omega) e2 ?_
          refine jr.iconst rfl ?_
          refine jr.icmp_eq rfl rfl (by omega) (by omega) (fun h36 => ?_) (fun h36 => ?_)
          · refine jr.iconst rfl ?_
            refine jr.istore rfl (by decide) rfl ?_
            refine jr.iinc rfl rfl (by decide) rfl ?_
            refine jr.goto rfl rfl ?_
            refine jr.pick [0, 1, 2, 3, 4] rfl rfl ?_
            exact ih (n - 1) (by omega) (f + 1) 0 o a (by omega) (by omega) (by omega) (by omega)  (by omega)
          · refine jr.aload_n rfl rfl ?_
            refine jr.getf (i := 53) (v := .ref 641) rfl rfl (by decide) rfl (by decide) rfl rfl rfl rfl ?_
            refine jr.iload rfl rfl ?_
            obtain ⟨v3, e3⟩ : ∃ z, M 641 f = z := ⟨_, rfl⟩
            have b3 : (-9223372036854775808) ≤ v3 ∧ v3 ≤ 9223372036854775807 := by rw [← e3]; exact (by have q := hI_M 641 f (by decide); rw [xri_row rfl rfl] at q; exact q)
            refine jr.lald (i := f) (x := v3) rfl (by decide) rfl (by decide) (by omega) (by omega) e3 ?_
            refine jr.lload_n rfl rfl ?_
            refine jr.lcmp_ne rfl rfl rfl (by omega) (by omega) (fun h47 => ?_) (fun h47 => ?_)
            · refine jr.iconst rfl ?_
              refine jr.istore rfl (by decide) rfl ?_
              refine jr.iinc rfl rfl (by decide) rfl ?_
              refine jr.goto rfl rfl ?_
              refine jr.pick [0, 1, 2, 3, 4] rfl rfl ?_
              exact ih (n - 1) (by omega) (f + 1) 0 o a (by omega) (by omega) (by omega) (by omega)  (by omega)
            · refine jr.aload_n rfl rfl ?_
              refine jr.getf (i := 54) (v := .ref 642) rfl rfl (by decide) rfl (by decide) rfl rfl rfl rfl ?_
              refine jr.iload rfl rfl ?_
              obtain ⟨v4, e4⟩ : ∃ z, M 642 f = z := ⟨_, rfl⟩
              have b4 : 0 ≤ v4 ∧ v4 ≤ 70000 := by rw [← e4]; exact (by have q := hI_M 642 f (by decide); rw [xri_row rfl rfl] at q; exact q)
              refine jr.iald (i := f) (x := v4) rfl (by decide) rfl (by decide) (by omega) (by omega) e4 ?_
              refine jr.iload_n rfl rfl ?_
              refine jr.icmp_ne rfl rfl (by omega) (by omega) (fun h59 => ?_) (fun h59 => ?_)
              · refine jr.iconst rfl ?_
                refine jr.istore rfl (by decide) rfl ?_
                refine jr.iinc rfl rfl (by decide) rfl ?_
                refine jr.goto rfl rfl ?_
                refine jr.pick [0, 1, 2, 3, 4] rfl rfl ?_
                exact ih (n - 1) (by omega) (f + 1) 0 o a (by omega) (by omega) (by omega) (by omega)  (by omega)
              · refine jr.iconst rfl ?_
                refine jr.goto rfl rfl ?_
                refine jr.istore rfl (by decide) rfl ?_
                refine jr.iinc rfl rfl (by decide) rfl ?_
                refine jr.goto rfl rfl ?_
                refine jr.pick [0, 1, 2, 3, 4] rfl rfl ?_
                exact ih (n - 1) (by omega) (f + 1) 1 o a (by omega) (by omega) (by omega) (by omega)  (by omega)
theorem r_isTaken {A : Nat → Option (Nat × (Nat → Int32))} {Q : Option Value → jm → Prop} {T : jm} {M : jm} (hI_M : RI M) (hH_M : RH M) (hS_M : RF M) (ht_M : Kp T M) {a : Int} (h_a : (-9223372036854775808) ≤ a ∧ a ≤ 9223372036854775807) {o : Int} (h_o : (-2147483648) ≤ o ∧ o ≤ 2147483647) (q : ∀ (r : Int), 0 ≤ r ∧ r ≤ 1 → Q (some (.int (Int32.ofInt r))) M) : jc A 1 320 [.ref (598), .long (Int64.ofInt (a)), .int (Int32.ofInt (o))] M Q := by
  refine jc_of (m := xm_320) rfl (Nat.le_of_ble_eq_true rfl) rfl ?_
  refine jr.iconst rfl ?_
  refine jr.istore rfl (by decide) rfl ?_
  refine jr.iconst rfl ?_
  refine jr.istore rfl (by decide) rfl ?_
  refine jr.pick [0, 1, 4, 3, 2] rfl rfl ?_
  exact r_isTaken_L6 hI_M hH_M hS_M ht_M q 24 0 0 o a (by omega) (by omega) (by omega) (by omega)  (by omega)
theorem r_pool_L55 {A : Nat → Option (Nat × (Nat → Int32))} {Q : Option Value → jm → Prop} {T : jm} (q : ∀ (r : Int) (M' : jm), RI M' → RH M' → RF M' → Kp T M' → (-4) ≤ r ∧ r ≤ 32 → Q (some (.int (Int32.ofInt r))) M') : ∀ (n : Nat) (M : jm) (f : Int) (c : Int) (o : Int) (a : Int) (k : Int), RI M → RH M → RF M → Kp T M → 0 ≤ f ∧ f ≤ 24 → 1 ≤ c ∧ c ≤ 32 → 1 ≤ o ∧ o ≤ 65535 → (-2147483648) ≤ a ∧ a ≤ 2147483647 → 0 ≤ k ∧ k ≤ 3 → 24 - f ≤ n → jr A 1 xm_319 55 [(5, .int (Int32.ofInt (f))), (4, .int (Int32.ofInt (c))), (3, .int (Int32.ofInt (o))), (2, .int (Int32.ofInt (a))), (1, .int (Int32.ofInt (k))), (0, .ref (598))] [] M Q := by
  intro n
  induction n using Nat.strongRecOn with
  | ind n ih =>
    intro M f c o a k hI_M hH_M hS_M ht_M h_f h_c h_o h_a h_k hm
    refine jr.iload rfl rfl ?_
    refine jr.bipush rfl (by decide) ?_
    refine jr.icmp_ge rfl rfl (by omega) (by omega) (fun h59 => ?_) (fun h59 => ?_)
    · refine jr.aload_n rfl rfl ?_
      refine jr.getf (i := 55) (v := .ref 643) rfl rfl (by decide) rfl (by decide) rfl rfl rfl rfl ?_
      refine jr.iload_n rfl rfl ?_
      refine jr.iconst rfl ?_
      refine jr.zast (i := k) (x := 1) rfl (by decide) rfl (by decide) (by omega) (by omega) (j_zn (by omega)) ?_
      refine jr.aload_n rfl rfl ?_
      refine jr.getf (i := 56) (v := .ref 644) rfl rfl (by decide) rfl (by decide) rfl rfl rfl rfl ?_
      refine jr.iload_n rfl rfl ?_
      refine jr.iload_n rfl rfl ?_
      refine jr.i2l rfl (by omega) ?_
      refine jr.ldc2 (x := 4294967295) rfl rfl (by decide) ?_
      refine jr.land rfl ?_
      have b1 : 0 ≤ jl_and a 4294967295 ∧ jl_and a 4294967295 ≤ 4294967295 := jl_and_le (by decide)
      generalize jl_and a 4294967295 = v1 at b1 ⊢
      refine jr.last (i := k) (x := v1) rfl (by decide) rfl (by decide) (by omega) (by omega) ?_
      refine jr.aload_n rfl rfl ?_
      refine jr.getf (i := 57) (v := .ref 645) rfl rfl (by decide) rfl (by decide) rfl rfl rfl rfl ?_
      refine jr.iload_n rfl rfl ?_
      refine jr.iload_n rfl rfl ?_
      refine jr.iast (i := k) (x := o) rfl (by decide) rfl (by decide) (by omega) (by omega) ?_
      refine jr.aload_n rfl rfl ?_
      refine jr.getf (i := 58) (v := .ref 646) rfl rfl (by decide) rfl (by decide) rfl rfl rfl rfl ?_
      refine jr.iload_n rfl rfl ?_
      refine jr.iload rfl rfl ?_
      refine jr.iast (i := k) (x := c) rfl (by decide) rfl (by decide) (by omega) (by omega) ?_
      refine jr.iload rfl rfl ?_
      exact jr.ireturn rfl rfl rfl (q _ _ (RI.u (RI.u (RI.u (RI.u hI_M (a := 643) (i := k) (by rw [xri_row rfl rfl]; show (0 : Int) ≤ _ ∧ _ ≤ (1 : Int); omega)) (a := 644) (i := k) (by rw [xri_row rfl rfl]; show (-9223372036854775808 : Int) ≤ _ ∧ _ ≤ (9223372036854775807 : Int); omega)) (a := 645) (i := k) (by rw [xri_row rfl rfl]; show (0 : Int) ≤ _ ∧ _ ≤ (65535 : Int); omega)) (a := 646) (i := k) (by rw [xri_row rfl rfl]; show (0 : Int) ≤ _ ∧ _ ≤ (32 : Int); omega)) (RH.o (RH.o (RH.o (RH.o hH_M (by decide) (by decide) (by decide)) (by decide) (by decide) (by decide)) (by decide) (by decide) (by decide)) (by decide) (by decide) (by decide)) (RF.o (RF.o (RF.o (RF.o hS_M (by decide) (by decide)) (by decide) (by decide)) (by decide) (by decide)) (by decide) (by decide)) (Kp.o (Kp.o (Kp.o (Kp.o ht_M rfl) rfl) rfl) rfl) (by omega) )
    · refine jr.aload_n rfl rfl ?_
      refine jr.getf (i := 39) (v := .ref 627) rfl rfl (by decide) rfl (by decide) rfl rfl rfl rfl ?_
      refine jr.iload rfl rfl ?_
      obtain ⟨v2, e2⟩ : ∃ z, M 627 f = z := ⟨_, rfl⟩
      have b2 : 0 ≤ v2 ∧ v2 ≤ 1 := by rw [← e2]; exact (by have q := hI_M 627 f (by decide); rw [xri_row rfl rfl] at q; exact q)
      refine jr.zald (i := f) (x := v2) rfl (by decide) rfl (by decide) (by omega) (by omega) e2 ?_
      refine jr.if_eq rfl rfl (by omega) (fun h69 => ?_) (fun h69 => ?_)
      · refine jr.iinc rfl rfl (by decide) rfl ?_
        refine jr.goto rfl rfl ?_
        refine jr.pick [0, 1, 2, 3, 4, 5] rfl rfl ?_
        exact ih (n - 1) (by omega) M (f + 1) c o a k hI_M hH_M hS_M ht_M (by omega) (by omega) (by omega) (by omega) (by omega)  (by omega)
      · refine jr.aload_n rfl rfl ?_
        refine jr.getf (i := 52) (v := .ref 640) rfl rfl (by decide) rfl (by decide) rfl rfl rfl rfl ?_
        refine jr.iload rfl rfl ?_
        obtain ⟨v3, e3⟩ : ∃ z, M 640 f = z := ⟨_, rfl⟩
        have b3 : (-1) ≤ v3 ∧ v3 ≤ 3 := by rw [← e3]; exact (by have q := hI_M 640 f (by decide); rw [xri_row rfl rfl] at q; exact q)
        refine jr.iald (i := f) (x := v3) rfl (by decide) rfl (by decide) (by omega) (by omega) e3 ?_
        refine jr.iload_n rfl rfl ?_
        refine jr.icmp_ne rfl rfl (by omega) (by omega) (fun h80 => ?_) (fun h80 => ?_)
        · refine jr.iinc rfl rfl (by decide) rfl ?_
          refine jr.goto rfl rfl ?_
          refine jr.pick [0, 1, 2, 3, 4, 5] rfl rfl ?_
          exact ih (n - 1) (by omega) M (f + 1) c o a k hI_M hH_M hS_M ht_M (by omega) (by omega) (by omega) (by omega) (by omega)  (by omega)
        · refine jr.bipush rfl (by decide) ?_
          exact jr.ireturn rfl rfl rfl (q _ _ hI_M hH_M hS_M ht_M (by omega) )
theorem r_pool {A : Nat → Option (Nat × (Nat → Int32))} {Q : Option Value → jm → Prop} {T : jm} {M : jm} (hI_M : RI M) (hH_M : RH M) (hS_M : RF M) (ht_M : Kp T M) {k : Int} (h_k : (-2147483648) ≤ k ∧ k ≤ 2147483647) {a : Int} (h_a : (-2147483648) ≤ a ∧ a ≤ 2147483647) {o : Int} (h_o : (-2147483648) ≤ o ∧ o ≤ 2147483647) {c : Int} (h_c : (-2147483648) ≤ c ∧ c ≤ 2147483647) (q : ∀ (r : Int) (M' : jm), RI M' → RH M' → RF M' → Kp T M' → (-4) ≤ r ∧ r ≤ 32 → Q (some (.int (Int32.ofInt r))) M') : jc A 2 319 [.ref (598), .int (Int32.ofInt (k)), .int (Int32.ofInt (a)), .int (Int32.ofInt (o)), .int (Int32.ofInt (c))] M Q := by
  refine jc_of (m := xm_319) rfl (Nat.le_of_ble_eq_true rfl) rfl ?_
  refine jr.iload_n rfl rfl ?_
  refine jr.i2l rfl (by omega) ?_
  refine jr.lconst (x := 0) rfl (by decide) ?_
  refine jr.ldc2 (x := 3) rfl rfl (by decide) ?_
  refine jr_s rfl rfl (Or.inl rfl) ⟨Nat.le_of_ble_eq_true rfl, Nat.le_of_ble_eq_true rfl⟩ rfl rfl (jc.deep (c_within (by omega) (by omega) (by omega) (fun l6 u6 => ?_) (fun n6 => ?_)) (by decide))
  · refine jr.if_eq rfl rfl (by omega) (fun h => absurd h (by decide)) (fun _ => ?_)
    refine jr.iload rfl rfl ?_
    refine jr.i2l rfl (by omega) ?_
    refine jr.lconst (x := 1) rfl (by decide) ?_
    refine jr.ldc2 (x := 32) rfl rfl (by decide) ?_
    refine jr_s rfl rfl (Or.inl rfl) ⟨Nat.le_of_ble_eq_true rfl, Nat.le_of_ble_eq_true rfl⟩ rfl rfl (jc.deep (c_within (by omega) (by omega) (by omega) (fun l19 u19 => ?_) (fun n19 => ?_)) (by decide))
    · refine jr.if_eq rfl rfl (by omega) (fun h => absurd h (by decide)) (fun _ => ?_)
      refine jr.iload_n rfl rfl ?_
      refine jr.iconst rfl ?_
      refine jr.icmp_lt rfl rfl (by omega) (by omega) (fun h27 => ?_) (fun h27 => ?_)
      · refine jr.bipush rfl (by decide) ?_
        exact jr.ireturn rfl rfl rfl (q _ _ hI_M hH_M hS_M ht_M (by omega) )
      · refine jr.iload_n rfl rfl ?_
        refine jr.ldcw (x := 65535) rfl rfl (by decide) ?_
        refine jr.icmp_gt rfl rfl (by omega) (by omega) (fun h34 => ?_) (fun h34 => ?_)
        · refine jr.bipush rfl (by decide) ?_
          exact jr.ireturn rfl rfl rfl (q _ _ hI_M hH_M hS_M ht_M (by omega) )
        · refine jr.iload_n rfl rfl ?_
          refine jr.iload rfl rfl ?_
          refine jr.iadd rfl ?_
          refine jr.iconst rfl ?_
          refine jr.isub rfl ?_
          refine jr.ldcw (x := 65535) rfl rfl (by decide) ?_
          refine jr.icmp_le rfl rfl (by omega) (by omega) (fun h46 => ?_) (fun h46 => ?_)
          · refine jr.iconst rfl ?_
            refine jr.istore rfl (by decide) rfl ?_
            refine jr.pick [0, 5, 4, 3, 2, 1] rfl rfl ?_
            exact r_pool_L55 q 24 M 0 c o a k hI_M hH_M hS_M ht_M (by omega) (by omega) (by omega) (by omega) (by omega)  (by omega)
          · refine jr.bipush rfl (by decide) ?_
            exact jr.ireturn rfl rfl rfl (q _ _ hI_M hH_M hS_M ht_M (by omega) )
    · refine jr.if_eq rfl rfl (by omega) (fun _ => ?_) (fun h => absurd (by decide) h)
      refine jr.bipush rfl (by decide) ?_
      exact jr.ireturn rfl rfl rfl (q _ _ hI_M hH_M hS_M ht_M (by omega) )
  · refine jr.if_eq rfl rfl (by omega) (fun _ => ?_) (fun h => absurd (by decide) h)
    refine jr.bipush rfl (by decide) ?_
    exact jr.ireturn rfl rfl rfl (q _ _ hI_M hH_M hS_M ht_M (by omega) )
theorem r_change_L74 {A : Nat → Option (Nat × (Nat → Int32))} {Q : Option Value → jm → Prop} {T : jm} (q : ∀ (r : Int) (M' : jm), RI M' → RH M' → RF M' → Kp T M' → (-5) ≤ r ∧ r ≤ 65567 → Q (some (.int (Int32.ofInt r))) M') : ∀ (n : Nat) (M : jm) (o : Int) (k : Int) (f : Int), RI M → RH M → RF M → Kp T M → 0 ≤ o ∧ o ≤ 65567 → 0 ≤ k ∧ k ≤ 3 → 0 ≤ f ∧ f ≤ 23 → M 645 k ≤ o → o ≤ M 645 k + M 646 k → 65600 - o ≤ n → jr A 2 xm_321 74 [(3, .int (Int32.ofInt (o))), (2, .int (Int32.ofInt (k))), (1, .int (Int32.ofInt (f))), (0, .ref (598))] [] M Q := by
  intro n
  induction n using Nat.strongRecOn with
  | ind n ih =>
    intro M o k f hI_M hH_M hS_M ht_M h_o h_k h_f hy0 hy1 hm
    refine jr.iload_n rfl rfl ?_
    refine jr.aload_n rfl rfl ?_
    refine jr.getf (i := 57) (v := .ref 645) rfl rfl (by decide) rfl (by decide) rfl rfl rfl rfl ?_
    refine jr.iload_n rfl rfl ?_
    obtain ⟨v1, e1⟩ : ∃ z, M 645 k = z := ⟨_, rfl⟩
    have b1 : 0 ≤ v1 ∧ v1 ≤ 65535 := by rw [← e1]; exact (by have q := hI_M 645 k (by decide); rw [xri_row rfl rfl] at q; exact q)
    refine jr.iald (i := k) (x := v1) rfl (by decide) rfl (by decide) (by omega) (by omega) e1 ?_
    refine jr.aload_n rfl rfl ?_
    refine jr.getf (i := 58) (v := .ref 646) rfl rfl (by decide) rfl (by decide) rfl rfl rfl rfl ?_
    refine jr.iload_n rfl rfl ?_
    obtain ⟨v2, e2⟩ : ∃ z, M 646 k = z := ⟨_, rfl⟩
    have b2 : 0 ≤ v2 ∧ v2 ≤ 32 := by rw [← e2]; exact (by have q := hI_M 646 k (by decide); rw [xri_row rfl rfl] at q; exact q)
    refine jr.iald (i := k) (x := v2) rfl (by decide) rfl (by decide) (by omega) (by omega) e2 ?_
    refine jr.iadd rfl ?_
    refine jr.icmp_ge rfl rfl (by omega) (by omega) (fun h88 => ?_) (fun h88 => ?_)
    · refine jr.iload_n rfl rfl ?_
      refine jr.aload_n rfl rfl ?_
      refine jr.getf (i := 57) (v := .ref 645) rfl rfl (by decide) rfl (by decide) rfl rfl rfl rfl ?_
      refine jr.iload_n rfl rfl ?_
      refine jr.iald (i := k) (x := v1) rfl (by decide) rfl (by decide) (by omega) (by omega) e1 ?_
      refine jr.aload_n rfl rfl ?_
      refine jr.getf (i := 58) (v := .ref 646) rfl rfl (by decide) rfl (by decide) rfl rfl rfl rfl ?_
      refine jr.iload_n rfl rfl ?_
      refine jr.iald (i := k) (x := v2) rfl (by decide) rfl (by decide) (by omega) (by omega) e2 ?_
      refine jr.iadd rfl ?_
      refine jr.icmp_ne rfl rfl (by omega) (by omega) (fun h125 => ?_) (fun h125 => ?_)
      · refine jr.aload_n rfl rfl ?_
        refine jr.getf (i := 52) (v := .ref 640) rfl rfl (by decide) rfl (by decide) rfl rfl rfl rfl ?_
        refine jr.iload_n rfl rfl ?_
        refine jr.iload_n rfl rfl ?_
        refine jr.iast (i := f) (x := k) rfl (by decide) rfl (by decide) (by omega) (by omega) ?_
        refine jr.aload_n rfl rfl ?_
        refine jr.getf (i := 53) (v := .ref 641) rfl rfl (by decide) rfl (by decide) rfl rfl rfl rfl ?_
        refine jr.iload_n rfl rfl ?_
        refine jr.aload_n rfl rfl ?_
        refine jr.getf (i := 56) (v := .ref 644) rfl rfl (by decide) rfl (by decide) rfl rfl rfl rfl ?_
        refine jr.iload_n rfl rfl ?_
        obtain ⟨v3, e3⟩ : ∃ z, M 644 k = z := ⟨_, rfl⟩
        have b3 : (-9223372036854775808) ≤ v3 ∧ v3 ≤ 9223372036854775807 := by rw [← e3]; exact (by have q := hI_M 644 k (by decide); rw [xri_row rfl rfl] at q; exact q)
        refine jr.lald (i := k) (x := v3) rfl (by decide) rfl (by decide) (by omega) (by omega) ((ju_c _ _ (by decide)).trans e3) ?_
        refine jr.last (i := f) (x := v3) rfl (by decide) rfl (by decide) (by omega) (by omega) ?_
        refine jr.aload_n rfl rfl ?_
        refine jr.getf (i := 54) (v := .ref 642) rfl rfl (by decide) rfl (by decide) rfl rfl rfl rfl ?_
        refine jr.iload_n rfl rfl ?_
        refine jr.iload_n rfl rfl ?_
        refine jr.iast (i := f) (x := o) rfl (by decide) rfl (by decide) (by omega) (by omega) ?_
        refine jr.iload_n rfl rfl ?_
        exact jr.ireturn rfl rfl rfl (q _ _ (RI.u (RI.u (RI.u hI_M (a := 640) (i := f) (by rw [xri_row rfl rfl]; show (-1 : Int) ≤ _ ∧ _ ≤ (3 : Int); omega)) (a := 641) (i := f) (by rw [xri_row rfl rfl]; show (-9223372036854775808 : Int) ≤ _ ∧ _ ≤ (9223372036854775807 : Int); omega)) (a := 642) (i := f) (by rw [xri_row rfl rfl]; show (0 : Int) ≤ _ ∧ _ ≤ (70000 : Int); omega)) (RH.o (RH.o (RH.o hH_M (by decide) (by decide) (by decide)) (by decide) (by decide) (by decide)) (by decide) (by decide) (by decide)) (RF.o (RF.o (RF.o hS_M (by decide) (by decide)) (by decide) (by decide)) (by decide) (by decide)) (Kp.o (Kp.o (Kp.o ht_M rfl) rfl) rfl) (by omega) )
      · refine jr.bipush rfl (by decide) ?_
        exact jr.ireturn rfl rfl rfl (q _ _ hI_M hH_M hS_M ht_M (by omega) )
    · refine jr.aload_n rfl rfl ?_
      refine jr.aload_n rfl rfl ?_
      refine jr.getf (i := 56) (v := .ref 644) rfl rfl (by decide) rfl (by decide) rfl rfl rfl rfl ?_
      refine jr.iload_n rfl rfl ?_
      obtain ⟨v4, e4⟩ : ∃ z, M 644 k = z := ⟨_, rfl⟩
      have b4 : (-9223372036854775808) ≤ v4 ∧ v4 ≤ 9223372036854775807 := by rw [← e4]; exact (by have q := hI_M 644 k (by decide); rw [xri_row rfl rfl] at q; exact q)
      refine jr.lald (i := k) (x := v4) rfl (by decide) rfl (by decide) (by omega) (by omega) e4 ?_
      refine jr.iload_n rfl rfl ?_
      refine jr_v rfl rfl (Or.inl rfl) rfl rfl (by decide) rfl ⟨rfl, Nat.le_of_ble_eq_true rfl, Nat.le_of_ble_eq_true rfl⟩ rfl (jc.deep (r_isTaken hI_M hH_M hS_M ht_M (by omega) (by omega)  (fun r5 z5  => ?_)) (by decide))
      refine jr.if_eq rfl rfl (by omega) (fun h102 => ?_) (fun h102 => ?_)
      · refine jr.iload_n rfl rfl ?_
        refine jr.aload_n rfl rfl ?_
        refine jr.getf (i := 57) (v := .ref 645) rfl rfl (by decide) rfl (by decide) rfl rfl rfl rfl ?_
        refine jr.iload_n rfl rfl ?_
        refine jr.iald (i := k) (x := v1) rfl (by decide) rfl (by decide) (by omega) (by omega) e1 ?_
        refine jr.aload_n rfl rfl ?_
        refine jr.getf (i := 58) (v := .ref 646) rfl rfl (by decide) rfl (by decide) rfl rfl rfl rfl ?_
        refine jr.iload_n rfl rfl ?_
        refine jr.iald (i := k) (x := v2) rfl (by decide) rfl (by decide) (by omega) (by omega) e2 ?_
        refine jr.iadd rfl ?_
        refine jr.icmp_ne rfl rfl (by omega) (by omega) (fun h125 => ?_) (fun h125 => ?_)
        · refine jr.aload_n rfl rfl ?_
          refine jr.getf (i := 52) (v := .ref 640) rfl rfl (by decide) rfl (by decide) rfl rfl rfl rfl ?_
          refine jr.iload_n rfl rfl ?_
          refine jr.iload_n rfl rfl ?_
          refine jr.iast (i := f) (x := k) rfl (by decide) rfl (by decide) (by omega) (by omega) ?_
          refine jr.aload_n rfl rfl ?_
          refine jr.getf (i := 53) (v := .ref 641) rfl rfl (by decide) rfl (by decide) rfl rfl rfl rfl ?_
          refine jr.iload_n rfl rfl ?_
          refine jr.aload_n rfl rfl ?_
          refine jr.getf (i := 56) (v := .ref 644) rfl rfl (by decide) rfl (by decide) rfl rfl rfl rfl ?_
          refine jr.iload_n rfl rfl ?_
          refine jr.lald (i := k) (x := v4) rfl (by decide) rfl (by decide) (by omega) (by omega) ((ju_c _ _ (by decide)).trans e4) ?_
          refine jr.last (i := f) (x := v4) rfl (by decide) rfl (by decide) (by omega) (by omega) ?_
          refine jr.aload_n rfl rfl ?_
          refine jr.getf (i := 54) (v := .ref 642) rfl rfl (by decide) rfl (by decide) rfl rfl rfl rfl ?_
          refine jr.iload_n rfl rfl ?_
          refine jr.iload_n rfl rfl ?_
          refine jr.iast (i := f) (x := o) rfl (by decide) rfl (by decide) (by omega) (by omega) ?_
          refine jr.iload_n rfl rfl ?_
          exact jr.ireturn rfl rfl rfl (q _ _ (RI.u (RI.u (RI.u hI_M (a := 640) (i := f) (by rw [xri_row rfl rfl]; show (-1 : Int) ≤ _ ∧ _ ≤ (3 : Int); omega)) (a := 641) (i := f) (by rw [xri_row rfl rfl]; show (-9223372036854775808 : Int) ≤ _ ∧ _ ≤ (9223372036854775807 : Int); omega)) (a := 642) (i := f) (by rw [xri_row rfl rfl]; show (0 : Int) ≤ _ ∧ _ ≤ (70000 : Int); omega)) (RH.o (RH.o (RH.o hH_M (by decide) (by decide) (by decide)) (by decide) (by decide) (by decide)) (by decide) (by decide) (by decide)) (RF.o (RF.o (RF.o hS_M (by decide) (by decide)) (by decide) (by decide)) (by decide) (by decide)) (Kp.o (Kp.o (Kp.o ht_M rfl) rfl) rfl) (by omega) )
        · refine jr.bipush rfl (by decide) ?_
          exact jr.ireturn rfl rfl rfl (q _ _ hI_M hH_M hS_M ht_M (by omega) )
      · refine jr.iinc rfl rfl (by decide) rfl ?_
        refine jr.goto rfl rfl ?_
        refine jr.pick [0, 1, 2, 3] rfl rfl ?_
        exact ih (n - 1) (by omega) M (o + 1) k f hI_M hH_M hS_M ht_M (by omega) (by omega) (by omega) (by omega) (by omega) (by omega)
theorem r_change {A : Nat → Option (Nat × (Nat → Int32))} {Q : Option Value → jm → Prop} {T : jm} {M : jm} (hI_M : RI M) (hH_M : RH M) (hS_M : RF M) (ht_M : Kp T M) {f : Int} (h_f : (-2147483648) ≤ f ∧ f ≤ 2147483647) {k : Int} (h_k : (-2147483648) ≤ k ∧ k ≤ 2147483647) (q : ∀ (r : Int) (M' : jm), RI M' → RH M' → RF M' → Kp T M' → (-5) ≤ r ∧ r ≤ 65567 → Q (some (.int (Int32.ofInt r))) M') : jc A 3 321 [.ref (598), .int (Int32.ofInt (f)), .int (Int32.ofInt (k))] M Q := by
  have bq : (0 : Int) ≤ M 646 k ∧ M 646 k ≤ 32 := by have q := hI_M 646 k (by decide); rw [xri_row rfl rfl] at q; exact q
  refine jc_of (m := xm_321) rfl (Nat.le_of_ble_eq_true rfl) rfl ?_
  refine jr.aload_n rfl rfl ?_
  refine jr.iload_n rfl rfl ?_
  refine jr_v rfl rfl (Or.inl rfl) rfl rfl (by decide) rfl ⟨rfl, Nat.le_of_ble_eq_true rfl, Nat.le_of_ble_eq_true rfl⟩ rfl (jc.deep (c_isFlow hI_M (by omega) (fun l2 u2 t2 => ?_) (fun n2 => ?_)) (by decide))
  · refine jr.if_ne rfl rfl (by omega) (fun _ => ?_) (fun h => absurd (by decide) h)
    refine jr.iload_n rfl rfl ?_
    refine jr.i2l rfl (by omega) ?_
    refine jr.lconst (x := 0) rfl (by decide) ?_
    refine jr.ldc2 (x := 3) rfl rfl (by decide) ?_
    refine jr_s rfl rfl (Or.inl rfl) ⟨Nat.le_of_ble_eq_true rfl, Nat.le_of_ble_eq_true rfl⟩ rfl rfl (jc.deep (c_within (by omega) (by omega) (by omega) (fun l17 u17 => ?_) (fun n17 => ?_)) (by decide))
    · refine jr.if_ne rfl rfl (by omega) (fun _ => ?_) (fun h => absurd (by decide) h)
      refine jr.aload_n rfl rfl ?_
      refine jr.getf (i := 40) (v := .ref 628) rfl rfl (by decide) rfl (by decide) rfl rfl rfl rfl ?_
      refine jr.iload_n rfl rfl ?_
      obtain ⟨v1, e1⟩ : ∃ z, M 628 f = z := ⟨_, rfl⟩
      have b1 : 0 ≤ v1 ∧ v1 ≤ 1 := by rw [← e1]; exact (by have q := hI_M 628 f (by decide); rw [xri_row rfl rfl] at q; exact q)
      refine jr.zald (i := f) (x := v1) rfl (by decide) rfl (by decide) (by omega) (by omega) e1 ?_
      refine jr.if_ne rfl rfl (by omega) (fun h32 => ?_) (fun h32 => ?_)
      · refine jr.bipush rfl (by decide) ?_
        exact jr.ireturn rfl rfl rfl (q _ _ hI_M hH_M hS_M ht_M (by omega) )
      · refine jr.aload_n rfl rfl ?_
        refine jr.getf (i := 41) (v := .ref 629) rfl rfl (by decide) rfl (by decide) rfl rfl rfl rfl ?_
        refine jr.iload_n rfl rfl ?_
        obtain ⟨v2, e2⟩ : ∃ z, M 629 f = z := ⟨_, rfl⟩
        have b2 : 0 ≤ v2 ∧ v2 ≤ 255 := by rw [← e2]; exact (by have q := hI_M 629 f (by decide); rw [xri_row rfl rfl] at q; exact q)
        refine jr.iald (i := f) (x := v2) rfl (by decide) rfl (by decide) (by omega) (by omega) e2 ?_
        refine jr.iconst rfl ?_
        refine jr.icmp_eq rfl rfl (by omega) (by omega) (fun h42 => ?_) (fun h42 => ?_)
        · refine jr.bipush rfl (by decide) ?_
          exact jr.ireturn rfl rfl rfl (q _ _ hI_M hH_M hS_M ht_M (by omega) )
        · refine jr.aload_n rfl rfl ?_
          refine jr.getf (i := 52) (v := .ref 640) rfl rfl (by decide) rfl (by decide) rfl rfl rfl rfl ?_
          refine jr.iload_n rfl rfl ?_
          obtain ⟨v3, e3⟩ : ∃ z, M 640 f = z := ⟨_, rfl⟩
          have b3 : (-1) ≤ v3 ∧ v3 ≤ 3 := by rw [← e3]; exact (by have q := hI_M 640 f (by decide); rw [xri_row rfl rfl] at q; exact q)
          refine jr.iald (i := f) (x := v3) rfl (by decide) rfl (by decide) (by omega) (by omega) e3 ?_
          refine jr.iconst rfl ?_
          refine jr.icmp_ne rfl rfl (by omega) (by omega) (fun h52 => ?_) (fun h52 => ?_)
          · refine jr.bipush rfl (by decide) ?_
            exact jr.ireturn rfl rfl rfl (q _ _ hI_M hH_M hS_M ht_M (by omega) )
          · refine jr.aload_n rfl rfl ?_
            refine jr.getf (i := 55) (v := .ref 643) rfl rfl (by decide) rfl (by decide) rfl rfl rfl rfl ?_
            refine jr.iload_n rfl rfl ?_
            obtain ⟨v4, e4⟩ : ∃ z, M 643 k = z := ⟨_, rfl⟩
            have b4 : 0 ≤ v4 ∧ v4 ≤ 1 := by rw [← e4]; exact (by have q := hI_M 643 k (by decide); rw [xri_row rfl rfl] at q; exact q)
            refine jr.zald (i := k) (x := v4) rfl (by decide) rfl (by decide) (by omega) (by omega) e4 ?_
            refine jr.if_ne rfl rfl (by omega) (fun h61 => ?_) (fun h61 => ?_)
            · refine jr.aload_n rfl rfl ?_
              refine jr.getf (i := 57) (v := .ref 645) rfl rfl (by decide) rfl (by decide) rfl rfl rfl rfl ?_
              refine jr.iload_n rfl rfl ?_
              obtain ⟨v5, e5⟩ : ∃ z, M 645 k = z := ⟨_, rfl⟩
              have b5 : 0 ≤ v5 ∧ v5 ≤ 65535 := by rw [← e5]; exact (by have q := hI_M 645 k (by decide); rw [xri_row rfl rfl] at q; exact q)
              refine jr.iald (i := k) (x := v5) rfl (by decide) rfl (by decide) (by omega) (by omega) e5 ?_
              refine jr.istore_n rfl (by decide) rfl ?_
              refine jr.pick [0, 3, 2, 1] rfl rfl ?_
              exact r_change_L74 q 65600 M v5 k f hI_M hH_M hS_M ht_M (by omega) (by omega) (by omega) (by omega) (by omega) (by omega)
            · refine jr.bipush rfl (by decide) ?_
              exact jr.ireturn rfl rfl rfl (q _ _ hI_M hH_M hS_M ht_M (by omega) )
    · refine jr.if_ne rfl rfl (by omega) (fun h => absurd h (by decide)) (fun _ => ?_)
      refine jr.bipush rfl (by decide) ?_
      exact jr.ireturn rfl rfl rfl (q _ _ hI_M hH_M hS_M ht_M (by omega) )
  · refine jr.if_ne rfl rfl (by omega) (fun h => absurd h (by decide)) (fun _ => ?_)
    refine jr.bipush rfl (by decide) ?_
    exact jr.ireturn rfl rfl rfl (q _ _ hI_M hH_M hS_M ht_M (by omega) )
theorem r_sumOfTape_L5 {A : Nat → Option (Nat × (Nat → Int32))} {Q : Option Value → jm → Prop} {T : jm} {M : jm} (hI_M : RI M) (hH_M : RH M) (hS_M : RF M) (ht_M : Kp T M) (q : ∀ (r : Int), (-2147483648) ≤ r ∧ r ≤ 2147483647 → Q (some (.int (Int32.ofInt r))) M) : ∀ (n : Nat) (k : Int) (s : Int) (t : Int) (a : Int), 0 ≤ k ∧ k ≤ 1600 → (-9223372036854775808) ≤ s ∧ s ≤ 9223372036854775807 → 0 ≤ t ∧ t ≤ 1600 → 0 ≤ a ∧ a ≤ 1600 → (t - k) % 2 = 0 → 1600 - k ≤ n → jr A 1 xm_323 5 [(5, .int (Int32.ofInt (k))), (3, .long (Int64.ofInt (s))), (2, .int (Int32.ofInt (t))), (1, .int (Int32.ofInt (a))), (0, .ref (598))] [] M Q := by
  intro n
  induction n using Nat.strongRecOn with
  | ind n ih =>
    intro k s t a h_k h_s h_t h_a hy0 hm
    refine jr.iload rfl rfl ?_
    refine jr.iload_n rfl rfl ?_
    refine jr.icmp_ge rfl rfl (by omega) (by omega) (fun h8 => ?_) (fun h8 => ?_)
    · refine jr.lload_n rfl rfl ?_
      refine jr_s rfl rfl (Or.inl rfl) ⟨Nat.le_of_ble_eq_true rfl, Nat.le_of_ble_eq_true rfl⟩ rfl rfl (jc.deep (r_turned hI_M hH_M hS_M ht_M (by omega)  (fun r1 z1  => ?_)) (by decide))
      exact jr.ireturn rfl rfl rfl (q _ (by omega) )
    · refine jr.lload_n rfl rfl ?_
      refine jr.aload_n rfl rfl ?_
      refine jr.getf (i := 0) (v := .ref 599) rfl rfl (by decide) rfl (by decide) rfl rfl rfl rfl ?_
      refine jr.iload rfl rfl ?_
      obtain ⟨v2, e2⟩ : ∃ z, M 599 k = z := ⟨_, rfl⟩
      have b2 : 0 ≤ v2 ∧ v2 ≤ 255 := by rw [← e2]; exact (by have q := hI_M 599 k (by decide); rw [xri_row rfl rfl] at q; exact q)
      refine jr.iald (i := k) (x := v2) rfl (by decide) rfl (by decide) (by omega) (by omega) e2 ?_
      refine jr.bipush rfl (by decide) ?_
      refine jr.ishl rfl ?_
      have b3 : j_shl v2 8 = v2 * 256 := j_shl_ex 8 (by decide) (by omega) (by omega)
      generalize j_shl v2 8 = v3 at b3 ⊢
      refine jr.aload_n rfl rfl ?_
      refine jr.getf (i := 0) (v := .ref 599) rfl rfl (by decide) rfl (by decide) rfl rfl rfl rfl ?_
      refine jr.iload rfl rfl ?_
      refine jr.iconst rfl ?_
      refine jr.iadd rfl ?_
      obtain ⟨v4, e4⟩ : ∃ z, M 599 (k + 1) = z := ⟨_, rfl⟩
      have b4 : 0 ≤ v4 ∧ v4 ≤ 255 := by rw [← e4]; exact (by have q := hI_M 599 (k + 1) (by decide); rw [xri_row rfl rfl] at q; exact q)
      refine jr.iald (i := (k + 1)) (x := v4) rfl (by decide) rfl (by decide) (by omega) (by omega) e4 ?_
      refine jr.ior rfl ?_
      have b5 : 0 ≤ j_or v3 v4 ∧ j_or v3 v4 < 65536 := j_or_lt 16 (by decide) (by omega) (by omega)
      generalize j_or v3 v4 = v5 at b5 ⊢
      refine jr.i2l rfl (by omega) ?_
      refine jr.ladd rfl ?_
      refine jr.lw (jl_w (s + v5)) (jl_w_eq _) ?_
      have b6 : -9223372036854775808 ≤ jl_w (s + v5) ∧ jl_w (s + v5) ≤ 9223372036854775807 := jbl_any _
      generalize jl_w (s + v5) = v6 at b6 ⊢
      refine jr.lstore_n rfl (by decide) rfl ?_
      refine jr.iinc rfl rfl (by decide) rfl ?_
      refine jr.goto rfl rfl ?_
      refine jr.pick [0, 1, 2, 3, 4] rfl rfl ?_
      exact ih (n - 1) (by omega) (k + 2) v6 t a (by omega) (by omega) (by omega) (by omega) (by omega) (by omega)
theorem r_sumOfTape {A : Nat → Option (Nat × (Nat → Int32))} {Q : Option Value → jm → Prop} {T : jm} {M : jm} (hI_M : RI M) (hH_M : RH M) (hS_M : RF M) (ht_M : Kp T M) {a : Int} (h_a : 0 ≤ a ∧ a ≤ 1600) {t : Int} (h_t : 0 ≤ t ∧ t ≤ 1600) (p0 : (t - a) % 2 = 0) (q : ∀ (r : Int), (-2147483648) ≤ r ∧ r ≤ 2147483647 → Q (some (.int (Int32.ofInt r))) M) : jc A 2 323 [.ref (598), .int (Int32.ofInt (a)), .int (Int32.ofInt (t))] M Q := by
  refine jc_of (m := xm_323) rfl (Nat.le_of_ble_eq_true rfl) rfl ?_
  refine jr.lconst (x := 0) rfl (by decide) ?_
  refine jr.lstore_n rfl (by decide) rfl ?_
  refine jr.iload_n rfl rfl ?_
  refine jr.istore rfl (by decide) rfl ?_
  refine jr.pick [0, 1, 4, 3, 2] rfl rfl ?_
  exact r_sumOfTape_L5 hI_M hH_M hS_M ht_M q 1600 a 0 t a (by omega) (by omega) (by omega) (by omega) (by omega) (by omega)
theorem r_tapeTwo {A : Nat → Option (Nat × (Nat → Int32))} {Q : Option Value → jm → Prop} {T : jm} {M : jm} (hI_M : RI M) (hH_M : RH M) (hS_M : RF M) (ht_M : Kp T M) {i : Int} (h_i : 0 ≤ i ∧ i ≤ 1598) {w : Int} (h_w : (-2147483648) ≤ w ∧ w ≤ 2147483647) (q : ∀ (M' : jm), RI M' → RH M' → RF M' → Kp T M' → (∀ (a : Nat) (i : Int), a ≠ 599 → M' a i = M a i) → Q none M') : jc A 1 324 [.ref (598), .int (Int32.ofInt (i)), .int (Int32.ofInt (w))] M Q := by
  refine jc_of (m := xm_324) rfl (Nat.le_of_ble_eq_true rfl) rfl ?_
  refine jr.aload_n rfl rfl ?_
  refine jr.getf (i := 0) (v := .ref 599) rfl rfl (by decide) rfl (by decide) rfl rfl rfl rfl ?_
  refine jr.iload_n rfl rfl ?_
  refine jr.iload_n rfl rfl ?_
  refine jr.bipush rfl (by decide) ?_
  refine jr.ishr rfl ?_
  have b1 : j_shr w 8 = w / 256 := j_shr_ex 8 (by decide) (by omega) (by omega)
  generalize j_shr w 8 = v1 at b1 ⊢
  refine jr.sipush rfl (by decide) ?_
  refine jr.iand rfl ?_
  have b2 : 0 ≤ j_and v1 255 ∧ j_and v1 255 ≤ 255 := j_and_le (by decide)
  generalize j_and v1 255 = v2 at b2 ⊢
  refine jr.iast (i := i) (x := v2) rfl (by decide) rfl (by decide) (by omega) (by omega) ?_
  refine jr.aload_n rfl rfl ?_
  refine jr.getf (i := 0) (v := .ref 599) rfl rfl (by decide) rfl (by decide) rfl rfl rfl rfl ?_
  refine jr.iload_n rfl rfl ?_
  refine jr.iconst rfl ?_
  refine jr.iadd rfl ?_
  refine jr.iload_n rfl rfl ?_
  refine jr.sipush rfl (by decide) ?_
  refine jr.iand rfl ?_
  have b3 : 0 ≤ j_and w 255 ∧ j_and w 255 ≤ 255 := j_and_le (by decide)
  generalize j_and w 255 = v3 at b3 ⊢
  refine jr.iast (i := (i + 1)) (x := v3) rfl (by decide) rfl (by decide) (by omega) (by omega) ?_
  exact jr.vreturn rfl rfl (q _ (RI.u (RI.u hI_M (a := 599) (i := i) (by rw [xri_row rfl rfl]; show (0 : Int) ≤ _ ∧ _ ≤ (255 : Int); omega)) (a := 599) (i := (i + 1)) (by rw [xri_row rfl rfl]; show (0 : Int) ≤ _ ∧ _ ≤ (255 : Int); omega)) (RH.o (RH.o hH_M (by decide) (by decide) (by decide)) (by decide) (by decide) (by decide)) (RF.o (RF.o hS_M (by decide) (by decide)) (by decide) (by decide)) (Kp.o (Kp.o ht_M rfl) rfl) (fun a i f599 => ((ju_c _ _ f599).trans ((ju_c _ _ f599).trans rfl))))
theorem r_tapeFour {A : Nat → Option (Nat × (Nat → Int32))} {Q : Option Value → jm → Prop} {T : jm} {M : jm} (hI_M : RI M) (hH_M : RH M) (hS_M : RF M) (ht_M : Kp T M) {i : Int} (h_i : 0 ≤ i ∧ i ≤ 1596) {w : Int} (h_w : (-9223372036854775808) ≤ w ∧ w ≤ 9223372036854775807) (q : ∀ (M' : jm), RI M' → RH M' → RF M' → Kp T M' → (∀ (a : Nat) (i : Int), a ≠ 599 → M' a i = M a i) → Q none M') : jc A 2 325 [.ref (598), .int (Int32.ofInt (i)), .long (Int64.ofInt (w))] M Q := by
  refine jc_of (m := xm_325) rfl (Nat.le_of_ble_eq_true rfl) rfl ?_
  refine jr.aload_n rfl rfl ?_
  refine jr.iload_n rfl rfl ?_
  refine jr.lload_n rfl rfl ?_
  refine jr.bipush rfl (by decide) ?_
  refine jr.lshr rfl ?_
  have b1 : jl_shr w 16 = w / 65536 := jl_shr_ex 16 (by decide) (by omega) (by omega)
  generalize jl_shr w 16 = v1 at b1 ⊢
  refine jr.ldc2 (x := 65535) rfl rfl (by decide) ?_
  refine jr.land rfl ?_
  have b2 : 0 ≤ jl_and v1 65535 ∧ jl_and v1 65535 ≤ 65535 := jl_and_le (by decide)
  generalize jl_and v1 65535 = v2 at b2 ⊢
  refine jr.l2i rfl ?_
  refine jr_v rfl rfl (Or.inl rfl) rfl rfl (by decide) rfl ⟨rfl, Nat.le_of_ble_eq_true rfl, Nat.le_of_ble_eq_true rfl⟩ rfl (jc.deep (r_tapeTwo hI_M hH_M hS_M ht_M (by omega) (by omega)  (fun M3 hI_M3 hH_M3 hS_M3 ht_M3 w3_0 => ?_)) (by decide))
  refine jr.aload_n rfl rfl ?_
  refine jr.iload_n rfl rfl ?_
  refine jr.iconst rfl ?_
  refine jr.iadd rfl ?_
  refine jr.lload_n rfl rfl ?_
  refine jr.ldc2 (x := 65535) rfl rfl (by decide) ?_
  refine jr.land rfl ?_
  have b4 : 0 ≤ jl_and w 65535 ∧ jl_and w 65535 ≤ 65535 := jl_and_le (by decide)
  generalize jl_and w 65535 = v4 at b4 ⊢
  refine jr.l2i rfl ?_
  refine jr_v rfl rfl (Or.inl rfl) rfl rfl (by decide) rfl ⟨rfl, Nat.le_of_ble_eq_true rfl, Nat.le_of_ble_eq_true rfl⟩ rfl (jc.deep (r_tapeTwo hI_M3 hH_M3 hS_M3 ht_M3 (by omega) (by omega)  (fun M5 hI_M5 hH_M5 hS_M5 ht_M5 w5_0 => ?_)) (by decide))
  exact jr.vreturn rfl rfl (q _ hI_M5 hH_M5 hS_M5 ht_M5 (fun a i f599 => ((w5_0 a i f599).trans ((w3_0 a i f599).trans rfl))))
theorem r_takenTwo {A : Nat → Option (Nat × (Nat → Int32))} {Q : Option Value → jm → Prop} {T : jm} {M : jm} (hI_M : RI M) (hH_M : RH M) (hS_M : RF M) (ht_M : Kp T M) {i : Int} (h_i : 0 ≤ i ∧ i ≤ 1598) (q : ∀ (r : Int), 0 ≤ r ∧ r ≤ 65535 → Q (some (.int (Int32.ofInt r))) M) : jc A 1 327 [.ref (598), .int (Int32.ofInt (i))] M Q := by
  refine jc_of (m := xm_327) rfl (Nat.le_of_ble_eq_true rfl) rfl ?_
  refine jr.aload_n rfl rfl ?_
  refine jr.getf (i := 0) (v := .ref 599) rfl rfl (by decide) rfl (by decide) rfl rfl rfl rfl ?_
  refine jr.iload_n rfl rfl ?_
  obtain ⟨v1, e1⟩ : ∃ z, M 599 i = z := ⟨_, rfl⟩
  have b1 : 0 ≤ v1 ∧ v1 ≤ 255 := by rw [← e1]; exact (by have q := hI_M 599 i (by decide); rw [xri_row rfl rfl] at q; exact q)
  refine jr.iald (i := i) (x := v1) rfl (by decide) rfl (by decide) (by omega) (by omega) e1 ?_
  refine jr.bipush rfl (by decide) ?_
  refine jr.ishl rfl ?_
  have b2 : j_shl v1 8 = v1 * 256 := j_shl_ex 8 (by decide) (by omega) (by omega)
  generalize j_shl v1 8 = v2 at b2 ⊢
  refine jr.aload_n rfl rfl ?_
  refine jr.getf (i := 0) (v := .ref 599) rfl rfl (by decide) rfl (by decide) rfl rfl rfl rfl ?_
  refine jr.iload_n rfl rfl ?_
  refine jr.iconst rfl ?_
  refine jr.iadd rfl ?_
  obtain ⟨v3, e3⟩ : ∃ z, M 599 (i + 1) = z := ⟨_, rfl⟩
  have b3 : 0 ≤ v3 ∧ v3 ≤ 255 := by rw [← e3]; exact (by have q := hI_M 599 (i + 1) (by decide); rw [xri_row rfl rfl] at q; exact q)
  refine jr.iald (i := (i + 1)) (x := v3) rfl (by decide) rfl (by decide) (by omega) (by omega) e3 ?_
  refine jr.ior rfl ?_
  have b4 : 0 ≤ j_or v2 v3 ∧ j_or v2 v3 < 65536 := j_or_lt 16 (by decide) (by omega) (by omega)
  generalize j_or v2 v3 = v4 at b4 ⊢
  exact jr.ireturn rfl rfl rfl (q _ (by omega) )
theorem r_takenFour {A : Nat → Option (Nat × (Nat → Int32))} {Q : Option Value → jm → Prop} {T : jm} {M : jm} (hI_M : RI M) (hH_M : RH M) (hS_M : RF M) (ht_M : Kp T M) {i : Int} (h_i : 0 ≤ i ∧ i ≤ 1596) (q : ∀ (r : Int), (-9223372036854775808) ≤ r ∧ r ≤ 9223372036854775807 → Q (some (.long (Int64.ofInt r))) M) : jc A 2 328 [.ref (598), .int (Int32.ofInt (i))] M Q := by
  refine jc_of (m := xm_328) rfl (Nat.le_of_ble_eq_true rfl) rfl ?_
  refine jr.aload_n rfl rfl ?_
  refine jr.iload_n rfl rfl ?_
  refine jr_v rfl rfl (Or.inl rfl) rfl rfl (by decide) rfl ⟨rfl, Nat.le_of_ble_eq_true rfl, Nat.le_of_ble_eq_true rfl⟩ rfl (jc.deep (r_takenTwo hI_M hH_M hS_M ht_M (by omega)  (fun r1 z1  => ?_)) (by decide))
  refine jr.i2l rfl (by omega) ?_
  refine jr.bipush rfl (by decide) ?_
  refine jr.lshl rfl ?_
  have b2 : -9223372036854775808 ≤ jl_shl r1 16 ∧ jl_shl r1 16 ≤ 9223372036854775807 := jbl_any _
  generalize jl_shl r1 16 = v2 at b2 ⊢
  refine jr.aload_n rfl rfl ?_
  refine jr.iload_n rfl rfl ?_
  refine jr.iconst rfl ?_
  refine jr.iadd rfl ?_
  refine jr_v rfl rfl (Or.inl rfl) rfl rfl (by decide) rfl ⟨rfl, Nat.le_of_ble_eq_true rfl, Nat.le_of_ble_eq_true rfl⟩ rfl (jc.deep (r_takenTwo hI_M hH_M hS_M ht_M (by omega)  (fun r3 z3  => ?_)) (by decide))
  refine jr.i2l rfl (by omega) ?_
  refine jr.lor rfl ?_
  have b4 : -9223372036854775808 ≤ jl_or v2 r3 ∧ jl_or v2 r3 ≤ 9223372036854775807 := jbl_any _
  generalize jl_or v2 r3 = v4 at b4 ⊢
  exact jr.lreturn rfl rfl (q _ (by omega) )
theorem r_takenEight {A : Nat → Option (Nat × (Nat → Int32))} {Q : Option Value → jm → Prop} {T : jm} {M : jm} (hI_M : RI M) (hH_M : RH M) (hS_M : RF M) (ht_M : Kp T M) {i : Int} (h_i : 0 ≤ i ∧ i ≤ 1592) (q : ∀ (r : Int), (-9223372036854775808) ≤ r ∧ r ≤ 9223372036854775807 → Q (some (.long (Int64.ofInt r))) M) : jc A 3 329 [.ref (598), .int (Int32.ofInt (i))] M Q := by
  refine jc_of (m := xm_329) rfl (Nat.le_of_ble_eq_true rfl) rfl ?_
  refine jr.aload_n rfl rfl ?_
  refine jr.iload_n rfl rfl ?_
  refine jr_v rfl rfl (Or.inl rfl) rfl rfl (by decide) rfl ⟨rfl, Nat.le_of_ble_eq_true rfl, Nat.le_of_ble_eq_true rfl⟩ rfl (jc.deep (r_takenFour hI_M hH_M hS_M ht_M (by omega)  (fun r1 z1  => ?_)) (by decide))
  refine jr.bipush rfl (by decide) ?_
  refine jr.lshl rfl ?_
  have b2 : -9223372036854775808 ≤ jl_shl r1 32 ∧ jl_shl r1 32 ≤ 9223372036854775807 := jbl_any _
  generalize jl_shl r1 32 = v2 at b2 ⊢
  refine jr.aload_n rfl rfl ?_
  refine jr.iload_n rfl rfl ?_
  refine jr.iconst rfl ?_
  refine jr.iadd rfl ?_
  refine jr_v rfl rfl (Or.inl rfl) rfl rfl (by decide) rfl ⟨rfl, Nat.le_of_ble_eq_true rfl, Nat.le_of_ble_eq_true rfl⟩ rfl (jc.deep (r_takenFour hI_M hH_M hS_M ht_M (by omega)  (fun r3 z3  => ?_)) (by decide))
  refine jr.lor rfl ?_
  have b4 : -9223372036854775808 ≤ jl_or v2 r3 ∧ jl_or v2 r3 ≤ 9223372036854775807 := jbl_any _
  generalize jl_or v2 r3 = v4 at b4 ⊢
  exact jr.lreturn rfl rfl (q _ (by omega) )
