section
theorem r_feed_x {A : Nat → Option (Nat × (Nat → Int32))} {Q : Option Value → jm → Prop} {M : jm} (hI_M : RI M) (hH_M : RH M) (hS_M : RF M) {a : Int} (h_a : (-2147483648) ≤ a ∧ a ≤ 2147483647) {b : Int} (h_b : (-2147483648) ≤ b ∧ b ≤ 2147483647) {c : Int} (h_c : (-2147483648) ≤ c ∧ c ≤ 2147483647) {d : Int} (h_d : (-2147483648) ≤ d ∧ d ≤ 2147483647) {e : Int} (h_e : (-2147483648) ≤ e ∧ e ≤ 2147483647) (q : ∀ (r : Int) (M' : jm), RI M' → RH M' → RF M' → (-5) ≤ r ∧ r ≤ 1600 → ((M 598 1 + 20 ≤ 1600 ∧ r = M 598 1 + 20 ∧ M' 599 = t4 (t4 (t4 (t4 (t4 (M 599) (M 598 1) a) (M 598 1 + 4) b) ((M 598 1 + 4) + 4) c) (((M 598 1 + 4) + 4) + 4) d) ((((M 598 1 + 4) + 4) + 4) + 4) e ∧ M' 598 1 = M 598 1 + 20) ∨ (1600 < M 598 1 + 20 ∧ r = -5 ∧ M' 599 = M 599 ∧ M' 598 1 = M 598 1)) → (∀ (a : Nat) (i : Int), a ≠ 598 → a ≠ 599 → M' a i = M a i) → (∀ (i : Int), i ≠ 1 → M' 598 i = M 598 i) → Q (some (.int (Int32.ofInt r))) M') : jc A 2 244 [.ref (598), .int (Int32.ofInt (a)), .int (Int32.ofInt (b)), .int (Int32.ofInt (c)), .int (Int32.ofInt (d)), .int (Int32.ofInt (e))] M Q := by
  refine jc_of (m := xm_244) rfl (Nat.le_of_ble_eq_true rfl) rfl ?_
  refine jr.aload_n rfl rfl ?_
  obtain ⟨v1, e1⟩ : ∃ z, M 598 1 = z := ⟨_, rfl⟩
  have b1 : 0 ≤ v1 ∧ v1 ≤ 1600 := by rw [← e1]; exact hI_M 598 1 (by decide)
  refine jr.getf (i := 1) (x := v1) (v := .int (Int32.ofInt (v1))) rfl rfl (by decide) rfl (by decide) rfl rfl e1 rfl ?_
  refine jr.bipush rfl (by decide) ?_
  refine jr.iadd rfl ?_
  refine jr.sipush rfl (by decide) ?_
  refine jr.icmp_le rfl rfl (by omega) (by omega) (fun h10 => ?_) (fun h10 => ?_)
  · refine jr.aload_n rfl rfl ?_
    refine jr.iload_n rfl rfl ?_
    refine jr_v rfl rfl (Or.inl rfl) rfl rfl (by decide) rfl ⟨rfl, Nat.le_of_ble_eq_true rfl, Nat.le_of_ble_eq_true rfl⟩ rfl (jc.deep (r_putWord_x hI_M hH_M hS_M  (by omega) (by rw [e1]; omega) (fun M2 hI_M2 hH_M2 hS_M2  w2_0 w2_1 w2_2 w2_3 => ?_)) (by decide))
    refine jr.aload_n rfl rfl ?_
    refine jr.iload_n rfl rfl ?_
    obtain ⟨v4, e4⟩ : ∃ z, M2 598 1 = z := ⟨_, rfl⟩
    have b4 : 0 ≤ v4 ∧ v4 ≤ 1600 := by rw [← e4]; exact hI_M2 598 1 (by decide)
    refine jr_v rfl rfl (Or.inl rfl) rfl rfl (by decide) rfl ⟨rfl, Nat.le_of_ble_eq_true rfl, Nat.le_of_ble_eq_true rfl⟩ rfl (jc.deep (r_putWord_x hI_M2 hH_M2 hS_M2  (by omega) (by rw [e4]; omega) (fun M3 hI_M3 hH_M3 hS_M3  w3_0 w3_1 w3_2 w3_3 => ?_)) (by decide))
    refine jr.aload_n rfl rfl ?_
    refine jr.iload_n rfl rfl ?_
    obtain ⟨v6, e6⟩ : ∃ z, M3 598 1 = z := ⟨_, rfl⟩
    have b6 : 0 ≤ v6 ∧ v6 ≤ 1600 := by rw [← e6]; exact hI_M3 598 1 (by decide)
    refine jr_v rfl rfl (Or.inl rfl) rfl rfl (by decide) rfl ⟨rfl, Nat.le_of_ble_eq_true rfl, Nat.le_of_ble_eq_true rfl⟩ rfl (jc.deep (r_putWord_x hI_M3 hH_M3 hS_M3  (by omega) (by rw [e6]; omega) (fun M5 hI_M5 hH_M5 hS_M5  w5_0 w5_1 w5_2 w5_3 => ?_)) (by decide))
    refine jr.aload_n rfl rfl ?_
    refine jr.iload rfl rfl ?_
    obtain ⟨v8, e8⟩ : ∃ z, M5 598 1 = z := ⟨_, rfl⟩
    have b8 : 0 ≤ v8 ∧ v8 ≤ 1600 := by rw [← e8]; exact hI_M5 598 1 (by decide)
    refine jr_v rfl rfl (Or.inl rfl) rfl rfl (by decide) rfl ⟨rfl, Nat.le_of_ble_eq_true rfl, Nat.le_of_ble_eq_true rfl⟩ rfl (jc.deep (r_putWord_x hI_M5 hH_M5 hS_M5  (by omega) (by rw [e8]; omega) (fun M7 hI_M7 hH_M7 hS_M7  w7_0 w7_1 w7_2 w7_3 => ?_)) (by decide))
    refine jr.aload_n rfl rfl ?_
    refine jr.iload rfl rfl ?_
    obtain ⟨v10, e10⟩ : ∃ z, M7 598 1 = z := ⟨_, rfl⟩
    have b10 : 0 ≤ v10 ∧ v10 ≤ 1600 := by rw [← e10]; exact hI_M7 598 1 (by decide)
    refine jr_v rfl rfl (Or.inl rfl) rfl rfl (by decide) rfl ⟨rfl, Nat.le_of_ble_eq_true rfl, Nat.le_of_ble_eq_true rfl⟩ rfl (jc.deep (r_putWord_x hI_M7 hH_M7 hS_M7  (by omega) (by rw [e10]; omega) (fun M9 hI_M9 hH_M9 hS_M9  w9_0 w9_1 w9_2 w9_3 => ?_)) (by decide))
    refine jr.aload_n rfl rfl ?_
    obtain ⟨v11, e11⟩ : ∃ z, M9 598 1 = z := ⟨_, rfl⟩
    have b11 : 0 ≤ v11 ∧ v11 ≤ 1600 := by rw [← e11]; exact hI_M9 598 1 (by decide)
    refine jr.getf (i := 1) (x := v11) (v := .int (Int32.ofInt (v11))) rfl rfl (by decide) rfl (by decide) rfl rfl e11 rfl ?_
    exact jr.ireturn rfl rfl rfl (q _ _ hI_M9 hH_M9 hS_M9  (by omega) (Or.inl ⟨by omega, by omega, by rw [w9_0, w7_0, w5_0, w3_0, w2_0, w7_1, w5_1, w3_1, w2_1], by omega⟩) (fun a i f598 f599 => ((w9_2 a i f598 f599).trans ((w7_2 a i f598 f599).trans ((w5_2 a i f598 f599).trans ((w3_2 a i f598 f599).trans ((w2_2 a i f598 f599).trans rfl)))))) (fun i g1 => ((w9_3 i g1).trans ((w7_3 i g1).trans ((w5_3 i g1).trans ((w3_3 i g1).trans ((w2_3 i g1).trans rfl)))))))
  · refine jr.bipush rfl (by decide) ?_
    exact jr.ireturn rfl rfl rfl (q _ _ hI_M hH_M hS_M  (by omega) (Or.inr ⟨by omega, by omega, rfl, rfl⟩) (fun a i f598 f599 => rfl) (fun i g1 => rfl))
theorem r_end_x {A : Nat → Option (Nat × (Nat → Int32))} {Q : Option Value → jm → Prop} {M : jm} (hI_M : RI M) (hH_M : RH M) (hS_M : RF M) {x : Int} (h_x : (-2147483648) ≤ x ∧ x ≤ 2147483647) (q : ∀ (r : Int) (M' : jm), RI M' → RH M' → RF M' → (-3) ≤ r ∧ r ≤ 1600 → (((0 ≤ x ∧ x ≤ M 598 1) ∧ r = x ∧ M' 598 1 = x) ∨ ((x < 0 ∨ M 598 1 < x) ∧ r = -3 ∧ M' 598 1 = M 598 1)) → (∀ (a : Nat) (i : Int), a ≠ 598 → M' a i = M a i) → (∀ (i : Int), i ≠ 1 → M' 598 i = M 598 i) → Q (some (.int (Int32.ofInt r))) M') : jc A 2 245 [.ref (598), .int (Int32.ofInt (x))] M Q := by
  refine jc_of (m := xm_245) rfl (Nat.le_of_ble_eq_true rfl) rfl ?_
  refine jr.iload_n rfl rfl ?_
  refine jr.i2l rfl (by omega) ?_
  refine jr.lconst (x := 0) rfl (by decide) ?_
  refine jr.aload_n rfl rfl ?_
  obtain ⟨v1, e1⟩ : ∃ z, M 598 1 = z := ⟨_, rfl⟩
  have b1 : 0 ≤ v1 ∧ v1 ≤ 1600 := by rw [← e1]; exact hI_M 598 1 (by decide)
  refine jr.getf (i := 1) (x := v1) (v := .int (Int32.ofInt (v1))) rfl rfl (by decide) rfl (by decide) rfl rfl e1 rfl ?_
  refine jr.i2l rfl (by omega) ?_
  refine jr_s rfl rfl (Or.inl rfl) ⟨Nat.le_of_ble_eq_true rfl, Nat.le_of_ble_eq_true rfl⟩ rfl rfl (jc.deep (c_within (by omega) (by omega) (by omega) (fun l8 u8 => ?_) (fun n8 => ?_)) (by decide))
  · refine jr.if_ne rfl rfl (by omega) (fun _ => ?_) (fun h => absurd (by decide) h)
    refine jr.aload_n rfl rfl ?_
    refine jr.iload_n rfl rfl ?_
    refine jr.putf (i := 1) (x := x) rfl rfl (by decide) rfl (by decide) rfl rfl rfl rfl rfl ?_
    refine jr.iload_n rfl rfl ?_
    exact jr.ireturn rfl rfl rfl (q _ _ (RI.u hI_M (a := 598) (i := 1) (show (0 : Int) ≤ _ ∧ _ ≤ (1600 : Int) from by omega)) (RH.o hH_M (by decide) (by decide) (by decide)) (RF.o hS_M (by decide) (by decide))  (by omega) (by have hq : (ju M 598 1 x) 598 1 = x := (ju_same _ _ _ _); omega) (fun a i f598 => ((ju_c _ _ f598).trans rfl)) (fun i g1 => ((ju_i _ _ g1).trans rfl)))
  · refine jr.if_ne rfl rfl (by omega) (fun h => absurd h (by decide)) (fun _ => ?_)
    refine jr.bipush rfl (by decide) ?_
    exact jr.ireturn rfl rfl rfl (q _ _ hI_M hH_M hS_M  (by omega) (by have hq : M 598 1 = v1 := e1; omega) (fun a i f598 => rfl) (fun i g1 => rfl))
theorem r_tape_x {A : Nat → Option (Nat × (Nat → Int32))} {Q : Option Value → jm → Prop} {M : jm} (hI_M : RI M) (hH_M : RH M) (hS_M : RF M) {i : Int} (h_i : (-2147483648) ≤ i ∧ i ≤ 2147483647) (q : ∀ (r : Int) (M' : jm), RI M' → RH M' → RF M' → (-1) ≤ r ∧ r ≤ 255 → (((0 ≤ i ∧ i < M 598 1) ∧ r = M 599 i) ∨ ((i < 0 ∨ M 598 1 ≤ i) ∧ r = -1)) → M' = M → (∀ (a : Nat) (i : Int), a ≠ 598 → M' a i = M a i) → (∀ (i : Int), i ≠ 1 → M' 598 i = M 598 i) → Q (some (.int (Int32.ofInt r))) M') : jc A 2 334 [.ref (598), .int (Int32.ofInt (i))] M Q := by
  refine jc_of (m := xm_334) rfl (Nat.le_of_ble_eq_true rfl) rfl ?_
  refine jr.iload_n rfl rfl ?_
  refine jr.i2l rfl (by omega) ?_
  refine jr.lconst (x := 0) rfl (by decide) ?_
  refine jr.aload_n rfl rfl ?_
  obtain ⟨v1, e1⟩ : ∃ z, M 598 1 = z := ⟨_, rfl⟩
  have b1 : 0 ≤ v1 ∧ v1 ≤ 1600 := by rw [← e1]; exact hI_M 598 1 (by decide)
  refine jr.getf (i := 1) (x := v1) (v := .int (Int32.ofInt (v1))) rfl rfl (by decide) rfl (by decide) rfl rfl e1 rfl ?_
  refine jr.iconst rfl ?_
  refine jr.isub rfl ?_
  refine jr.i2l rfl (by omega) ?_
  refine jr_s rfl rfl (Or.inl rfl) ⟨Nat.le_of_ble_eq_true rfl, Nat.le_of_ble_eq_true rfl⟩ rfl rfl (jc.deep (c_within (by omega) (by omega) (by omega) (fun l10 u10 => ?_) (fun n10 => ?_)) (by decide))
  · refine jr.if_eq rfl rfl (by omega) (fun h => absurd h (by decide)) (fun _ => ?_)
    refine jr.aload_n rfl rfl ?_
    refine jr.getf (i := 0) (v := .ref 599) rfl rfl (by decide) rfl (by decide) rfl rfl rfl rfl ?_
    refine jr.iload_n rfl rfl ?_
    obtain ⟨v2, e2⟩ : ∃ z, M 599 i = z := ⟨_, rfl⟩
    have b2 : 0 ≤ v2 ∧ v2 ≤ 255 := by rw [← e2]; exact (by have q := hI_M 599 i (by decide); rw [xri_row rfl rfl] at q; exact q)
    refine jr.iald (i := i) (x := v2) rfl (by decide) rfl (by decide) (by omega) (by omega) e2 ?_
    refine jr.goto rfl rfl ?_
    exact jr.ireturn rfl rfl rfl (q _ _ hI_M hH_M hS_M  (by omega) (by omega) rfl (fun a i f598 => rfl) (fun i g1 => rfl))
  · refine jr.if_eq rfl rfl (by omega) (fun _ => ?_) (fun h => absurd (by decide) h)
    refine jr.iconst rfl ?_
    exact jr.ireturn rfl rfl rfl (q _ _ hI_M hH_M hS_M  (by omega) (by omega) rfl (fun a i f598 => rfl) (fun i g1 => rfl))
end
