/-! ===== bucket, both sides, with what it answers ===== -/
theorem r_bucket2 {A : Nat → Option (Nat × (Nat → Int32))} {Q : Option Value → jm → Prop} {T : jm} {M : jm} (hI_M : RI M) (hH_M : RH M) (hS_M : RF M) (ht_M : Kp T M) {k : Int} (h_k : (-2147483648) ≤ k ∧ k ≤ 2147483647) {c : Int} (h_c : (-2147483648) ≤ c ∧ c ≤ 2147483647) {e : Int} (h_e : (-2147483648) ≤ e ∧ e ≤ 2147483647) (q : ∀ (r : Int) (M' : jm), RI M' → RH M' → RF M' → Kp T M' → (-3) ≤ r ∧ r ≤ 1000 → (((0 ≤ k ∧ k ≤ 3) ∧ (0 ≤ c ∧ c ≤ 1000) ∧ (1 ≤ e ∧ e ≤ 1000) ∧ r = c) ∨ (((k < 0 ∨ 3 < k) ∨ (c < 0 ∨ 1000 < c) ∨ (e < 1 ∨ 1000 < e)) ∧ r = -3)) → Q (some (.int (Int32.ofInt r))) M') : jc A 2 299 [.ref (598), .int (Int32.ofInt (k)), .int (Int32.ofInt (c)), .int (Int32.ofInt (e))] M Q := by
  refine jc_of (m := xm_299) rfl (Nat.le_of_ble_eq_true rfl) rfl ?_
  refine jr.iload_n rfl rfl ?_
  refine jr.i2l rfl (by omega) ?_
  refine jr.lconst (x := 0) rfl (by decide) ?_
  refine jr.ldc2 (x := 3) rfl rfl (by decide) ?_
  refine jr_s rfl rfl (Or.inl rfl) ⟨Nat.le_of_ble_eq_true rfl, Nat.le_of_ble_eq_true rfl⟩ rfl rfl (jc.deep (c_within (by omega) (by omega) (by omega) (fun l6 u6 => ?_) (fun n6 => ?_)) (by decide))
  · refine jr.if_eq rfl rfl (by omega) (fun h => absurd h (by decide)) (fun _ => ?_)
    refine jr.iload_n rfl rfl ?_
    refine jr.i2l rfl (by omega) ?_
    refine jr.lconst (x := 0) rfl (by decide) ?_
    refine jr.ldc2 (x := 1000) rfl rfl (by decide) ?_
    refine jr_s rfl rfl (Or.inl rfl) ⟨Nat.le_of_ble_eq_true rfl, Nat.le_of_ble_eq_true rfl⟩ rfl rfl (jc.deep (c_within (by omega) (by omega) (by omega) (fun l18 u18 => ?_) (fun n18 => ?_)) (by decide))
    · refine jr.if_eq rfl rfl (by omega) (fun h => absurd h (by decide)) (fun _ => ?_)
      refine jr.iload_n rfl rfl ?_
      refine jr.i2l rfl (by omega) ?_
      refine jr.lconst (x := 1) rfl (by decide) ?_
      refine jr.ldc2 (x := 1000) rfl rfl (by decide) ?_
      refine jr_s rfl rfl (Or.inl rfl) ⟨Nat.le_of_ble_eq_true rfl, Nat.le_of_ble_eq_true rfl⟩ rfl rfl (jc.deep (c_within (by omega) (by omega) (by omega) (fun l30 u30 => ?_) (fun n30 => ?_)) (by decide))
      · refine jr.if_ne rfl rfl (by omega) (fun _ => ?_) (fun h => absurd (by decide) h)
        refine jr.aload_n rfl rfl ?_
        refine jr.getf (i := 35) (v := .ref 623) rfl rfl (by decide) rfl (by decide) rfl rfl rfl rfl ?_
        refine jr.iload_n rfl rfl ?_
        refine jr.iload_n rfl rfl ?_
        refine jr.iast (i := k) (x := c) rfl (by decide) rfl (by decide) (by omega) (by omega) ?_
        refine jr.aload_n rfl rfl ?_
        refine jr.getf (i := 36) (v := .ref 624) rfl rfl (by decide) rfl (by decide) rfl rfl rfl rfl ?_
        refine jr.iload_n rfl rfl ?_
        refine jr.iload_n rfl rfl ?_
        refine jr.iast (i := k) (x := c) rfl (by decide) rfl (by decide) (by omega) (by omega) ?_
        refine jr.aload_n rfl rfl ?_
        refine jr.getf (i := 37) (v := .ref 625) rfl rfl (by decide) rfl (by decide) rfl rfl rfl rfl ?_
        refine jr.iload_n rfl rfl ?_
        refine jr.iload_n rfl rfl ?_
        refine jr.iast (i := k) (x := e) rfl (by decide) rfl (by decide) (by omega) (by omega) ?_
        refine jr.aload_n rfl rfl ?_
        refine jr.getf (i := 38) (v := .ref 626) rfl rfl (by decide) rfl (by decide) rfl rfl rfl rfl ?_
        refine jr.iload_n rfl rfl ?_
        refine jr.aload_n rfl rfl ?_
        obtain ⟨v1, e1⟩ : ∃ z, M 598 2 = z := ⟨_, rfl⟩
        have b1 : 0 ≤ v1 ∧ v1 ≤ 2000000 := by rw [← e1]; exact hI_M 598 2 (by decide)
        refine jr.getf (i := 2) (x := v1) (v := .int (Int32.ofInt (v1))) rfl rfl (by decide) rfl (by decide) rfl rfl ((ju_c _ _ (by decide)).trans ((ju_c _ _ (by decide)).trans ((ju_c _ _ (by decide)).trans e1))) rfl ?_
        refine jr.iast (i := k) (x := v1) rfl (by decide) rfl (by decide) (by omega) (by omega) ?_
        refine jr.iload_n rfl rfl ?_
        exact jr.ireturn rfl rfl rfl (q _ _ (RI.u (RI.u (RI.u (RI.u hI_M (a := 623) (i := k) (by rw [xri_row rfl rfl]; show (0 : Int) ≤ _ ∧ _ ≤ (1000 : Int); omega)) (a := 624) (i := k) (by rw [xri_row rfl rfl]; show (0 : Int) ≤ _ ∧ _ ≤ (1000 : Int); omega)) (a := 625) (i := k) (by rw [xri_row rfl rfl]; show (0 : Int) ≤ _ ∧ _ ≤ (1000 : Int); omega)) (a := 626) (i := k) (by rw [xri_row rfl rfl]; show (0 : Int) ≤ _ ∧ _ ≤ (2000000 : Int); omega)) (RH.o (RH.o (RH.o (RH.o hH_M (by decide) (by decide) (by decide)) (by decide) (by decide) (by decide)) (by decide) (by decide) (by decide)) (by decide) (by decide) (by decide)) (RF.o (RF.o (RF.o (RF.o hS_M (by decide) (by decide)) (by decide) (by decide)) (by decide) (by decide)) (by decide) (by decide)) (Kp.o (Kp.o (Kp.o (Kp.o ht_M rfl) rfl) rfl) rfl) (by omega) (by omega))
      · refine jr.if_ne rfl rfl (by omega) (fun h => absurd h (by decide)) (fun _ => ?_)
        refine jr.bipush rfl (by decide) ?_
        exact jr.ireturn rfl rfl rfl (q _ _ hI_M hH_M hS_M ht_M (by omega) (by omega))
    · refine jr.if_eq rfl rfl (by omega) (fun _ => ?_) (fun h => absurd (by decide) h)
      refine jr.bipush rfl (by decide) ?_
      exact jr.ireturn rfl rfl rfl (q _ _ hI_M hH_M hS_M ht_M (by omega) (by omega))
  · refine jr.if_eq rfl rfl (by omega) (fun _ => ?_) (fun h => absurd (by decide) h)
    refine jr.bipush rfl (by decide) ?_
    exact jr.ireturn rfl rfl rfl (q _ _ hI_M hH_M hS_M ht_M (by omega) (by omega))
def W_c_PacketWall_bucket_2 : List (Nat × Nat) := [(28, 1000), (36, 1000), (37, 1000), (38, 1000)]
theorem c_PacketWall_bucket_2 {A : Nat → Option (Nat × (Nat → Int32))} {Q : Option Value → jm → Prop} {T : jm} {M : jm} (hC_M : CI M) (ht_M : FR W_c_PacketWall_bucket_2 T M) {x : Int} (h_x : (-2147483648) ≤ x ∧ x ≤ 2147483647) {y : Int} (h_y : (-2147483648) ≤ y ∧ y ≤ 2147483647) {z : Int} (h_z : (-2147483648) ≤ z ∧ z ≤ 2147483647) (q : ∀ (r : Int) (M' : jm), CI M' → FR W_c_PacketWall_bucket_2 T M' → (-2147483648) ≤ r ∧ r ≤ 2147483647 → ((((0 ≤ x ∧ x ≤ 3) ∧ (0 ≤ y ∧ y ≤ 1000) ∧ (1 ≤ z ∧ z ≤ 1000) ∧ r = y) ∨ (((x < 0 ∨ 3 < x) ∨ (y < 0 ∨ 1000 < y) ∨ (z < 1 ∨ 1000 < z)) ∧ r = -3))) → Q (some (.int (Int32.ofInt r))) M') : jc A 1 33 [.ref (0), .int (Int32.ofInt (x)), .int (Int32.ofInt (y)), .int (Int32.ofInt (z))] M Q := by
  refine jc_of (m := xm_33) rfl (Nat.le_of_ble_eq_true rfl) rfl ?_
  refine jr.iload_n rfl rfl ?_
  refine jr.if_lt rfl rfl (by omega) (fun h1 => ?_) (fun h1 => ?_)
  · refine jr.bipush rfl (by decide) ?_
    exact jr.ireturn rfl rfl rfl (q _ _ hC_M ht_M (by omega) (by omega))
  · refine jr.iload_n rfl rfl ?_
    refine jr.iconst rfl ?_
    refine jr.icmp_ge rfl rfl (by omega) (by omega) (fun h6 => ?_) (fun h6 => ?_)
    · refine jr.bipush rfl (by decide) ?_
      exact jr.ireturn rfl rfl rfl (q _ _ hC_M ht_M (by omega) (by omega))
    · refine jr.iload_n rfl rfl ?_
      refine jr.if_lt rfl rfl (by omega) (fun h10 => ?_) (fun h10 => ?_)
      · refine jr.bipush rfl (by decide) ?_
        exact jr.ireturn rfl rfl rfl (q _ _ hC_M ht_M (by omega) (by omega))
      · refine jr.iload_n rfl rfl ?_
        refine jr.sipush rfl (by decide) ?_
        refine jr.icmp_gt rfl rfl (by omega) (by omega) (fun h17 => ?_) (fun h17 => ?_)
        · refine jr.bipush rfl (by decide) ?_
          exact jr.ireturn rfl rfl rfl (q _ _ hC_M ht_M (by omega) (by omega))
        · refine jr.iload_n rfl rfl ?_
          refine jr.iconst rfl ?_
          refine jr.icmp_lt rfl rfl (by omega) (by omega) (fun h22 => ?_) (fun h22 => ?_)
          · refine jr.bipush rfl (by decide) ?_
            exact jr.ireturn rfl rfl rfl (q _ _ hC_M ht_M (by omega) (by omega))
          · refine jr.iload_n rfl rfl ?_
            refine jr.sipush rfl (by decide) ?_
            refine jr.icmp_le rfl rfl (by omega) (by omega) (fun h29 => ?_) (fun h29 => ?_)
            · refine jr.aload_n rfl rfl ?_
              refine jr.getf (i := 12) (v := .ref 523) rfl rfl (by decide) rfl (by decide) rfl rfl rfl rfl ?_
              refine jr.iload_n rfl rfl ?_
              refine jr.iload_n rfl rfl ?_
              refine jr.iast (i := x) (x := y) rfl (by decide) rfl (by decide) (by omega) (by omega) ?_
              refine jr.aload_n rfl rfl ?_
              refine jr.getf (i := 13) (v := .ref 524) rfl rfl (by decide) rfl (by decide) rfl rfl rfl rfl ?_
              refine jr.iload_n rfl rfl ?_
              refine jr.iload_n rfl rfl ?_
              refine jr.iast (i := x) (x := z) rfl (by decide) rfl (by decide) (by omega) (by omega) ?_
              refine jr.aload_n rfl rfl ?_
              refine jr.getf (i := 14) (v := .ref 525) rfl rfl (by decide) rfl (by decide) rfl rfl rfl rfl ?_
              refine jr.iload_n rfl rfl ?_
              refine jr.aload_n rfl rfl ?_
              obtain ⟨v1, e1⟩ : ∃ z_, M 0 8 = z_ := ⟨_, rfl⟩
              have b1 : (-2147483648) ≤ v1 ∧ v1 ≤ 2147483647 := by rw [← e1]; exact (CI.r hC_M (show kd 0 = 35 from rfl) (by decide) 8)
              refine jr.getf (i := 8) (x := v1) (v := .int (Int32.ofInt (v1))) rfl rfl (by decide) rfl (by decide) rfl rfl ((ju_c _ _ (by decide)).trans ((ju_c _ _ (by decide)).trans e1)) rfl ?_
              refine jr.iast (i := x) (x := v1) rfl (by decide) rfl (by decide) (by omega) (by omega) ?_
              refine jr.aload_n rfl rfl ?_
              refine jr.getf (i := 11) (v := .ref 421) rfl rfl (by decide) rfl (by decide) rfl rfl rfl rfl ?_
              refine jr.getf (i := 1) (v := .ref 423) rfl rfl (by decide) rfl (by decide) rfl rfl rfl rfl ?_
              refine jr.getf (i := 1) (v := .ref 425) rfl rfl (by decide) rfl (by decide) rfl rfl rfl rfl ?_
              refine jr.iload_n rfl rfl ?_
              refine jr.iload_n rfl rfl ?_
              refine jr.iast (i := x) (x := y) rfl (by decide) rfl (by decide) (by omega) (by omega) ?_
              refine jr.iload_n rfl rfl ?_
              exact jr.ireturn rfl rfl rfl (q _ _ (CI.u (CI.u (CI.u (CI.u hC_M (i := x) (show kd 523 = 38 from rfl) (show (-2147483648 : Int) ≤ _ ∧ _ ≤ (2147483647 : Int) from by omega) rfl) (i := x) (show kd 524 = 36 from rfl) (show (-2147483648 : Int) ≤ _ ∧ _ ≤ (2147483647 : Int) from by omega) rfl) (i := x) (show kd 525 = 37 from rfl) (show (-2147483648 : Int) ≤ _ ∧ _ ≤ (2147483647 : Int) from by omega) rfl) (i := x) (show kd 425 = 28 from rfl) (show (-2147483648 : Int) ≤ _ ∧ _ ≤ (2147483647 : Int) from by omega) rfl) (FR.o (FR.o (FR.o (FR.o ht_M (show kd 523 = 38 from rfl) rfl) (show kd 524 = 36 from rfl) rfl) (show kd 525 = 37 from rfl) rfl) (show kd 425 = 28 from rfl) rfl) (by omega) (by omega))
            · refine jr.bipush rfl (by decide) ?_
              exact jr.ireturn rfl rfl rfl (q _ _ hC_M ht_M (by omega) (by omega))
