/-! ===== the class's methods ===== -/
theorem c_PacketWall_wrong {A : Nat → Option (Nat × (Nat → Int32))} {Q : Option Value → jm → Prop} {M : jm} (hC_M : CI M) (q : ∀ (r : Int), (-2147483648) ≤ r ∧ r ≤ 2147483647 → Q (some (.int (Int32.ofInt r))) M) : jc A 1 27 [.ref (0)] M Q := by
  refine jc_of (m := xm_27) rfl (Nat.le_of_ble_eq_true rfl) rfl ?_
  refine jr.aload_n rfl rfl ?_
  refine jr.getf (i := 10) (v := .ref 413) rfl rfl (nlt rfl) rfl (nlt rfl) rfl rfl rfl rfl ?_
  obtain ⟨v1, e1⟩ : ∃ z_, M 413 1 = z_ := ⟨_, rfl⟩
  have b1 : (-2147483648) ≤ v1 ∧ v1 ≤ 2147483647 := by rw [← e1]; exact (CI.r hC_M (show kd 413 = 44 from rfl) (by decide) 1)
  refine jr.getf (i := 1) (x := v1) (v := .int (Int32.ofInt (v1))) rfl rfl (nlt rfl) rfl (nlt rfl) rfl rfl e1 rfl ?_
  exact jr.ireturn rfl rfl rfl (q _ (by omega) )
theorem c_PacketWall_learned {A : Nat → Option (Nat × (Nat → Int32))} {Q : Option Value → jm → Prop} {M : jm} (hC_M : CI M) {x : Int} (h_x : (-2147483648) ≤ x ∧ x ≤ 2147483647) {y : Int} (h_y : (-2147483648) ≤ y ∧ y ≤ 2147483647) (q : ∀ (r : Int), (-9223372036854775808) ≤ r ∧ r ≤ 9223372036854775807 → Q (some (.long (Int64.ofInt r))) M) : jc A 2 32 [.ref (0), .int (Int32.ofInt (x)), .int (Int32.ofInt (y))] M Q := by
  refine jc_of (m := xm_32) rfl (Nat.le_of_ble_eq_true rfl) rfl ?_
  refine jr.iload_n rfl rfl ?_
  refine jr.if_lt rfl rfl (by first | (refine rgb (by assumption) ?_; exact rfl) | omega) (fun h1 => ?_) (fun h1 => ?_)
  · refine jr.ldc2 (x := (-1)) rfl rfl (by decide) ?_
    exact jr.lreturn rfl rfl (q _ (by omega) )
  · refine jr.iload_n rfl rfl ?_
    refine jr.iconst rfl ?_
    refine jr.icmp_lt rfl rfl (by first | (refine rgb (by assumption) ?_; exact rfl) | omega) (rgl rfl) (fun h6 => ?_) (fun h6 => ?_)
    · refine jr.iload_n rfl rfl ?_
      refine jr.iconst rfl ?_
      refine jr.icmp_ne rfl rfl (by first | (refine rgb (by assumption) ?_; exact rfl) | omega) (rgl rfl) (fun h15 => ?_) (fun h15 => ?_)
      · refine jr.aload_n rfl rfl ?_
        refine jr.getf (i := 11) (v := .ref 421) rfl rfl (nlt rfl) rfl (nlt rfl) rfl rfl rfl rfl ?_
        refine jr.getf (i := 1) (v := .ref 423) rfl rfl (nlt rfl) rfl (nlt rfl) rfl rfl rfl rfl ?_
        refine jr.iload_n rfl rfl ?_
        refine jr.iload_n rfl rfl ?_
        refine jr_v rfl rfl (Or.inl rfl) rfl rfl (nlt rfl) rfl ⟨rfl, Nat.le_of_ble_eq_true rfl, Nat.le_of_ble_eq_true rfl⟩ rfl (jc.deep (c_Memory_setItem hC_M (show kd 423 = 27 from rfl) (by omega) (by omega) (fun r1 z1  => ?_)) (Nat.le_of_ble_eq_true rfl))
        exact jr.lreturn rfl rfl (q _ (by omega) )
      · refine jr.aload_n rfl rfl ?_
        refine jr.getf (i := 11) (v := .ref 421) rfl rfl (nlt rfl) rfl (nlt rfl) rfl rfl rfl rfl ?_
        refine jr.getf (i := 1) (v := .ref 423) rfl rfl (nlt rfl) rfl (nlt rfl) rfl rfl rfl rfl ?_
        refine jr.getf (i := 3) (v := .ref 427) rfl rfl (nlt rfl) rfl (nlt rfl) rfl rfl rfl rfl ?_
        refine jr.iload_n rfl rfl ?_
        obtain ⟨v2, e2⟩ : ∃ z_, M 427 x = z_ := ⟨_, rfl⟩
        have b2 : 0 ≤ v2 ∧ v2 ≤ 16 := by rw [← e2]; exact (CI.r hC_M (show kd 427 = 32 from rfl) (by decide) x)
        refine jr.iald (i := x) (x := v2) rfl (nlt rfl) rfl (Nat.le_of_ble_eq_true rfl) (by omega) (by omega) e2 ?_
        refine jr.i2l rfl (by omega) ?_
        refine jr.goto rfl rfl ?_
        exact jr.lreturn rfl rfl (q _ (by omega) )
    · refine jr.ldc2 (x := (-1)) rfl rfl (by decide) ?_
      exact jr.lreturn rfl rfl (q _ (by omega) )
noncomputable def W_c_PacketWall_bucket : List (Nat × Nat) := [(28, 1000), (36, 1000), (37, 1000), (38, 1000)]
theorem c_PacketWall_bucket {A : Nat → Option (Nat × (Nat → Int32))} {Q : Option Value → jm → Prop} {T : jm} {M : jm} (hC_M : CI M) (ht_M : FR W_c_PacketWall_bucket T M) {x : Int} (h_x : (-2147483648) ≤ x ∧ x ≤ 2147483647) {y : Int} (h_y : (-2147483648) ≤ y ∧ y ≤ 2147483647) {z : Int} (h_z : (-2147483648) ≤ z ∧ z ≤ 2147483647) (q : ∀ (r : Int) (M' : jm), CI M' → FR W_c_PacketWall_bucket T M' → (-2147483648) ≤ r ∧ r ≤ 2147483647 → Q (some (.int (Int32.ofInt r))) M') : jc A 1 33 [.ref (0), .int (Int32.ofInt (x)), .int (Int32.ofInt (y)), .int (Int32.ofInt (z))] M Q := by
  refine jc_of (m := xm_33) rfl (Nat.le_of_ble_eq_true rfl) rfl ?_
  refine jr.iload_n rfl rfl ?_
  refine jr.if_lt rfl rfl (by first | (refine rgb (by assumption) ?_; exact rfl) | omega) (fun h1 => ?_) (fun h1 => ?_)
  · refine jr.bipush rfl (by decide) ?_
    exact jr.ireturn rfl rfl rfl (q _ _ hC_M ht_M (by first | exact rgq rfl | omega) )
  · refine jr.iload_n rfl rfl ?_
    refine jr.iconst rfl ?_
    refine jr.icmp_ge rfl rfl (by first | (refine rgb (by assumption) ?_; exact rfl) | omega) (rgl rfl) (fun h6 => ?_) (fun h6 => ?_)
    · refine jr.bipush rfl (by decide) ?_
      exact jr.ireturn rfl rfl rfl (q _ _ hC_M ht_M (by first | exact rgq rfl | omega) )
    · refine jr.iload_n rfl rfl ?_
      refine jr.if_lt rfl rfl (by first | (refine rgb (by assumption) ?_; exact rfl) | omega) (fun h10 => ?_) (fun h10 => ?_)
      · refine jr.bipush rfl (by decide) ?_
        exact jr.ireturn rfl rfl rfl (q _ _ hC_M ht_M (by first | exact rgq rfl | omega) )
      · refine jr.iload_n rfl rfl ?_
        refine jr.sipush rfl (by decide) ?_
        refine jr.icmp_gt rfl rfl (by first | (refine rgb (by assumption) ?_; exact rfl) | omega) (rgl rfl) (fun h17 => ?_) (fun h17 => ?_)
        · refine jr.bipush rfl (by decide) ?_
          exact jr.ireturn rfl rfl rfl (q _ _ hC_M ht_M (by first | exact rgq rfl | omega) )
        · refine jr.iload_n rfl rfl ?_
          refine jr.iconst rfl ?_
          refine jr.icmp_lt rfl rfl (by first | (refine rgb (by assumption) ?_; exact rfl) | omega) (rgl rfl) (fun h22 => ?_) (fun h22 => ?_)
          · refine jr.bipush rfl (by decide) ?_
            exact jr.ireturn rfl rfl rfl (q _ _ hC_M ht_M (by first | exact rgq rfl | omega) )
          · refine jr.iload_n rfl rfl ?_
            refine jr.sipush rfl (by decide) ?_
            refine jr.icmp_le rfl rfl (by first | (refine rgb (by assumption) ?_; exact rfl) | omega) (rgl rfl) (fun h29 => ?_) (fun h29 => ?_)
            · refine jr.aload_n rfl rfl ?_
              refine jr.getf (i := 12) (v := .ref 523) rfl rfl (nlt rfl) rfl (nlt rfl) rfl rfl rfl rfl ?_
              refine jr.iload_n rfl rfl ?_
              refine jr.iload_n rfl rfl ?_
              refine jr.iast (i := x) (x := y) rfl (nlt rfl) rfl (Nat.le_of_ble_eq_true rfl) (by omega) (by omega) ?_
              refine jr.aload_n rfl rfl ?_
              refine jr.getf (i := 13) (v := .ref 524) rfl rfl (nlt rfl) rfl (nlt rfl) rfl rfl rfl rfl ?_
              refine jr.iload_n rfl rfl ?_
              refine jr.iload_n rfl rfl ?_
              refine jr.iast (i := x) (x := z) rfl (nlt rfl) rfl (Nat.le_of_ble_eq_true rfl) (by omega) (by omega) ?_
              refine jr.aload_n rfl rfl ?_
              refine jr.getf (i := 14) (v := .ref 525) rfl rfl (nlt rfl) rfl (nlt rfl) rfl rfl rfl rfl ?_
              refine jr.iload_n rfl rfl ?_
              refine jr.aload_n rfl rfl ?_
              obtain ⟨v1, e1⟩ : ∃ z_, M 0 8 = z_ := ⟨_, rfl⟩
              have b1 : (-2147483648) ≤ v1 ∧ v1 ≤ 2147483647 := by rw [← e1]; exact (CI.r hC_M (show kd 0 = 35 from rfl) (by decide) 8)
              refine jr.getf (i := 8) (x := v1) (v := .int (Int32.ofInt (v1))) rfl rfl (nlt rfl) rfl (nlt rfl) rfl rfl ((ju_c _ _ (by decide)).trans ((ju_c _ _ (by decide)).trans e1)) rfl ?_
              refine jr.iast (i := x) (x := v1) rfl (nlt rfl) rfl (Nat.le_of_ble_eq_true rfl) (by omega) (by omega) ?_
              refine jr.aload_n rfl rfl ?_
              refine jr.getf (i := 11) (v := .ref 421) rfl rfl (nlt rfl) rfl (nlt rfl) rfl rfl rfl rfl ?_
              refine jr.getf (i := 1) (v := .ref 423) rfl rfl (nlt rfl) rfl (nlt rfl) rfl rfl rfl rfl ?_
              refine jr.getf (i := 1) (v := .ref 425) rfl rfl (nlt rfl) rfl (nlt rfl) rfl rfl rfl rfl ?_
              refine jr.iload_n rfl rfl ?_
              refine jr.iload_n rfl rfl ?_
              refine jr.iast (i := x) (x := y) rfl (nlt rfl) rfl (Nat.le_of_ble_eq_true rfl) (by omega) (by omega) ?_
              refine jr.iload_n rfl rfl ?_
              exact jr.ireturn rfl rfl rfl (q _ _ (CI.u (CI.u (CI.u (CI.u hC_M (i := x) (show kd 523 = 38 from rfl) (show (-2147483648 : Int) ≤ _ ∧ _ ≤ (2147483647 : Int) from by omega) rfl) (i := x) (show kd 524 = 36 from rfl) (show (-2147483648 : Int) ≤ _ ∧ _ ≤ (2147483647 : Int) from by omega) rfl) (i := x) (show kd 525 = 37 from rfl) (show (-2147483648 : Int) ≤ _ ∧ _ ≤ (2147483647 : Int) from by omega) rfl) (i := x) (show kd 425 = 28 from rfl) (show (-2147483648 : Int) ≤ _ ∧ _ ≤ (2147483647 : Int) from by omega) rfl) (FR.o (FR.o (FR.o (FR.o ht_M (show kd 523 = 38 from rfl) rfl) (show kd 524 = 36 from rfl) rfl) (show kd 525 = 37 from rfl) rfl) (show kd 425 = 28 from rfl) rfl) (by omega) )
            · refine jr.bipush rfl (by decide) ?_
              exact jr.ireturn rfl rfl rfl (q _ _ hC_M ht_M (by first | exact rgq rfl | omega) )
theorem c_PacketWall_rowAt {A : Nat → Option (Nat × (Nat → Int32))} {Q : Option Value → jm → Prop} {M : jm} (hC_M : CI M) {x : Int} (h_x : (-2147483648) ≤ x ∧ x ≤ 2147483647) {y : Int} (h_y : (-2147483648) ≤ y ∧ y ≤ 2147483647) (q : ∀ (r : Int), (-9223372036854775808) ≤ r ∧ r ≤ 9223372036854775807 → Q (some (.long (Int64.ofInt r))) M) : jc A 2 35 [.ref (0), .int (Int32.ofInt (x)), .int (Int32.ofInt (y))] M Q := by
  refine jc_of (m := xm_35) rfl (Nat.le_of_ble_eq_true rfl) rfl ?_
  refine jr.iload_n rfl rfl ?_
  refine jr.if_lt rfl rfl (by first | (refine rgb (by assumption) ?_; exact rfl) | omega) (fun h1 => ?_) (fun h1 => ?_)
  · refine jr.ldc2 (x := (-3)) rfl rfl (by decide) ?_
    exact jr.lreturn rfl rfl (q _ (by omega) )
  · refine jr.iload_n rfl rfl ?_
    refine jr.bipush rfl (jbp _ (nlt rfl)) ?_
    refine jr.icmp_lt rfl rfl (by first | (refine rgb (by assumption) ?_; exact rfl) | omega) (rgl rfl) (fun h7 => ?_) (fun h7 => ?_)
    · refine jr.aload_n rfl rfl ?_
      refine jr.getf (i := 11) (v := .ref 421) rfl rfl (nlt rfl) rfl (nlt rfl) rfl rfl rfl rfl ?_
      refine jr.getf (i := 0) (v := .ref 422) rfl rfl (nlt rfl) rfl (nlt rfl) rfl rfl rfl rfl ?_
      refine jr.iload_n rfl rfl ?_
      have k1 := kxe_25 (a := 422) rfl (i := x) (by omega) (by omega)
      refine jr.aald (c := (xe 422 x)) rfl (by decide) rfl (by decide) (by decide) rfl (by decide) (by omega) (by omega) k1.1 ?_
      refine jr.astore_n (ls' := [_, _, _, _]) rfl (nlt rfl) rfl ?_
      refine jr.iload_n rfl rfl ?_
      refine jr.iconst rfl ?_
      refine jr.icmp_ne rfl rfl (by first | (refine rgb (by assumption) ?_; exact rfl) | omega) (rgl rfl) (fun h26 => ?_) (fun h26 => ?_)
      · refine jr.aload_n rfl rfl ?_
        refine jr.iload_n rfl rfl ?_
        refine jr.i2l rfl (by omega) ?_
        refine jr_v rfl rfl (Or.inl rfl) rfl rfl (Nat.lt_trans (kx_52 k1.2).1 (by decide)) (kx_52 k1.2).2 ⟨rfl, Nat.le_of_ble_eq_true rfl, Nat.le_of_ble_eq_true rfl⟩ rfl (jc.deep (c_Row_hasItem hC_M k1.2 (by omega) (fun r2 z2 w2_0 => ?_)) (Nat.le_of_ble_eq_true rfl))
        refine jr.if_eq rfl rfl (by first | (refine rgb (by assumption) ?_; exact rfl) | omega) (fun h41 => ?_) (fun h41 => ?_)
        · refine jr.ldc2 (x := (-1)) rfl rfl (by decide) ?_
          exact jr.lreturn rfl rfl (q _ (by omega) )
        · have sx41 : (1 : Int) ≤ r2 := by omega
          clear h41
          refine jr.aload_n rfl rfl ?_
          have k3 := kf_52_2 k1.2
          refine jr.getf (i := 2) (v := .ref ((xe 422 x) + 1)) rfl rfl (Nat.lt_trans (kx_52 k1.2).1 (by decide)) (kx_52 k1.2).2 (by decide) rfl rfl rfl (jval_ref rfl k3.1) ?_
          refine jr.iload_n rfl rfl ?_
          obtain ⟨v4, e4⟩ : ∃ z_, M (((xe 422 x) + 1)) y = z_ := ⟨_, rfl⟩
          have b4 : (-9223372036854775808) ≤ v4 ∧ v4 ≤ 9223372036854775807 := by rw [← e4]; exact (CI.r hC_M k3.2 (by decide) y)
          refine jr.lald (i := y) (x := v4) rfl (Nat.lt_trans (kx_54 k3.2).1 (by decide)) (kx_54 k3.2).2 (by decide) (by omega) (by omega) e4 ?_
          refine jr.goto rfl rfl ?_
          exact jr.lreturn rfl rfl (q _ (by omega) )
      · refine jr.aload_n rfl rfl ?_
        obtain ⟨v5, e5⟩ : ∃ z_, M ((xe 422 x)) 0 = z_ := ⟨_, rfl⟩
        have b5 : (-2147483648) ≤ v5 ∧ v5 ≤ 2147483647 := by rw [← e5]; exact (CI.r hC_M k1.2 (by decide) 0)
        refine jr.getf (i := 0) (x := v5) (v := .int (Int32.ofInt (v5))) rfl rfl (Nat.lt_trans (kx_52 k1.2).1 (by decide)) (kx_52 k1.2).2 (by decide) rfl rfl e5 rfl ?_
        refine jr.i2l rfl (by omega) ?_
        exact jr.lreturn rfl rfl (q _ (by omega) )
    · refine jr.ldc2 (x := (-3)) rfl rfl (by decide) ?_
      exact jr.lreturn rfl rfl (q _ (by omega) )
theorem c_PacketWall_mark {A : Nat → Option (Nat × (Nat → Int32))} {Q : Option Value → jm → Prop} {M : jm} (hC_M : CI M) {x : Int} (h_x : (-2147483648) ≤ x ∧ x ≤ 2147483647) (q : ∀ (r : Int), (-9223372036854775808) ≤ r ∧ r ≤ 9223372036854775807 → Q (some (.long (Int64.ofInt r))) M) : jc A 3 36 [.ref (0), .int (Int32.ofInt (x))] M Q := by
  refine jc_of (m := xm_36) rfl (Nat.le_of_ble_eq_true rfl) rfl ?_
  refine jr.aload_n rfl rfl ?_
  refine jr.iload_n rfl rfl ?_
  refine jr_v rfl rfl (Or.inl rfl) rfl rfl (nlt rfl) rfl ⟨rfl, Nat.le_of_ble_eq_true rfl, Nat.le_of_ble_eq_true rfl⟩ rfl (jc.deep (c_PacketWall_isPacket hC_M (by omega) (fun r1 z1 w1_0 => ?_)) (Nat.le_of_ble_eq_true rfl))
  refine jr.if_eq rfl rfl (by first | (refine rgb (by assumption) ?_; exact rfl) | omega) (fun h5 => ?_) (fun h5 => ?_)
  · refine jr.lconst (x := 0) rfl (by decide) ?_
    exact jr.lreturn rfl rfl (q _ (by omega) )
  · have sx5 : (1 : Int) ≤ r1 := by omega
    clear h5
    refine jr.aload_n rfl rfl ?_
    refine jr.getf (i := 2) (v := .ref 2) rfl rfl (nlt rfl) rfl (nlt rfl) rfl rfl rfl rfl ?_
    refine jr.iload_n rfl rfl ?_
    have k2 := kxe_42 (a := 2) rfl (i := x) (by omega) (by omega)
    refine jr.aald (c := (xe 2 x)) rfl (by decide) rfl (by decide) (by decide) rfl (by decide) (by omega) (by omega) k2.1 ?_
    obtain ⟨v3, e3⟩ : ∃ z_, M ((xe 2 x)) 2 = z_ := ⟨_, rfl⟩
    have b3 : (-9223372036854775808) ≤ v3 ∧ v3 ≤ 9223372036854775807 := by rw [← e3]; exact (CI.r hC_M k2.2 (by decide) 2)
    refine jr.getf (i := 2) (x := v3) (v := .long (Int64.ofInt (v3))) rfl rfl (Nat.lt_trans (kx_33 k2.2).1 (by decide)) (kx_33 k2.2).2 (by decide) rfl rfl e3 rfl ?_
    refine jr.goto rfl rfl ?_
    exact jr.lreturn rfl rfl (q _ (by omega) )
theorem c_PacketWall_told {A : Nat → Option (Nat × (Nat → Int32))} {Q : Option Value → jm → Prop} {M : jm} (hC_M : CI M) {x : Int} (h_x : (-2147483648) ≤ x ∧ x ≤ 2147483647) (q : ∀ (r : Int), (-2147483648) ≤ r ∧ r ≤ 2147483647 → Q (some (.int (Int32.ofInt r))) M) : jc A 3 40 [.ref (0), .int (Int32.ofInt (x))] M Q := by
  refine jc_of (m := xm_40) rfl (Nat.le_of_ble_eq_true rfl) rfl ?_
  refine jr.iload_n rfl rfl ?_
  rcases (show x = 0 ∨ x = 1 ∨ x = 2 ∨ x = 3 ∨ x = 4 ∨ x = 5 ∨ x = 6 ∨ x = 7 ∨ x = 8 ∨ (x ≠ 0 ∧ x ≠ 1 ∧ x ≠ 2 ∧ x ≠ 3 ∧ x ≠ 4 ∧ x ≠ 5 ∧ x ≠ 6 ∧ x ≠ 7 ∧ x ≠ 8) by omega) with h1 | h1 | h1 | h1 | h1 | h1 | h1 | h1 | h1 | h1
  · refine jr.tsw_k 0 rfl h1 rfl ?_
    refine jr.aload_n rfl rfl ?_
    obtain ⟨v1, e1⟩ : ∃ z_, M 0 8 = z_ := ⟨_, rfl⟩
    have b1 : (-2147483648) ≤ v1 ∧ v1 ≤ 2147483647 := by rw [← e1]; exact (CI.r hC_M (show kd 0 = 35 from rfl) (by decide) 8)
    refine jr.getf (i := 8) (x := v1) (v := .int (Int32.ofInt (v1))) rfl rfl (nlt rfl) rfl (nlt rfl) rfl rfl e1 rfl ?_
    exact jr.ireturn rfl rfl rfl (q _ (by omega) )
  · refine jr.tsw_k 1 rfl h1 rfl ?_
    refine jr.aload_n rfl rfl ?_
    refine jr_v rfl rfl (Or.inl rfl) rfl rfl (nlt rfl) rfl ⟨rfl, Nat.le_of_ble_eq_true rfl, Nat.le_of_ble_eq_true rfl⟩ rfl (jc.deep (c_PacketWall_countPackets hC_M  (fun r2 z2  => ?_)) (Nat.le_of_ble_eq_true rfl))
    exact jr.ireturn rfl rfl rfl (q _ (by omega) )
  · refine jr.tsw_k 2 rfl h1 rfl ?_
    refine jr.aload_n rfl rfl ?_
    refine jr_v rfl rfl (Or.inl rfl) rfl rfl (nlt rfl) rfl ⟨rfl, Nat.le_of_ble_eq_true rfl, Nat.le_of_ble_eq_true rfl⟩ rfl (jc.deep (c_PacketWall_countGatherings hC_M  (fun r3 z3  => ?_)) (Nat.le_of_ble_eq_true rfl))
    exact jr.ireturn rfl rfl rfl (q _ (by omega) )
  · refine jr.tsw_k 3 rfl h1 rfl ?_
    refine jr.aload_n rfl rfl ?_
    refine jr.getf (i := 9) (v := .ref 15) rfl rfl (nlt rfl) rfl (nlt rfl) rfl rfl rfl rfl ?_
    refine jr_v rfl rfl (Or.inl rfl) rfl rfl (nlt rfl) rfl ⟨rfl, Nat.le_of_ble_eq_true rfl, Nat.le_of_ble_eq_true rfl⟩ rfl (jc.deep (c_Flows_countLive hC_M  (fun r4 z4  => ?_)) (Nat.le_of_ble_eq_true rfl))
    exact jr.ireturn rfl rfl rfl (q _ (by omega) )
  · refine jr.tsw_k 4 rfl h1 rfl ?_
    refine jr.aload_n rfl rfl ?_
    refine jr.getf (i := 11) (v := .ref 421) rfl rfl (nlt rfl) rfl (nlt rfl) rfl rfl rfl rfl ?_
    obtain ⟨v5, e5⟩ : ∃ z_, M 421 2 = z_ := ⟨_, rfl⟩
    have b5 : 0 ≤ v5 ∧ v5 ≤ 597 := by rw [← e5]; exact (CI.r hC_M (show kd 421 = 22 from rfl) (by decide) 2)
    have k6 : kd (v5).toNat = 47 := ((congrArg (fun z : Int => kd z.toNat) (show M 421 2 = v5 from e5)).symm.trans (CI.x hC_M (show kd 421 = 22 from rfl) 2 rfl (by decide)))
    refine jr.getf (i := 2) (x := v5) (v := .ref (v5.toNat)) rfl rfl (nlt rfl) rfl (nlt rfl) rfl rfl e5 rfl ?_
    obtain ⟨v7, e7⟩ : ∃ z_, M ((v5.toNat)) 3 = z_ := ⟨_, rfl⟩
    have b7 : 0 ≤ v7 ∧ v7 ≤ 16 := by rw [← e7]; exact (CI.r hC_M k6 (by decide) 3)
    refine jr.getf (i := 3) (x := v7) (v := .int (Int32.ofInt (v7))) rfl rfl (Nat.lt_trans (kx_47 k6).1 (by decide)) (kx_47 k6).2 (by decide) rfl rfl e7 rfl ?_
    exact jr.ireturn rfl rfl rfl (q _ (by omega) )
  · refine jr.tsw_k 5 rfl h1 rfl ?_
    refine jr.aload_n rfl rfl ?_
    refine jr.getf (i := 11) (v := .ref 421) rfl rfl (nlt rfl) rfl (nlt rfl) rfl rfl rfl rfl ?_
    obtain ⟨v8, e8⟩ : ∃ z_, M 421 2 = z_ := ⟨_, rfl⟩
    have b8 : 0 ≤ v8 ∧ v8 ≤ 597 := by rw [← e8]; exact (CI.r hC_M (show kd 421 = 22 from rfl) (by decide) 2)
    have k9 : kd (v8).toNat = 47 := ((congrArg (fun z : Int => kd z.toNat) (show M 421 2 = v8 from e8)).symm.trans (CI.x hC_M (show kd 421 = 22 from rfl) 2 rfl (by decide)))
    refine jr.getf (i := 2) (x := v8) (v := .ref (v8.toNat)) rfl rfl (nlt rfl) rfl (nlt rfl) rfl rfl e8 rfl ?_
    obtain ⟨v10, e10⟩ : ∃ z_, M ((v8.toNat)) 4 = z_ := ⟨_, rfl⟩
    have b10 : (-2147483648) ≤ v10 ∧ v10 ≤ 2147483647 := by rw [← e10]; exact (CI.r hC_M k9 (by decide) 4)
    refine jr.getf (i := 4) (x := v10) (v := .int (Int32.ofInt (v10))) rfl rfl (Nat.lt_trans (kx_47 k9).1 (by decide)) (kx_47 k9).2 (by decide) rfl rfl e10 rfl ?_
    exact jr.ireturn rfl rfl rfl (q _ (by omega) )
  · refine jr.tsw_k 6 rfl h1 rfl ?_
    refine jr.aload_n rfl rfl ?_
    refine jr.getf (i := 11) (v := .ref 421) rfl rfl (nlt rfl) rfl (nlt rfl) rfl rfl rfl rfl ?_
    obtain ⟨v11, e11⟩ : ∃ z_, M 421 3 = z_ := ⟨_, rfl⟩
    have b11 : (-2147483648) ≤ v11 ∧ v11 ≤ 2147483647 := by rw [← e11]; exact (CI.r hC_M (show kd 421 = 22 from rfl) (by decide) 3)
    refine jr.getf (i := 3) (x := v11) (v := .int (Int32.ofInt (v11))) rfl rfl (nlt rfl) rfl (nlt rfl) rfl rfl e11 rfl ?_
    exact jr.ireturn rfl rfl rfl (q _ (by omega) )
  · refine jr.tsw_k 7 rfl h1 rfl ?_
    refine jr.aload_n rfl rfl ?_
    obtain ⟨v12, e12⟩ : ∃ z_, M 0 1 = z_ := ⟨_, rfl⟩
    have b12 : 0 ≤ v12 ∧ v12 ≤ 1600 := by rw [← e12]; exact (CI.r hC_M (show kd 0 = 35 from rfl) (by decide) 1)
    refine jr.getf (i := 1) (x := v12) (v := .int (Int32.ofInt (v12))) rfl rfl (nlt rfl) rfl (nlt rfl) rfl rfl e12 rfl ?_
    exact jr.ireturn rfl rfl rfl (q _ (by omega) )
  · refine jr.tsw_k 8 rfl h1 rfl ?_
    refine jr.aload_n rfl rfl ?_
    refine jr.getf (i := 11) (v := .ref 421) rfl rfl (nlt rfl) rfl (nlt rfl) rfl rfl rfl rfl ?_
    refine jr.getf (i := 1) (v := .ref 423) rfl rfl (nlt rfl) rfl (nlt rfl) rfl rfl rfl rfl ?_
    obtain ⟨v13, e13⟩ : ∃ z_, M 423 5 = z_ := ⟨_, rfl⟩
    have b13 : 0 ≤ v13 ∧ v13 ≤ 2147483647 := by rw [← e13]; exact (CI.r hC_M (show kd 423 = 27 from rfl) (by decide) 5)
    refine jr.getf (i := 5) (x := v13) (v := .int (Int32.ofInt (v13))) rfl rfl (nlt rfl) rfl (nlt rfl) rfl rfl e13 rfl ?_
    exact jr.ireturn rfl rfl rfl (q _ (by omega) )
  · refine jr.tsw_d rfl (by omega) (by omega) rfl ?_
    refine jr.bipush rfl (by decide) ?_
    exact jr.ireturn rfl rfl rfl (q _ (by first | exact rgq rfl | omega) )
theorem c_Flows_stateOf {A : Nat → Option (Nat × (Nat → Int32))} {Q : Option Value → jm → Prop} {M : jm} (hC_M : CI M) {x : Int} (h_x : (-2147483648) ≤ x ∧ x ≤ 2147483647) (q : ∀ (r : Int), (-2147483648) ≤ r ∧ r ≤ 2147483647 → Q (some (.int (Int32.ofInt r))) M) : jc A 2 77 [.ref (15), .int (Int32.ofInt (x))] M Q := by
  refine jc_of (m := xm_77) rfl (Nat.le_of_ble_eq_true rfl) rfl ?_
  refine jr.aload_n rfl rfl ?_
  refine jr.iload_n rfl rfl ?_
  refine jr_v rfl rfl (Or.inl rfl) rfl rfl (nlt rfl) rfl ⟨rfl, Nat.le_of_ble_eq_true rfl, Nat.le_of_ble_eq_true rfl⟩ rfl (jc.deep (c_Flows_isLive hC_M (by omega) (fun r1 z1 w1_0 => ?_)) (Nat.le_of_ble_eq_true rfl))
  refine jr.if_eq rfl rfl (by first | (refine rgb (by assumption) ?_; exact rfl) | omega) (fun h5 => ?_) (fun h5 => ?_)
  · refine jr.iconst rfl ?_
    exact jr.ireturn rfl rfl rfl (q _ (by first | exact rgq rfl | omega) )
  · have sx5 : (1 : Int) ≤ r1 := by omega
    clear h5
    refine jr.aload_n rfl rfl ?_
    obtain ⟨v2, e2⟩ : ∃ z_, M 15 0 = z_ := ⟨_, rfl⟩
    have b2 : 16 ≤ v2 ∧ v2 ≤ 17 := by rw [← e2]; exact (CI.r hC_M (show kd 15 = 9 from rfl) (by decide) 0)
    have k3 : kd (v2).toNat = 13 := by rcases (show v2 = 16 ∨ v2 = 17 by omega) with h | h <;> (rw [h]; rfl)
    refine jr.getf (i := 0) (x := v2) (v := .ref (v2.toNat)) rfl rfl (nlt rfl) rfl (nlt rfl) rfl rfl e2 rfl ?_
    refine jr.iload_n rfl rfl ?_
    have k4 := kxe_13 k3 (i := x) (by omega) (by omega)
    refine jr.aald (c := (xe ((v2.toNat)) x)) rfl (Nat.lt_trans (kx_13 k3).1 (by decide)) (kx_13 k3).2 (by decide) (by decide) rfl (by decide) (by omega) (by omega) k4.1 ?_
    obtain ⟨v5, e5⟩ : ∃ z_, M ((xe ((v2.toNat)) x)) 5 = z_ := ⟨_, rfl⟩
    have b5 : (-2147483648) ≤ v5 ∧ v5 ≤ 2147483647 := by rw [← e5]; exact (CI.r hC_M k4.2 (by decide) 5)
    refine jr.getf (i := 5) (x := v5) (v := .int (Int32.ofInt (v5))) rfl rfl (Nat.lt_trans (kx_1 k4.2).1 (by decide)) (kx_1 k4.2).2 (by decide) rfl rfl e5 rfl ?_
    refine jr.goto rfl rfl ?_
    exact jr.ireturn rfl rfl rfl (q _ (by omega) )
noncomputable def W_c_Machine_clearReport : List (Nat × Nat) := [(22, 11), (24, 1000)]
theorem c_Machine_clearReport {A : Nat → Option (Nat × (Nat → Int32))} {Q : Option Value → jm → Prop} {T : jm} {M : jm} (hC_M : CI M) (ht_M : FR W_c_Machine_clearReport T M) (q : ∀ (M' : jm), CI M' → FR W_c_Machine_clearReport T M' → Q none M') : jc A 2 141 [.ref (421)] M Q := by
  refine jc_of (m := xm_141) rfl (Nat.le_of_ble_eq_true rfl) rfl ?_
  refine jr.aload_n rfl rfl ?_
  refine jr.iconst rfl ?_
  refine jr.putf (i := 11) (x := 1) rfl rfl (nlt rfl) rfl (nlt rfl) rfl rfl rfl rfl rfl ?_
  refine jr.aload_n rfl rfl ?_
  refine jr.getf (i := 10) (v := .ref 436) rfl rfl (nlt rfl) rfl (nlt rfl) rfl rfl rfl rfl ?_
  refine jr.iconst rfl ?_
  refine jr.iconst rfl ?_
  refine jr.iast (i := 2) (x := 0) rfl (nlt rfl) rfl (Nat.le_of_ble_eq_true rfl) (by omega) (by omega) ?_
  refine jr.aload_n rfl rfl ?_
  refine jr.getf (i := 10) (v := .ref 436) rfl rfl (nlt rfl) rfl (nlt rfl) rfl rfl rfl rfl ?_
  refine jr.iconst rfl ?_
  refine jr.iconst rfl ?_
  refine jr.iast (i := 4) (x := 0) rfl (nlt rfl) rfl (Nat.le_of_ble_eq_true rfl) (by omega) (by omega) ?_
  refine jr.aload_n rfl rfl ?_
  refine jr_v rfl rfl (Or.inl rfl) rfl rfl (nlt rfl) rfl ⟨rfl, Nat.le_of_ble_eq_true rfl, Nat.le_of_ble_eq_true rfl⟩ rfl (jc.deep (c_Machine_clearFailure (CI.u (CI.u (CI.u hC_M (i := 11) (show kd 421 = 22 from rfl) (show (0 : Int) ≤ _ ∧ _ ≤ (1 : Int) from by omega) rfl) (i := 2) (show kd 436 = 24 from rfl) (show (-2147483648 : Int) ≤ _ ∧ _ ≤ (2147483647 : Int) from by omega) rfl) (i := 4) (show kd 436 = 24 from rfl) (show (0 : Int) ≤ _ ∧ _ ≤ (40 : Int) from by omega) rfl) (FR.rfl _ ((ju (ju (ju M 421 11 1) 436 2 0) 436 4 0)))  (fun M1 hC_M1 hf_M1  => ?_)) (Nat.le_of_ble_eq_true rfl))
  have ht_M1 : FR W_c_Machine_clearReport T M1 := FR.t (FR.o (FR.o (FR.o ht_M (show kd 421 = 22 from rfl) rfl) (show kd 436 = 24 from rfl) rfl) (show kd 436 = 24 from rfl) rfl) hf_M1 (kw_sub rfl)
  exact jr.vreturn rfl rfl (q _ hC_M1 ht_M1  )
noncomputable def W_c_Machine_takeStep : List (Nat × Nat) := [(22, 4), (24, 1000)]
theorem c_Machine_takeStep {A : Nat → Option (Nat × (Nat → Int32))} {Q : Option Value → jm → Prop} {T : jm} {M : jm} (hC_M : CI M) (ht_M : FR W_c_Machine_takeStep T M) (q : ∀ (M' : jm), CI M' → FR W_c_Machine_takeStep T M' → Q none M') : jc A 2 152 [.ref (421)] M Q := by
  refine jc_of (m := xm_152) rfl (Nat.le_of_ble_eq_true rfl) rfl ?_
  refine jr.aload_n rfl rfl ?_
  refine jr.getf (i := 10) (v := .ref 436) rfl rfl (nlt rfl) rfl (nlt rfl) rfl rfl rfl rfl ?_
  refine jr.iconst rfl ?_
  obtain ⟨v1, e1⟩ : ∃ z_, M 436 2 = z_ := ⟨_, rfl⟩
  have b1 : (-2147483648) ≤ v1 ∧ v1 ≤ 2147483647 := by rw [← e1]; exact (CI.r hC_M (show kd 436 = 24 from rfl) (by decide) 2)
  refine jr.iald (i := 2) (x := v1) rfl (nlt rfl) rfl (Nat.le_of_ble_eq_true rfl) (by omega) (by omega) e1 ?_
  refine jr.sipush rfl (by decide) ?_
  refine jr.icmp_lt rfl rfl (by first | (refine rgb (by assumption) ?_; exact rfl) | omega) (rgl rfl) (fun h9 => ?_) (fun h9 => ?_)
  · refine jr.aload_n rfl rfl ?_
    refine jr.getf (i := 10) (v := .ref 436) rfl rfl (nlt rfl) rfl (nlt rfl) rfl rfl rfl rfl ?_
    refine jr.iconst rfl ?_
    refine jr.dup2 rfl ⟨rfl, rfl⟩ ?_
    refine jr.iald (i := 2) (x := v1) rfl (nlt rfl) rfl (Nat.le_of_ble_eq_true rfl) (by omega) (by omega) e1 ?_
    refine jr.iconst rfl ?_
    refine jr.iadd rfl ?_
    refine jr.iast (i := 2) (x := (v1 + 1)) rfl (nlt rfl) rfl (Nat.le_of_ble_eq_true rfl) (by omega) (by omega) ?_
    exact jr.vreturn rfl rfl (q _ (CI.u hC_M (i := 2) (show kd 436 = 24 from rfl) (show (-2147483648 : Int) ≤ _ ∧ _ ≤ (2147483647 : Int) from by omega) rfl) (FR.o ht_M (show kd 436 = 24 from rfl) rfl)  )
  · refine jr.aload_n rfl rfl ?_
    refine jr.bipush rfl (jbp _ (nlt rfl)) ?_
    refine jr_v rfl rfl (Or.inl rfl) rfl rfl (nlt rfl) rfl ⟨rfl, Nat.le_of_ble_eq_true rfl, Nat.le_of_ble_eq_true rfl⟩ rfl (jc.deep (c_Machine_fail hC_M (FR.rfl _ M) (by omega) (fun M2 hC_M2 hf_M2  => ?_)) (Nat.le_of_ble_eq_true rfl))
    have ht_M2 : FR W_c_Machine_takeStep T M2 := FR.t ht_M hf_M2 (kw_sub rfl)
    refine jr.goto rfl rfl ?_
    exact jr.vreturn rfl rfl (q _ hC_M2 ht_M2  )
noncomputable def W_c_Machine_askByte : List (Nat × Nat) := [(22, 4), (22, 9), (24, 1000), (26, 1000)]
theorem c_Machine_askByte {A : Nat → Option (Nat × (Nat → Int32))} {Q : Option Value → jm → Prop} {T : jm} {M : jm} (hC_M : CI M) (ht_M : FR W_c_Machine_askByte T M) {x : Int} (h_x : (-9223372036854775808) ≤ x ∧ x ≤ 9223372036854775807) (q : ∀ (M' : jm), CI M' → FR W_c_Machine_askByte T M' → Q none M') : jc A 2 160 [.ref (421), .long (Int64.ofInt (x))] M Q := by
  refine jc_of (m := xm_160) rfl (Nat.le_of_ble_eq_true rfl) rfl ?_
  refine jr.aload_n rfl rfl ?_
  obtain ⟨v1, e1⟩ : ∃ z_, M 421 12 = z_ := ⟨_, rfl⟩
  have b1 : 0 ≤ v1 ∧ v1 ≤ 597 := by rw [← e1]; exact (CI.r hC_M (show kd 421 = 22 from rfl) (by decide) 12)
  have k2 : kd (v1).toNat = 18 := ((congrArg (fun z : Int => kd z.toNat) (show M 421 12 = v1 from e1)).symm.trans (CI.x hC_M (show kd 421 = 22 from rfl) 12 rfl (by decide)))
  refine jr.getf (i := 12) (x := v1) (v := .ref (v1.toNat)) rfl rfl (nlt rfl) rfl (nlt rfl) rfl rfl e1 rfl ?_
  obtain ⟨v3, e3⟩ : ∃ z_, M ((v1.toNat)) 7 = z_ := ⟨_, rfl⟩
  have b3 : 0 ≤ v3 ∧ v3 ≤ 597 := by rw [← e3]; exact (CI.r hC_M k2 (by decide) 7)
  have k4 : kd (v3).toNat = 33 := ((congrArg (fun z : Int => kd z.toNat) (show M ((v1.toNat)) 7 = v3 from e3)).symm.trans (CI.x hC_M k2 7 rfl (by decide)))
  refine jr.getf (i := 7) (x := v3) (v := .ref (v3.toNat)) rfl rfl (Nat.lt_trans (kx_18 k2).1 (by decide)) (kx_18 k2).2 (by decide) rfl rfl e3 (jval_mut rfl (kn_18_7 k2)) ?_
  refine jr_v rfl rfl (Or.inl rfl) rfl rfl (Nat.lt_trans (kx_33 k4).1 (by decide)) (kx_33 k4).2 ⟨rfl, Nat.le_of_ble_eq_true rfl, Nat.le_of_ble_eq_true rfl⟩ rfl (jc.deep (c_Packet_isThere hC_M k4 (fun r5 z5 w5_0 => ?_)) (Nat.le_of_ble_eq_true rfl))
  obtain ⟨v6, e6⟩ : ∃ z_, M ((v3.toNat)) 1 = z_ := ⟨_, rfl⟩
  have b6 : (-1) ≤ v6 ∧ v6 ≤ 400 := by rw [← e6]; exact (CI.r hC_M k4 (by decide) 1)
  refine jr.if_ne rfl rfl (by first | (refine rgb (by assumption) ?_; exact rfl) | omega) (fun h10 => ?_) (fun h10 => ?_)
  · have sx10 : (1 : Int) ≤ r5 := by omega
    clear h10
    refine jr.aload_n rfl rfl ?_
    have k7 : kd (v1).toNat = 18 := ((congrArg (fun z : Int => kd z.toNat) (show M 421 12 = v1 from e1)).symm.trans (CI.x hC_M (show kd 421 = 22 from rfl) 12 rfl (by decide)))
    refine jr.getf (i := 12) (x := v1) (v := .ref (v1.toNat)) rfl rfl (nlt rfl) rfl (nlt rfl) rfl rfl e1 rfl ?_
    have k8 : kd (v3).toNat = 33 := ((congrArg (fun z : Int => kd z.toNat) (show M ((v1.toNat)) 7 = v3 from e3)).symm.trans (CI.x hC_M k7 7 rfl (by decide)))
    refine jr.getf (i := 7) (x := v3) (v := .ref (v3.toNat)) rfl rfl (Nat.lt_trans (kx_18 k7).1 (by decide)) (kx_18 k7).2 (by decide) rfl rfl e3 (jval_mut rfl (kn_18_7 k7)) ?_
    refine jr.lload_n rfl rfl ?_
    refine jr_v rfl rfl (Or.inl rfl) rfl rfl (Nat.lt_trans (kx_33 k8).1 (by decide)) (kx_33 k8).2 ⟨rfl, Nat.le_of_ble_eq_true rfl, Nat.le_of_ble_eq_true rfl⟩ rfl (jc.deep (c_Packet_hasByte hC_M k8 (by omega) (fun r9 z9 w9_0 => ?_)) (Nat.le_of_ble_eq_true rfl))
    refine jr.if_ne rfl rfl (by first | (refine rgb (by assumption) ?_; exact rfl) | omega) (fun h32 => ?_) (fun h32 => ?_)
    · have sx32 : (1 : Int) ≤ r9 := by omega
      clear h32
      refine jr.aload_n rfl rfl ?_
      refine jr.aload_n rfl rfl ?_
      have k10 : kd (v1).toNat = 18 := ((congrArg (fun z : Int => kd z.toNat) (show M 421 12 = v1 from e1)).symm.trans (CI.x hC_M (show kd 421 = 22 from rfl) 12 rfl (by decide)))
      refine jr.getf (i := 12) (x := v1) (v := .ref (v1.toNat)) rfl rfl (nlt rfl) rfl (nlt rfl) rfl rfl e1 rfl ?_
      have k11 : kd (v3).toNat = 33 := ((congrArg (fun z : Int => kd z.toNat) (show M ((v1.toNat)) 7 = v3 from e3)).symm.trans (CI.x hC_M k10 7 rfl (by decide)))
      refine jr.getf (i := 7) (x := v3) (v := .ref (v3.toNat)) rfl rfl (Nat.lt_trans (kx_18 k10).1 (by decide)) (kx_18 k10).2 (by decide) rfl rfl e3 (jval_mut rfl (kn_18_7 k10)) ?_
      refine jr.lload_n rfl rfl ?_
      refine jr.l2i rfl ?_
      refine jr_v rfl rfl (Or.inl rfl) rfl rfl (Nat.lt_trans (kx_33 k11).1 (by decide)) (kx_33 k11).2 ⟨rfl, Nat.le_of_ble_eq_true rfl, Nat.le_of_ble_eq_true rfl⟩ rfl (jc.deep (c_Packet_byteAt hC_M k11 (by omega) (fun r12 z12  => ?_)) (Nat.le_of_ble_eq_true rfl))
      refine jr.i2l rfl (by omega) ?_
      refine jr_v rfl rfl (Or.inl rfl) rfl rfl (nlt rfl) rfl ⟨rfl, Nat.le_of_ble_eq_true rfl, Nat.le_of_ble_eq_true rfl⟩ rfl (jc.deep (c_Machine_push hC_M (FR.rfl _ M) (by omega) (fun M13 hC_M13 hf_M13  => ?_)) (Nat.le_of_ble_eq_true rfl))
      have ht_M13 : FR W_c_Machine_askByte T M13 := FR.t ht_M hf_M13 (kw_sub rfl)
      exact jr.vreturn rfl rfl (q _ hC_M13 ht_M13  )
    · refine jr.aload_n rfl rfl ?_
      refine jr.iconst rfl ?_
      refine jr_v rfl rfl (Or.inl rfl) rfl rfl (nlt rfl) rfl ⟨rfl, Nat.le_of_ble_eq_true rfl, Nat.le_of_ble_eq_true rfl⟩ rfl (jc.deep (c_Machine_fail hC_M (FR.rfl _ M) (by omega) (fun M14 hC_M14 hf_M14  => ?_)) (Nat.le_of_ble_eq_true rfl))
      have ht_M14 : FR W_c_Machine_askByte T M14 := FR.t ht_M hf_M14 (kw_sub rfl)
      refine jr.goto rfl rfl ?_
      exact jr.vreturn rfl rfl (q _ hC_M14 ht_M14  )
  · refine jr.aload_n rfl rfl ?_
    refine jr.iconst rfl ?_
    refine jr_v rfl rfl (Or.inl rfl) rfl rfl (nlt rfl) rfl ⟨rfl, Nat.le_of_ble_eq_true rfl, Nat.le_of_ble_eq_true rfl⟩ rfl (jc.deep (c_Machine_fail hC_M (FR.rfl _ M) (by omega) (fun M15 hC_M15 hf_M15  => ?_)) (Nat.le_of_ble_eq_true rfl))
    have ht_M15 : FR W_c_Machine_askByte T M15 := FR.t ht_M hf_M15 (kw_sub rfl)
    refine jr.goto rfl rfl ?_
    exact jr.vreturn rfl rfl (q _ hC_M15 ht_M15  )
noncomputable def W_c_Machine_askLong : List (Nat × Nat) := [(22, 4), (22, 9), (24, 1000), (26, 1000)]
theorem c_Machine_askLong {A : Nat → Option (Nat × (Nat → Int32))} {Q : Option Value → jm → Prop} {T : jm} {M : jm} (hC_M : CI M) (ht_M : FR W_c_Machine_askLong T M) {x : Int} (h_x : (-9223372036854775808) ≤ x ∧ x ≤ 9223372036854775807) (q : ∀ (M' : jm), CI M' → FR W_c_Machine_askLong T M' → Q none M') : jc A 3 162 [.ref (421), .long (Int64.ofInt (x))] M Q := by
  refine jc_of (m := xm_162) rfl (Nat.le_of_ble_eq_true rfl) rfl ?_
  refine jr.aload_n rfl rfl ?_
  refine jr.lload_n rfl rfl ?_
  refine jr_v rfl rfl (Or.inl rfl) rfl rfl (nlt rfl) rfl ⟨rfl, Nat.le_of_ble_eq_true rfl, Nat.le_of_ble_eq_true rfl⟩ rfl (jc.deep (c_Machine_isRow hC_M (FR.rfl _ M) (by omega) (fun r1 M1 hC_M1 hf_M1 z1 w1_0 => ?_)) (Nat.le_of_ble_eq_true rfl))
  have ht_M1 : FR W_c_Machine_askLong T M1 := FR.t ht_M hf_M1 (kw_sub rfl)
  refine jr.if_eq rfl rfl (by first | (refine rgb (by assumption) ?_; exact rfl) | omega) (fun h5 => ?_) (fun h5 => ?_)
  · exact jr.vreturn rfl rfl (q _ hC_M1 ht_M1  )
  · have sx5 : (1 : Int) ≤ r1 := by omega
    clear h5
    refine jr.aload_n rfl rfl ?_
    refine jr.aload_n rfl rfl ?_
    refine jr.getf (i := 0) (v := .ref 422) rfl rfl (nlt rfl) rfl (nlt rfl) rfl rfl rfl rfl ?_
    refine jr.lload_n rfl rfl ?_
    refine jr.l2i rfl ?_
    have k2 := kxe_25 (a := 422) rfl (i := x) (by omega) (by omega)
    refine jr.aald (c := (xe 422 x)) rfl (by decide) rfl (by decide) (by decide) rfl (by decide) (by omega) (by omega) k2.1 ?_
    obtain ⟨v3, e3⟩ : ∃ z_, M ((xe 422 x)) 1 = z_ := ⟨_, rfl⟩
    have b3 : 0 ≤ v3 ∧ v3 ≤ 40 := by rw [← e3]; exact (CI.r hC_M k2.2 (by decide) 1)
    have e4 : M1 ((xe 422 x)) 1 = v3 := (hf_M1.g k2.2 rfl).trans e3
    refine jr.getf (i := 1) (x := v3) (v := .int (Int32.ofInt (v3))) rfl rfl (Nat.lt_trans (kx_52 k2.2).1 (by decide)) (kx_52 k2.2).2 (by decide) rfl rfl e4 rfl ?_
    refine jr.i2l rfl (by omega) ?_
    refine jr_v rfl rfl (Or.inl rfl) rfl rfl (nlt rfl) rfl ⟨rfl, Nat.le_of_ble_eq_true rfl, Nat.le_of_ble_eq_true rfl⟩ rfl (jc.deep (c_Machine_push hC_M1 (FR.rfl _ M1) (by omega) (fun M5 hC_M5 hf_M5  => ?_)) (Nat.le_of_ble_eq_true rfl))
    have ht_M5 : FR W_c_Machine_askLong T M5 := FR.t ht_M1 hf_M5 (kw_sub rfl)
    exact jr.vreturn rfl rfl (q _ hC_M5 ht_M5  )
noncomputable def W_c_Machine_askSet : List (Nat × Nat) := [(22, 4), (22, 9), (24, 1000), (26, 1000)]
theorem c_Machine_askSet {A : Nat → Option (Nat × (Nat → Int32))} {Q : Option Value → jm → Prop} {T : jm} {M : jm} (hC_M : CI M) (ht_M : FR W_c_Machine_askSet T M) {x : Int} (h_x : (-9223372036854775808) ≤ x ∧ x ≤ 9223372036854775807) {y : Int} (h_y : (-9223372036854775808) ≤ y ∧ y ≤ 9223372036854775807) (q : ∀ (M' : jm), CI M' → FR W_c_Machine_askSet T M' → Q none M') : jc A 3 163 [.ref (421), .long (Int64.ofInt (x)), .long (Int64.ofInt (y))] M Q := by
  refine jc_of (m := xm_163) rfl (Nat.le_of_ble_eq_true rfl) rfl ?_
  refine jr.lload_n rfl rfl ?_
  refine jr.iconst rfl ?_
  refine jr_s rfl rfl (Or.inl rfl) ⟨Nat.le_of_ble_eq_true rfl, Nat.le_of_ble_eq_true rfl⟩ rfl rfl (jc.deep (c_Machine_isNot hC_M (by omega) (by omega) (fun r1 z1 w1_0 => ?_)) (Nat.le_of_ble_eq_true rfl))
  refine jr.if_eq rfl rfl (by first | (refine rgb (by assumption) ?_; exact rfl) | omega) (fun h5 => ?_) (fun h5 => ?_)
  · refine jr.aload_n rfl rfl ?_
    refine jr.aload_n rfl rfl ?_
    refine jr.getf (i := 1) (v := .ref 423) rfl rfl (nlt rfl) rfl (nlt rfl) rfl rfl rfl rfl ?_
    refine jr.lload_n rfl rfl ?_
    refine jr.l2i rfl ?_
    refine jr.lload_n rfl rfl ?_
    refine jr_v rfl rfl (Or.inl rfl) rfl rfl (nlt rfl) rfl ⟨rfl, Nat.le_of_ble_eq_true rfl, Nat.le_of_ble_eq_true rfl⟩ rfl (jc.deep (c_Memory_knows hC_M (show kd 423 = 27 from rfl) (by omega) (by omega) (fun r2 z2  => ?_)) (Nat.le_of_ble_eq_true rfl))
    refine jr_v rfl rfl (Or.inl rfl) rfl rfl (nlt rfl) rfl ⟨rfl, Nat.le_of_ble_eq_true rfl, Nat.le_of_ble_eq_true rfl⟩ rfl (jc.deep (c_Machine_pushTruth hC_M (FR.rfl _ M) (by omega) (fun M3 hC_M3 hf_M3  => ?_)) (Nat.le_of_ble_eq_true rfl))
    have ht_M3 : FR W_c_Machine_askSet T M3 := FR.t ht_M hf_M3 (kw_sub rfl)
    exact jr.vreturn rfl rfl (q _ hC_M3 ht_M3  )
  · have sx5 : (1 : Int) ≤ r1 := by omega
    clear h5
    refine jr.aload_n rfl rfl ?_
    refine jr.iconst rfl ?_
    refine jr_v rfl rfl (Or.inl rfl) rfl rfl (nlt rfl) rfl ⟨rfl, Nat.le_of_ble_eq_true rfl, Nat.le_of_ble_eq_true rfl⟩ rfl (jc.deep (c_Machine_fail hC_M (FR.rfl _ M) (by omega) (fun M4 hC_M4 hf_M4  => ?_)) (Nat.le_of_ble_eq_true rfl))
    have ht_M4 : FR W_c_Machine_askSet T M4 := FR.t ht_M hf_M4 (kw_sub rfl)
    refine jr.goto rfl rfl ?_
    exact jr.vreturn rfl rfl (q _ hC_M4 ht_M4  )
noncomputable def W_c_Machine_askRow : List (Nat × Nat) := [(22, 4), (22, 9), (24, 1000), (26, 1000)]
theorem c_Machine_askRow {A : Nat → Option (Nat × (Nat → Int32))} {Q : Option Value → jm → Prop} {T : jm} {M : jm} (hC_M : CI M) (ht_M : FR W_c_Machine_askRow T M) {x : Int} (h_x : (-9223372036854775808) ≤ x ∧ x ≤ 9223372036854775807) {y : Int} (h_y : (-9223372036854775808) ≤ y ∧ y ≤ 9223372036854775807) (q : ∀ (M' : jm), CI M' → FR W_c_Machine_askRow T M' → Q none M') : jc A 4 164 [.ref (421), .long (Int64.ofInt (x)), .long (Int64.ofInt (y))] M Q := by
  refine jc_of (m := xm_164) rfl (Nat.le_of_ble_eq_true rfl) rfl ?_
  refine jr.aload_n rfl rfl ?_
  refine jr.lload_n rfl rfl ?_
  refine jr.lload_n rfl rfl ?_
  refine jr_v rfl rfl (Or.inl rfl) rfl rfl (nlt rfl) rfl ⟨rfl, Nat.le_of_ble_eq_true rfl, Nat.le_of_ble_eq_true rfl⟩ rfl (jc.deep (c_Machine_isItemOfNumbers hC_M (FR.rfl _ M) (by omega) (by omega) (fun r1 M1 hC_M1 hf_M1 z1 w1_0 => ?_)) (Nat.le_of_ble_eq_true rfl))
  have ht_M1 : FR W_c_Machine_askRow T M1 := FR.t ht_M hf_M1 (kw_sub rfl)
  refine jr.if_eq rfl rfl (by first | (refine rgb (by assumption) ?_; exact rfl) | omega) (fun h6 => ?_) (fun h6 => ?_)
  · exact jr.vreturn rfl rfl (q _ hC_M1 ht_M1  )
  · have sx6 : (1 : Int) ≤ r1 := by omega
    clear h6
    refine jr.aload_n rfl rfl ?_
    refine jr.aload_n rfl rfl ?_
    refine jr.getf (i := 0) (v := .ref 422) rfl rfl (nlt rfl) rfl (nlt rfl) rfl rfl rfl rfl ?_
    refine jr.lload_n rfl rfl ?_
    refine jr.l2i rfl ?_
    have k2 := kxe_25 (a := 422) rfl (i := x) (by omega) (by omega)
    refine jr.aald (c := (xe 422 x)) rfl (by decide) rfl (by decide) (by decide) rfl (by decide) (by omega) (by omega) k2.1 ?_
    have k3 := kf_52_2 k2.2
    refine jr.getf (i := 2) (v := .ref ((xe 422 x) + 1)) rfl rfl (Nat.lt_trans (kx_52 k2.2).1 (by decide)) (kx_52 k2.2).2 (by decide) rfl rfl rfl (jval_ref rfl k3.1) ?_
    refine jr.lload_n rfl rfl ?_
    refine jr.l2i rfl ?_
    obtain ⟨v4, e4⟩ : ∃ z_, M (((xe 422 x) + 1)) y = z_ := ⟨_, rfl⟩
    have b4 : (-9223372036854775808) ≤ v4 ∧ v4 ≤ 9223372036854775807 := by rw [← e4]; exact (CI.r hC_M k3.2 (by decide) y)
    have e5 : M1 (((xe 422 x) + 1)) y = v4 := (hf_M1.g k3.2 rfl).trans e4
    refine jr.lald (i := y) (x := v4) rfl (Nat.lt_trans (kx_54 k3.2).1 (by decide)) (kx_54 k3.2).2 (by decide) (by omega) (by omega) e5 ?_
    refine jr_v rfl rfl (Or.inl rfl) rfl rfl (nlt rfl) rfl ⟨rfl, Nat.le_of_ble_eq_true rfl, Nat.le_of_ble_eq_true rfl⟩ rfl (jc.deep (c_Machine_push hC_M1 (FR.rfl _ M1) (by omega) (fun M6 hC_M6 hf_M6  => ?_)) (Nat.le_of_ble_eq_true rfl))
    have ht_M6 : FR W_c_Machine_askRow T M6 := FR.t ht_M1 hf_M6 (kw_sub rfl)
    exact jr.vreturn rfl rfl (q _ hC_M6 ht_M6  )
noncomputable def W_c_Machine_skip : List (Nat × Nat) := [(22, 9), (22, 16), (26, 1000)]
theorem c_Machine_skip {A : Nat → Option (Nat × (Nat → Int32))} {Q : Option Value → jm → Prop} {T : jm} {M : jm} (hC_M : CI M) (ht_M : FR W_c_Machine_skip T M) {x : Int} (h_x : 0 ≤ x ∧ x ≤ 1) {y : Int} (h_y : (-2147483648) ≤ y ∧ y ≤ 2147483647) (q : ∀ (M' : jm), CI M' → FR W_c_Machine_skip T M' → Q none M') : jc A 3 170 [.ref (421), .int (Int32.ofInt (x)), .int (Int32.ofInt (y))] M Q := by
  refine jc_of (m := xm_170) rfl (Nat.le_of_ble_eq_true rfl) rfl ?_
  refine jr.iload_n rfl rfl ?_
  refine jr.if_eq rfl rfl (by first | (refine rgb (by assumption) ?_; exact rfl) | omega) (fun h1 => ?_) (fun h1 => ?_)
  · exact jr.vreturn rfl rfl (q _ hC_M ht_M  )
  · have sx1 : (1 : Int) ≤ x := by omega
    clear h1
    refine jr.aload_n rfl rfl ?_
    refine jr.aload_n rfl rfl ?_
    obtain ⟨v1, e1⟩ : ∃ z_, M 421 2 = z_ := ⟨_, rfl⟩
    have b1 : 0 ≤ v1 ∧ v1 ≤ 597 := by rw [← e1]; exact (CI.r hC_M (show kd 421 = 22 from rfl) (by decide) 2)
    have k2 : kd (v1).toNat = 47 := ((congrArg (fun z : Int => kd z.toNat) (show M 421 2 = v1 from e1)).symm.trans (CI.x hC_M (show kd 421 = 22 from rfl) 2 rfl (by decide)))
    refine jr.getf (i := 2) (x := v1) (v := .ref (v1.toNat)) rfl rfl (nlt rfl) rfl (nlt rfl) rfl rfl e1 rfl ?_
    refine jr.aload_n rfl rfl ?_
    obtain ⟨v3, e3⟩ : ∃ z_, M 421 16 = z_ := ⟨_, rfl⟩
    have b3 : (-2147483648) ≤ v3 ∧ v3 ≤ 2147483647 := by rw [← e3]; exact (CI.r hC_M (show kd 421 = 22 from rfl) (by decide) 16)
    refine jr.getf (i := 16) (x := v3) (v := .int (Int32.ofInt (v3))) rfl rfl (nlt rfl) rfl (nlt rfl) rfl rfl e3 rfl ?_
    refine jr.iconst rfl ?_
    refine jr.isub rfl ?_
    refine jr.iw (j_w (v3 - 1)) (j_w_eq _) ?_
    have b4 : -2147483648 ≤ j_w (v3 - 1) ∧ j_w (v3 - 1) ≤ 2147483647 := jb_any _
    generalize j_w (v3 - 1) = v4 at b4 ⊢
    refine jr_v rfl rfl (Or.inl rfl) rfl rfl (Nat.lt_trans (kx_47 k2).1 (by decide)) (kx_47 k2).2 ⟨rfl, Nat.le_of_ble_eq_true rfl, Nat.le_of_ble_eq_true rfl⟩ rfl (jc.deep (c_Program_opAt hC_M k2 (by omega) (fun r5 z5 w5_0 w5_1 => ?_)) (Nat.le_of_ble_eq_true rfl))
    refine jr.sipush rfl (by decide) ?_
    refine jr.icmp_ne rfl rfl (by first | (refine rgb (by assumption) ?_; exact rfl) | omega) (rgl rfl) (fun h21 => ?_) (fun h21 => ?_)
    · refine jr.iconst rfl ?_
      refine jr_v rfl rfl (Or.inl rfl) rfl rfl (nlt rfl) rfl ⟨rfl, Nat.le_of_ble_eq_true rfl, Nat.le_of_ble_eq_true rfl⟩ rfl (jc.deep (c_Machine_pushTruth hC_M (FR.rfl _ M) (by omega) (fun M6 hC_M6 hf_M6  => ?_)) (Nat.le_of_ble_eq_true rfl))
      have ht_M6 : FR W_c_Machine_skip T M6 := FR.t ht_M hf_M6 (kw_sub rfl)
      refine jr.aload_n rfl rfl ?_
      refine jr.iload_n rfl rfl ?_
      refine jr.putf (i := 16) (x := y) rfl rfl (nlt rfl) rfl (nlt rfl) rfl rfl rfl rfl rfl ?_
      exact jr.vreturn rfl rfl (q _ (CI.u hC_M6 (i := 16) (show kd 421 = 22 from rfl) (show (-2147483648 : Int) ≤ _ ∧ _ ≤ (2147483647 : Int) from by omega) rfl) (FR.o ht_M6 (show kd 421 = 22 from rfl) rfl)  )
    · refine jr.iconst rfl ?_
      refine jr.goto rfl rfl ?_
      refine jr_v rfl rfl (Or.inl rfl) rfl rfl (nlt rfl) rfl ⟨rfl, Nat.le_of_ble_eq_true rfl, Nat.le_of_ble_eq_true rfl⟩ rfl (jc.deep (c_Machine_pushTruth hC_M (FR.rfl _ M) (by omega) (fun M7 hC_M7 hf_M7  => ?_)) (Nat.le_of_ble_eq_true rfl))
      have ht_M7 : FR W_c_Machine_skip T M7 := FR.t ht_M hf_M7 (kw_sub rfl)
      refine jr.aload_n rfl rfl ?_
      refine jr.iload_n rfl rfl ?_
      refine jr.putf (i := 16) (x := y) rfl rfl (nlt rfl) rfl (nlt rfl) rfl rfl rfl rfl rfl ?_
      exact jr.vreturn rfl rfl (q _ (CI.u hC_M7 (i := 16) (show kd 421 = 22 from rfl) (show (-2147483648 : Int) ≤ _ ∧ _ ≤ (2147483647 : Int) from by omega) rfl) (FR.o ht_M7 (show kd 421 = 22 from rfl) rfl)  )
noncomputable def W_c_Machine_setLabel : List (Nat × Nat) := [(22, 4), (24, 1000), (27, 6)]
theorem c_Machine_setLabel {A : Nat → Option (Nat × (Nat → Int32))} {Q : Option Value → jm → Prop} {T : jm} {M : jm} (hC_M : CI M) (ht_M : FR W_c_Machine_setLabel T M) (q : ∀ (M' : jm), CI M' → FR W_c_Machine_setLabel T M' → Q none M') : jc A 2 174 [.ref (421)] M Q := by
  refine jc_of (m := xm_174) rfl (Nat.le_of_ble_eq_true rfl) rfl ?_
  refine jr.aload_n rfl rfl ?_
  obtain ⟨v1, e1⟩ : ∃ z_, M 421 12 = z_ := ⟨_, rfl⟩
  have b1 : 0 ≤ v1 ∧ v1 ≤ 597 := by rw [← e1]; exact (CI.r hC_M (show kd 421 = 22 from rfl) (by decide) 12)
  have k2 : kd (v1).toNat = 18 := ((congrArg (fun z : Int => kd z.toNat) (show M 421 12 = v1 from e1)).symm.trans (CI.x hC_M (show kd 421 = 22 from rfl) 12 rfl (by decide)))
  refine jr.getf (i := 12) (x := v1) (v := .ref (v1.toNat)) rfl rfl (nlt rfl) rfl (nlt rfl) rfl rfl e1 rfl ?_
  obtain ⟨v3, e3⟩ : ∃ z_, M ((v1.toNat)) 7 = z_ := ⟨_, rfl⟩
  have b3 : 0 ≤ v3 ∧ v3 ≤ 597 := by rw [← e3]; exact (CI.r hC_M k2 (by decide) 7)
  have k4 : kd (v3).toNat = 33 := ((congrArg (fun z : Int => kd z.toNat) (show M ((v1.toNat)) 7 = v3 from e3)).symm.trans (CI.x hC_M k2 7 rfl (by decide)))
  refine jr.getf (i := 7) (x := v3) (v := .ref (v3.toNat)) rfl rfl (Nat.lt_trans (kx_18 k2).1 (by decide)) (kx_18 k2).2 (by decide) rfl rfl e3 (jval_mut rfl (kn_18_7 k2)) ?_
  refine jr_v rfl rfl (Or.inl rfl) rfl rfl (Nat.lt_trans (kx_33 k4).1 (by decide)) (kx_33 k4).2 ⟨rfl, Nat.le_of_ble_eq_true rfl, Nat.le_of_ble_eq_true rfl⟩ rfl (jc.deep (c_Packet_isThere hC_M k4 (fun r5 z5 w5_0 => ?_)) (Nat.le_of_ble_eq_true rfl))
  obtain ⟨v6, e6⟩ : ∃ z_, M ((v3.toNat)) 1 = z_ := ⟨_, rfl⟩
  have b6 : (-1) ≤ v6 ∧ v6 ≤ 400 := by rw [← e6]; exact (CI.r hC_M k4 (by decide) 1)
  refine jr.if_eq rfl rfl (by first | (refine rgb (by assumption) ?_; exact rfl) | omega) (fun h10 => ?_) (fun h10 => ?_)
  · refine jr.aload_n rfl rfl ?_
    refine jr.iconst rfl ?_
    refine jr_v rfl rfl (Or.inl rfl) rfl rfl (nlt rfl) rfl ⟨rfl, Nat.le_of_ble_eq_true rfl, Nat.le_of_ble_eq_true rfl⟩ rfl (jc.deep (c_Machine_fail hC_M (FR.rfl _ M) (by omega) (fun M7 hC_M7 hf_M7  => ?_)) (Nat.le_of_ble_eq_true rfl))
    have ht_M7 : FR W_c_Machine_setLabel T M7 := FR.t ht_M hf_M7 (kw_sub rfl)
    exact jr.vreturn rfl rfl (q _ hC_M7 ht_M7  )
  · have sx10 : (1 : Int) ≤ r5 := by omega
    clear h10
    refine jr.aload_n rfl rfl ?_
    refine jr.getf (i := 1) (v := .ref 423) rfl rfl (nlt rfl) rfl (nlt rfl) rfl rfl rfl rfl ?_
    refine jr.aload_n rfl rfl ?_
    refine jr.getf (i := 8) (v := .ref 435) rfl rfl (nlt rfl) rfl (nlt rfl) rfl rfl rfl rfl ?_
    refine jr.iconst rfl ?_
    obtain ⟨v8, e8⟩ : ∃ z_, M 435 0 = z_ := ⟨_, rfl⟩
    have b8 : (-9223372036854775808) ≤ v8 ∧ v8 ≤ 9223372036854775807 := by rw [← e8]; exact (CI.r hC_M (show kd 435 = 26 from rfl) (by decide) 0)
    refine jr.lald (i := 0) (x := v8) rfl (nlt rfl) rfl (Nat.le_of_ble_eq_true rfl) (by omega) (by omega) e8 ?_
    refine jr.putf (i := 6) (x := v8) rfl rfl (nlt rfl) rfl (nlt rfl) rfl rfl rfl rfl rfl ?_
    refine jr.goto rfl rfl ?_
    exact jr.vreturn rfl rfl (q _ (CI.u hC_M (i := 6) (show kd 423 = 27 from rfl) (show (-9223372036854775808 : Int) ≤ _ ∧ _ ≤ (9223372036854775807 : Int) from by omega) rfl) (FR.o ht_M (show kd 423 = 27 from rfl) rfl)  )
noncomputable def W_c_Row_putItem : List (Nat × Nat) := [(54, 1000)]
theorem c_Row_putItem {A : Nat → Option (Nat × (Nat → Int32))} {Q : Option Value → jm → Prop} {T : jm} {M : jm} (hC_M : CI M) (ht_M : FR W_c_Row_putItem T M) {t : Nat} (k_t : kd t = 52) {x : Int} (h_x : (-2147483648) ≤ x ∧ x ≤ 2147483647) {y : Int} (h_y : (-9223372036854775808) ≤ y ∧ y ≤ 9223372036854775807) (q : ∀ (M' : jm), CI M' → FR W_c_Row_putItem T M' → Q none M') : jc A 2 237 [.ref (t), .int (Int32.ofInt (x)), .long (Int64.ofInt (y))] M Q := by
  refine jc_of (m := xm_237) rfl (Nat.le_of_ble_eq_true rfl) rfl ?_
  refine jr.aload_n rfl rfl ?_
  refine jr.iload_n rfl rfl ?_
  refine jr.i2l rfl (by omega) ?_
  refine jr_v rfl rfl (Or.inl rfl) rfl rfl (Nat.lt_trans (kx_52 k_t).1 (by decide)) (kx_52 k_t).2 ⟨rfl, Nat.le_of_ble_eq_true rfl, Nat.le_of_ble_eq_true rfl⟩ rfl (jc.deep (c_Row_hasItem hC_M k_t (by omega) (fun r1 z1 w1_0 => ?_)) (Nat.le_of_ble_eq_true rfl))
  refine jr.if_ne rfl rfl (by first | (refine rgb (by assumption) ?_; exact rfl) | omega) (fun h6 => ?_) (fun h6 => ?_)
  · have sx6 : (1 : Int) ≤ r1 := by omega
    clear h6
    refine jr.aload_n rfl rfl ?_
    obtain ⟨v2, e2⟩ : ∃ z_, M t 0 = z_ := ⟨_, rfl⟩
    have b2 : (-2147483648) ≤ v2 ∧ v2 ≤ 2147483647 := by rw [← e2]; exact (CI.r hC_M k_t (by decide) 0)
    refine jr.getf (i := 0) (x := v2) (v := .int (Int32.ofInt (v2))) rfl rfl (Nat.lt_trans (kx_52 k_t).1 (by decide)) (kx_52 k_t).2 (by decide) rfl rfl e2 rfl ?_
    rcases (show v2 = 0 ∨ v2 = 1 ∨ v2 = 2 ∨ v2 = 3 ∨ (v2 ≠ 0 ∧ v2 ≠ 1 ∧ v2 ≠ 2 ∧ v2 ≠ 3) by omega) with h14 | h14 | h14 | h14 | h14
    · refine jr.tsw_k 0 rfl h14 rfl ?_
      refine jr.aload_n rfl rfl ?_
      have k3 := kf_52_2 k_t
      refine jr.getf (i := 2) (v := .ref (t + 1)) rfl rfl (Nat.lt_trans (kx_52 k_t).1 (by decide)) (kx_52 k_t).2 (by decide) rfl rfl rfl (jval_ref rfl k3.1) ?_
      refine jr.iload_n rfl rfl ?_
      refine jr.lload_n rfl rfl ?_
      refine jr.l2i rfl ?_
      refine jr.iw (j_w y) (j_w_eq _) ?_
      have b4 : -2147483648 ≤ j_w y ∧ j_w y ≤ 2147483647 := jb_any _
      generalize j_w y = v4 at b4 ⊢
      refine jr.i2b rfl ?_
      have b5 : -2147483648 ≤ j_b v4 ∧ j_b v4 ≤ 2147483647 := jb_any _
      generalize j_b v4 = v5 at b5 ⊢
      refine jr.i2l rfl (by omega) ?_
      refine jr.last (i := x) (x := v5) rfl (Nat.lt_trans (kx_54 k3.2).1 (by decide)) (kx_54 k3.2).2 (by decide) (by omega) (by omega) ?_
      refine jr.goto rfl rfl ?_
      exact jr.vreturn rfl rfl (q _ (CI.u hC_M (i := x) k3.2 (show (-9223372036854775808 : Int) ≤ _ ∧ _ ≤ (9223372036854775807 : Int) from by omega) rfl) (FR.o ht_M k3.2 rfl)  )
    · refine jr.tsw_k 1 rfl h14 rfl ?_
      refine jr.aload_n rfl rfl ?_
      have k6 := kf_52_2 k_t
      refine jr.getf (i := 2) (v := .ref (t + 1)) rfl rfl (Nat.lt_trans (kx_52 k_t).1 (by decide)) (kx_52 k_t).2 (by decide) rfl rfl rfl (jval_ref rfl k6.1) ?_
      refine jr.iload_n rfl rfl ?_
      refine jr.lload_n rfl rfl ?_
      refine jr.l2i rfl ?_
      refine jr.iw (j_w y) (j_w_eq _) ?_
      have b7 : -2147483648 ≤ j_w y ∧ j_w y ≤ 2147483647 := jb_any _
      generalize j_w y = v7 at b7 ⊢
      refine jr.i2s rfl ?_
      have b8 : -2147483648 ≤ j_s v7 ∧ j_s v7 ≤ 2147483647 := jb_any _
      generalize j_s v7 = v8 at b8 ⊢
      refine jr.i2l rfl (by omega) ?_
      refine jr.last (i := x) (x := v8) rfl (Nat.lt_trans (kx_54 k6.2).1 (by decide)) (kx_54 k6.2).2 (by decide) (by omega) (by omega) ?_
      refine jr.goto rfl rfl ?_
      exact jr.vreturn rfl rfl (q _ (CI.u hC_M (i := x) k6.2 (show (-9223372036854775808 : Int) ≤ _ ∧ _ ≤ (9223372036854775807 : Int) from by omega) rfl) (FR.o ht_M k6.2 rfl)  )
    · refine jr.tsw_k 2 rfl h14 rfl ?_
      refine jr.aload_n rfl rfl ?_
      have k9 := kf_52_2 k_t
      refine jr.getf (i := 2) (v := .ref (t + 1)) rfl rfl (Nat.lt_trans (kx_52 k_t).1 (by decide)) (kx_52 k_t).2 (by decide) rfl rfl rfl (jval_ref rfl k9.1) ?_
      refine jr.iload_n rfl rfl ?_
      refine jr.lload_n rfl rfl ?_
      refine jr.l2i rfl ?_
      refine jr.iw (j_w y) (j_w_eq _) ?_
      have b10 : -2147483648 ≤ j_w y ∧ j_w y ≤ 2147483647 := jb_any _
      generalize j_w y = v10 at b10 ⊢
      refine jr.i2c rfl ?_
      have b11 : -2147483648 ≤ j_c v10 ∧ j_c v10 ≤ 2147483647 := jb_any _
      generalize j_c v10 = v11 at b11 ⊢
      refine jr.i2l rfl (by omega) ?_
      refine jr.last (i := x) (x := v11) rfl (Nat.lt_trans (kx_54 k9.2).1 (by decide)) (kx_54 k9.2).2 (by decide) (by omega) (by omega) ?_
      refine jr.goto rfl rfl ?_
      exact jr.vreturn rfl rfl (q _ (CI.u hC_M (i := x) k9.2 (show (-9223372036854775808 : Int) ≤ _ ∧ _ ≤ (9223372036854775807 : Int) from by omega) rfl) (FR.o ht_M k9.2 rfl)  )
    · refine jr.tsw_k 3 rfl h14 rfl ?_
      refine jr.aload_n rfl rfl ?_
      have k12 := kf_52_2 k_t
      refine jr.getf (i := 2) (v := .ref (t + 1)) rfl rfl (Nat.lt_trans (kx_52 k_t).1 (by decide)) (kx_52 k_t).2 (by decide) rfl rfl rfl (jval_ref rfl k12.1) ?_
      refine jr.iload_n rfl rfl ?_
      refine jr.lload_n rfl rfl ?_
      refine jr.l2i rfl ?_
      refine jr.iw (j_w y) (j_w_eq _) ?_
      have b13 : -2147483648 ≤ j_w y ∧ j_w y ≤ 2147483647 := jb_any _
      generalize j_w y = v13 at b13 ⊢
      refine jr.i2l rfl (by omega) ?_
      refine jr.last (i := x) (x := v13) rfl (Nat.lt_trans (kx_54 k12.2).1 (by decide)) (kx_54 k12.2).2 (by decide) (by omega) (by omega) ?_
      refine jr.goto rfl rfl ?_
      exact jr.vreturn rfl rfl (q _ (CI.u hC_M (i := x) k12.2 (show (-9223372036854775808 : Int) ≤ _ ∧ _ ≤ (9223372036854775807 : Int) from by omega) rfl) (FR.o ht_M k12.2 rfl)  )
    · refine jr.tsw_d rfl (by omega) (by omega) rfl ?_
      refine jr.aload_n rfl rfl ?_
      have k14 := kf_52_2 k_t
      refine jr.getf (i := 2) (v := .ref (t + 1)) rfl rfl (Nat.lt_trans (kx_52 k_t).1 (by decide)) (kx_52 k_t).2 (by decide) rfl rfl rfl (jval_ref rfl k14.1) ?_
      refine jr.iload_n rfl rfl ?_
      refine jr.lload_n rfl rfl ?_
      refine jr.last (i := x) (x := y) rfl (Nat.lt_trans (kx_54 k14.2).1 (by decide)) (kx_54 k14.2).2 (by decide) (by omega) (by omega) ?_
      exact jr.vreturn rfl rfl (q _ (CI.u hC_M (i := x) k14.2 (show (-9223372036854775808 : Int) ≤ _ ∧ _ ≤ (9223372036854775807 : Int) from by omega) rfl) (FR.o ht_M k14.2 rfl)  )
  · exact jr.vreturn rfl rfl (q _ hC_M ht_M  )
theorem c_Row_isUnlike {A : Nat → Option (Nat × (Nat → Int32))} {Q : Option Value → jm → Prop} {M : jm} (hC_M : CI M) {t : Nat} (k_t : kd t = 52) {x : Nat} (k_x : kd x = 52) (q : ∀ (r : Int), 0 ≤ r ∧ r ≤ 1 → Q (some (.int (Int32.ofInt r))) M) : jc A 2 238 [.ref (t), .ref (x)] M Q := by
  refine jc_of (m := xm_238) rfl (Nat.le_of_ble_eq_true rfl) rfl ?_
  refine jr.aload_n rfl rfl ?_
  obtain ⟨v1, e1⟩ : ∃ z_, M t 0 = z_ := ⟨_, rfl⟩
  have b1 : (-2147483648) ≤ v1 ∧ v1 ≤ 2147483647 := by rw [← e1]; exact (CI.r hC_M k_t (by decide) 0)
  refine jr.getf (i := 0) (x := v1) (v := .int (Int32.ofInt (v1))) rfl rfl (Nat.lt_trans (kx_52 k_t).1 (by decide)) (kx_52 k_t).2 (by decide) rfl rfl e1 rfl ?_
  refine jr.aload_n rfl rfl ?_
  obtain ⟨v2, e2⟩ : ∃ z_, M x 0 = z_ := ⟨_, rfl⟩
  have b2 : (-2147483648) ≤ v2 ∧ v2 ≤ 2147483647 := by rw [← e2]; exact (CI.r hC_M k_x (by decide) 0)
  refine jr.getf (i := 0) (x := v2) (v := .int (Int32.ofInt (v2))) rfl rfl (Nat.lt_trans (kx_52 k_x).1 (by decide)) (kx_52 k_x).2 (by decide) rfl rfl e2 rfl ?_
  refine jr.icmp_eq rfl rfl (by first | (refine rgb (by assumption) ?_; exact rfl) | omega) (by first | (refine rgb (by assumption) ?_; exact rfl) | omega) (fun h8 => ?_) (fun h8 => ?_)
  · refine jr.iconst rfl ?_
    exact jr.ireturn rfl rfl rfl (q _ (by first | exact rgq rfl | omega) )
  · refine jr.aload_n rfl rfl ?_
    refine jr_v rfl rfl (Or.inl rfl) rfl rfl (Nat.lt_trans (kx_52 k_t).1 (by decide)) (kx_52 k_t).2 ⟨rfl, Nat.le_of_ble_eq_true rfl, Nat.le_of_ble_eq_true rfl⟩ rfl (jc.deep (c_Row_isOfHeaders hC_M k_t (fun r3 z3  => ?_)) (Nat.le_of_ble_eq_true rfl))
    refine jr.if_eq rfl rfl (by first | (refine rgb (by assumption) ?_; exact rfl) | omega) (fun h15 => ?_) (fun h15 => ?_)
    · refine jr.iconst rfl ?_
      refine jr.goto rfl rfl ?_
      exact jr.ireturn rfl rfl rfl (q _ (by first | exact rgq rfl | omega) )
    · have sx15 : (1 : Int) ≤ r3 := by omega
      clear h15
      refine jr.aload_n rfl rfl ?_
      refine jr_v rfl rfl (Or.inl rfl) rfl rfl (Nat.lt_trans (kx_52 k_x).1 (by decide)) (kx_52 k_x).2 ⟨rfl, Nat.le_of_ble_eq_true rfl, Nat.le_of_ble_eq_true rfl⟩ rfl (jc.deep (c_Row_isOfHeaders hC_M k_x (fun r4 z4  => ?_)) (Nat.le_of_ble_eq_true rfl))
      refine jr.if_ne rfl rfl (by first | (refine rgb (by assumption) ?_; exact rfl) | omega) (fun h22 => ?_) (fun h22 => ?_)
      · have sx22 : (1 : Int) ≤ r4 := by omega
        clear h22
        refine jr.iconst rfl ?_
        exact jr.ireturn rfl rfl rfl (q _ (by first | exact rgq rfl | omega) )
      · refine jr.iconst rfl ?_
        refine jr.goto rfl rfl ?_
        exact jr.ireturn rfl rfl rfl (q _ (by first | exact rgq rfl | omega) )
noncomputable def W_c_PacketWall_fillBucket : List (Nat × Nat) := [(28, 1000)]
theorem c_PacketWall_fillBucket {A : Nat → Option (Nat × (Nat → Int32))} {Q : Option Value → jm → Prop} {T : jm} {M : jm} (hC_M : CI M) (ht_M : FR W_c_PacketWall_fillBucket T M) {x : Int} (h_x : 0 ≤ x ∧ x ≤ 3) {y : Int} (h_y : (-2147483648) ≤ y ∧ y ≤ 2147483647) (q : ∀ (M' : jm), CI M' → FR W_c_PacketWall_fillBucket T M' → Q none M') : jc A 1 49 [.ref (0), .int (Int32.ofInt (x)), .int (Int32.ofInt (y))] M Q := by
  refine jc_of (m := xm_49) rfl (Nat.le_of_ble_eq_true rfl) rfl ?_
  refine jr.aload_n rfl rfl ?_
  refine jr.getf (i := 13) (v := .ref 524) rfl rfl (nlt rfl) rfl (nlt rfl) rfl rfl rfl rfl ?_
  refine jr.iload_n rfl rfl ?_
  obtain ⟨v1, e1⟩ : ∃ z_, M 524 x = z_ := ⟨_, rfl⟩
  have b1 : (-2147483648) ≤ v1 ∧ v1 ≤ 2147483647 := by rw [← e1]; exact (CI.r hC_M (show kd 524 = 36 from rfl) (by decide) x)
  refine jr.iald (i := x) (x := v1) rfl (nlt rfl) rfl (Nat.le_of_ble_eq_true rfl) (by omega) (by omega) e1 ?_
  refine jr.istore_n (ls' := [_, _, _, _]) rfl (nlt rfl) rfl ?_
  refine jr.iload_n rfl rfl ?_
  refine jr.iconst rfl ?_
  refine jr.icmp_ge rfl rfl (by first | (refine rgb (by assumption) ?_; exact rfl) | omega) (rgl rfl) (fun h9 => ?_) (fun h9 => ?_)
  · refine jr.aload_n rfl rfl ?_
    obtain ⟨v2, e2⟩ : ∃ z_, M 0 8 = z_ := ⟨_, rfl⟩
    have b2 : (-2147483648) ≤ v2 ∧ v2 ≤ 2147483647 := by rw [← e2]; exact (CI.r hC_M (show kd 0 = 35 from rfl) (by decide) 8)
    refine jr.getf (i := 8) (x := v2) (v := .int (Int32.ofInt (v2))) rfl rfl (nlt rfl) rfl (nlt rfl) rfl rfl e2 rfl ?_
    refine jr.aload_n rfl rfl ?_
    refine jr.getf (i := 14) (v := .ref 525) rfl rfl (nlt rfl) rfl (nlt rfl) rfl rfl rfl rfl ?_
    refine jr.iload_n rfl rfl ?_
    obtain ⟨v3, e3⟩ : ∃ z_, M 525 x = z_ := ⟨_, rfl⟩
    have b3 : (-2147483648) ≤ v3 ∧ v3 ≤ 2147483647 := by rw [← e3]; exact (CI.r hC_M (show kd 525 = 37 from rfl) (by decide) x)
    refine jr.iald (i := x) (x := v3) rfl (nlt rfl) rfl (Nat.le_of_ble_eq_true rfl) (by omega) (by omega) e3 ?_
    refine jr.isub rfl ?_
    refine jr.iw (j_w (v2 - v3)) (j_w_eq _) ?_
    have b4 : -2147483648 ≤ j_w (v2 - v3) ∧ j_w (v2 - v3) ≤ 2147483647 := jb_any _
    generalize j_w (v2 - v3) = v4 at b4 ⊢
    refine jr.iload_n rfl rfl ?_
    refine jr.idiv rfl (j_nz (by omega)) ?_
    have b5 : -2147483648 ≤ j_div v4 v1 ∧ j_div v4 v1 ≤ 2147483647 := jb_any _
    generalize j_div v4 v1 = v5 at b5 ⊢
    refine jr.iload_n rfl rfl ?_
    refine jr.aload_n rfl rfl ?_
    refine jr.getf (i := 14) (v := .ref 525) rfl rfl (nlt rfl) rfl (nlt rfl) rfl rfl rfl rfl ?_
    refine jr.iload_n rfl rfl ?_
    refine jr.iald (i := x) (x := v3) rfl (nlt rfl) rfl (Nat.le_of_ble_eq_true rfl) (by omega) (by omega) e3 ?_
    refine jr.isub rfl ?_
    refine jr.iw (j_w (y - v3)) (j_w_eq _) ?_
    have b6 : -2147483648 ≤ j_w (y - v3) ∧ j_w (y - v3) ≤ 2147483647 := jb_any _
    generalize j_w (y - v3) = v6 at b6 ⊢
    refine jr.iload_n rfl rfl ?_
    refine jr.idiv rfl (j_nz (by omega)) ?_
    have b7 : -2147483648 ≤ j_div v6 v1 ∧ j_div v6 v1 ≤ 2147483647 := jb_any _
    generalize j_div v6 v1 = v7 at b7 ⊢
    refine jr.isub rfl ?_
    refine jr.iw (j_w (v5 - v7)) (j_w_eq _) ?_
    have b8 : -2147483648 ≤ j_w (v5 - v7) ∧ j_w (v5 - v7) ≤ 2147483647 := jb_any _
    generalize j_w (v5 - v7) = v8 at b8 ⊢
    refine jr.istore (ls' := [_, _, _, _, _]) rfl (nlt rfl) rfl ?_
    refine jr.aload_n rfl rfl ?_
    refine jr.getf (i := 11) (v := .ref 421) rfl rfl (nlt rfl) rfl (nlt rfl) rfl rfl rfl rfl ?_
    refine jr.getf (i := 1) (v := .ref 423) rfl rfl (nlt rfl) rfl (nlt rfl) rfl rfl rfl rfl ?_
    refine jr.getf (i := 1) (v := .ref 425) rfl rfl (nlt rfl) rfl (nlt rfl) rfl rfl rfl rfl ?_
    refine jr.iload_n rfl rfl ?_
    refine jr.aload_n rfl rfl ?_
    refine jr.getf (i := 12) (v := .ref 523) rfl rfl (nlt rfl) rfl (nlt rfl) rfl rfl rfl rfl ?_
    refine jr.iload_n rfl rfl ?_
    obtain ⟨v9, e9⟩ : ∃ z_, M 523 x = z_ := ⟨_, rfl⟩
    have b9 : (-2147483648) ≤ v9 ∧ v9 ≤ 2147483647 := by rw [← e9]; exact (CI.r hC_M (show kd 523 = 38 from rfl) (by decide) x)
    refine jr.iald (i := x) (x := v9) rfl (nlt rfl) rfl (Nat.le_of_ble_eq_true rfl) (by omega) (by omega) e9 ?_
    refine jr.aload_n rfl rfl ?_
    refine jr.getf (i := 11) (v := .ref 421) rfl rfl (nlt rfl) rfl (nlt rfl) rfl rfl rfl rfl ?_
    refine jr.getf (i := 1) (v := .ref 423) rfl rfl (nlt rfl) rfl (nlt rfl) rfl rfl rfl rfl ?_
    refine jr.getf (i := 1) (v := .ref 425) rfl rfl (nlt rfl) rfl (nlt rfl) rfl rfl rfl rfl ?_
    refine jr.iload_n rfl rfl ?_
    obtain ⟨v10, e10⟩ : ∃ z_, M 425 x = z_ := ⟨_, rfl⟩
    have b10 : (-2147483648) ≤ v10 ∧ v10 ≤ 2147483647 := by rw [← e10]; exact (CI.r hC_M (show kd 425 = 28 from rfl) (by decide) x)
    refine jr.iald (i := x) (x := v10) rfl (nlt rfl) rfl (Nat.le_of_ble_eq_true rfl) (by omega) (by omega) e10 ?_
    refine jr.iload rfl rfl ?_
    refine jr.iadd rfl ?_
    refine jr.iw (j_w (v10 + v8)) (j_w_eq _) ?_
    have b11 : -2147483648 ≤ j_w (v10 + v8) ∧ j_w (v10 + v8) ≤ 2147483647 := jb_any _
    generalize j_w (v10 + v8) = v11 at b11 ⊢
    refine jr.imin rfl rfl (Nat.le_of_ble_eq_true rfl) (by omega) (by omega) ?_
    intro v12 d12 b12 c12
    refine jr.iast (i := x) (x := v12) rfl (nlt rfl) rfl (Nat.le_of_ble_eq_true rfl) (by omega) (by omega) ?_
    exact jr.vreturn rfl rfl (q _ (CI.u hC_M (i := x) (show kd 425 = 28 from rfl) (show (-2147483648 : Int) ≤ _ ∧ _ ≤ (2147483647 : Int) from by omega) rfl) (FR.o ht_M (show kd 425 = 28 from rfl) rfl)  )
  · exact jr.vreturn rfl rfl (q _ hC_M ht_M  )
noncomputable def W_c_Machine_divide : List (Nat × Nat) := [(22, 4), (22, 9), (24, 1000), (26, 1000)]
theorem c_Machine_divide {A : Nat → Option (Nat × (Nat → Int32))} {Q : Option Value → jm → Prop} {T : jm} {M : jm} (hC_M : CI M) (ht_M : FR W_c_Machine_divide T M) {x : Int} (h_x : (-2147483648) ≤ x ∧ x ≤ 2147483647) {y : Int} (h_y : (-9223372036854775808) ≤ y ∧ y ≤ 9223372036854775807) {z : Int} (h_z : (-9223372036854775808) ≤ z ∧ z ≤ 9223372036854775807) (q : ∀ (M' : jm), CI M' → FR W_c_Machine_divide T M' → Q none M') : jc A 2 172 [.ref (421), .int (Int32.ofInt (x)), .long (Int64.ofInt (y)), .long (Int64.ofInt (z))] M Q := by
  refine jc_of (m := xm_172) rfl (Nat.le_of_ble_eq_true rfl) rfl ?_
  refine jr.lload rfl rfl ?_
  refine jr.lconst (x := 0) rfl (by decide) ?_
  refine jr.lcmp_ne rfl rfl rfl (by omega) (by omega) (fun h3 => ?_) (fun h3 => ?_)
  · refine jr.aload_n rfl rfl ?_
    refine jr.iload_n rfl rfl ?_
    refine jr.bipush rfl (jbp _ (nlt rfl)) ?_
    refine jr.icmp_ne rfl rfl (by first | (refine rgb (by assumption) ?_; exact rfl) | omega) (rgl rfl) (fun h20 => ?_) (fun h20 => ?_)
    · refine jr.lload_n rfl rfl ?_
      refine jr.lload rfl rfl ?_
      refine jr.lrem rfl (jl_nz (by omega)) ?_
      have b1 : -9223372036854775808 ≤ jl_rem y z ∧ jl_rem y z ≤ 9223372036854775807 := jbl_any _
      generalize jl_rem y z = v1 at b1 ⊢
      refine jr_v rfl rfl (Or.inl rfl) rfl rfl (nlt rfl) rfl ⟨rfl, Nat.le_of_ble_eq_true rfl, Nat.le_of_ble_eq_true rfl⟩ rfl (jc.deep (c_Machine_push hC_M (FR.rfl _ M) (by omega) (fun M2 hC_M2 hf_M2  => ?_)) (Nat.le_of_ble_eq_true rfl))
      have ht_M2 : FR W_c_Machine_divide T M2 := FR.t ht_M hf_M2 (kw_sub rfl)
      exact jr.vreturn rfl rfl (q _ hC_M2 ht_M2  )
    · refine jr.lload_n rfl rfl ?_
      refine jr.lload rfl rfl ?_
      refine jr.ldiv rfl (jl_nz (by omega)) ?_
      have b3 : -9223372036854775808 ≤ jl_div y z ∧ jl_div y z ≤ 9223372036854775807 := jbl_any _
      generalize jl_div y z = v3 at b3 ⊢
      refine jr.goto rfl rfl ?_
      refine jr_v rfl rfl (Or.inl rfl) rfl rfl (nlt rfl) rfl ⟨rfl, Nat.le_of_ble_eq_true rfl, Nat.le_of_ble_eq_true rfl⟩ rfl (jc.deep (c_Machine_push hC_M (FR.rfl _ M) (by omega) (fun M4 hC_M4 hf_M4  => ?_)) (Nat.le_of_ble_eq_true rfl))
      have ht_M4 : FR W_c_Machine_divide T M4 := FR.t ht_M hf_M4 (kw_sub rfl)
      exact jr.vreturn rfl rfl (q _ hC_M4 ht_M4  )
  · refine jr.aload_n rfl rfl ?_
    refine jr.bipush rfl (jbp _ (nlt rfl)) ?_
    refine jr_v rfl rfl (Or.inl rfl) rfl rfl (nlt rfl) rfl ⟨rfl, Nat.le_of_ble_eq_true rfl, Nat.le_of_ble_eq_true rfl⟩ rfl (jc.deep (c_Machine_fail hC_M (FR.rfl _ M) (by omega) (fun M5 hC_M5 hf_M5  => ?_)) (Nat.le_of_ble_eq_true rfl))
    have ht_M5 : FR W_c_Machine_divide T M5 := FR.t ht_M hf_M5 (kw_sub rfl)
    refine jr.goto rfl rfl ?_
    exact jr.vreturn rfl rfl (q _ hC_M5 ht_M5  )
noncomputable def W_c_Machine_workBetween : List (Nat × Nat) := [(22, 4), (22, 9), (24, 1000), (26, 1000)]
theorem c_Machine_workBetween {A : Nat → Option (Nat × (Nat → Int32))} {Q : Option Value → jm → Prop} {T : jm} {M : jm} (hC_M : CI M) (ht_M : FR W_c_Machine_workBetween T M) {x : Int} (h_x : (-2147483648) ≤ x ∧ x ≤ 2147483647) {y : Int} (h_y : (-9223372036854775808) ≤ y ∧ y ≤ 9223372036854775807) {z : Int} (h_z : (-9223372036854775808) ≤ z ∧ z ≤ 9223372036854775807) (q : ∀ (M' : jm), CI M' → FR W_c_Machine_workBetween T M' → Q none M') : jc A 3 171 [.ref (421), .int (Int32.ofInt (x)), .long (Int64.ofInt (y)), .long (Int64.ofInt (z))] M Q := by
  refine jc_of (m := xm_171) rfl (Nat.le_of_ble_eq_true rfl) rfl ?_
  refine jr.iload_n rfl rfl ?_
  rcases (show x = 42 ∨ x = 43 ∨ x = 45 ∨ x = 60 ∨ x = 61 ∨ x = 62 ∨ (x ≠ 42 ∧ x ≠ 43 ∧ x ≠ 45 ∧ x ≠ 60 ∧ x ≠ 61 ∧ x ≠ 62) by omega) with h1 | h1 | h1 | h1 | h1 | h1 | h1
  · refine jr.lsw_k 42 rfl h1 rfl ?_
    refine jr.aload_n rfl rfl ?_
    refine jr.lload_n rfl rfl ?_
    refine jr.lload rfl rfl ?_
    refine jr.lmul rfl ?_
    refine jr.lw (jl_w (y * z)) (jl_w_eq _) ?_
    have b1 : -9223372036854775808 ≤ jl_w (y * z) ∧ jl_w (y * z) ≤ 9223372036854775807 := jbl_any _
    generalize jl_w (y * z) = v1 at b1 ⊢
    refine jr_v rfl rfl (Or.inl rfl) rfl rfl (nlt rfl) rfl ⟨rfl, Nat.le_of_ble_eq_true rfl, Nat.le_of_ble_eq_true rfl⟩ rfl (jc.deep (c_Machine_push hC_M (FR.rfl _ M) (by omega) (fun M2 hC_M2 hf_M2  => ?_)) (Nat.le_of_ble_eq_true rfl))
    have ht_M2 : FR W_c_Machine_workBetween T M2 := FR.t ht_M hf_M2 (kw_sub rfl)
    exact jr.vreturn rfl rfl (q _ hC_M2 ht_M2  )
  · refine jr.lsw_k 43 rfl h1 rfl ?_
    refine jr.aload_n rfl rfl ?_
    refine jr.lload_n rfl rfl ?_
    refine jr.lload rfl rfl ?_
    refine jr.ladd rfl ?_
    refine jr.lw (jl_w (y + z)) (jl_w_eq _) ?_
    have b3 : -9223372036854775808 ≤ jl_w (y + z) ∧ jl_w (y + z) ≤ 9223372036854775807 := jbl_any _
    generalize jl_w (y + z) = v3 at b3 ⊢
    refine jr_v rfl rfl (Or.inl rfl) rfl rfl (nlt rfl) rfl ⟨rfl, Nat.le_of_ble_eq_true rfl, Nat.le_of_ble_eq_true rfl⟩ rfl (jc.deep (c_Machine_push hC_M (FR.rfl _ M) (by omega) (fun M4 hC_M4 hf_M4  => ?_)) (Nat.le_of_ble_eq_true rfl))
    have ht_M4 : FR W_c_Machine_workBetween T M4 := FR.t ht_M hf_M4 (kw_sub rfl)
    exact jr.vreturn rfl rfl (q _ hC_M4 ht_M4  )
  · refine jr.lsw_k 45 rfl h1 rfl ?_
    refine jr.aload_n rfl rfl ?_
    refine jr.lload_n rfl rfl ?_
    refine jr.lload rfl rfl ?_
    refine jr.lsub rfl ?_
    refine jr.lw (jl_w (y - z)) (jl_w_eq _) ?_
    have b5 : -9223372036854775808 ≤ jl_w (y - z) ∧ jl_w (y - z) ≤ 9223372036854775807 := jbl_any _
    generalize jl_w (y - z) = v5 at b5 ⊢
    refine jr_v rfl rfl (Or.inl rfl) rfl rfl (nlt rfl) rfl ⟨rfl, Nat.le_of_ble_eq_true rfl, Nat.le_of_ble_eq_true rfl⟩ rfl (jc.deep (c_Machine_push hC_M (FR.rfl _ M) (by omega) (fun M6 hC_M6 hf_M6  => ?_)) (Nat.le_of_ble_eq_true rfl))
    have ht_M6 : FR W_c_Machine_workBetween T M6 := FR.t ht_M hf_M6 (kw_sub rfl)
    exact jr.vreturn rfl rfl (q _ hC_M6 ht_M6  )
  · refine jr.lsw_k 60 rfl h1 rfl ?_
    refine jr.aload_n rfl rfl ?_
    refine jr.lload_n rfl rfl ?_
    refine jr.lload rfl rfl ?_
    refine jr.lcmp_ge rfl rfl rfl (by omega) (by omega) (fun h108 => ?_) (fun h108 => ?_)
    · refine jr.iconst rfl ?_
      refine jr_v rfl rfl (Or.inl rfl) rfl rfl (nlt rfl) rfl ⟨rfl, Nat.le_of_ble_eq_true rfl, Nat.le_of_ble_eq_true rfl⟩ rfl (jc.deep (c_Machine_pushTruth hC_M (FR.rfl _ M) (by omega) (fun M7 hC_M7 hf_M7  => ?_)) (Nat.le_of_ble_eq_true rfl))
      have ht_M7 : FR W_c_Machine_workBetween T M7 := FR.t ht_M hf_M7 (kw_sub rfl)
      exact jr.vreturn rfl rfl (q _ hC_M7 ht_M7  )
    · refine jr.iconst rfl ?_
      refine jr.goto rfl rfl ?_
      refine jr_v rfl rfl (Or.inl rfl) rfl rfl (nlt rfl) rfl ⟨rfl, Nat.le_of_ble_eq_true rfl, Nat.le_of_ble_eq_true rfl⟩ rfl (jc.deep (c_Machine_pushTruth hC_M (FR.rfl _ M) (by omega) (fun M8 hC_M8 hf_M8  => ?_)) (Nat.le_of_ble_eq_true rfl))
      have ht_M8 : FR W_c_Machine_workBetween T M8 := FR.t ht_M hf_M8 (kw_sub rfl)
      exact jr.vreturn rfl rfl (q _ hC_M8 ht_M8  )
  · refine jr.lsw_k 61 rfl h1 rfl ?_
    refine jr.aload_n rfl rfl ?_
    refine jr.lload_n rfl rfl ?_
    refine jr.lload rfl rfl ?_
    refine jr.lcmp_ne rfl rfl rfl (by omega) (by omega) (fun h91 => ?_) (fun h91 => ?_)
    · refine jr.iconst rfl ?_
      refine jr_v rfl rfl (Or.inl rfl) rfl rfl (nlt rfl) rfl ⟨rfl, Nat.le_of_ble_eq_true rfl, Nat.le_of_ble_eq_true rfl⟩ rfl (jc.deep (c_Machine_pushTruth hC_M (FR.rfl _ M) (by omega) (fun M9 hC_M9 hf_M9  => ?_)) (Nat.le_of_ble_eq_true rfl))
      have ht_M9 : FR W_c_Machine_workBetween T M9 := FR.t ht_M hf_M9 (kw_sub rfl)
      exact jr.vreturn rfl rfl (q _ hC_M9 ht_M9  )
    · refine jr.iconst rfl ?_
      refine jr.goto rfl rfl ?_
      refine jr_v rfl rfl (Or.inl rfl) rfl rfl (nlt rfl) rfl ⟨rfl, Nat.le_of_ble_eq_true rfl, Nat.le_of_ble_eq_true rfl⟩ rfl (jc.deep (c_Machine_pushTruth hC_M (FR.rfl _ M) (by omega) (fun M10 hC_M10 hf_M10  => ?_)) (Nat.le_of_ble_eq_true rfl))
      have ht_M10 : FR W_c_Machine_workBetween T M10 := FR.t ht_M hf_M10 (kw_sub rfl)
      exact jr.vreturn rfl rfl (q _ hC_M10 ht_M10  )
  · refine jr.lsw_k 62 rfl h1 rfl ?_
    refine jr.aload_n rfl rfl ?_
    refine jr.lload_n rfl rfl ?_
    refine jr.lload rfl rfl ?_
    refine jr.lcmp_le rfl rfl rfl (by omega) (by omega) (fun h125 => ?_) (fun h125 => ?_)
    · refine jr.iconst rfl ?_
      refine jr_v rfl rfl (Or.inl rfl) rfl rfl (nlt rfl) rfl ⟨rfl, Nat.le_of_ble_eq_true rfl, Nat.le_of_ble_eq_true rfl⟩ rfl (jc.deep (c_Machine_pushTruth hC_M (FR.rfl _ M) (by omega) (fun M11 hC_M11 hf_M11  => ?_)) (Nat.le_of_ble_eq_true rfl))
      have ht_M11 : FR W_c_Machine_workBetween T M11 := FR.t ht_M hf_M11 (kw_sub rfl)
      exact jr.vreturn rfl rfl (q _ hC_M11 ht_M11  )
    · refine jr.iconst rfl ?_
      refine jr.goto rfl rfl ?_
      refine jr_v rfl rfl (Or.inl rfl) rfl rfl (nlt rfl) rfl ⟨rfl, Nat.le_of_ble_eq_true rfl, Nat.le_of_ble_eq_true rfl⟩ rfl (jc.deep (c_Machine_pushTruth hC_M (FR.rfl _ M) (by omega) (fun M12 hC_M12 hf_M12  => ?_)) (Nat.le_of_ble_eq_true rfl))
      have ht_M12 : FR W_c_Machine_workBetween T M12 := FR.t ht_M hf_M12 (kw_sub rfl)
      exact jr.vreturn rfl rfl (q _ hC_M12 ht_M12  )
  · refine jr.lsw_d rfl (by omega) rfl (fun q hq => by simp only [List.mem_cons, List.not_mem_nil, or_false] at hq; rcases hq with rfl | rfl | rfl | rfl | rfl | rfl <;> (simp only; omega)) rfl ?_
    refine jr.aload_n rfl rfl ?_
    refine jr.iload_n rfl rfl ?_
    refine jr.lload_n rfl rfl ?_
    refine jr.lload rfl rfl ?_
    refine jr_v rfl rfl (Or.inl rfl) rfl rfl (nlt rfl) rfl ⟨rfl, Nat.le_of_ble_eq_true rfl, Nat.le_of_ble_eq_true rfl⟩ rfl (jc.deep (c_Machine_divide hC_M (FR.rfl _ M) (by omega) (by omega) (by omega) (fun M13 hC_M13 hf_M13  => ?_)) (Nat.le_of_ble_eq_true rfl))
    have ht_M13 : FR W_c_Machine_workBetween T M13 := FR.t ht_M hf_M13 (kw_sub rfl)
    exact jr.vreturn rfl rfl (q _ hC_M13 ht_M13  )
noncomputable def W_c_Machine_note : List (Nat × Nat) := [(24, 1000)]
theorem c_Machine_note {A : Nat → Option (Nat × (Nat → Int32))} {Q : Option Value → jm → Prop} {T : jm} {M : jm} (hC_M : CI M) (ht_M : FR W_c_Machine_note T M) {x : Int} (h_x : (-2147483648) ≤ x ∧ x ≤ 2147483647) (q : ∀ (M' : jm), CI M' → FR W_c_Machine_note T M' → Q none M') : jc A 1 150 [.ref (421), .int (Int32.ofInt (x))] M Q := by
  refine jc_of (m := xm_150) rfl (Nat.le_of_ble_eq_true rfl) rfl ?_
  refine jr.aload_n rfl rfl ?_
  refine jr.getf (i := 10) (v := .ref 436) rfl rfl (nlt rfl) rfl (nlt rfl) rfl rfl rfl rfl ?_
  refine jr.iconst rfl ?_
  obtain ⟨v1, e1⟩ : ∃ z_, M 436 4 = z_ := ⟨_, rfl⟩
  have b1 : 0 ≤ v1 ∧ v1 ≤ 40 := by rw [← e1]; exact (CI.r hC_M (show kd 436 = 24 from rfl) (by decide) 4)
  refine jr.iald (i := 4) (x := v1) rfl (nlt rfl) rfl (Nat.le_of_ble_eq_true rfl) (by omega) (by omega) e1 ?_
  refine jr.istore_n (ls' := [_, _, _]) rfl (nlt rfl) rfl ?_
  refine jr.iload_n rfl rfl ?_
  refine jr.bipush rfl (jbp _ (nlt rfl)) ?_
  refine jr.icmp_ge rfl rfl (by first | (refine rgb (by assumption) ?_; exact rfl) | omega) (rgl rfl) (fun h10 => ?_) (fun h10 => ?_)
  · exact jr.vreturn rfl rfl (q _ hC_M ht_M  )
  · refine jr.aload_n rfl rfl ?_
    refine jr.getf (i := 10) (v := .ref 436) rfl rfl (nlt rfl) rfl (nlt rfl) rfl rfl rfl rfl ?_
    refine jr.bipush rfl (jbp _ (nlt rfl)) ?_
    refine jr.iload_n rfl rfl ?_
    refine jr.iadd rfl ?_
    refine jr.iload_n rfl rfl ?_
    refine jr.iast (i := (10 + v1)) (x := x) rfl (nlt rfl) rfl (Nat.le_of_ble_eq_true rfl) (by omega) (by omega) ?_
    refine jr.aload_n rfl rfl ?_
    refine jr.getf (i := 10) (v := .ref 436) rfl rfl (nlt rfl) rfl (nlt rfl) rfl rfl rfl rfl ?_
    refine jr.iconst rfl ?_
    refine jr.iload_n rfl rfl ?_
    refine jr.iconst rfl ?_
    refine jr.iadd rfl ?_
    refine jr.iast (i := 4) (x := (v1 + 1)) rfl (nlt rfl) rfl (Nat.le_of_ble_eq_true rfl) (by omega) (by omega) ?_
    exact jr.vreturn rfl rfl (q _ (CI.u (CI.u hC_M (i := (10 + v1)) (show kd 436 = 24 from rfl) (by rw [ci_rep (by omega) (by omega)]; exact ⟨by omega, by omega⟩) rfl) (i := 4) (show kd 436 = 24 from rfl) (show (0 : Int) ≤ _ ∧ _ ≤ (40 : Int) from by omega) rfl) (FR.o (FR.o ht_M (show kd 436 = 24 from rfl) rfl) (show kd 436 = 24 from rfl) rfl)  )
theorem c_Machine_reported {A : Nat → Option (Nat × (Nat → Int32))} {Q : Option Value → jm → Prop} {M : jm} (hC_M : CI M) {x : Int} (h_x : (-2147483648) ≤ x ∧ x ≤ 2147483647) (q : ∀ (r : Int), (-2147483648) ≤ r ∧ r ≤ 2147483647 → Q (some (.int (Int32.ofInt r))) M) : jc A 1 139 [.ref (421), .int (Int32.ofInt (x))] M Q := by
  refine jc_of (m := xm_139) rfl (Nat.le_of_ble_eq_true rfl) rfl ?_
  refine jr.aload_n rfl rfl ?_
  obtain ⟨v1, e1⟩ : ∃ z_, M 421 11 = z_ := ⟨_, rfl⟩
  have b1 : 0 ≤ v1 ∧ v1 ≤ 1 := by rw [← e1]; exact (CI.r hC_M (show kd 421 = 22 from rfl) (by decide) 11)
  refine jr.getf (i := 11) (x := v1) (v := .int (Int32.ofInt (v1))) rfl rfl (nlt rfl) rfl (nlt rfl) rfl rfl e1 rfl ?_
  refine jr.if_eq rfl rfl (by first | (refine rgb (by assumption) ?_; exact rfl) | omega) (fun h4 => ?_) (fun h4 => ?_)
  · refine jr.iconst rfl ?_
    exact jr.ireturn rfl rfl rfl (q _ (by first | exact rgq rfl | omega) )
  · have sx4 : (1 : Int) ≤ v1 := by omega
    clear h4
    refine jr.iload_n rfl rfl ?_
    refine jr.if_ge rfl rfl (by first | (refine rgb (by assumption) ?_; exact rfl) | omega) (fun h8 => ?_) (fun h8 => ?_)
    · refine jr.iload_n rfl rfl ?_
      refine jr.iconst rfl ?_
      refine jr.icmp_le rfl rfl (by first | (refine rgb (by assumption) ?_; exact rfl) | omega) (rgl rfl) (fun h15 => ?_) (fun h15 => ?_)
      · refine jr.iconst rfl ?_
        refine jr.goto rfl rfl ?_
        refine jr.istore_n (ls' := [_, _, _]) rfl (nlt rfl) rfl ?_
        refine jr.iload_n rfl rfl ?_
        refine jr.if_eq rfl rfl (by first | exact rgl rfl | omega) (fun h => absurd h (by decide)) (fun _ => ?_)
        refine jr.aload_n rfl rfl ?_
        refine jr.getf (i := 10) (v := .ref 436) rfl rfl (nlt rfl) rfl (nlt rfl) rfl rfl rfl rfl ?_
        refine jr.iload_n rfl rfl ?_
        obtain ⟨v2, e2⟩ : ∃ z_, M 436 x = z_ := ⟨_, rfl⟩
        have b2 : (-2147483648) ≤ v2 ∧ v2 ≤ 2147483647 := by rw [← e2]; exact (by have q := CI.r hC_M (show kd 436 = 24 from rfl) (by decide) x; have q2 := ci_rd x; omega)
        refine jr.iald (i := x) (x := v2) rfl (nlt rfl) rfl (Nat.le_of_ble_eq_true rfl) (by omega) (by omega) e2 ?_
        refine jr.goto rfl rfl ?_
        exact jr.ireturn rfl rfl rfl (q _ (by omega) )
      · refine jr.iload_n rfl rfl ?_
        refine jr.bipush rfl (jbp _ (nlt rfl)) ?_
        refine jr.icmp_lt rfl rfl (by first | (refine rgb (by assumption) ?_; exact rfl) | omega) (rgl rfl) (fun h21 => ?_) (fun h21 => ?_)
        · refine jr.iconst rfl ?_
          refine jr.istore_n (ls' := [_, _, _]) rfl (nlt rfl) rfl ?_
          refine jr.iload_n rfl rfl ?_
          refine jr.if_eq rfl rfl (by first | exact rgl rfl | omega) (fun _ => ?_) (fun h => absurd (by decide) h)
          refine jr.iconst rfl ?_
          exact jr.ireturn rfl rfl rfl (q _ (by first | exact rgq rfl | omega) )
        · refine jr.iload_n rfl rfl ?_
          refine jr.bipush rfl (jbp _ (nlt rfl)) ?_
          refine jr.aload_n rfl rfl ?_
          refine jr.getf (i := 10) (v := .ref 436) rfl rfl (nlt rfl) rfl (nlt rfl) rfl rfl rfl rfl ?_
          refine jr.iconst rfl ?_
          obtain ⟨v3, e3⟩ : ∃ z_, M 436 4 = z_ := ⟨_, rfl⟩
          have b3 : 0 ≤ v3 ∧ v3 ≤ 40 := by rw [← e3]; exact (CI.r hC_M (show kd 436 = 24 from rfl) (by decide) 4)
          refine jr.iald (i := 4) (x := v3) rfl (nlt rfl) rfl (Nat.le_of_ble_eq_true rfl) (by omega) (by omega) e3 ?_
          refine jr.iadd rfl ?_
          refine jr.icmp_ge rfl rfl (by first | (refine rgb (by assumption) ?_; exact rfl) | omega) (by first | (refine rgb (by assumption) ?_; exact rfl) | omega) (fun h34 => ?_) (fun h34 => ?_)
          · refine jr.iconst rfl ?_
            refine jr.istore_n (ls' := [_, _, _]) rfl (nlt rfl) rfl ?_
            refine jr.iload_n rfl rfl ?_
            refine jr.if_eq rfl rfl (by first | exact rgl rfl | omega) (fun _ => ?_) (fun h => absurd (by decide) h)
            refine jr.iconst rfl ?_
            exact jr.ireturn rfl rfl rfl (q _ (by first | exact rgq rfl | omega) )
          · refine jr.iconst rfl ?_
            refine jr.goto rfl rfl ?_
            refine jr.istore_n (ls' := [_, _, _]) rfl (nlt rfl) rfl ?_
            refine jr.iload_n rfl rfl ?_
            refine jr.if_eq rfl rfl (by first | exact rgl rfl | omega) (fun h => absurd h (by decide)) (fun _ => ?_)
            refine jr.aload_n rfl rfl ?_
            refine jr.getf (i := 10) (v := .ref 436) rfl rfl (nlt rfl) rfl (nlt rfl) rfl rfl rfl rfl ?_
            refine jr.iload_n rfl rfl ?_
            obtain ⟨v4, e4⟩ : ∃ z_, M 436 x = z_ := ⟨_, rfl⟩
            have b4 : (-2147483648) ≤ v4 ∧ v4 ≤ 2147483647 := by rw [← e4]; exact (by have q := CI.r hC_M (show kd 436 = 24 from rfl) (by decide) x; have q2 := ci_rd x; omega)
            refine jr.iald (i := x) (x := v4) rfl (nlt rfl) rfl (Nat.le_of_ble_eq_true rfl) (by omega) (by omega) e4 ?_
            refine jr.goto rfl rfl ?_
            exact jr.ireturn rfl rfl rfl (q _ (by omega) )
    · refine jr.iconst rfl ?_
      exact jr.ireturn rfl rfl rfl (q _ (by first | exact rgq rfl | omega) )
theorem c_Machine_chainNow {A : Nat → Option (Nat × (Nat → Int32))} {Q : Option Value → jm → Prop} {M : jm} (hC_M : CI M) (p0 : 1 ≤ M 421 7 ∧ M 421 7 ≤ 8) (q : ∀ (r : Int), 0 ≤ r ∧ r ≤ 15 → Q (some (.int (Int32.ofInt r))) M) : jc A 1 144 [.ref (421)] M Q := by
  refine jc_of (m := xm_144) rfl (Nat.le_of_ble_eq_true rfl) rfl ?_
  obtain ⟨v1, e1⟩ : ∃ z_, M 421 7 = z_ := ⟨_, rfl⟩
  have b1 : 0 ≤ v1 ∧ v1 ≤ 8 := by rw [← e1]; exact (CI.r hC_M (show kd 421 = 22 from rfl) (by decide) 7)
  have b2 : 1 ≤ v1 ∧ v1 ≤ 8 := by rw [← e1]; exact p0
  refine jr.aload_n rfl rfl ?_
  refine jr.getf (i := 6) (v := .ref 434) rfl rfl (nlt rfl) rfl (nlt rfl) rfl rfl rfl rfl ?_
  refine jr.aload_n rfl rfl ?_
  refine jr.getf (i := 7) (x := v1) (v := .int (Int32.ofInt (v1))) rfl rfl (nlt rfl) rfl (nlt rfl) rfl rfl e1 rfl ?_
  refine jr.iconst rfl ?_
  refine jr.isub rfl ?_
  have k3 := kxe_23 (a := 434) rfl (i := (v1 - 1)) (by omega) (by omega)
  refine jr.aald (c := (xe 434 (v1 - 1))) rfl (by decide) rfl (by decide) (by decide) rfl (by decide) (by omega) (by omega) k3.1 ?_
  obtain ⟨v4, e4⟩ : ∃ z_, M ((xe 434 (v1 - 1))) 0 = z_ := ⟨_, rfl⟩
  have b4 : 0 ≤ v4 ∧ v4 ≤ 15 := by rw [← e4]; exact (CI.r hC_M k3.2 (by decide) 0)
  refine jr.getf (i := 0) (x := v4) (v := .int (Int32.ofInt (v4))) rfl rfl (Nat.lt_trans (kx_14 k3.2).1 (by decide)) (kx_14 k3.2).2 (by decide) rfl rfl e4 rfl ?_
  exact jr.ireturn rfl rfl rfl (q _ (by omega) )
noncomputable def W_c_Machine_putItem : List (Nat × Nat) := [(22, 4), (24, 1000), (54, 1000)]
theorem c_Machine_putItem {A : Nat → Option (Nat × (Nat → Int32))} {Q : Option Value → jm → Prop} {T : jm} {M : jm} (hC_M : CI M) (ht_M : FR W_c_Machine_putItem T M) (q : ∀ (M' : jm), CI M' → FR W_c_Machine_putItem T M' → Q none M') : jc A 4 177 [.ref (421)] M Q := by
  refine jc_of (m := xm_177) rfl (Nat.le_of_ble_eq_true rfl) rfl ?_
  refine jr.aload_n rfl rfl ?_
  refine jr.aload_n rfl rfl ?_
  refine jr.getf (i := 8) (v := .ref 435) rfl rfl (nlt rfl) rfl (nlt rfl) rfl rfl rfl rfl ?_
  refine jr.iconst rfl ?_
  obtain ⟨v1, e1⟩ : ∃ z_, M 435 0 = z_ := ⟨_, rfl⟩
  have b1 : (-9223372036854775808) ≤ v1 ∧ v1 ≤ 9223372036854775807 := by rw [← e1]; exact (CI.r hC_M (show kd 435 = 26 from rfl) (by decide) 0)
  refine jr.lald (i := 0) (x := v1) rfl (nlt rfl) rfl (Nat.le_of_ble_eq_true rfl) (by omega) (by omega) e1 ?_
  refine jr.aload_n rfl rfl ?_
  refine jr.getf (i := 8) (v := .ref 435) rfl rfl (nlt rfl) rfl (nlt rfl) rfl rfl rfl rfl ?_
  refine jr.iconst rfl ?_
  obtain ⟨v2, e2⟩ : ∃ z_, M 435 1 = z_ := ⟨_, rfl⟩
  have b2 : (-9223372036854775808) ≤ v2 ∧ v2 ≤ 9223372036854775807 := by rw [← e2]; exact (CI.r hC_M (show kd 435 = 26 from rfl) (by decide) 1)
  refine jr.lald (i := 1) (x := v2) rfl (nlt rfl) rfl (Nat.le_of_ble_eq_true rfl) (by omega) (by omega) e2 ?_
  refine jr_v rfl rfl (Or.inl rfl) rfl rfl (nlt rfl) rfl ⟨rfl, Nat.le_of_ble_eq_true rfl, Nat.le_of_ble_eq_true rfl⟩ rfl (jc.deep (c_Machine_isItemOfNumbers hC_M (FR.rfl _ M) (by omega) (by omega) (fun r3 M3 hC_M3 hf_M3 z3 w3_0 => ?_)) (Nat.le_of_ble_eq_true rfl))
  have ht_M3 : FR W_c_Machine_putItem T M3 := FR.t ht_M hf_M3 (kw_sub rfl)
  refine jr.if_eq rfl rfl (by first | (refine rgb (by assumption) ?_; exact rfl) | omega) (fun h16 => ?_) (fun h16 => ?_)
  · exact jr.vreturn rfl rfl (q _ hC_M3 ht_M3  )
  · have sx16 : (1 : Int) ≤ r3 := by omega
    clear h16
    refine jr.aload_n rfl rfl ?_
    refine jr.getf (i := 0) (v := .ref 422) rfl rfl (nlt rfl) rfl (nlt rfl) rfl rfl rfl rfl ?_
    refine jr.aload_n rfl rfl ?_
    refine jr.getf (i := 8) (v := .ref 435) rfl rfl (nlt rfl) rfl (nlt rfl) rfl rfl rfl rfl ?_
    refine jr.iconst rfl ?_
    have e4 : M3 435 0 = v1 := (hf_M3.g (show kd 435 = 26 from rfl) rfl).trans e1
    refine jr.lald (i := 0) (x := v1) rfl (nlt rfl) rfl (Nat.le_of_ble_eq_true rfl) (by omega) (by omega) e4 ?_
    refine jr.l2i rfl ?_
    have k5 := kxe_25 (a := 422) rfl (i := v1) (by omega) (by omega)
    refine jr.aald (c := (xe 422 v1)) rfl (by decide) rfl (by decide) (by decide) rfl (by decide) (by omega) (by omega) k5.1 ?_
    refine jr.aload_n rfl rfl ?_
    refine jr.getf (i := 8) (v := .ref 435) rfl rfl (nlt rfl) rfl (nlt rfl) rfl rfl rfl rfl ?_
    refine jr.iconst rfl ?_
    have e6 : M3 435 1 = v2 := (hf_M3.g (show kd 435 = 26 from rfl) rfl).trans e2
    refine jr.lald (i := 1) (x := v2) rfl (nlt rfl) rfl (Nat.le_of_ble_eq_true rfl) (by omega) (by omega) e6 ?_
    refine jr.l2i rfl ?_
    refine jr.aload_n rfl rfl ?_
    refine jr.getf (i := 8) (v := .ref 435) rfl rfl (nlt rfl) rfl (nlt rfl) rfl rfl rfl rfl ?_
    refine jr.iconst rfl ?_
    obtain ⟨v7, e7⟩ : ∃ z_, M 435 2 = z_ := ⟨_, rfl⟩
    have b7 : (-9223372036854775808) ≤ v7 ∧ v7 ≤ 9223372036854775807 := by rw [← e7]; exact (CI.r hC_M (show kd 435 = 26 from rfl) (by decide) 2)
    have e8 : M3 435 2 = v7 := (hf_M3.g (show kd 435 = 26 from rfl) rfl).trans e7
    refine jr.lald (i := 2) (x := v7) rfl (nlt rfl) rfl (Nat.le_of_ble_eq_true rfl) (by omega) (by omega) e8 ?_
    refine jr_v rfl rfl (Or.inl rfl) rfl rfl (Nat.lt_trans (kx_52 k5.2).1 (by decide)) (kx_52 k5.2).2 ⟨rfl, Nat.le_of_ble_eq_true rfl, Nat.le_of_ble_eq_true rfl⟩ rfl (jc.deep (c_Row_putItem hC_M3 (FR.rfl _ M3) k5.2 (by omega) (by omega) (fun M9 hC_M9 hf_M9  => ?_)) (Nat.le_of_ble_eq_true rfl))
    have ht_M9 : FR W_c_Machine_putItem T M9 := FR.t ht_M3 hf_M9 (kw_sub rfl)
    exact jr.vreturn rfl rfl (q _ hC_M9 ht_M9  )
noncomputable def W_c_Memory_addToLog : List (Nat × Nat) := [(27, 5), (30, 1000)]
theorem c_Memory_addToLog {A : Nat → Option (Nat × (Nat → Int32))} {Q : Option Value → jm → Prop} {L : Int} {T : jm} {M : jm} (hC_M : CI M) (ht_M : FR W_c_Memory_addToLog T M) {t : Nat} (k_t : kd t = 27) {x : Int} (h_x : (-9223372036854775808) ≤ x ∧ x ≤ 9223372036854775807) (p0 : LC M L) (p1 : L ≤ 2000000000) (q : ∀ (M' : jm), CI M' → FR W_c_Memory_addToLog T M' → (LC M' (L + 1)) → Q none M') : jc A 1 184 [.ref (t), .long (Int64.ofInt (x))] M Q := by
  have hL := p0 t k_t
  refine jc_of (m := xm_184) rfl (Nat.le_of_ble_eq_true rfl) rfl ?_
  obtain ⟨v1, e1⟩ : ∃ z_, M t 5 = z_ := ⟨_, rfl⟩
  have b1 : 0 ≤ v1 ∧ v1 ≤ 2147483647 := by rw [← e1]; exact (CI.r hC_M k_t (by decide) 5)
  refine jr.aload_n rfl rfl ?_
  have k2 := kf_27_4 k_t
  refine jr.getf (i := 4) (v := .ref (t + 5)) rfl rfl (Nat.lt_trans (kx_27 k_t).1 (by decide)) (kx_27 k_t).2 (by decide) rfl rfl rfl (jval_ref rfl k2.1) ?_
  refine jr.aload_n rfl rfl ?_
  refine jr.getf (i := 5) (x := v1) (v := .int (Int32.ofInt (v1))) rfl rfl (Nat.lt_trans (kx_27 k_t).1 (by decide)) (kx_27 k_t).2 (by decide) rfl rfl e1 rfl ?_
  refine jr.bipush rfl (jbp _ (nlt rfl)) ?_
  refine jr.irem rfl (by decide) ?_
  have b3 : j_rem v1 20 = v1 % 20 := j_rem_ex (by omega) (by omega)
  generalize j_rem v1 20 = v3 at b3 ⊢
  refine jr.lload_n rfl rfl ?_
  refine jr.last (i := v3) (x := x) rfl (Nat.lt_trans (kx_30 k2.2).1 (by decide)) (kx_30 k2.2).2 (by decide) (by omega) (by omega) ?_
  refine jr.aload_n rfl rfl ?_
  refine jr.dup rfl rfl ?_
  refine jr.getf (i := 5) (x := v1) (v := .int (Int32.ofInt (v1))) rfl rfl (Nat.lt_trans (kx_27 k_t).1 (by decide)) (kx_27 k_t).2 (by decide) rfl rfl ((ju_c _ _ (kd_ne (by rw [k_t, k2.2]; decide))).trans e1) rfl ?_
  refine jr.iconst rfl ?_
  refine jr.iadd rfl ?_
  refine jr.putf (i := 5) (x := (v1 + 1)) rfl rfl (Nat.lt_trans (kx_27 k_t).1 (by decide)) (kx_27 k_t).2 (by decide) rfl rfl rfl rfl rfl ?_
  exact jr.vreturn rfl rfl (q _ (CI.u (CI.u hC_M (i := v3) k2.2 (show (-9223372036854775808 : Int) ≤ _ ∧ _ ≤ (9223372036854775807 : Int) from by omega) rfl) (i := 5) k_t (show (0 : Int) ≤ _ ∧ _ ≤ (2147483647 : Int) from by omega) rfl) (FR.o (FR.o ht_M k2.2 rfl) k_t rfl)  (LC.u (LC.n (LC.le p0 (by omega)) k2.2 (by decide)) (by omega)))
theorem c_Memory_logItem {A : Nat → Option (Nat × (Nat → Int32))} {Q : Option Value → jm → Prop} {M : jm} (hC_M : CI M) {t : Nat} (k_t : kd t = 27) {x : Int} (h_x : (-2147483648) ≤ x ∧ x ≤ 2147483647) (q : ∀ (r : Int), (-9223372036854775808) ≤ r ∧ r ≤ 9223372036854775807 → Q (some (.long (Int64.ofInt r))) M) : jc A 1 185 [.ref (t), .int (Int32.ofInt (x))] M Q := by
  refine jc_of (m := xm_185) rfl (Nat.le_of_ble_eq_true rfl) rfl ?_
  refine jr.iload_n rfl rfl ?_
  refine jr.if_lt rfl rfl (by first | (refine rgb (by assumption) ?_; exact rfl) | omega) (fun h1 => ?_) (fun h1 => ?_)
  · refine jr.ldc2 (x := (-1)) rfl rfl (by decide) ?_
    refine jr.goto rfl rfl ?_
    exact jr.lreturn rfl rfl (q _ (by omega) )
  · refine jr.iload_n rfl rfl ?_
    refine jr.bipush rfl (jbp _ (nlt rfl)) ?_
    refine jr.icmp_ge rfl rfl (by first | (refine rgb (by assumption) ?_; exact rfl) | omega) (rgl rfl) (fun h7 => ?_) (fun h7 => ?_)
    · refine jr.ldc2 (x := (-1)) rfl rfl (by decide) ?_
      refine jr.goto rfl rfl ?_
      exact jr.lreturn rfl rfl (q _ (by omega) )
    · refine jr.iload_n rfl rfl ?_
      refine jr.aload_n rfl rfl ?_
      obtain ⟨v1, e1⟩ : ∃ z_, M t 5 = z_ := ⟨_, rfl⟩
      have b1 : 0 ≤ v1 ∧ v1 ≤ 2147483647 := by rw [← e1]; exact (CI.r hC_M k_t (by decide) 5)
      refine jr.getf (i := 5) (x := v1) (v := .int (Int32.ofInt (v1))) rfl rfl (Nat.lt_trans (kx_27 k_t).1 (by decide)) (kx_27 k_t).2 (by decide) rfl rfl e1 rfl ?_
      refine jr.icmp_lt rfl rfl (by first | (refine rgb (by assumption) ?_; exact rfl) | omega) (by first | (refine rgb (by assumption) ?_; exact rfl) | omega) (fun h15 => ?_) (fun h15 => ?_)
      · refine jr.aload_n rfl rfl ?_
        have k2 := kf_27_4 k_t
        refine jr.getf (i := 4) (v := .ref (t + 5)) rfl rfl (Nat.lt_trans (kx_27 k_t).1 (by decide)) (kx_27 k_t).2 (by decide) rfl rfl rfl (jval_ref rfl k2.1) ?_
        refine jr.aload_n rfl rfl ?_
        refine jr.getf (i := 5) (x := v1) (v := .int (Int32.ofInt (v1))) rfl rfl (Nat.lt_trans (kx_27 k_t).1 (by decide)) (kx_27 k_t).2 (by decide) rfl rfl e1 rfl ?_
        refine jr.iconst rfl ?_
        refine jr.isub rfl ?_
        refine jr.iload_n rfl rfl ?_
        refine jr.isub rfl ?_
        refine jr.bipush rfl (jbp _ (nlt rfl)) ?_
        refine jr.irem rfl (by decide) ?_
        have b3 : j_rem ((v1 - 1) - x) 20 = ((v1 - 1) - x) % 20 := j_rem_ex (by omega) (by omega)
        generalize j_rem ((v1 - 1) - x) 20 = v3 at b3 ⊢
        obtain ⟨v4, e4⟩ : ∃ z_, M ((t + 5)) v3 = z_ := ⟨_, rfl⟩
        have b4 : (-9223372036854775808) ≤ v4 ∧ v4 ≤ 9223372036854775807 := by rw [← e4]; exact (CI.r hC_M k2.2 (by decide) v3)
        refine jr.lald (i := v3) (x := v4) rfl (Nat.lt_trans (kx_30 k2.2).1 (by decide)) (kx_30 k2.2).2 (by decide) (by omega) (by omega) e4 ?_
        exact jr.lreturn rfl rfl (q _ (by omega) )
      · refine jr.ldc2 (x := (-1)) rfl rfl (by decide) ?_
        refine jr.goto rfl rfl ?_
        exact jr.lreturn rfl rfl (q _ (by omega) )
noncomputable def W_c_Memory_becomeLike : List (Nat × Nat) := [(27, 5), (27, 6), (28, 1000), (29, 1000), (30, 1000), (31, 1000), (32, 1000)]
theorem c_Memory_becomeLike {A : Nat → Option (Nat × (Nat → Int32))} {Q : Option Value → jm → Prop} {L : Int} {T : jm} {M : jm} (hC_M : CI M) (ht_M : FR W_c_Memory_becomeLike T M) {t : Nat} (k_t : kd t = 27) {x : Nat} (k_x : kd x = 27) (p0 : LC M L) (q : ∀ (M' : jm), CI M' → FR W_c_Memory_becomeLike T M' → (LC M' L) → Q none M') : jc A 1 183 [.ref (t), .ref (x)] M Q := by
  have hL := p0 x k_x
  refine jc_of (m := xm_183) rfl (Nat.le_of_ble_eq_true rfl) rfl ?_
  refine jr.aload_n rfl rfl ?_
  have k1 := kf_27_0 k_x
  refine jr.getf (i := 0) (v := .ref (x + 1)) rfl rfl (Nat.lt_trans (kx_27 k_x).1 (by decide)) (kx_27 k_x).2 (by decide) rfl rfl rfl (jval_ref rfl k1.1) ?_
  refine jr.iconst rfl ?_
  refine jr.aload_n rfl rfl ?_
  have k2 := kf_27_0 k_t
  refine jr.getf (i := 0) (v := .ref (t + 1)) rfl rfl (Nat.lt_trans (kx_27 k_t).1 (by decide)) (kx_27 k_t).2 (by decide) rfl rfl rfl (jval_ref rfl k2.1) ?_
  refine jr.iconst rfl ?_
  refine jr.bipush rfl (jbp _ (nlt rfl)) ?_
  refine jr.acpL rfl rfl (Nat.le_of_ble_eq_true rfl) (Nat.lt_trans (kx_29 k1.2).1 (by decide)) (kx_29 k1.2).2 (Nat.lt_trans (kx_29 k2.2).1 (by decide)) (kx_29 k2.2).2 (by decide) (by decide) (by omega) (by omega) (by omega) (by omega) (by omega) ?_
  have hC_M3 : CI (jcpy M ((x + 1)) 0 ((t + 1)) 0 8) := CI.cpy hC_M k1.2 k2.2 (by decide) (fun i j => (show (-9223372036854775808 : Int) ≤ (-9223372036854775808 : Int) ∧ (9223372036854775807 : Int) ≤ (9223372036854775807 : Int) from by decide)) (fun _ => rfl)
  have ht_M3 : FR W_c_Memory_becomeLike T (jcpy M ((x + 1)) 0 ((t + 1)) 0 8) := FR.cpy ht_M k2.2 (fun _ => rfl)
  have hf_M3 : FR [(29, 1000)] M (jcpy M ((x + 1)) 0 ((t + 1)) 0 8) := FR.cpy (FR.rfl _ _) k2.2 (fun _ => rfl)
  generalize jcpy M ((x + 1)) 0 ((t + 1)) 0 8 = M3 at hC_M3 ht_M3 hf_M3 ⊢
  refine jr.aload_n rfl rfl ?_
  have k4 := kf_27_1 k_x
  refine jr.getf (i := 1) (v := .ref (x + 2)) rfl rfl (Nat.lt_trans (kx_27 k_x).1 (by decide)) (kx_27 k_x).2 (by decide) rfl rfl rfl (jval_ref rfl k4.1) ?_
  refine jr.iconst rfl ?_
  refine jr.aload_n rfl rfl ?_
  have k5 := kf_27_1 k_t
  refine jr.getf (i := 1) (v := .ref (t + 2)) rfl rfl (Nat.lt_trans (kx_27 k_t).1 (by decide)) (kx_27 k_t).2 (by decide) rfl rfl rfl (jval_ref rfl k5.1) ?_
  refine jr.iconst rfl ?_
  refine jr.iconst rfl ?_
  refine jr.acp rfl rfl (Nat.le_of_ble_eq_true rfl) (Nat.lt_trans (kx_28 k4.2).1 (by decide)) (kx_28 k4.2).2 (Nat.lt_trans (kx_28 k5.2).1 (by decide)) (kx_28 k5.2).2 (by decide) (by decide) (by omega) (by omega) (by omega) (by omega) (by omega) ?_
  have hC_M6 : CI (jcpy M3 ((x + 2)) 0 ((t + 2)) 0 4) := CI.cpy hC_M3 k4.2 k5.2 (by decide) (fun i j => (show (-2147483648 : Int) ≤ (-2147483648 : Int) ∧ (2147483647 : Int) ≤ (2147483647 : Int) from by decide)) (fun _ => rfl)
  have ht_M6 : FR W_c_Memory_becomeLike T (jcpy M3 ((x + 2)) 0 ((t + 2)) 0 4) := FR.cpy ht_M3 k5.2 (fun _ => rfl)
  have hf_M6 : FR [(28, 1000)] M3 (jcpy M3 ((x + 2)) 0 ((t + 2)) 0 4) := FR.cpy (FR.rfl _ _) k5.2 (fun _ => rfl)
  generalize jcpy M3 ((x + 2)) 0 ((t + 2)) 0 4 = M6 at hC_M6 ht_M6 hf_M6 ⊢
  refine jr.aload_n rfl rfl ?_
  have k7 := kf_27_2 k_x
  refine jr.getf (i := 2) (v := .ref (x + 3)) rfl rfl (Nat.lt_trans (kx_27 k_x).1 (by decide)) (kx_27 k_x).2 (by decide) rfl rfl rfl (jval_ref rfl k7.1) ?_
  refine jr.iconst rfl ?_
  refine jr.aload_n rfl rfl ?_
  have k8 := kf_27_2 k_t
  refine jr.getf (i := 2) (v := .ref (t + 3)) rfl rfl (Nat.lt_trans (kx_27 k_t).1 (by decide)) (kx_27 k_t).2 (by decide) rfl rfl rfl (jval_ref rfl k8.1) ?_
  refine jr.iconst rfl ?_
  refine jr.bipush rfl (jbp _ (nlt rfl)) ?_
  refine jr.acpL rfl rfl (Nat.le_of_ble_eq_true rfl) (Nat.lt_trans (kx_31 k7.2).1 (by decide)) (kx_31 k7.2).2 (Nat.lt_trans (kx_31 k8.2).1 (by decide)) (kx_31 k8.2).2 (by decide) (by decide) (by omega) (by omega) (by omega) (by omega) (by omega) ?_
  have hC_M9 : CI (jcpy M6 ((x + 3)) 0 ((t + 3)) 0 64) := CI.cpy hC_M6 k7.2 k8.2 (by decide) (fun i j => (show (-9223372036854775808 : Int) ≤ (-9223372036854775808 : Int) ∧ (9223372036854775807 : Int) ≤ (9223372036854775807 : Int) from by decide)) (fun _ => rfl)
  have ht_M9 : FR W_c_Memory_becomeLike T (jcpy M6 ((x + 3)) 0 ((t + 3)) 0 64) := FR.cpy ht_M6 k8.2 (fun _ => rfl)
  have hf_M9 : FR [(31, 1000)] M6 (jcpy M6 ((x + 3)) 0 ((t + 3)) 0 64) := FR.cpy (FR.rfl _ _) k8.2 (fun _ => rfl)
  generalize jcpy M6 ((x + 3)) 0 ((t + 3)) 0 64 = M9 at hC_M9 ht_M9 hf_M9 ⊢
  refine jr.aload_n rfl rfl ?_
  have k10 := kf_27_3 k_x
  refine jr.getf (i := 3) (v := .ref (x + 4)) rfl rfl (Nat.lt_trans (kx_27 k_x).1 (by decide)) (kx_27 k_x).2 (by decide) rfl rfl rfl (jval_ref rfl k10.1) ?_
  refine jr.iconst rfl ?_
  refine jr.aload_n rfl rfl ?_
  have k11 := kf_27_3 k_t
  refine jr.getf (i := 3) (v := .ref (t + 4)) rfl rfl (Nat.lt_trans (kx_27 k_t).1 (by decide)) (kx_27 k_t).2 (by decide) rfl rfl rfl (jval_ref rfl k11.1) ?_
  refine jr.iconst rfl ?_
  refine jr.iconst rfl ?_
  refine jr.acp rfl rfl (Nat.le_of_ble_eq_true rfl) (Nat.lt_trans (kx_32 k10.2).1 (by decide)) (kx_32 k10.2).2 (Nat.lt_trans (kx_32 k11.2).1 (by decide)) (kx_32 k11.2).2 (by decide) (by decide) (by omega) (by omega) (by omega) (by omega) (by omega) ?_
  have hC_M12 : CI (jcpy M9 ((x + 4)) 0 ((t + 4)) 0 4) := CI.cpy hC_M9 k10.2 k11.2 (by decide) (fun i j => (show (0 : Int) ≤ (0 : Int) ∧ (16 : Int) ≤ (16 : Int) from by decide)) (fun _ => rfl)
  have ht_M12 : FR W_c_Memory_becomeLike T (jcpy M9 ((x + 4)) 0 ((t + 4)) 0 4) := FR.cpy ht_M9 k11.2 (fun _ => rfl)
  have hf_M12 : FR [(32, 1000)] M9 (jcpy M9 ((x + 4)) 0 ((t + 4)) 0 4) := FR.cpy (FR.rfl _ _) k11.2 (fun _ => rfl)
  generalize jcpy M9 ((x + 4)) 0 ((t + 4)) 0 4 = M12 at hC_M12 ht_M12 hf_M12 ⊢
  refine jr.aload_n rfl rfl ?_
  have k13 := kf_27_4 k_x
  refine jr.getf (i := 4) (v := .ref (x + 5)) rfl rfl (Nat.lt_trans (kx_27 k_x).1 (by decide)) (kx_27 k_x).2 (by decide) rfl rfl rfl (jval_ref rfl k13.1) ?_
  refine jr.iconst rfl ?_
  refine jr.aload_n rfl rfl ?_
  have k14 := kf_27_4 k_t
  refine jr.getf (i := 4) (v := .ref (t + 5)) rfl rfl (Nat.lt_trans (kx_27 k_t).1 (by decide)) (kx_27 k_t).2 (by decide) rfl rfl rfl (jval_ref rfl k14.1) ?_
  refine jr.iconst rfl ?_
  refine jr.bipush rfl (jbp _ (nlt rfl)) ?_
  refine jr.acpL rfl rfl (Nat.le_of_ble_eq_true rfl) (Nat.lt_trans (kx_30 k13.2).1 (by decide)) (kx_30 k13.2).2 (Nat.lt_trans (kx_30 k14.2).1 (by decide)) (kx_30 k14.2).2 (by decide) (by decide) (by omega) (by omega) (by omega) (by omega) (by omega) ?_
  have hC_M15 : CI (jcpy M12 ((x + 5)) 0 ((t + 5)) 0 20) := CI.cpy hC_M12 k13.2 k14.2 (by decide) (fun i j => (show (-9223372036854775808 : Int) ≤ (-9223372036854775808 : Int) ∧ (9223372036854775807 : Int) ≤ (9223372036854775807 : Int) from by decide)) (fun _ => rfl)
  have ht_M15 : FR W_c_Memory_becomeLike T (jcpy M12 ((x + 5)) 0 ((t + 5)) 0 20) := FR.cpy ht_M12 k14.2 (fun _ => rfl)
  have hf_M15 : FR [(30, 1000)] M12 (jcpy M12 ((x + 5)) 0 ((t + 5)) 0 20) := FR.cpy (FR.rfl _ _) k14.2 (fun _ => rfl)
  generalize jcpy M12 ((x + 5)) 0 ((t + 5)) 0 20 = M15 at hC_M15 ht_M15 hf_M15 ⊢
  refine jr.aload_n rfl rfl ?_
  refine jr.aload_n rfl rfl ?_
  obtain ⟨v16, e16⟩ : ∃ z_, M x 5 = z_ := ⟨_, rfl⟩
  have b16 : 0 ≤ v16 ∧ v16 ≤ 2147483647 := by rw [← e16]; exact (CI.r hC_M k_x (by decide) 5)
  have e17 : M3 x 5 = v16 := (hf_M3.g k_x rfl).trans e16
  have e18 : M6 x 5 = v16 := (hf_M6.g k_x rfl).trans e17
  have e19 : M9 x 5 = v16 := (hf_M9.g k_x rfl).trans e18
  have e20 : M12 x 5 = v16 := (hf_M12.g k_x rfl).trans e19
  have e21 : M15 x 5 = v16 := (hf_M15.g k_x rfl).trans e20
  refine jr.getf (i := 5) (x := v16) (v := .int (Int32.ofInt (v16))) rfl rfl (Nat.lt_trans (kx_27 k_x).1 (by decide)) (kx_27 k_x).2 (by decide) rfl rfl e21 rfl ?_
  refine jr.putf (i := 5) (x := v16) rfl rfl (Nat.lt_trans (kx_27 k_t).1 (by decide)) (kx_27 k_t).2 (by decide) rfl rfl rfl rfl rfl ?_
  refine jr.aload_n rfl rfl ?_
  refine jr.aload_n rfl rfl ?_
  obtain ⟨v22, e22⟩ : ∃ z_, M x 6 = z_ := ⟨_, rfl⟩
  have b22 : (-9223372036854775808) ≤ v22 ∧ v22 ≤ 9223372036854775807 := by rw [← e22]; exact (CI.r hC_M k_x (by decide) 6)
  have e23 : M3 x 6 = v22 := (hf_M3.g k_x rfl).trans e22
  have e24 : M6 x 6 = v22 := (hf_M6.g k_x rfl).trans e23
  have e25 : M9 x 6 = v22 := (hf_M9.g k_x rfl).trans e24
  have e26 : M12 x 6 = v22 := (hf_M12.g k_x rfl).trans e25
  have e27 : M15 x 6 = v22 := (hf_M15.g k_x rfl).trans e26
  refine jr.getf (i := 6) (x := v22) (v := .long (Int64.ofInt (v22))) rfl rfl (Nat.lt_trans (kx_27 k_x).1 (by decide)) (kx_27 k_x).2 (by decide) rfl rfl ((ju_i _ _ (zne (by decide))).trans e27) rfl ?_
  refine jr.putf (i := 6) (x := v22) rfl rfl (Nat.lt_trans (kx_27 k_t).1 (by decide)) (kx_27 k_t).2 (by decide) rfl rfl rfl rfl rfl ?_
  exact jr.vreturn rfl rfl (q _ (CI.u (CI.u hC_M15 (i := 5) k_t (show (0 : Int) ≤ _ ∧ _ ≤ (2147483647 : Int) from by omega) rfl) (i := 6) k_t (show (-9223372036854775808 : Int) ≤ _ ∧ _ ≤ (9223372036854775807 : Int) from by omega) rfl) (FR.o (FR.o ht_M15 k_t rfl) k_t rfl)  (LC.m (LC.u (LC.fr (LC.fr (LC.fr (LC.fr (LC.fr (LC.le p0 (by omega)) hf_M3 rfl) hf_M6 rfl) hf_M9 rfl) hf_M12 rfl) hf_M15 rfl) (by omega)) (by decide)))
noncomputable def W_c_Memory_learn : List (Nat × Nat) := [(31, 1000), (32, 1000)]
theorem c_Memory_learn {A : Nat → Option (Nat × (Nat → Int32))} {Q : Option Value → jm → Prop} {T : jm} {M : jm} (hC_M : CI M) (ht_M : FR W_c_Memory_learn T M) {t : Nat} (k_t : kd t = 27) {x : Int} (h_x : 0 ≤ x ∧ x ≤ 3) {y : Int} (h_y : (-9223372036854775808) ≤ y ∧ y ≤ 9223372036854775807) (q : ∀ (M' : jm), CI M' → FR W_c_Memory_learn T M' → Q none M') : jc A 2 188 [.ref (t), .int (Int32.ofInt (x)), .long (Int64.ofInt (y))] M Q := by
  refine jc_of (m := xm_188) rfl (Nat.le_of_ble_eq_true rfl) rfl ?_
  refine jr.aload_n rfl rfl ?_
  refine jr.iload_n rfl rfl ?_
  refine jr.lload_n rfl rfl ?_
  refine jr_v rfl rfl (Or.inl rfl) rfl rfl (Nat.lt_trans (kx_27 k_t).1 (by decide)) (kx_27 k_t).2 ⟨rfl, Nat.le_of_ble_eq_true rfl, Nat.le_of_ble_eq_true rfl⟩ rfl (jc.deep (c_Memory_knows hC_M k_t (by omega) (by omega) (fun r1 z1  => ?_)) (Nat.le_of_ble_eq_true rfl))
  refine jr.if_eq rfl rfl (by first | (refine rgb (by assumption) ?_; exact rfl) | omega) (fun h6 => ?_) (fun h6 => ?_)
  · refine jr.iload_n rfl rfl ?_
    refine jr.bipush rfl (jbp _ (nlt rfl)) ?_
    refine jr.imul rfl ?_
    refine jr.istore (ls' := [_, _, _, _]) rfl (nlt rfl) rfl ?_
    refine jr.aload_n rfl rfl ?_
    have k2 := kf_27_3 k_t
    refine jr.getf (i := 3) (v := .ref (t + 4)) rfl rfl (Nat.lt_trans (kx_27 k_t).1 (by decide)) (kx_27 k_t).2 (by decide) rfl rfl rfl (jval_ref rfl k2.1) ?_
    refine jr.iload_n rfl rfl ?_
    obtain ⟨v3, e3⟩ : ∃ z_, M ((t + 4)) x = z_ := ⟨_, rfl⟩
    have b3 : 0 ≤ v3 ∧ v3 ≤ 16 := by rw [← e3]; exact (CI.r hC_M k2.2 (by decide) x)
    refine jr.iald (i := x) (x := v3) rfl (Nat.lt_trans (kx_32 k2.2).1 (by decide)) (kx_32 k2.2).2 (by decide) (by omega) (by omega) e3 ?_
    refine jr.bipush rfl (jbp _ (nlt rfl)) ?_
    refine jr.icmp_ne rfl rfl (by first | (refine rgb (by assumption) ?_; exact rfl) | omega) (rgl rfl) (fun h24 => ?_) (fun h24 => ?_)
    · have sx24 : v3 ≤ (15 : Int) := by omega
      clear h24
      refine jr.aload_n rfl rfl ?_
      have k4 := kf_27_2 k_t
      refine jr.getf (i := 2) (v := .ref (t + 3)) rfl rfl (Nat.lt_trans (kx_27 k_t).1 (by decide)) (kx_27 k_t).2 (by decide) rfl rfl rfl (jval_ref rfl k4.1) ?_
      refine jr.iload rfl rfl ?_
      refine jr.aload_n rfl rfl ?_
      have k5 := kf_27_3 k_t
      refine jr.getf (i := 3) (v := .ref (t + 4)) rfl rfl (Nat.lt_trans (kx_27 k_t).1 (by decide)) (kx_27 k_t).2 (by decide) rfl rfl rfl (jval_ref rfl k5.1) ?_
      refine jr.iload_n rfl rfl ?_
      refine jr.iald (i := x) (x := v3) rfl (Nat.lt_trans (kx_32 k5.2).1 (by decide)) (kx_32 k5.2).2 (by decide) (by omega) (by omega) e3 ?_
      refine jr.iadd rfl ?_
      refine jr.lload_n rfl rfl ?_
      refine jr.last (i := ((x * 16) + v3)) (x := y) rfl (Nat.lt_trans (kx_31 k4.2).1 (by decide)) (kx_31 k4.2).2 (by decide) (by omega) (by omega) ?_
      refine jr.aload_n rfl rfl ?_
      have k6 := kf_27_3 k_t
      refine jr.getf (i := 3) (v := .ref (t + 4)) rfl rfl (Nat.lt_trans (kx_27 k_t).1 (by decide)) (kx_27 k_t).2 (by decide) rfl rfl rfl (jval_ref rfl k6.1) ?_
      refine jr.iload_n rfl rfl ?_
      refine jr.dup2 rfl ⟨rfl, rfl⟩ ?_
      refine jr.iald (i := x) (x := v3) rfl (Nat.lt_trans (kx_32 k6.2).1 (by decide)) (kx_32 k6.2).2 (by decide) (by omega) (by omega) ((ju_c _ _ (kd_ne (by rw [k6.2, k4.2]; decide))).trans e3) ?_
      refine jr.iconst rfl ?_
      refine jr.iadd rfl ?_
      refine jr.iast (i := x) (x := (v3 + 1)) rfl (Nat.lt_trans (kx_32 k6.2).1 (by decide)) (kx_32 k6.2).2 (by decide) (by omega) (by omega) ?_
      exact jr.vreturn rfl rfl (q _ (CI.u (CI.u hC_M (i := ((x * 16) + v3)) k4.2 (show (-9223372036854775808 : Int) ≤ _ ∧ _ ≤ (9223372036854775807 : Int) from by omega) rfl) (i := x) k6.2 (show (0 : Int) ≤ _ ∧ _ ≤ (16 : Int) from by omega) rfl) (FR.o (FR.o ht_M k4.2 rfl) k6.2 rfl)  )
    · refine jr.aload_n rfl rfl ?_
      have k7 := kf_27_2 k_t
      refine jr.getf (i := 2) (v := .ref (t + 3)) rfl rfl (Nat.lt_trans (kx_27 k_t).1 (by decide)) (kx_27 k_t).2 (by decide) rfl rfl rfl (jval_ref rfl k7.1) ?_
      refine jr.iload rfl rfl ?_
      refine jr.iconst rfl ?_
      refine jr.iadd rfl ?_
      refine jr.aload_n rfl rfl ?_
      have k8 := kf_27_2 k_t
      refine jr.getf (i := 2) (v := .ref (t + 3)) rfl rfl (Nat.lt_trans (kx_27 k_t).1 (by decide)) (kx_27 k_t).2 (by decide) rfl rfl rfl (jval_ref rfl k8.1) ?_
      refine jr.iload rfl rfl ?_
      refine jr.bipush rfl (jbp _ (nlt rfl)) ?_
      refine jr.acpL rfl rfl (Nat.le_of_ble_eq_true rfl) (Nat.lt_trans (kx_31 k7.2).1 (by decide)) (kx_31 k7.2).2 (Nat.lt_trans (kx_31 k8.2).1 (by decide)) (kx_31 k8.2).2 (by decide) (by decide) (by omega) (by omega) (by omega) (by omega) (by omega) ?_
      have hC_M9 : CI (jcpy M ((t + 3)) ((x * 16) + 1) ((t + 3)) (x * 16) 15) := CI.cpy hC_M k7.2 k8.2 (by decide) (fun i j => (show (-9223372036854775808 : Int) ≤ (-9223372036854775808 : Int) ∧ (9223372036854775807 : Int) ≤ (9223372036854775807 : Int) from by decide)) (fun _ => rfl)
      have ht_M9 : FR W_c_Memory_learn T (jcpy M ((t + 3)) ((x * 16) + 1) ((t + 3)) (x * 16) 15) := FR.cpy ht_M k8.2 (fun _ => rfl)
      have hf_M9 : FR [(31, 1000)] M (jcpy M ((t + 3)) ((x * 16) + 1) ((t + 3)) (x * 16) 15) := FR.cpy (FR.rfl _ _) k8.2 (fun _ => rfl)
      generalize jcpy M ((t + 3)) ((x * 16) + 1) ((t + 3)) (x * 16) 15 = M9 at hC_M9 ht_M9 hf_M9 ⊢
      refine jr.aload_n rfl rfl ?_
      have k10 := kf_27_3 k_t
      refine jr.getf (i := 3) (v := .ref (t + 4)) rfl rfl (Nat.lt_trans (kx_27 k_t).1 (by decide)) (kx_27 k_t).2 (by decide) rfl rfl rfl (jval_ref rfl k10.1) ?_
      refine jr.iload_n rfl rfl ?_
      refine jr.dup2 rfl ⟨rfl, rfl⟩ ?_
      have e11 : M9 ((t + 4)) x = v3 := (hf_M9.g k10.2 rfl).trans e3
      refine jr.iald (i := x) (x := v3) rfl (Nat.lt_trans (kx_32 k10.2).1 (by decide)) (kx_32 k10.2).2 (by decide) (by omega) (by omega) e11 ?_
      refine jr.iconst rfl ?_
      refine jr.isub rfl ?_
      refine jr.iast (i := x) (x := (v3 - 1)) rfl (Nat.lt_trans (kx_32 k10.2).1 (by decide)) (kx_32 k10.2).2 (by decide) (by omega) (by omega) ?_
      refine jr.aload_n rfl rfl ?_
      have k12 := kf_27_2 k_t
      refine jr.getf (i := 2) (v := .ref (t + 3)) rfl rfl (Nat.lt_trans (kx_27 k_t).1 (by decide)) (kx_27 k_t).2 (by decide) rfl rfl rfl (jval_ref rfl k12.1) ?_
      refine jr.iload rfl rfl ?_
      refine jr.aload_n rfl rfl ?_
      have k13 := kf_27_3 k_t
      refine jr.getf (i := 3) (v := .ref (t + 4)) rfl rfl (Nat.lt_trans (kx_27 k_t).1 (by decide)) (kx_27 k_t).2 (by decide) rfl rfl rfl (jval_ref rfl k13.1) ?_
      refine jr.iload_n rfl rfl ?_
      refine jr.iald (i := x) (x := (v3 - 1)) rfl (Nat.lt_trans (kx_32 k13.2).1 (by decide)) (kx_32 k13.2).2 (by decide) (by omega) (by omega) (ju_same _ _ _ _) ?_
      refine jr.iadd rfl ?_
      refine jr.lload_n rfl rfl ?_
      refine jr.last (i := ((x * 16) + (v3 - 1))) (x := y) rfl (Nat.lt_trans (kx_31 k12.2).1 (by decide)) (kx_31 k12.2).2 (by decide) (by omega) (by omega) ?_
      refine jr.aload_n rfl rfl ?_
      have k14 := kf_27_3 k_t
      refine jr.getf (i := 3) (v := .ref (t + 4)) rfl rfl (Nat.lt_trans (kx_27 k_t).1 (by decide)) (kx_27 k_t).2 (by decide) rfl rfl rfl (jval_ref rfl k14.1) ?_
      refine jr.iload_n rfl rfl ?_
      refine jr.dup2 rfl ⟨rfl, rfl⟩ ?_
      refine jr.iald (i := x) (x := (v3 - 1)) rfl (Nat.lt_trans (kx_32 k14.2).1 (by decide)) (kx_32 k14.2).2 (by decide) (by omega) (by omega) ((ju_c _ _ (kd_ne (by rw [k14.2, k12.2]; decide))).trans (ju_same _ _ _ _)) ?_
      refine jr.iconst rfl ?_
      refine jr.iadd rfl ?_
      refine jr.iast (i := x) (x := ((v3 - 1) + 1)) rfl (Nat.lt_trans (kx_32 k14.2).1 (by decide)) (kx_32 k14.2).2 (by decide) (by omega) (by omega) ?_
      exact jr.vreturn rfl rfl (q _ (CI.u (CI.u (CI.u hC_M9 (i := x) k14.2 (show (0 : Int) ≤ _ ∧ _ ≤ (16 : Int) from by omega) rfl) (i := ((x * 16) + (v3 - 1))) k12.2 (show (-9223372036854775808 : Int) ≤ _ ∧ _ ≤ (9223372036854775807 : Int) from by omega) rfl) (i := x) k14.2 (show (0 : Int) ≤ _ ∧ _ ≤ (16 : Int) from by omega) rfl) (FR.o (FR.o (FR.o ht_M9 k14.2 rfl) k12.2 rfl) k14.2 rfl)  )
  · have sx6 : (1 : Int) ≤ r1 := by omega
    clear h6
    exact jr.vreturn rfl rfl (q _ hC_M ht_M  )
noncomputable def W_c_Row_copyItem : List (Nat × Nat) := [(53, 1000), (54, 1000)]
theorem c_Row_copyItem {A : Nat → Option (Nat × (Nat → Int32))} {Q : Option Value → jm → Prop} {T : jm} {M : jm} (hC_M : CI M) (ht_M : FR W_c_Row_copyItem T M) {t : Nat} (k_t : kd t = 52) {x : Nat} (k_x : kd x = 52) {y : Int} (h_y : 0 ≤ y ∧ y ≤ 39) {z : Int} (h_z : 0 ≤ z ∧ z ≤ 39) (q : ∀ (M' : jm), CI M' → FR W_c_Row_copyItem T M' → Q none M') : jc A 2 240 [.ref (t), .ref (x), .int (Int32.ofInt (y)), .int (Int32.ofInt (z))] M Q := by
  refine jc_of (m := xm_240) rfl (Nat.le_of_ble_eq_true rfl) rfl ?_
  refine jr.aload_n rfl rfl ?_
  have k1 := kf_52_2 k_x
  refine jr.getf (i := 2) (v := .ref (x + 1)) rfl rfl (Nat.lt_trans (kx_52 k_x).1 (by decide)) (kx_52 k_x).2 (by decide) rfl rfl rfl (jval_ref rfl k1.1) ?_
  refine jr.iload_n rfl rfl ?_
  refine jr.aload_n rfl rfl ?_
  have k2 := kf_52_2 k_t
  refine jr.getf (i := 2) (v := .ref (t + 1)) rfl rfl (Nat.lt_trans (kx_52 k_t).1 (by decide)) (kx_52 k_t).2 (by decide) rfl rfl rfl (jval_ref rfl k2.1) ?_
  refine jr.iload_n rfl rfl ?_
  obtain ⟨v3, e3⟩ : ∃ z_, M ((t + 1)) y = z_ := ⟨_, rfl⟩
  have b3 : (-9223372036854775808) ≤ v3 ∧ v3 ≤ 9223372036854775807 := by rw [← e3]; exact (CI.r hC_M k2.2 (by decide) y)
  refine jr.lald (i := y) (x := v3) rfl (Nat.lt_trans (kx_54 k2.2).1 (by decide)) (kx_54 k2.2).2 (by decide) (by omega) (by omega) e3 ?_
  refine jr.last (i := z) (x := v3) rfl (Nat.lt_trans (kx_54 k1.2).1 (by decide)) (kx_54 k1.2).2 (by decide) (by omega) (by omega) ?_
  refine jr.aload_n rfl rfl ?_
  refine jr_v rfl rfl (Or.inl rfl) rfl rfl (Nat.lt_trans (kx_52 k_t).1 (by decide)) (kx_52 k_t).2 ⟨rfl, Nat.le_of_ble_eq_true rfl, Nat.le_of_ble_eq_true rfl⟩ rfl (jc.deep (c_Row_isOfHeaders (CI.u hC_M (i := z) k1.2 (show (-9223372036854775808 : Int) ≤ _ ∧ _ ≤ (9223372036854775807 : Int) from by omega) rfl) k_t (fun r4 z4  => ?_)) (Nat.le_of_ble_eq_true rfl))
  refine jr.if_eq rfl rfl (by first | (refine rgb (by assumption) ?_; exact rfl) | omega) (fun h16 => ?_) (fun h16 => ?_)
  · exact jr.vreturn rfl rfl (q _ (CI.u hC_M (i := z) k1.2 (show (-9223372036854775808 : Int) ≤ _ ∧ _ ≤ (9223372036854775807 : Int) from by omega) rfl) (FR.o ht_M k1.2 rfl)  )
  · have sx16 : (1 : Int) ≤ r4 := by omega
    clear h16
    refine jr.aload_n rfl rfl ?_
    have k5 := kf_52_3 k_t
    refine jr.getf (i := 3) (v := .ref (t + 2)) rfl rfl (Nat.lt_trans (kx_52 k_t).1 (by decide)) (kx_52 k_t).2 (by decide) rfl rfl rfl (jval_ref rfl k5.1) ?_
    refine jr.iload_n rfl rfl ?_
    refine jr.bipush rfl (jbp _ (nlt rfl)) ?_
    refine jr.imul rfl ?_
    refine jr.aload_n rfl rfl ?_
    have k6 := kf_52_3 k_x
    refine jr.getf (i := 3) (v := .ref (x + 2)) rfl rfl (Nat.lt_trans (kx_52 k_x).1 (by decide)) (kx_52 k_x).2 (by decide) rfl rfl rfl (jval_ref rfl k6.1) ?_
    refine jr.iload_n rfl rfl ?_
    refine jr.bipush rfl (jbp _ (nlt rfl)) ?_
    refine jr.imul rfl ?_
    refine jr.bipush rfl (jbp _ (nlt rfl)) ?_
    refine jr.acpL rfl rfl (Nat.le_of_ble_eq_true rfl) (Nat.lt_trans (kx_53 k5.2).1 (by decide)) (kx_53 k5.2).2 (Nat.lt_trans (kx_53 k6.2).1 (by decide)) (kx_53 k6.2).2 (by decide) (by decide) (by omega) (by omega) (by omega) (by omega) (by omega) ?_
    have hC_M7 : CI (jcpy ((ju M ((x + 1)) z v3)) ((t + 2)) (y * 11) ((x + 2)) (z * 11) 11) := CI.cpy (CI.u hC_M (i := z) k1.2 (show (-9223372036854775808 : Int) ≤ _ ∧ _ ≤ (9223372036854775807 : Int) from by omega) rfl) k5.2 k6.2 (by decide) (fun i j => (show (-9223372036854775808 : Int) ≤ (-9223372036854775808 : Int) ∧ (9223372036854775807 : Int) ≤ (9223372036854775807 : Int) from by decide)) (fun _ => rfl)
    have ht_M7 : FR W_c_Row_copyItem T (jcpy ((ju M ((x + 1)) z v3)) ((t + 2)) (y * 11) ((x + 2)) (z * 11) 11) := FR.cpy (FR.o ht_M k1.2 rfl) k6.2 (fun _ => rfl)
    have hf_M7 : FR [(53, 1000)] ((ju M ((x + 1)) z v3)) (jcpy ((ju M ((x + 1)) z v3)) ((t + 2)) (y * 11) ((x + 2)) (z * 11) 11) := FR.cpy (FR.rfl _ _) k6.2 (fun _ => rfl)
    generalize jcpy ((ju M ((x + 1)) z v3)) ((t + 2)) (y * 11) ((x + 2)) (z * 11) 11 = M7 at hC_M7 ht_M7 hf_M7 ⊢
    exact jr.vreturn rfl rfl (q _ hC_M7 ht_M7  )
noncomputable def W_c_Row_renew : List (Nat × Nat) := [(52, 0), (52, 1), (54, 1000)]
theorem c_Row_renew_L12 {A : Nat → Option (Nat × (Nat → Int32))} {Q : Option Value → jm → Prop} {T : jm} {t : Nat} (k_t : kd t = 52) (q : ∀ (M' : jm), CI M' → FR W_c_Row_renew T M' → Q none M') : ∀ (nM : Nat) (M : jm) (i : Int), CI M → FR W_c_Row_renew T M → 0 ≤ i ∧ i ≤ 40 → 40 - i ≤ nM → jr A 1 xm_235 12 [(3, .int (Int32.ofInt (i))), (0, .ref (t))] [] M Q := by
  intro nM
  induction nM using Nat.strongRecOn with
  | ind nM ih =>
    intro M i hC_M ht_M h_i hm
    refine jr.iload_n rfl rfl ?_
    refine jr.bipush rfl (jbp _ (nlt rfl)) ?_
    refine jr.icmp_ge rfl rfl (by first | (refine rgb (by assumption) ?_; exact rfl) | omega) (rgl rfl) (fun h15 => ?_) (fun h15 => ?_)
    · exact jr.vreturn rfl rfl (q _ hC_M ht_M  )
    · refine jr.aload_n rfl rfl ?_
      have k1 := kf_52_2 k_t
      refine jr.getf (i := 2) (v := .ref (t + 1)) rfl rfl (Nat.lt_trans (kx_52 k_t).1 (by decide)) (kx_52 k_t).2 (by decide) rfl rfl rfl (jval_ref rfl k1.1) ?_
      refine jr.iload_n rfl rfl ?_
      refine jr.aload_n rfl rfl ?_
      refine jr_v rfl rfl (Or.inl rfl) rfl rfl (Nat.lt_trans (kx_52 k_t).1 (by decide)) (kx_52 k_t).2 ⟨rfl, Nat.le_of_ble_eq_true rfl, Nat.le_of_ble_eq_true rfl⟩ rfl (jc.deep (c_Row_isOfHeaders hC_M k_t (fun r2 z2  => ?_)) (Nat.le_of_ble_eq_true rfl))
      refine jr.if_eq rfl rfl (by first | (refine rgb (by assumption) ?_; exact rfl) | omega) (fun h27 => ?_) (fun h27 => ?_)
      · refine jr.lconst (x := 0) rfl (by decide) ?_
        refine jr.last (i := i) (x := 0) rfl (Nat.lt_trans (kx_54 k1.2).1 (by decide)) (kx_54 k1.2).2 (by decide) (by omega) (by omega) ?_
        refine jr.iinc (ls' := [_, _]) rfl rfl (nlt rfl) rfl ?_
        refine jr.goto rfl rfl ?_
        refine jr.pick (ls := [_, _]) [0, 1] rfl rfl ?_
        exact ih (nM - 1) (by omega) ((ju M ((t + 1)) i 0)) (i + 1) (CI.u hC_M (i := i) k1.2 (show (-9223372036854775808 : Int) ≤ _ ∧ _ ≤ (9223372036854775807 : Int) from by omega) rfl) (FR.o ht_M k1.2 rfl) (by omega)  (by omega)
      · have sx27 : (1 : Int) ≤ r2 := by omega
        clear h27
        refine jr.ldc2 (x := (-1)) rfl rfl (by decide) ?_
        refine jr.goto rfl rfl ?_
        refine jr.last (i := i) (x := (-1)) rfl (Nat.lt_trans (kx_54 k1.2).1 (by decide)) (kx_54 k1.2).2 (by decide) (by omega) (by omega) ?_
        refine jr.iinc (ls' := [_, _]) rfl rfl (nlt rfl) rfl ?_
        refine jr.goto rfl rfl ?_
        refine jr.pick (ls := [_, _]) [0, 1] rfl rfl ?_
        exact ih (nM - 1) (by omega) ((ju M ((t + 1)) i (-1))) (i + 1) (CI.u hC_M (i := i) k1.2 (show (-9223372036854775808 : Int) ≤ _ ∧ _ ≤ (9223372036854775807 : Int) from by omega) rfl) (FR.o ht_M k1.2 rfl) (by omega)  (by omega)
theorem c_Row_renew {A : Nat → Option (Nat × (Nat → Int32))} {Q : Option Value → jm → Prop} {T : jm} {M : jm} (hC_M : CI M) (ht_M : FR W_c_Row_renew T M) {t : Nat} (k_t : kd t = 52) {x : Int} (h_x : (-2147483648) ≤ x ∧ x ≤ 2147483647) {y : Int} (h_y : 0 ≤ y ∧ y ≤ 40) (q : ∀ (M' : jm), CI M' → FR W_c_Row_renew T M' → Q none M') : jc A 2 235 [.ref (t), .int (Int32.ofInt (x)), .int (Int32.ofInt (y))] M Q := by
  refine jc_of (m := xm_235) rfl (Nat.le_of_ble_eq_true rfl) rfl ?_
  refine jr.aload_n rfl rfl ?_
  refine jr.iload_n rfl rfl ?_
  refine jr.putf (i := 0) (x := x) rfl rfl (Nat.lt_trans (kx_52 k_t).1 (by decide)) (kx_52 k_t).2 (by decide) rfl rfl rfl rfl rfl ?_
  refine jr.aload_n rfl rfl ?_
  refine jr.iload_n rfl rfl ?_
  refine jr.putf (i := 1) (x := y) rfl rfl (Nat.lt_trans (kx_52 k_t).1 (by decide)) (kx_52 k_t).2 (by decide) rfl rfl rfl rfl rfl ?_
  refine jr.iconst rfl ?_
  refine jr.istore_n (ls' := [_, _, _, _]) rfl (nlt rfl) rfl ?_
  refine jr.pick (ls := [_, _]) [0, 1] rfl rfl ?_
  exact c_Row_renew_L12 k_t q 40 ((ju (ju M t 0 x) t 1 y)) 0 (CI.u (CI.u hC_M (i := 0) k_t (show (-2147483648 : Int) ≤ _ ∧ _ ≤ (2147483647 : Int) from by omega) rfl) (i := 1) k_t (show (0 : Int) ≤ _ ∧ _ ≤ (40 : Int) from by omega) rfl) (FR.o (FR.o ht_M k_t rfl) k_t rfl) (by omega)  (by omega)
noncomputable def W_c_Headers_isCut : List (Nat × Nat) := [(18, 4), (18, 5), (18, 6)]
theorem c_Headers_isCut {A : Nat → Option (Nat × (Nat → Int32))} {Q : Option Value → jm → Prop} {T : jm} {M : jm} (hC_M : CI M) (ht_M : FR W_c_Headers_isCut T M) {t : Nat} (k_t : kd t = 18) {x : Int} (h_x : (-2147483648) ≤ x ∧ x ≤ 2147483647) {y : Int} (h_y : (-2147483648) ≤ y ∧ y ≤ 2147483647) (q : ∀ (r : Int) (M' : jm), CI M' → FR W_c_Headers_isCut T M' → 0 ≤ r ∧ r ≤ 1 → ((r = 1 ∧ M' t 4 ≠ 0) ∨ (r = 0 ∧ M' t 4 = 0 ∧ y ≤ 400)) → Q (some (.int (Int32.ofInt r))) M') : jc A 2 126 [.ref (t), .int (Int32.ofInt (x)), .int (Int32.ofInt (y))] M Q := by
  refine jc_of (m := xm_126) rfl (Nat.le_of_ble_eq_true rfl) rfl ?_
  refine jr.iload_n rfl rfl ?_
  refine jr.aload_n rfl rfl ?_
  obtain ⟨v1, e1⟩ : ∃ z_, M t 7 = z_ := ⟨_, rfl⟩
  have b1 : 0 ≤ v1 ∧ v1 ≤ 597 := by rw [← e1]; exact (CI.r hC_M k_t (by decide) 7)
  have k2 : kd (v1).toNat = 33 := ((congrArg (fun z : Int => kd z.toNat) (show M t 7 = v1 from e1)).symm.trans (CI.x hC_M k_t 7 rfl (by decide)))
  refine jr.getf (i := 7) (x := v1) (v := .ref (v1.toNat)) rfl rfl (Nat.lt_trans (kx_18 k_t).1 (by decide)) (kx_18 k_t).2 (by decide) rfl rfl e1 (jval_mut rfl (kn_18_7 k_t)) ?_
  obtain ⟨v3, e3⟩ : ∃ z_, M ((v1.toNat)) 1 = z_ := ⟨_, rfl⟩
  have b3 : (-1) ≤ v3 ∧ v3 ≤ 400 := by rw [← e3]; exact (CI.r hC_M k2 (by decide) 1)
  refine jr.getf (i := 1) (x := v3) (v := .int (Int32.ofInt (v3))) rfl rfl (Nat.lt_trans (kx_33 k2).1 (by decide)) (kx_33 k2).2 (by decide) rfl rfl e3 rfl ?_
  refine jr.icmp_le rfl rfl (by first | (refine rgb (by assumption) ?_; exact rfl) | omega) (by first | (refine rgb (by assumption) ?_; exact rfl) | omega) (fun h8 => ?_) (fun h8 => ?_)
  · refine jr.aload_n rfl rfl ?_
    obtain ⟨v4, e4⟩ : ∃ z_, M t 4 = z_ := ⟨_, rfl⟩
    have b4 : (-2147483648) ≤ v4 ∧ v4 ≤ 2147483647 := by rw [← e4]; exact (CI.r hC_M k_t (by decide) 4)
    refine jr.getf (i := 4) (x := v4) (v := .int (Int32.ofInt (v4))) rfl rfl (Nat.lt_trans (kx_18 k_t).1 (by decide)) (kx_18 k_t).2 (by decide) rfl rfl e4 rfl ?_
    refine jr.if_eq rfl rfl (by first | (refine rgb (by assumption) ?_; exact rfl) | omega) (fun h28 => ?_) (fun h28 => ?_)
    · refine jr.iconst rfl ?_
      exact jr.ireturn rfl rfl rfl (q _ _ hC_M ht_M (by first | exact rgq rfl | omega) (by have hq0 : M t 4 = v4 := e4; omega))
    · refine jr.iconst rfl ?_
      refine jr.goto rfl rfl ?_
      exact jr.ireturn rfl rfl rfl (q _ _ hC_M ht_M (by first | exact rgq rfl | omega) (by have hq0 : M t 4 = v4 := e4; omega))
  · refine jr.aload_n rfl rfl ?_
    refine jr.iconst rfl ?_
    refine jr.aload_n rfl rfl ?_
    have k5 : kd (v1).toNat = 33 := ((congrArg (fun z : Int => kd z.toNat) (show M t 7 = v1 from e1)).symm.trans (CI.x hC_M k_t 7 rfl (by decide)))
    refine jr.getf (i := 7) (x := v1) (v := .ref (v1.toNat)) rfl rfl (Nat.lt_trans (kx_18 k_t).1 (by decide)) (kx_18 k_t).2 (by decide) rfl rfl e1 (jval_mut rfl (kn_18_7 k_t)) ?_
    refine jr.getf (i := 1) (x := v3) (v := .int (Int32.ofInt (v3))) rfl rfl (Nat.lt_trans (kx_33 k5).1 (by decide)) (kx_33 k5).2 (by decide) rfl rfl e3 rfl ?_
    refine jr.iload_n rfl rfl ?_
    refine jr_v rfl rfl (Or.inl rfl) rfl rfl (Nat.lt_trans (kx_18 k_t).1 (by decide)) (kx_18 k_t).2 ⟨rfl, Nat.le_of_ble_eq_true rfl, Nat.le_of_ble_eq_true rfl⟩ rfl (jc.deep (c_Headers_find hC_M (FR.rfl _ M) k_t (by omega) (by omega) (by omega) (fun M6 hC_M6 hf_M6 w6_0 => ?_)) (Nat.le_of_ble_eq_true rfl))
    have ht_M6 : FR W_c_Headers_isCut T M6 := FR.t ht_M hf_M6 (kw_sub rfl)
    obtain ⟨v7, e7⟩ : ∃ z_, M6 t 4 = z_ := ⟨_, rfl⟩
    have b7 : (-2147483648) ≤ v7 ∧ v7 ≤ 2147483647 := by rw [← e7]; exact (CI.r hC_M6 k_t (by decide) 4)
    refine jr.aload_n rfl rfl ?_
    refine jr.getf (i := 4) (x := v7) (v := .int (Int32.ofInt (v7))) rfl rfl (Nat.lt_trans (kx_18 k_t).1 (by decide)) (kx_18 k_t).2 (by decide) rfl rfl e7 rfl ?_
    refine jr.if_eq rfl rfl (by first | (refine rgb (by assumption) ?_; exact rfl) | omega) (fun h28 => ?_) (fun h28 => ?_)
    · refine jr.iconst rfl ?_
      exact jr.ireturn rfl rfl rfl (q _ _ hC_M6 ht_M6 (by first | exact rgq rfl | omega) (by have hq0 : M6 t 4 = v7 := e7; omega))
    · refine jr.iconst rfl ?_
      refine jr.goto rfl rfl ?_
      exact jr.ireturn rfl rfl rfl (q _ _ hC_M6 ht_M6 (by first | exact rgq rfl | omega) (by have hq0 : M6 t 4 = v7 := e7; omega))
