/-! ===== the class's methods: on ===== -/
theorem c_PacketWall_drop {A : Nat → Option (Nat × (Nat → Int32))} {Q : Option Value → jm → Prop} {T : jm} {M : jm} (hC_M : CI M) (ht_M : KC T M) {x : Int} (h_x : (-2147483648) ≤ x ∧ x ≤ 2147483647) (q : ∀ (r : Int) (M' : jm), CI M' → KC T M' → (-2147483648) ≤ r ∧ r ≤ 2147483647 → Q (some (.int (Int32.ofInt r))) M') : jc A 2 4 [.ref (0), .int (Int32.ofInt (x))] M Q := by
  refine jc_of (m := xm_4) rfl (Nat.le_of_ble_eq_true rfl) rfl ?_
  refine jr.iload_n rfl rfl ?_
  refine jr.if_lt rfl rfl (by omega) (fun h1 => ?_) (fun h1 => ?_)
  · refine jr.bipush rfl (by decide) ?_
    exact jr.ireturn rfl rfl rfl (q _ _ hC_M ht_M (by omega) )
  · refine jr.iload_n rfl rfl ?_
    refine jr.bipush rfl (by decide) ?_
    refine jr.icmp_lt rfl rfl (by omega) (by omega) (fun h7 => ?_) (fun h7 => ?_)
    · refine jr.aload_n rfl rfl ?_
      refine jr.getf (i := 2) (v := .ref 2) rfl rfl (by decide) rfl (by decide) rfl rfl rfl rfl ?_
      refine jr.iload_n rfl rfl ?_
      have k1 := kxe_42 (a := 2) rfl (i := x) (by omega) (by omega)
      refine jr.aald (c := (xe 2 x)) rfl (by decide) rfl (by decide) (by decide) rfl (by decide) (by omega) (by omega) k1.1 ?_
      refine jr_v rfl rfl (Or.inl rfl) rfl rfl (Nat.lt_trans (kx_33 k1.2).1 (by decide)) (kx_33 k1.2).2 ⟨rfl, Nat.le_of_ble_eq_true rfl, Nat.le_of_ble_eq_true rfl⟩ rfl (jc.deep (c_Packet_isThere hC_M ht_M k1.2 (fun r2 z2  => ?_)) (by decide))
      refine jr.if_eq rfl rfl (by omega) (fun h22 => ?_) (fun h22 => ?_)
      · refine jr.iconst rfl ?_
        refine jr.istore_n rfl (by decide) rfl ?_
        refine jr.aload_n rfl rfl ?_
        refine jr.getf (i := 2) (v := .ref 2) rfl rfl (by decide) rfl (by decide) rfl rfl rfl rfl ?_
        refine jr.iload_n rfl rfl ?_
        have k3 := kxe_42 (a := 2) rfl (i := x) (by omega) (by omega)
        refine jr.aald (c := (xe 2 x)) rfl (by decide) rfl (by decide) (by decide) rfl (by decide) (by omega) (by omega) k3.1 ?_
        refine jr.iconst rfl ?_
        refine jr.putf (i := 1) (x := (-1)) rfl rfl (Nat.lt_trans (kx_33 k3.2).1 (by decide)) (kx_33 k3.2).2 (by decide) rfl rfl rfl rfl rfl ?_
        refine jr.aload_n rfl rfl ?_
        refine jr.getf (i := 2) (v := .ref 2) rfl rfl (by decide) rfl (by decide) rfl rfl rfl rfl ?_
        refine jr.iload_n rfl rfl ?_
        have k4 := kxe_42 (a := 2) rfl (i := x) (by omega) (by omega)
        refine jr.aald (c := (xe 2 x)) rfl (by decide) rfl (by decide) (by decide) rfl (by decide) (by omega) (by omega) k4.1 ?_
        refine jr.lconst (x := 0) rfl (by decide) ?_
        refine jr.putf (i := 2) (x := 0) rfl rfl (Nat.lt_trans (kx_33 k4.2).1 (by decide)) (kx_33 k4.2).2 (by decide) rfl rfl rfl rfl rfl ?_
        refine jr.iload_n rfl rfl ?_
        exact jr.ireturn rfl rfl rfl (q _ _ (CI.u (CI.u hC_M (i := 1) k4.2 (show (-1 : Int) ≤ _ ∧ _ ≤ (400 : Int) from by omega) rfl) (i := 2) k4.2 (show (-9223372036854775808 : Int) ≤ _ ∧ _ ≤ (9223372036854775807 : Int) from by omega) rfl) (KC.o (KC.o ht_M k4.2 (by decide)) k4.2 (by decide)) (by omega) )
      · refine jr.iconst rfl ?_
        refine jr.goto rfl rfl ?_
        refine jr.istore_n rfl (by decide) rfl ?_
        refine jr.aload_n rfl rfl ?_
        refine jr.getf (i := 2) (v := .ref 2) rfl rfl (by decide) rfl (by decide) rfl rfl rfl rfl ?_
        refine jr.iload_n rfl rfl ?_
        have k5 := kxe_42 (a := 2) rfl (i := x) (by omega) (by omega)
        refine jr.aald (c := (xe 2 x)) rfl (by decide) rfl (by decide) (by decide) rfl (by decide) (by omega) (by omega) k5.1 ?_
        refine jr.iconst rfl ?_
        refine jr.putf (i := 1) (x := (-1)) rfl rfl (Nat.lt_trans (kx_33 k5.2).1 (by decide)) (kx_33 k5.2).2 (by decide) rfl rfl rfl rfl rfl ?_
        refine jr.aload_n rfl rfl ?_
        refine jr.getf (i := 2) (v := .ref 2) rfl rfl (by decide) rfl (by decide) rfl rfl rfl rfl ?_
        refine jr.iload_n rfl rfl ?_
        have k6 := kxe_42 (a := 2) rfl (i := x) (by omega) (by omega)
        refine jr.aald (c := (xe 2 x)) rfl (by decide) rfl (by decide) (by decide) rfl (by decide) (by omega) (by omega) k6.1 ?_
        refine jr.lconst (x := 0) rfl (by decide) ?_
        refine jr.putf (i := 2) (x := 0) rfl rfl (Nat.lt_trans (kx_33 k6.2).1 (by decide)) (kx_33 k6.2).2 (by decide) rfl rfl rfl rfl rfl ?_
        refine jr.iload_n rfl rfl ?_
        exact jr.ireturn rfl rfl rfl (q _ _ (CI.u (CI.u hC_M (i := 1) k6.2 (show (-1 : Int) ≤ _ ∧ _ ≤ (400 : Int) from by omega) rfl) (i := 2) k6.2 (show (-9223372036854775808 : Int) ≤ _ ∧ _ ≤ (9223372036854775807 : Int) from by omega) rfl) (KC.o (KC.o ht_M k6.2 (by decide)) k6.2 (by decide)) (by omega) )
    · refine jr.bipush rfl (by decide) ?_
      exact jr.ireturn rfl rfl rfl (q _ _ hC_M ht_M (by omega) )
theorem c_PacketWall_at {A : Nat → Option (Nat × (Nat → Int32))} {Q : Option Value → jm → Prop} {T : jm} {M : jm} (hC_M : CI M) (ht_M : KC T M) {x : Int} (h_x : (-2147483648) ≤ x ∧ x ≤ 2147483647) {y : Int} (h_y : (-2147483648) ≤ y ∧ y ≤ 2147483647) (q : ∀ (r : Int), (-2147483648) ≤ r ∧ r ≤ 2147483647 → Q (some (.int (Int32.ofInt r))) M) : jc A 3 5 [.ref (0), .int (Int32.ofInt (x)), .int (Int32.ofInt (y))] M Q := by
  refine jc_of (m := xm_5) rfl (Nat.le_of_ble_eq_true rfl) rfl ?_
  refine jr.aload_n rfl rfl ?_
  refine jr.iload_n rfl rfl ?_
  refine jr_v rfl rfl (Or.inl rfl) rfl rfl (by decide) rfl ⟨rfl, Nat.le_of_ble_eq_true rfl, Nat.le_of_ble_eq_true rfl⟩ rfl (jc.deep (c_PacketWall_isPacket hC_M ht_M (by omega) (fun r1 z1 w1_0 => ?_)) (by decide))
  refine jr.if_ne rfl rfl (by omega) (fun h5 => ?_) (fun h5 => ?_)
  · refine jr.iload_n rfl rfl ?_
    refine jr.iconst rfl ?_
    refine jr.icmp_ne rfl rfl (by omega) (by omega) (fun h13 => ?_) (fun h13 => ?_)
    · refine jr.aload_n rfl rfl ?_
      refine jr.getf (i := 2) (v := .ref 2) rfl rfl (by decide) rfl (by decide) rfl rfl rfl rfl ?_
      refine jr.iload_n rfl rfl ?_
      have k2 := kxe_42 (a := 2) rfl (i := x) (by omega) (by omega)
      refine jr.aald (c := (xe 2 x)) rfl (by decide) rfl (by decide) (by decide) rfl (by decide) (by omega) (by omega) k2.1 ?_
      refine jr.iload_n rfl rfl ?_
      refine jr.i2l rfl (by omega) ?_
      refine jr_v rfl rfl (Or.inl rfl) rfl rfl (Nat.lt_trans (kx_33 k2.2).1 (by decide)) (kx_33 k2.2).2 ⟨rfl, Nat.le_of_ble_eq_true rfl, Nat.le_of_ble_eq_true rfl⟩ rfl (jc.deep (c_Packet_hasByte hC_M ht_M k2.2 (by omega) (fun r3 z3 w3_0 => ?_)) (by decide))
      refine jr.if_eq rfl rfl (by omega) (fun h37 => ?_) (fun h37 => ?_)
      · refine jr.iconst rfl ?_
        exact jr.ireturn rfl rfl rfl (q _ (by omega) )
      · refine jr.aload_n rfl rfl ?_
        refine jr.getf (i := 2) (v := .ref 2) rfl rfl (by decide) rfl (by decide) rfl rfl rfl rfl ?_
        refine jr.iload_n rfl rfl ?_
        have k4 := kxe_42 (a := 2) rfl (i := x) (by omega) (by omega)
        refine jr.aald (c := (xe 2 x)) rfl (by decide) rfl (by decide) (by decide) rfl (by decide) (by omega) (by omega) k4.1 ?_
        refine jr.iload_n rfl rfl ?_
        refine jr_v rfl rfl (Or.inl rfl) rfl rfl (Nat.lt_trans (kx_33 k4.2).1 (by decide)) (kx_33 k4.2).2 ⟨rfl, Nat.le_of_ble_eq_true rfl, Nat.le_of_ble_eq_true rfl⟩ rfl (jc.deep (c_Packet_byteAt hC_M ht_M k4.2 (by omega) (fun r5 z5  => ?_)) (by decide))
        refine jr.goto rfl rfl ?_
        exact jr.ireturn rfl rfl rfl (q _ (by omega) )
    · refine jr.aload_n rfl rfl ?_
      refine jr.getf (i := 2) (v := .ref 2) rfl rfl (by decide) rfl (by decide) rfl rfl rfl rfl ?_
      refine jr.iload_n rfl rfl ?_
      have k6 := kxe_42 (a := 2) rfl (i := x) (by omega) (by omega)
      refine jr.aald (c := (xe 2 x)) rfl (by decide) rfl (by decide) (by decide) rfl (by decide) (by omega) (by omega) k6.1 ?_
      obtain ⟨v7, e7⟩ : ∃ z, M ((xe 2 x)) 1 = z := ⟨_, rfl⟩
      have b7 : (-1) ≤ v7 ∧ v7 ≤ 400 := by rw [← e7]; exact (CI.r hC_M k6.2 (by decide) 1)
      refine jr.getf (i := 1) (x := v7) (v := .int (Int32.ofInt (v7))) rfl rfl (Nat.lt_trans (kx_33 k6.2).1 (by decide)) (kx_33 k6.2).2 (by decide) rfl rfl e7 rfl ?_
      exact jr.ireturn rfl rfl rfl (q _ (by omega) )
  · refine jr.bipush rfl (by decide) ?_
    exact jr.ireturn rfl rfl rfl (q _ (by omega) )
theorem c_PacketWall_set {A : Nat → Option (Nat × (Nat → Int32))} {Q : Option Value → jm → Prop} {T : jm} {M : jm} (hC_M : CI M) (ht_M : KC T M) {x : Int} (h_x : (-2147483648) ≤ x ∧ x ≤ 2147483647) {y : Int} (h_y : (-2147483648) ≤ y ∧ y ≤ 2147483647) {z : Int} (h_z : (-2147483648) ≤ z ∧ z ≤ 2147483647) (q : ∀ (r : Int) (M' : jm), CI M' → KC T M' → (-2147483648) ≤ r ∧ r ≤ 2147483647 → Q (some (.int (Int32.ofInt r))) M') : jc A 3 14 [.ref (0), .int (Int32.ofInt (x)), .int (Int32.ofInt (y)), .int (Int32.ofInt (z))] M Q := by
  refine jc_of (m := xm_14) rfl (Nat.le_of_ble_eq_true rfl) rfl ?_
  refine jr.aload_n rfl rfl ?_
  refine jr.iload_n rfl rfl ?_
  refine jr_v rfl rfl (Or.inl rfl) rfl rfl (by decide) rfl ⟨rfl, Nat.le_of_ble_eq_true rfl, Nat.le_of_ble_eq_true rfl⟩ rfl (jc.deep (c_PacketWall_isPacket hC_M ht_M (by omega) (fun r1 z1 w1_0 => ?_)) (by decide))
  refine jr.if_ne rfl rfl (by omega) (fun h5 => ?_) (fun h5 => ?_)
  · refine jr.aload_n rfl rfl ?_
    refine jr.getf (i := 2) (v := .ref 2) rfl rfl (by decide) rfl (by decide) rfl rfl rfl rfl ?_
    refine jr.iload_n rfl rfl ?_
    have k2 := kxe_42 (a := 2) rfl (i := x) (by omega) (by omega)
    refine jr.aald (c := (xe 2 x)) rfl (by decide) rfl (by decide) (by decide) rfl (by decide) (by omega) (by omega) k2.1 ?_
    refine jr.iload_n rfl rfl ?_
    refine jr.i2l rfl (by omega) ?_
    refine jr_v rfl rfl (Or.inl rfl) rfl rfl (Nat.lt_trans (kx_33 k2.2).1 (by decide)) (kx_33 k2.2).2 ⟨rfl, Nat.le_of_ble_eq_true rfl, Nat.le_of_ble_eq_true rfl⟩ rfl (jc.deep (c_Packet_hasByte hC_M ht_M k2.2 (by omega) (fun r3 z3 w3_0 => ?_)) (by decide))
    refine jr.if_eq rfl rfl (by omega) (fun h22 => ?_) (fun h22 => ?_)
    · refine jr.bipush rfl (by decide) ?_
      exact jr.ireturn rfl rfl rfl (q _ _ hC_M ht_M (by omega) )
    · refine jr.iload_n rfl rfl ?_
      refine jr.if_lt rfl rfl (by omega) (fun h26 => ?_) (fun h26 => ?_)
      · refine jr.bipush rfl (by decide) ?_
        exact jr.ireturn rfl rfl rfl (q _ _ hC_M ht_M (by omega) )
      · refine jr.iload_n rfl rfl ?_
        refine jr.sipush rfl (by decide) ?_
        refine jr.icmp_le rfl rfl (by omega) (by omega) (fun h33 => ?_) (fun h33 => ?_)
        · refine jr.aload_n rfl rfl ?_
          refine jr.getf (i := 2) (v := .ref 2) rfl rfl (by decide) rfl (by decide) rfl rfl rfl rfl ?_
          refine jr.iload_n rfl rfl ?_
          have k4 := kxe_42 (a := 2) rfl (i := x) (by omega) (by omega)
          refine jr.aald (c := (xe 2 x)) rfl (by decide) rfl (by decide) (by decide) rfl (by decide) (by omega) (by omega) k4.1 ?_
          refine jr.iload_n rfl rfl ?_
          refine jr_v rfl rfl (Or.inl rfl) rfl rfl (Nat.lt_trans (kx_33 k4.2).1 (by decide)) (kx_33 k4.2).2 ⟨rfl, Nat.le_of_ble_eq_true rfl, Nat.le_of_ble_eq_true rfl⟩ rfl (jc.deep (c_Packet_byteAt hC_M ht_M k4.2 (by omega) (fun r5 z5  => ?_)) (by decide))
          refine jr.istore rfl (by decide) rfl ?_
          refine jr.aload_n rfl rfl ?_
          refine jr.getf (i := 2) (v := .ref 2) rfl rfl (by decide) rfl (by decide) rfl rfl rfl rfl ?_
          refine jr.iload_n rfl rfl ?_
          have k6 := kxe_42 (a := 2) rfl (i := x) (by omega) (by omega)
          refine jr.aald (c := (xe 2 x)) rfl (by decide) rfl (by decide) (by decide) rfl (by decide) (by omega) (by omega) k6.1 ?_
          have k7 := kf_33_0 k6.2
          refine jr.getf (i := 0) (v := .ref ((xe 2 x) + 1)) rfl rfl (Nat.lt_trans (kx_33 k6.2).1 (by decide)) (kx_33 k6.2).2 (by decide) rfl rfl rfl (jval_ref rfl k7.1) ?_
          refine jr.iload_n rfl rfl ?_
          refine jr.iload_n rfl rfl ?_
          refine jr.iast (i := y) (x := z) rfl (Nat.lt_trans (kx_34 k7.2).1 (by decide)) (kx_34 k7.2).2 (by decide) (by omega) (by omega) ?_
          refine jr.iload rfl rfl ?_
          exact jr.ireturn rfl rfl rfl (q _ _ (CI.u hC_M (i := y) k7.2 (show (0 : Int) ≤ _ ∧ _ ≤ (255 : Int) from by omega) rfl) (KC.o ht_M k7.2 (by decide)) (by omega) )
        · refine jr.bipush rfl (by decide) ?_
          exact jr.ireturn rfl rfl rfl (q _ _ hC_M ht_M (by omega) )
  · refine jr.bipush rfl (by decide) ?_
    exact jr.ireturn rfl rfl rfl (q _ _ hC_M ht_M (by omega) )
theorem c_PacketWall_flow {A : Nat → Option (Nat × (Nat → Int32))} {Q : Option Value → jm → Prop} {T : jm} {M : jm} (hC_M : CI M) (ht_M : KC T M) {x : Int} (h_x : (-2147483648) ≤ x ∧ x ≤ 2147483647) {y : Int} (h_y : (-2147483648) ≤ y ∧ y ≤ 2147483647) (q : ∀ (r : Int), (-2147483648) ≤ r ∧ r ≤ 2147483647 → Q (some (.int (Int32.ofInt r))) M) : jc A 2 20 [.ref (0), .int (Int32.ofInt (x)), .int (Int32.ofInt (y))] M Q := by
  refine jc_of (m := xm_20) rfl (Nat.le_of_ble_eq_true rfl) rfl ?_
  refine jr.aload_n rfl rfl ?_
  refine jr.getf (i := 9) (v := .ref 15) rfl rfl (by decide) rfl (by decide) rfl rfl rfl rfl ?_
  refine jr.iload_n rfl rfl ?_
  refine jr_v rfl rfl (Or.inl rfl) rfl rfl (by decide) rfl ⟨rfl, Nat.le_of_ble_eq_true rfl, Nat.le_of_ble_eq_true rfl⟩ rfl (jc.deep (c_Flows_isLive hC_M ht_M (by omega) (fun r1 z1 w1_0 => ?_)) (by decide))
  refine jr.if_ne rfl rfl (by omega) (fun h8 => ?_) (fun h8 => ?_)
  · refine jr.aload_n rfl rfl ?_
    refine jr.getf (i := 9) (v := .ref 15) rfl rfl (by decide) rfl (by decide) rfl rfl rfl rfl ?_
    obtain ⟨v2, e2⟩ : ∃ z, M 15 0 = z := ⟨_, rfl⟩
    have b2 : 16 ≤ v2 ∧ v2 ≤ 17 := by rw [← e2]; exact (CI.r hC_M (show kd 15 = 9 from rfl) (by decide) 0)
    have k3 : kd (v2).toNat = 13 := by rcases (show v2 = 16 ∨ v2 = 17 by omega) with h | h <;> (rw [h]; rfl)
    refine jr.getf (i := 0) (x := v2) (v := .ref (v2.toNat)) rfl rfl (by decide) rfl (by decide) rfl rfl e2 rfl ?_
    refine jr.iload_n rfl rfl ?_
    have k4 := kxe_13 k3 (i := x) (by omega) (by omega)
    refine jr.aald (c := (xe ((v2.toNat)) x)) rfl (Nat.lt_trans (kx_13 k3).1 (by decide)) (kx_13 k3).2 (by decide) (by decide) rfl (by decide) (by omega) (by omega) k4.1 ?_
    refine jr.iload_n rfl rfl ?_
    refine jr.aload_n rfl rfl ?_
    obtain ⟨v5, e5⟩ : ∃ z, M 0 8 = z := ⟨_, rfl⟩
    have b5 : (-2147483648) ≤ v5 ∧ v5 ≤ 2147483647 := by rw [← e5]; exact (CI.r hC_M (show kd 0 = 35 from rfl) (by decide) 8)
    refine jr.getf (i := 8) (x := v5) (v := .int (Int32.ofInt (v5))) rfl rfl (by decide) rfl (by decide) rfl rfl e5 rfl ?_
    refine jr_v rfl rfl (Or.inl rfl) rfl rfl (Nat.lt_trans (kx_1 k4.2).1 (by decide)) (kx_1 k4.2).2 ⟨rfl, Nat.le_of_ble_eq_true rfl, Nat.le_of_ble_eq_true rfl⟩ rfl (jc.deep (c_Flow_figure hC_M ht_M k4.2 (by omega) (by omega) (fun r6 z6  => ?_)) (by decide))
    exact jr.ireturn rfl rfl rfl (q _ (by omega) )
  · refine jr.bipush rfl (by decide) ?_
    exact jr.ireturn rfl rfl rfl (q _ (by omega) )
theorem c_PacketWall_flowed {A : Nat → Option (Nat × (Nat → Int32))} {Q : Option Value → jm → Prop} {T : jm} {M : jm} (hC_M : CI M) (ht_M : KC T M) {x : Int} (h_x : (-2147483648) ≤ x ∧ x ≤ 2147483647) {y : Int} (h_y : (-2147483648) ≤ y ∧ y ≤ 2147483647) (q : ∀ (r : Int), (-9223372036854775808) ≤ r ∧ r ≤ 9223372036854775807 → Q (some (.long (Int64.ofInt r))) M) : jc A 2 21 [.ref (0), .int (Int32.ofInt (x)), .int (Int32.ofInt (y))] M Q := by
  refine jc_of (m := xm_21) rfl (Nat.le_of_ble_eq_true rfl) rfl ?_
  refine jr.aload_n rfl rfl ?_
  refine jr.getf (i := 9) (v := .ref 15) rfl rfl (by decide) rfl (by decide) rfl rfl rfl rfl ?_
  refine jr.iload_n rfl rfl ?_
  refine jr_v rfl rfl (Or.inl rfl) rfl rfl (by decide) rfl ⟨rfl, Nat.le_of_ble_eq_true rfl, Nat.le_of_ble_eq_true rfl⟩ rfl (jc.deep (c_Flows_isLive hC_M ht_M (by omega) (fun r1 z1 w1_0 => ?_)) (by decide))
  refine jr.if_eq rfl rfl (by omega) (fun h8 => ?_) (fun h8 => ?_)
  · refine jr.ldc2 (x := (-1)) rfl rfl (by decide) ?_
    exact jr.lreturn rfl rfl (q _ (by omega) )
  · refine jr.aload_n rfl rfl ?_
    refine jr.getf (i := 9) (v := .ref 15) rfl rfl (by decide) rfl (by decide) rfl rfl rfl rfl ?_
    obtain ⟨v2, e2⟩ : ∃ z, M 15 0 = z := ⟨_, rfl⟩
    have b2 : 16 ≤ v2 ∧ v2 ≤ 17 := by rw [← e2]; exact (CI.r hC_M (show kd 15 = 9 from rfl) (by decide) 0)
    have k3 : kd (v2).toNat = 13 := by rcases (show v2 = 16 ∨ v2 = 17 by omega) with h | h <;> (rw [h]; rfl)
    refine jr.getf (i := 0) (x := v2) (v := .ref (v2.toNat)) rfl rfl (by decide) rfl (by decide) rfl rfl e2 rfl ?_
    refine jr.iload_n rfl rfl ?_
    have k4 := kxe_13 k3 (i := x) (by omega) (by omega)
    refine jr.aald (c := (xe ((v2.toNat)) x)) rfl (Nat.lt_trans (kx_13 k3).1 (by decide)) (kx_13 k3).2 (by decide) (by decide) rfl (by decide) (by omega) (by omega) k4.1 ?_
    refine jr.iload_n rfl rfl ?_
    refine jr_v rfl rfl (Or.inl rfl) rfl rfl (Nat.lt_trans (kx_1 k4.2).1 (by decide)) (kx_1 k4.2).2 ⟨rfl, Nat.le_of_ble_eq_true rfl, Nat.le_of_ble_eq_true rfl⟩ rfl (jc.deep (c_Flow_longFigure hC_M ht_M k4.2 (by omega) (fun r5 z5  => ?_)) (by decide))
    refine jr.goto rfl rfl ?_
    exact jr.lreturn rfl rfl (q _ (by omega) )
theorem c_PacketWall_close {A : Nat → Option (Nat × (Nat → Int32))} {Q : Option Value → jm → Prop} {T : jm} {M : jm} (hC_M : CI M) (ht_M : KC T M) {x : Int} (h_x : (-2147483648) ≤ x ∧ x ≤ 2147483647) (q : ∀ (r : Int) (M' : jm), CI M' → KC T M' → (-2147483648) ≤ r ∧ r ≤ 2147483647 → Q (some (.int (Int32.ofInt r))) M') : jc A 2 22 [.ref (0), .int (Int32.ofInt (x))] M Q := by
  refine jc_of (m := xm_22) rfl (Nat.le_of_ble_eq_true rfl) rfl ?_
  refine jr.aload_n rfl rfl ?_
  refine jr.getf (i := 9) (v := .ref 15) rfl rfl (by decide) rfl (by decide) rfl rfl rfl rfl ?_
  refine jr.iload_n rfl rfl ?_
  refine jr_v rfl rfl (Or.inl rfl) rfl rfl (by decide) rfl ⟨rfl, Nat.le_of_ble_eq_true rfl, Nat.le_of_ble_eq_true rfl⟩ rfl (jc.deep (c_Flows_isLive hC_M ht_M (by omega) (fun r1 z1 w1_0 => ?_)) (by decide))
  refine jr.if_ne rfl rfl (by omega) (fun h8 => ?_) (fun h8 => ?_)
  · refine jr.aload_n rfl rfl ?_
    refine jr.getf (i := 9) (v := .ref 15) rfl rfl (by decide) rfl (by decide) rfl rfl rfl rfl ?_
    obtain ⟨v2, e2⟩ : ∃ z, M 15 0 = z := ⟨_, rfl⟩
    have b2 : 16 ≤ v2 ∧ v2 ≤ 17 := by rw [← e2]; exact (CI.r hC_M (show kd 15 = 9 from rfl) (by decide) 0)
    have k3 : kd (v2).toNat = 13 := by rcases (show v2 = 16 ∨ v2 = 17 by omega) with h | h <;> (rw [h]; rfl)
    refine jr.getf (i := 0) (x := v2) (v := .ref (v2.toNat)) rfl rfl (by decide) rfl (by decide) rfl rfl e2 rfl ?_
    refine jr.iload_n rfl rfl ?_
    have k4 := kxe_13 k3 (i := x) (by omega) (by omega)
    refine jr.aald (c := (xe ((v2.toNat)) x)) rfl (Nat.lt_trans (kx_13 k3).1 (by decide)) (kx_13 k3).2 (by decide) (by decide) rfl (by decide) (by omega) (by omega) k4.1 ?_
    refine jr.iconst rfl ?_
    refine jr.putf (i := 0) (x := 0) rfl rfl (Nat.lt_trans (kx_1 k4.2).1 (by decide)) (kx_1 k4.2).2 (by decide) rfl rfl rfl rfl rfl ?_
    refine jr.iconst rfl ?_
    exact jr.ireturn rfl rfl rfl (q _ _ (CI.u hC_M (i := 0) k4.2 (show (0 : Int) ≤ _ ∧ _ ≤ (1 : Int) from by omega) rfl) (KC.o ht_M k4.2 (by decide)) (by omega) )
  · refine jr.bipush rfl (by decide) ?_
    exact jr.ireturn rfl rfl rfl (q _ _ hC_M ht_M (by omega) )
theorem c_PacketWall_wrong {A : Nat → Option (Nat × (Nat → Int32))} {Q : Option Value → jm → Prop} {T : jm} {M : jm} (hC_M : CI M) (ht_M : KC T M) (q : ∀ (r : Int), (-2147483648) ≤ r ∧ r ≤ 2147483647 → Q (some (.int (Int32.ofInt r))) M) : jc A 1 27 [.ref (0)] M Q := by
  refine jc_of (m := xm_27) rfl (Nat.le_of_ble_eq_true rfl) rfl ?_
  refine jr.aload_n rfl rfl ?_
  refine jr.getf (i := 10) (v := .ref 413) rfl rfl (by decide) rfl (by decide) rfl rfl rfl rfl ?_
  obtain ⟨v1, e1⟩ : ∃ z, M 413 1 = z := ⟨_, rfl⟩
  have b1 : (-2147483648) ≤ v1 ∧ v1 ≤ 2147483647 := by rw [← e1]; exact (CI.r hC_M (show kd 413 = 44 from rfl) (by decide) 1)
  refine jr.getf (i := 1) (x := v1) (v := .int (Int32.ofInt (v1))) rfl rfl (by decide) rfl (by decide) rfl rfl e1 rfl ?_
  exact jr.ireturn rfl rfl rfl (q _ (by omega) )
theorem c_PacketWall_learned {A : Nat → Option (Nat × (Nat → Int32))} {Q : Option Value → jm → Prop} {T : jm} {M : jm} (hC_M : CI M) (ht_M : KC T M) {x : Int} (h_x : (-2147483648) ≤ x ∧ x ≤ 2147483647) {y : Int} (h_y : (-2147483648) ≤ y ∧ y ≤ 2147483647) (q : ∀ (r : Int), (-9223372036854775808) ≤ r ∧ r ≤ 9223372036854775807 → Q (some (.long (Int64.ofInt r))) M) : jc A 2 32 [.ref (0), .int (Int32.ofInt (x)), .int (Int32.ofInt (y))] M Q := by
  refine jc_of (m := xm_32) rfl (Nat.le_of_ble_eq_true rfl) rfl ?_
  refine jr.iload_n rfl rfl ?_
  refine jr.if_lt rfl rfl (by omega) (fun h1 => ?_) (fun h1 => ?_)
  · refine jr.ldc2 (x := (-1)) rfl rfl (by decide) ?_
    exact jr.lreturn rfl rfl (q _ (by omega) )
  · refine jr.iload_n rfl rfl ?_
    refine jr.iconst rfl ?_
    refine jr.icmp_lt rfl rfl (by omega) (by omega) (fun h6 => ?_) (fun h6 => ?_)
    · refine jr.iload_n rfl rfl ?_
      refine jr.iconst rfl ?_
      refine jr.icmp_ne rfl rfl (by omega) (by omega) (fun h15 => ?_) (fun h15 => ?_)
      · refine jr.aload_n rfl rfl ?_
        refine jr.getf (i := 11) (v := .ref 421) rfl rfl (by decide) rfl (by decide) rfl rfl rfl rfl ?_
        refine jr.getf (i := 1) (v := .ref 423) rfl rfl (by decide) rfl (by decide) rfl rfl rfl rfl ?_
        refine jr.iload_n rfl rfl ?_
        refine jr.iload_n rfl rfl ?_
        refine jr_v rfl rfl (Or.inl rfl) rfl rfl (by decide) rfl ⟨rfl, Nat.le_of_ble_eq_true rfl, Nat.le_of_ble_eq_true rfl⟩ rfl (jc.deep (c_Memory_setItem hC_M ht_M (show kd 423 = 27 from rfl) (by omega) (by omega) (fun r1 z1  => ?_)) (by decide))
        exact jr.lreturn rfl rfl (q _ (by omega) )
      · refine jr.aload_n rfl rfl ?_
        refine jr.getf (i := 11) (v := .ref 421) rfl rfl (by decide) rfl (by decide) rfl rfl rfl rfl ?_
        refine jr.getf (i := 1) (v := .ref 423) rfl rfl (by decide) rfl (by decide) rfl rfl rfl rfl ?_
        refine jr.getf (i := 3) (v := .ref 427) rfl rfl (by decide) rfl (by decide) rfl rfl rfl rfl ?_
        refine jr.iload_n rfl rfl ?_
        obtain ⟨v2, e2⟩ : ∃ z, M 427 x = z := ⟨_, rfl⟩
        have b2 : 0 ≤ v2 ∧ v2 ≤ 16 := by rw [← e2]; exact (CI.r hC_M (show kd 427 = 32 from rfl) (by decide) x)
        refine jr.iald (i := x) (x := v2) rfl (by decide) rfl (by decide) (by omega) (by omega) e2 ?_
        refine jr.i2l rfl (by omega) ?_
        refine jr.goto rfl rfl ?_
        exact jr.lreturn rfl rfl (q _ (by omega) )
    · refine jr.ldc2 (x := (-1)) rfl rfl (by decide) ?_
      exact jr.lreturn rfl rfl (q _ (by omega) )
theorem c_PacketWall_bucket {A : Nat → Option (Nat × (Nat → Int32))} {Q : Option Value → jm → Prop} {T : jm} {M : jm} (hC_M : CI M) (ht_M : KC T M) {x : Int} (h_x : (-2147483648) ≤ x ∧ x ≤ 2147483647) {y : Int} (h_y : (-2147483648) ≤ y ∧ y ≤ 2147483647) {z : Int} (h_z : (-2147483648) ≤ z ∧ z ≤ 2147483647) (q : ∀ (r : Int) (M' : jm), CI M' → KC T M' → (-2147483648) ≤ r ∧ r ≤ 2147483647 → Q (some (.int (Int32.ofInt r))) M') : jc A 1 33 [.ref (0), .int (Int32.ofInt (x)), .int (Int32.ofInt (y)), .int (Int32.ofInt (z))] M Q := by
  refine jc_of (m := xm_33) rfl (Nat.le_of_ble_eq_true rfl) rfl ?_
  refine jr.iload_n rfl rfl ?_
  refine jr.if_lt rfl rfl (by omega) (fun h1 => ?_) (fun h1 => ?_)
  · refine jr.bipush rfl (by decide) ?_
    exact jr.ireturn rfl rfl rfl (q _ _ hC_M ht_M (by omega) )
  · refine jr.iload_n rfl rfl ?_
    refine jr.iconst rfl ?_
    refine jr.icmp_ge rfl rfl (by omega) (by omega) (fun h6 => ?_) (fun h6 => ?_)
    · refine jr.bipush rfl (by decide) ?_
      exact jr.ireturn rfl rfl rfl (q _ _ hC_M ht_M (by omega) )
    · refine jr.iload_n rfl rfl ?_
      refine jr.if_lt rfl rfl (by omega) (fun h10 => ?_) (fun h10 => ?_)
      · refine jr.bipush rfl (by decide) ?_
        exact jr.ireturn rfl rfl rfl (q _ _ hC_M ht_M (by omega) )
      · refine jr.iload_n rfl rfl ?_
        refine jr.sipush rfl (by decide) ?_
        refine jr.icmp_gt rfl rfl (by omega) (by omega) (fun h17 => ?_) (fun h17 => ?_)
        · refine jr.bipush rfl (by decide) ?_
          exact jr.ireturn rfl rfl rfl (q _ _ hC_M ht_M (by omega) )
        · refine jr.iload_n rfl rfl ?_
          refine jr.iconst rfl ?_
          refine jr.icmp_lt rfl rfl (by omega) (by omega) (fun h22 => ?_) (fun h22 => ?_)
          · refine jr.bipush rfl (by decide) ?_
            exact jr.ireturn rfl rfl rfl (q _ _ hC_M ht_M (by omega) )
          · refine jr.iload_n rfl rfl ?_
            refine jr.sipush rfl (by decide) ?_
            refine jr.icmp_le rfl rfl (by omega) (by omega) (fun h29 => ?_) (fun h29 => ?_)
            · refine jr.aload_n rfl rfl ?_
              refine jr.getf (i := 12) (v := .ref 523) rfl rfl (by decide) rfl (by decide) rfl rfl rfl rfl ?_
              refine jr.iload_n rfl rfl ?_
              refine jr.iload_n rfl rfl ?_
              refine jr.iast (i := x) (x := y) rfl (by decide) rfl (by decide) (by omega) (by omega) ?_
              refine jr.aload_n rfl rfl ?_
              refine jr.getf (i := 13) (v := .ref 524) rfl rfl (by decide) rfl (by decide) rfl rfl rfl rfl ?_
              refine jr.iload_n rfl rfl ?_
              refine jr.iload_n rfl rfl ?_
              refine jr.iast (i := x) (x := z) rfl (by decide) rfl (by decide) (by omega) (by omega) ?_
              refine jr.aload_n rfl rfl ?_
              refine jr.getf (i := 14) (v := .ref 525) rfl rfl (by decide) rfl (by decide) rfl rfl rfl rfl ?_
              refine jr.iload_n rfl rfl ?_
              refine jr.aload_n rfl rfl ?_
              obtain ⟨v1, e1⟩ : ∃ z, M 0 8 = z := ⟨_, rfl⟩
              have b1 : (-2147483648) ≤ v1 ∧ v1 ≤ 2147483647 := by rw [← e1]; exact (CI.r hC_M (show kd 0 = 35 from rfl) (by decide) 8)
              refine jr.getf (i := 8) (x := v1) (v := .int (Int32.ofInt (v1))) rfl rfl (by decide) rfl (by decide) rfl rfl ((ju_c _ _ (by decide)).trans ((ju_c _ _ (by decide)).trans e1)) rfl ?_
              refine jr.iast (i := x) (x := v1) rfl (by decide) rfl (by decide) (by omega) (by omega) ?_
              refine jr.aload_n rfl rfl ?_
              refine jr.getf (i := 11) (v := .ref 421) rfl rfl (by decide) rfl (by decide) rfl rfl rfl rfl ?_
              refine jr.getf (i := 1) (v := .ref 423) rfl rfl (by decide) rfl (by decide) rfl rfl rfl rfl ?_
              refine jr.getf (i := 1) (v := .ref 425) rfl rfl (by decide) rfl (by decide) rfl rfl rfl rfl ?_
              refine jr.iload_n rfl rfl ?_
              refine jr.iload_n rfl rfl ?_
              refine jr.iast (i := x) (x := y) rfl (by decide) rfl (by decide) (by omega) (by omega) ?_
              refine jr.iload_n rfl rfl ?_
              exact jr.ireturn rfl rfl rfl (q _ _ (CI.u (CI.u (CI.u (CI.u hC_M (i := x) (show kd 523 = 38 from rfl) (show (-2147483648 : Int) ≤ _ ∧ _ ≤ (2147483647 : Int) from by omega) rfl) (i := x) (show kd 524 = 36 from rfl) (show (-2147483648 : Int) ≤ _ ∧ _ ≤ (2147483647 : Int) from by omega) rfl) (i := x) (show kd 525 = 37 from rfl) (show (-2147483648 : Int) ≤ _ ∧ _ ≤ (2147483647 : Int) from by omega) rfl) (i := x) (show kd 425 = 28 from rfl) (show (-2147483648 : Int) ≤ _ ∧ _ ≤ (2147483647 : Int) from by omega) rfl) (KC.o (KC.o (KC.o (KC.o ht_M (show kd 523 = 38 from rfl) (by decide)) (show kd 524 = 36 from rfl) (by decide)) (show kd 525 = 37 from rfl) (by decide)) (show kd 425 = 28 from rfl) (by decide)) (by omega) )
            · refine jr.bipush rfl (by decide) ?_
              exact jr.ireturn rfl rfl rfl (q _ _ hC_M ht_M (by omega) )
theorem c_PacketWall_rowAt {A : Nat → Option (Nat × (Nat → Int32))} {Q : Option Value → jm → Prop} {T : jm} {M : jm} (hC_M : CI M) (ht_M : KC T M) {x : Int} (h_x : (-2147483648) ≤ x ∧ x ≤ 2147483647) {y : Int} (h_y : (-2147483648) ≤ y ∧ y ≤ 2147483647) (q : ∀ (r : Int), (-9223372036854775808) ≤ r ∧ r ≤ 9223372036854775807 → Q (some (.long (Int64.ofInt r))) M) : jc A 2 35 [.ref (0), .int (Int32.ofInt (x)), .int (Int32.ofInt (y))] M Q := by
  refine jc_of (m := xm_35) rfl (Nat.le_of_ble_eq_true rfl) rfl ?_
  refine jr.iload_n rfl rfl ?_
  refine jr.if_lt rfl rfl (by omega) (fun h1 => ?_) (fun h1 => ?_)
  · refine jr.ldc2 (x := (-3)) rfl rfl (by decide) ?_
    exact jr.lreturn rfl rfl (q _ (by omega) )
  · refine jr.iload_n rfl rfl ?_
    refine jr.bipush rfl (by decide) ?_
    refine jr.icmp_lt rfl rfl (by omega) (by omega) (fun h7 => ?_) (fun h7 => ?_)
    · refine jr.aload_n rfl rfl ?_
      refine jr.getf (i := 11) (v := .ref 421) rfl rfl (by decide) rfl (by decide) rfl rfl rfl rfl ?_
      refine jr.getf (i := 0) (v := .ref 422) rfl rfl (by decide) rfl (by decide) rfl rfl rfl rfl ?_
      refine jr.iload_n rfl rfl ?_
      have k1 := kxe_25 (a := 422) rfl (i := x) (by omega) (by omega)
      refine jr.aald (c := (xe 422 x)) rfl (by decide) rfl (by decide) (by decide) rfl (by decide) (by omega) (by omega) k1.1 ?_
      refine jr.astore_n rfl (by decide) rfl ?_
      refine jr.iload_n rfl rfl ?_
      refine jr.iconst rfl ?_
      refine jr.icmp_ne rfl rfl (by omega) (by omega) (fun h26 => ?_) (fun h26 => ?_)
      · refine jr.aload_n rfl rfl ?_
        refine jr.iload_n rfl rfl ?_
        refine jr.i2l rfl (by omega) ?_
        refine jr_v rfl rfl (Or.inl rfl) rfl rfl (Nat.lt_trans (kx_52 k1.2).1 (by decide)) (kx_52 k1.2).2 ⟨rfl, Nat.le_of_ble_eq_true rfl, Nat.le_of_ble_eq_true rfl⟩ rfl (jc.deep (c_Row_hasItem hC_M ht_M k1.2 (by omega) (fun r2 z2 w2_0 => ?_)) (by decide))
        refine jr.if_eq rfl rfl (by omega) (fun h41 => ?_) (fun h41 => ?_)
        · refine jr.ldc2 (x := (-1)) rfl rfl (by decide) ?_
          exact jr.lreturn rfl rfl (q _ (by omega) )
        · refine jr.aload_n rfl rfl ?_
          have k3 := kf_52_2 k1.2
          refine jr.getf (i := 2) (v := .ref ((xe 422 x) + 1)) rfl rfl (Nat.lt_trans (kx_52 k1.2).1 (by decide)) (kx_52 k1.2).2 (by decide) rfl rfl rfl (jval_ref rfl k3.1) ?_
          refine jr.iload_n rfl rfl ?_
          obtain ⟨v4, e4⟩ : ∃ z, M (((xe 422 x) + 1)) y = z := ⟨_, rfl⟩
          have b4 : (-9223372036854775808) ≤ v4 ∧ v4 ≤ 9223372036854775807 := by rw [← e4]; exact (CI.r hC_M k3.2 (by decide) y)
          refine jr.lald (i := y) (x := v4) rfl (Nat.lt_trans (kx_54 k3.2).1 (by decide)) (kx_54 k3.2).2 (by decide) (by omega) (by omega) e4 ?_
          refine jr.goto rfl rfl ?_
          exact jr.lreturn rfl rfl (q _ (by omega) )
      · refine jr.aload_n rfl rfl ?_
        obtain ⟨v5, e5⟩ : ∃ z, M ((xe 422 x)) 0 = z := ⟨_, rfl⟩
        have b5 : (-2147483648) ≤ v5 ∧ v5 ≤ 2147483647 := by rw [← e5]; exact (CI.r hC_M k1.2 (by decide) 0)
        refine jr.getf (i := 0) (x := v5) (v := .int (Int32.ofInt (v5))) rfl rfl (Nat.lt_trans (kx_52 k1.2).1 (by decide)) (kx_52 k1.2).2 (by decide) rfl rfl e5 rfl ?_
        refine jr.i2l rfl (by omega) ?_
        exact jr.lreturn rfl rfl (q _ (by omega) )
    · refine jr.ldc2 (x := (-3)) rfl rfl (by decide) ?_
      exact jr.lreturn rfl rfl (q _ (by omega) )
theorem c_PacketWall_mark {A : Nat → Option (Nat × (Nat → Int32))} {Q : Option Value → jm → Prop} {T : jm} {M : jm} (hC_M : CI M) (ht_M : KC T M) {x : Int} (h_x : (-2147483648) ≤ x ∧ x ≤ 2147483647) (q : ∀ (r : Int), (-9223372036854775808) ≤ r ∧ r ≤ 9223372036854775807 → Q (some (.long (Int64.ofInt r))) M) : jc A 3 36 [.ref (0), .int (Int32.ofInt (x))] M Q := by
  refine jc_of (m := xm_36) rfl (Nat.le_of_ble_eq_true rfl) rfl ?_
  refine jr.aload_n rfl rfl ?_
  refine jr.iload_n rfl rfl ?_
  refine jr_v rfl rfl (Or.inl rfl) rfl rfl (by decide) rfl ⟨rfl, Nat.le_of_ble_eq_true rfl, Nat.le_of_ble_eq_true rfl⟩ rfl (jc.deep (c_PacketWall_isPacket hC_M ht_M (by omega) (fun r1 z1 w1_0 => ?_)) (by decide))
  refine jr.if_eq rfl rfl (by omega) (fun h5 => ?_) (fun h5 => ?_)
  · refine jr.lconst (x := 0) rfl (by decide) ?_
    exact jr.lreturn rfl rfl (q _ (by omega) )
  · refine jr.aload_n rfl rfl ?_
    refine jr.getf (i := 2) (v := .ref 2) rfl rfl (by decide) rfl (by decide) rfl rfl rfl rfl ?_
    refine jr.iload_n rfl rfl ?_
    have k2 := kxe_42 (a := 2) rfl (i := x) (by omega) (by omega)
    refine jr.aald (c := (xe 2 x)) rfl (by decide) rfl (by decide) (by decide) rfl (by decide) (by omega) (by omega) k2.1 ?_
    obtain ⟨v3, e3⟩ : ∃ z, M ((xe 2 x)) 2 = z := ⟨_, rfl⟩
    have b3 : (-9223372036854775808) ≤ v3 ∧ v3 ≤ 9223372036854775807 := by rw [← e3]; exact (CI.r hC_M k2.2 (by decide) 2)
    refine jr.getf (i := 2) (x := v3) (v := .long (Int64.ofInt (v3))) rfl rfl (Nat.lt_trans (kx_33 k2.2).1 (by decide)) (kx_33 k2.2).2 (by decide) rfl rfl e3 rfl ?_
    refine jr.goto rfl rfl ?_
    exact jr.lreturn rfl rfl (q _ (by omega) )
theorem c_PacketWall_told {A : Nat → Option (Nat × (Nat → Int32))} {Q : Option Value → jm → Prop} {T : jm} {M : jm} (hC_M : CI M) (ht_M : KC T M) {x : Int} (h_x : (-2147483648) ≤ x ∧ x ≤ 2147483647) (q : ∀ (r : Int), (-2147483648) ≤ r ∧ r ≤ 2147483647 → Q (some (.int (Int32.ofInt r))) M) : jc A 3 40 [.ref (0), .int (Int32.ofInt (x))] M Q := by
  refine jc_of (m := xm_40) rfl (Nat.le_of_ble_eq_true rfl) rfl ?_
  refine jr.iload_n rfl rfl ?_
  rcases (show x = 0 ∨ x = 1 ∨ x = 2 ∨ x = 3 ∨ x = 4 ∨ x = 5 ∨ x = 6 ∨ x = 7 ∨ x = 8 ∨ (x ≠ 0 ∧ x ≠ 1 ∧ x ≠ 2 ∧ x ≠ 3 ∧ x ≠ 4 ∧ x ≠ 5 ∧ x ≠ 6 ∧ x ≠ 7 ∧ x ≠ 8) by omega) with h1 | h1 | h1 | h1 | h1 | h1 | h1 | h1 | h1 | h1
  · refine jr.tsw_k 0 rfl h1 rfl ?_
    refine jr.aload_n rfl rfl ?_
    obtain ⟨v1, e1⟩ : ∃ z, M 0 8 = z := ⟨_, rfl⟩
    have b1 : (-2147483648) ≤ v1 ∧ v1 ≤ 2147483647 := by rw [← e1]; exact (CI.r hC_M (show kd 0 = 35 from rfl) (by decide) 8)
    refine jr.getf (i := 8) (x := v1) (v := .int (Int32.ofInt (v1))) rfl rfl (by decide) rfl (by decide) rfl rfl e1 rfl ?_
    exact jr.ireturn rfl rfl rfl (q _ (by omega) )
  · refine jr.tsw_k 1 rfl h1 rfl ?_
    refine jr.aload_n rfl rfl ?_
    refine jr_v rfl rfl (Or.inl rfl) rfl rfl (by decide) rfl ⟨rfl, Nat.le_of_ble_eq_true rfl, Nat.le_of_ble_eq_true rfl⟩ rfl (jc.deep (c_PacketWall_countPackets hC_M ht_M  (fun r2 z2  => ?_)) (by decide))
    exact jr.ireturn rfl rfl rfl (q _ (by omega) )
  · refine jr.tsw_k 2 rfl h1 rfl ?_
    refine jr.aload_n rfl rfl ?_
    refine jr_v rfl rfl (Or.inl rfl) rfl rfl (by decide) rfl ⟨rfl, Nat.le_of_ble_eq_true rfl, Nat.le_of_ble_eq_true rfl⟩ rfl (jc.deep (c_PacketWall_countGatherings hC_M ht_M  (fun r3 z3  => ?_)) (by decide))
    exact jr.ireturn rfl rfl rfl (q _ (by omega) )
  · refine jr.tsw_k 3 rfl h1 rfl ?_
    refine jr.aload_n rfl rfl ?_
    refine jr.getf (i := 9) (v := .ref 15) rfl rfl (by decide) rfl (by decide) rfl rfl rfl rfl ?_
    refine jr_v rfl rfl (Or.inl rfl) rfl rfl (by decide) rfl ⟨rfl, Nat.le_of_ble_eq_true rfl, Nat.le_of_ble_eq_true rfl⟩ rfl (jc.deep (c_Flows_countLive hC_M ht_M  (fun r4 z4  => ?_)) (by decide))
    exact jr.ireturn rfl rfl rfl (q _ (by omega) )
  · refine jr.tsw_k 4 rfl h1 rfl ?_
    refine jr.aload_n rfl rfl ?_
    refine jr.getf (i := 11) (v := .ref 421) rfl rfl (by decide) rfl (by decide) rfl rfl rfl rfl ?_
    obtain ⟨v5, e5⟩ : ∃ z, M 421 2 = z := ⟨_, rfl⟩
    have b5 : (-9223372036854775808) ≤ v5 ∧ v5 ≤ 9223372036854775807 := by rw [← e5]; exact (CI.r hC_M (show kd 421 = 22 from rfl) (by decide) 2)
    have k6 : kd (v5).toNat = 47 := ((congrArg (fun z : Int => kd z.toNat) e5).symm.trans (CI.x hC_M (show kd 421 = 22 from rfl) 2 rfl (by decide)))
    refine jr.getf (i := 2) (x := v5) (v := .ref (v5.toNat)) rfl rfl (by decide) rfl (by decide) rfl rfl e5 rfl ?_
    obtain ⟨v7, e7⟩ : ∃ z, M ((v5.toNat)) 3 = z := ⟨_, rfl⟩
    have b7 : 0 ≤ v7 ∧ v7 ≤ 16 := by rw [← e7]; exact (CI.r hC_M k6 (by decide) 3)
    refine jr.getf (i := 3) (x := v7) (v := .int (Int32.ofInt (v7))) rfl rfl (Nat.lt_trans (kx_47 k6).1 (by decide)) (kx_47 k6).2 (by decide) rfl rfl e7 rfl ?_
    exact jr.ireturn rfl rfl rfl (q _ (by omega) )
  · refine jr.tsw_k 5 rfl h1 rfl ?_
    refine jr.aload_n rfl rfl ?_
    refine jr.getf (i := 11) (v := .ref 421) rfl rfl (by decide) rfl (by decide) rfl rfl rfl rfl ?_
    obtain ⟨v8, e8⟩ : ∃ z, M 421 2 = z := ⟨_, rfl⟩
    have b8 : (-9223372036854775808) ≤ v8 ∧ v8 ≤ 9223372036854775807 := by rw [← e8]; exact (CI.r hC_M (show kd 421 = 22 from rfl) (by decide) 2)
    have k9 : kd (v8).toNat = 47 := ((congrArg (fun z : Int => kd z.toNat) e8).symm.trans (CI.x hC_M (show kd 421 = 22 from rfl) 2 rfl (by decide)))
    refine jr.getf (i := 2) (x := v8) (v := .ref (v8.toNat)) rfl rfl (by decide) rfl (by decide) rfl rfl e8 rfl ?_
    obtain ⟨v10, e10⟩ : ∃ z, M ((v8.toNat)) 4 = z := ⟨_, rfl⟩
    have b10 : (-2147483648) ≤ v10 ∧ v10 ≤ 2147483647 := by rw [← e10]; exact (CI.r hC_M k9 (by decide) 4)
    refine jr.getf (i := 4) (x := v10) (v := .int (Int32.ofInt (v10))) rfl rfl (Nat.lt_trans (kx_47 k9).1 (by decide)) (kx_47 k9).2 (by decide) rfl rfl e10 rfl ?_
    exact jr.ireturn rfl rfl rfl (q _ (by omega) )
  · refine jr.tsw_k 6 rfl h1 rfl ?_
    refine jr.aload_n rfl rfl ?_
    refine jr.getf (i := 11) (v := .ref 421) rfl rfl (by decide) rfl (by decide) rfl rfl rfl rfl ?_
    obtain ⟨v11, e11⟩ : ∃ z, M 421 3 = z := ⟨_, rfl⟩
    have b11 : (-2147483648) ≤ v11 ∧ v11 ≤ 2147483647 := by rw [← e11]; exact (CI.r hC_M (show kd 421 = 22 from rfl) (by decide) 3)
    refine jr.getf (i := 3) (x := v11) (v := .int (Int32.ofInt (v11))) rfl rfl (by decide) rfl (by decide) rfl rfl e11 rfl ?_
    exact jr.ireturn rfl rfl rfl (q _ (by omega) )
  · refine jr.tsw_k 7 rfl h1 rfl ?_
    refine jr.aload_n rfl rfl ?_
    obtain ⟨v12, e12⟩ : ∃ z, M 0 1 = z := ⟨_, rfl⟩
    have b12 : 0 ≤ v12 ∧ v12 ≤ 1600 := by rw [← e12]; exact (CI.r hC_M (show kd 0 = 35 from rfl) (by decide) 1)
    refine jr.getf (i := 1) (x := v12) (v := .int (Int32.ofInt (v12))) rfl rfl (by decide) rfl (by decide) rfl rfl e12 rfl ?_
    exact jr.ireturn rfl rfl rfl (q _ (by omega) )
  · refine jr.tsw_k 8 rfl h1 rfl ?_
    refine jr.aload_n rfl rfl ?_
    refine jr.getf (i := 11) (v := .ref 421) rfl rfl (by decide) rfl (by decide) rfl rfl rfl rfl ?_
    refine jr.getf (i := 1) (v := .ref 423) rfl rfl (by decide) rfl (by decide) rfl rfl rfl rfl ?_
    obtain ⟨v13, e13⟩ : ∃ z, M 423 5 = z := ⟨_, rfl⟩
    have b13 : (-2147483648) ≤ v13 ∧ v13 ≤ 2147483647 := by rw [← e13]; exact (CI.r hC_M (show kd 423 = 27 from rfl) (by decide) 5)
    refine jr.getf (i := 5) (x := v13) (v := .int (Int32.ofInt (v13))) rfl rfl (by decide) rfl (by decide) rfl rfl e13 rfl ?_
    exact jr.ireturn rfl rfl rfl (q _ (by omega) )
  · refine jr.tsw_d rfl (by omega) (by omega) rfl ?_
    refine jr.bipush rfl (by decide) ?_
    exact jr.ireturn rfl rfl rfl (q _ (by omega) )
theorem c_Flows_stateOf {A : Nat → Option (Nat × (Nat → Int32))} {Q : Option Value → jm → Prop} {T : jm} {M : jm} (hC_M : CI M) (ht_M : KC T M) {x : Int} (h_x : (-2147483648) ≤ x ∧ x ≤ 2147483647) (q : ∀ (r : Int), (-2147483648) ≤ r ∧ r ≤ 2147483647 → Q (some (.int (Int32.ofInt r))) M) : jc A 2 77 [.ref (15), .int (Int32.ofInt (x))] M Q := by
  refine jc_of (m := xm_77) rfl (Nat.le_of_ble_eq_true rfl) rfl ?_
  refine jr.aload_n rfl rfl ?_
  refine jr.iload_n rfl rfl ?_
  refine jr_v rfl rfl (Or.inl rfl) rfl rfl (by decide) rfl ⟨rfl, Nat.le_of_ble_eq_true rfl, Nat.le_of_ble_eq_true rfl⟩ rfl (jc.deep (c_Flows_isLive hC_M ht_M (by omega) (fun r1 z1 w1_0 => ?_)) (by decide))
  refine jr.if_eq rfl rfl (by omega) (fun h5 => ?_) (fun h5 => ?_)
  · refine jr.iconst rfl ?_
    exact jr.ireturn rfl rfl rfl (q _ (by omega) )
  · refine jr.aload_n rfl rfl ?_
    obtain ⟨v2, e2⟩ : ∃ z, M 15 0 = z := ⟨_, rfl⟩
    have b2 : 16 ≤ v2 ∧ v2 ≤ 17 := by rw [← e2]; exact (CI.r hC_M (show kd 15 = 9 from rfl) (by decide) 0)
    have k3 : kd (v2).toNat = 13 := by rcases (show v2 = 16 ∨ v2 = 17 by omega) with h | h <;> (rw [h]; rfl)
    refine jr.getf (i := 0) (x := v2) (v := .ref (v2.toNat)) rfl rfl (by decide) rfl (by decide) rfl rfl e2 rfl ?_
    refine jr.iload_n rfl rfl ?_
    have k4 := kxe_13 k3 (i := x) (by omega) (by omega)
    refine jr.aald (c := (xe ((v2.toNat)) x)) rfl (Nat.lt_trans (kx_13 k3).1 (by decide)) (kx_13 k3).2 (by decide) (by decide) rfl (by decide) (by omega) (by omega) k4.1 ?_
    obtain ⟨v5, e5⟩ : ∃ z, M ((xe ((v2.toNat)) x)) 5 = z := ⟨_, rfl⟩
    have b5 : (-2147483648) ≤ v5 ∧ v5 ≤ 2147483647 := by rw [← e5]; exact (CI.r hC_M k4.2 (by decide) 5)
    refine jr.getf (i := 5) (x := v5) (v := .int (Int32.ofInt (v5))) rfl rfl (Nat.lt_trans (kx_1 k4.2).1 (by decide)) (kx_1 k4.2).2 (by decide) rfl rfl e5 rfl ?_
    refine jr.goto rfl rfl ?_
    exact jr.ireturn rfl rfl rfl (q _ (by omega) )
theorem c_Gathering_packetLength {A : Nat → Option (Nat × (Nat → Int32))} {Q : Option Value → jm → Prop} {T : jm} {M : jm} (hC_M : CI M) (ht_M : KC T M) {t : Nat} (k_t : kd t = 15) (q : ∀ (r : Int), (-2147483648) ≤ r ∧ r ≤ 2147483647 → Q (some (.int (Int32.ofInt r))) M) : jc A 2 98 [.ref (t)] M Q := by
  refine jc_of (m := xm_98) rfl (Nat.le_of_ble_eq_true rfl) rfl ?_
  refine jr.aload_n rfl rfl ?_
  refine jr_v rfl rfl (Or.inl rfl) rfl rfl (Nat.lt_trans (kx_15 k_t).1 (by decide)) (kx_15 k_t).2 ⟨rfl, Nat.le_of_ble_eq_true rfl, Nat.le_of_ble_eq_true rfl⟩ rfl (jc.deep (c_Gathering_headersLength hC_M ht_M k_t (fun r1 z1  => ?_)) (by decide))
  refine jr.aload_n rfl rfl ?_
  obtain ⟨v2, e2⟩ : ∃ z, M t 7 = z := ⟨_, rfl⟩
  have b2 : (-2147483648) ≤ v2 ∧ v2 ≤ 2147483647 := by rw [← e2]; exact (CI.r hC_M k_t (by decide) 7)
  refine jr.getf (i := 7) (x := v2) (v := .int (Int32.ofInt (v2))) rfl rfl (Nat.lt_trans (kx_15 k_t).1 (by decide)) (kx_15 k_t).2 (by decide) rfl rfl e2 rfl ?_
  refine jr.iadd rfl ?_
  refine jr.iw (j_w (r1 + v2)) (j_w_eq _) ?_
  have b3 : -2147483648 ≤ j_w (r1 + v2) ∧ j_w (r1 + v2) ≤ 2147483647 := jb_any _
  generalize j_w (r1 + v2) = v3 at b3 ⊢
  exact jr.ireturn rfl rfl rfl (q _ (by omega) )
theorem c_Gathering_lastPlace {A : Nat → Option (Nat × (Nat → Int32))} {Q : Option Value → jm → Prop} {T : jm} {M : jm} (hC_M : CI M) (ht_M : KC T M) {t : Nat} (k_t : kd t = 15) (q : ∀ (r : Int), (-2147483648) ≤ r ∧ r ≤ 2147483647 → Q (some (.int (Int32.ofInt r))) M) : jc A 1 102 [.ref (t)] M Q := by
  refine jc_of (m := xm_102) rfl (Nat.le_of_ble_eq_true rfl) rfl ?_
  refine jr.aload_n rfl rfl ?_
  obtain ⟨v1, e1⟩ : ∃ z, M t 7 = z := ⟨_, rfl⟩
  have b1 : (-2147483648) ≤ v1 ∧ v1 ≤ 2147483647 := by rw [← e1]; exact (CI.r hC_M k_t (by decide) 7)
  refine jr.getf (i := 7) (x := v1) (v := .int (Int32.ofInt (v1))) rfl rfl (Nat.lt_trans (kx_15 k_t).1 (by decide)) (kx_15 k_t).2 (by decide) rfl rfl e1 rfl ?_
  refine jr.iconst rfl ?_
  refine jr.icmp_ne rfl rfl (by omega) (by omega) (fun h5 => ?_) (fun h5 => ?_)
  · refine jr.aload_n rfl rfl ?_
    refine jr.getf (i := 7) (x := v1) (v := .int (Int32.ofInt (v1))) rfl rfl (Nat.lt_trans (kx_15 k_t).1 (by decide)) (kx_15 k_t).2 (by decide) rfl rfl e1 rfl ?_
    refine jr.sipush rfl (by decide) ?_
    refine jr.imin rfl rfl (Nat.le_of_ble_eq_true rfl) (by omega) (by omega) ?_
    intro v2 d2 b2 c2
    exact jr.ireturn rfl rfl rfl (q _ (by omega) )
  · refine jr.sipush rfl (by decide) ?_
    refine jr.goto rfl rfl ?_
    exact jr.ireturn rfl rfl rfl (q _ (by omega) )
theorem c_Headers_endOf {A : Nat → Option (Nat × (Nat → Int32))} {Q : Option Value → jm → Prop} {T : jm} {M : jm} (hC_M : CI M) (ht_M : KC T M) {t : Nat} (k_t : kd t = 18) {x : Int} (h_x : (-2147483648) ≤ x ∧ x ≤ 2147483647) (q : ∀ (r : Int), (-2147483648) ≤ r ∧ r ≤ 2147483647 → Q (some (.int (Int32.ofInt r))) M) : jc A 2 118 [.ref (t), .int (Int32.ofInt (x))] M Q := by
  refine jc_of (m := xm_118) rfl (Nat.le_of_ble_eq_true rfl) rfl ?_
  refine jr.aload_n rfl rfl ?_
  refine jr.iload_n rfl rfl ?_
  refine jr_v rfl rfl (Or.inl rfl) rfl rfl (Nat.lt_trans (kx_18 k_t).1 (by decide)) (kx_18 k_t).2 ⟨rfl, Nat.le_of_ble_eq_true rfl, Nat.le_of_ble_eq_true rfl⟩ rfl (jc.deep (c_Headers_hasHeader hC_M ht_M k_t (by omega) (fun r1 z1 w1_0 => ?_)) (by decide))
  refine jr.if_eq rfl rfl (by omega) (fun h5 => ?_) (fun h5 => ?_)
  · refine jr.iconst rfl ?_
    exact jr.ireturn rfl rfl rfl (q _ (by omega) )
  · refine jr.aload_n rfl rfl ?_
    have k2 := kf_18_1 k_t
    refine jr.getf (i := 1) (v := .ref (t + 2)) rfl rfl (Nat.lt_trans (kx_18 k_t).1 (by decide)) (kx_18 k_t).2 (by decide) rfl rfl rfl (jval_ref rfl k2.1) ?_
    refine jr.iload_n rfl rfl ?_
    obtain ⟨v3, e3⟩ : ∃ z, M ((t + 2)) x = z := ⟨_, rfl⟩
    have b3 : (-2147483648) ≤ v3 ∧ v3 ≤ 2147483647 := by rw [← e3]; exact (CI.r hC_M k2.2 (by decide) x)
    refine jr.iald (i := x) (x := v3) rfl (Nat.lt_trans (kx_20 k2.2).1 (by decide)) (kx_20 k2.2).2 (by decide) (by omega) (by omega) e3 ?_
    refine jr.aload_n rfl rfl ?_
    have k4 := kf_18_2 k_t
    refine jr.getf (i := 2) (v := .ref (t + 3)) rfl rfl (Nat.lt_trans (kx_18 k_t).1 (by decide)) (kx_18 k_t).2 (by decide) rfl rfl rfl (jval_ref rfl k4.1) ?_
    refine jr.iload_n rfl rfl ?_
    obtain ⟨v5, e5⟩ : ∃ z, M ((t + 3)) x = z := ⟨_, rfl⟩
    have b5 : (-2147483648) ≤ v5 ∧ v5 ≤ 2147483647 := by rw [← e5]; exact (CI.r hC_M k4.2 (by decide) x)
    refine jr.iald (i := x) (x := v5) rfl (Nat.lt_trans (kx_21 k4.2).1 (by decide)) (kx_21 k4.2).2 (by decide) (by omega) (by omega) e5 ?_
    refine jr.iadd rfl ?_
    refine jr.iw (j_w (v3 + v5)) (j_w_eq _) ?_
    have b6 : -2147483648 ≤ j_w (v3 + v5) ∧ j_w (v3 + v5) ≤ 2147483647 := jb_any _
    generalize j_w (v3 + v5) = v6 at b6 ⊢
    refine jr.goto rfl rfl ?_
    exact jr.ireturn rfl rfl rfl (q _ (by omega) )
theorem c_Headers_dataBehind {A : Nat → Option (Nat × (Nat → Int32))} {Q : Option Value → jm → Prop} {T : jm} {M : jm} (hC_M : CI M) (ht_M : KC T M) {t : Nat} (k_t : kd t = 18) {x : Int} (h_x : (-2147483648) ≤ x ∧ x ≤ 2147483647) (q : ∀ (r : Int), (-2147483648) ≤ r ∧ r ≤ 2147483647 → Q (some (.int (Int32.ofInt r))) M) : jc A 3 119 [.ref (t), .int (Int32.ofInt (x))] M Q := by
  refine jc_of (m := xm_119) rfl (Nat.le_of_ble_eq_true rfl) rfl ?_
  refine jr.aload_n rfl rfl ?_
  obtain ⟨v1, e1⟩ : ∃ z, M t 7 = z := ⟨_, rfl⟩
  have b1 : (-9223372036854775808) ≤ v1 ∧ v1 ≤ 9223372036854775807 := by rw [← e1]; exact (CI.r hC_M k_t (by decide) 7)
  have k2 : kd (v1).toNat = 33 := ((congrArg (fun z : Int => kd z.toNat) e1).symm.trans (CI.x hC_M k_t 7 rfl (by decide)))
  refine jr.getf (i := 7) (x := v1) (v := .ref (v1.toNat)) rfl rfl (Nat.lt_trans (kx_18 k_t).1 (by decide)) (kx_18 k_t).2 (by decide) rfl rfl e1 (jval_mut rfl (kn_18_7 k_t)) ?_
  obtain ⟨v3, e3⟩ : ∃ z, M ((v1.toNat)) 1 = z := ⟨_, rfl⟩
  have b3 : (-1) ≤ v3 ∧ v3 ≤ 400 := by rw [← e3]; exact (CI.r hC_M k2 (by decide) 1)
  refine jr.getf (i := 1) (x := v3) (v := .int (Int32.ofInt (v3))) rfl rfl (Nat.lt_trans (kx_33 k2).1 (by decide)) (kx_33 k2).2 (by decide) rfl rfl e3 rfl ?_
  refine jr.aload_n rfl rfl ?_
  refine jr.iload_n rfl rfl ?_
  refine jr_v rfl rfl (Or.inl rfl) rfl rfl (Nat.lt_trans (kx_18 k_t).1 (by decide)) (kx_18 k_t).2 ⟨rfl, Nat.le_of_ble_eq_true rfl, Nat.le_of_ble_eq_true rfl⟩ rfl (jc.deep (c_Headers_endOf hC_M ht_M k_t (by omega) (fun r4 z4  => ?_)) (by decide))
  refine jr.isub rfl ?_
  refine jr.iw (j_w (v3 - r4)) (j_w_eq _) ?_
  have b5 : -2147483648 ≤ j_w (v3 - r4) ∧ j_w (v3 - r4) ≤ 2147483647 := jb_any _
  generalize j_w (v3 - r4) = v5 at b5 ⊢
  exact jr.ireturn rfl rfl rfl (q _ (by omega) )
theorem c_Headers_isCut {A : Nat → Option (Nat × (Nat → Int32))} {Q : Option Value → jm → Prop} {T : jm} {M : jm} (hC_M : CI M) (ht_M : KC T M) {t : Nat} (k_t : kd t = 18) {x : Int} (h_x : (-2147483648) ≤ x ∧ x ≤ 2147483647) {y : Int} (h_y : (-2147483648) ≤ y ∧ y ≤ 2147483647) (q : ∀ (r : Int) (M' : jm), CI M' → KC T M' → 0 ≤ r ∧ r ≤ 1 → Q (some (.int (Int32.ofInt r))) M') : jc A 2 126 [.ref (t), .int (Int32.ofInt (x)), .int (Int32.ofInt (y))] M Q := by
  refine jc_of (m := xm_126) rfl (Nat.le_of_ble_eq_true rfl) rfl ?_
  refine jr.iload_n rfl rfl ?_
  refine jr.aload_n rfl rfl ?_
  obtain ⟨v1, e1⟩ : ∃ z, M t 7 = z := ⟨_, rfl⟩
  have b1 : (-9223372036854775808) ≤ v1 ∧ v1 ≤ 9223372036854775807 := by rw [← e1]; exact (CI.r hC_M k_t (by decide) 7)
  have k2 : kd (v1).toNat = 33 := ((congrArg (fun z : Int => kd z.toNat) e1).symm.trans (CI.x hC_M k_t 7 rfl (by decide)))
  refine jr.getf (i := 7) (x := v1) (v := .ref (v1.toNat)) rfl rfl (Nat.lt_trans (kx_18 k_t).1 (by decide)) (kx_18 k_t).2 (by decide) rfl rfl e1 (jval_mut rfl (kn_18_7 k_t)) ?_
  obtain ⟨v3, e3⟩ : ∃ z, M ((v1.toNat)) 1 = z := ⟨_, rfl⟩
  have b3 : (-1) ≤ v3 ∧ v3 ≤ 400 := by rw [← e3]; exact (CI.r hC_M k2 (by decide) 1)
  refine jr.getf (i := 1) (x := v3) (v := .int (Int32.ofInt (v3))) rfl rfl (Nat.lt_trans (kx_33 k2).1 (by decide)) (kx_33 k2).2 (by decide) rfl rfl e3 rfl ?_
  refine jr.icmp_le rfl rfl (by omega) (by omega) (fun h8 => ?_) (fun h8 => ?_)
  · refine jr.aload_n rfl rfl ?_
    obtain ⟨v4, e4⟩ : ∃ z, M t 4 = z := ⟨_, rfl⟩
    have b4 : (-2147483648) ≤ v4 ∧ v4 ≤ 2147483647 := by rw [← e4]; exact (CI.r hC_M k_t (by decide) 4)
    refine jr.getf (i := 4) (x := v4) (v := .int (Int32.ofInt (v4))) rfl rfl (Nat.lt_trans (kx_18 k_t).1 (by decide)) (kx_18 k_t).2 (by decide) rfl rfl e4 rfl ?_
    refine jr.if_eq rfl rfl (by omega) (fun h28 => ?_) (fun h28 => ?_)
    · refine jr.iconst rfl ?_
      exact jr.ireturn rfl rfl rfl (q _ _ hC_M ht_M (by omega) )
    · refine jr.iconst rfl ?_
      refine jr.goto rfl rfl ?_
      exact jr.ireturn rfl rfl rfl (q _ _ hC_M ht_M (by omega) )
  · refine jr.aload_n rfl rfl ?_
    refine jr.iconst rfl ?_
    refine jr.aload_n rfl rfl ?_
    have k5 : kd (v1).toNat = 33 := ((congrArg (fun z : Int => kd z.toNat) e1).symm.trans (CI.x hC_M k_t 7 rfl (by decide)))
    refine jr.getf (i := 7) (x := v1) (v := .ref (v1.toNat)) rfl rfl (Nat.lt_trans (kx_18 k_t).1 (by decide)) (kx_18 k_t).2 (by decide) rfl rfl e1 (jval_mut rfl (kn_18_7 k_t)) ?_
    refine jr.getf (i := 1) (x := v3) (v := .int (Int32.ofInt (v3))) rfl rfl (Nat.lt_trans (kx_33 k5).1 (by decide)) (kx_33 k5).2 (by decide) rfl rfl e3 rfl ?_
    refine jr.iload_n rfl rfl ?_
    refine jr_v rfl rfl (Or.inl rfl) rfl rfl (Nat.lt_trans (kx_18 k_t).1 (by decide)) (kx_18 k_t).2 ⟨rfl, Nat.le_of_ble_eq_true rfl, Nat.le_of_ble_eq_true rfl⟩ rfl (jc.deep (c_Headers_find hC_M ht_M k_t (by omega) (by omega) (by omega) (fun M6 hC_M6 ht_M6  => ?_)) (by decide))
    refine jr.aload_n rfl rfl ?_
    obtain ⟨v7, e7⟩ : ∃ z, M6 t 4 = z := ⟨_, rfl⟩
    have b7 : (-2147483648) ≤ v7 ∧ v7 ≤ 2147483647 := by rw [← e7]; exact (CI.r hC_M6 k_t (by decide) 4)
    refine jr.getf (i := 4) (x := v7) (v := .int (Int32.ofInt (v7))) rfl rfl (Nat.lt_trans (kx_18 k_t).1 (by decide)) (kx_18 k_t).2 (by decide) rfl rfl e7 rfl ?_
    refine jr.if_eq rfl rfl (by omega) (fun h28 => ?_) (fun h28 => ?_)
    · refine jr.iconst rfl ?_
      exact jr.ireturn rfl rfl rfl (q _ _ hC_M6 ht_M6 (by omega) )
    · refine jr.iconst rfl ?_
      refine jr.goto rfl rfl ?_
      exact jr.ireturn rfl rfl rfl (q _ _ hC_M6 ht_M6 (by omega) )
theorem c_Headers_isMisplaced {A : Nat → Option (Nat × (Nat → Int32))} {Q : Option Value → jm → Prop} {T : jm} {M : jm} (hC_M : CI M) (ht_M : KC T M) {t : Nat} (k_t : kd t = 18) {x : Int} (h_x : (-2147483648) ≤ x ∧ x ≤ 2147483647) (q : ∀ (r : Int), 0 ≤ r ∧ r ≤ 1 → Q (some (.int (Int32.ofInt r))) M) : jc A 2 128 [.ref (t), .int (Int32.ofInt (x))] M Q := by
  refine jc_of (m := xm_128) rfl (Nat.le_of_ble_eq_true rfl) rfl ?_
  refine jr.aload_n rfl rfl ?_
  refine jr.aload_n rfl rfl ?_
  obtain ⟨v1, e1⟩ : ∃ z, M t 3 = z := ⟨_, rfl⟩
  have b1 : 0 ≤ v1 ∧ v1 ≤ 12 := by rw [← e1]; exact (CI.r hC_M k_t (by decide) 3)
  refine jr.getf (i := 3) (x := v1) (v := .int (Int32.ofInt (v1))) rfl rfl (Nat.lt_trans (kx_18 k_t).1 (by decide)) (kx_18 k_t).2 (by decide) rfl rfl e1 rfl ?_
  refine jr.iconst rfl ?_
  refine jr.isub rfl ?_
  refine jr_v rfl rfl (Or.inl rfl) rfl rfl (Nat.lt_trans (kx_18 k_t).1 (by decide)) (kx_18 k_t).2 ⟨rfl, Nat.le_of_ble_eq_true rfl, Nat.le_of_ble_eq_true rfl⟩ rfl (jc.deep (c_Headers_kindAt hC_M ht_M k_t (by omega) (fun r2 z2  => ?_)) (by decide))
  refine jr.istore_n rfl (by decide) rfl ?_
  refine jr.iload_n rfl rfl ?_
  refine jr.iconst rfl ?_
  refine jr.icmp_ne rfl rfl (by omega) (by omega) (fun h13 => ?_) (fun h13 => ?_)
  · refine jr.iload_n rfl rfl ?_
    refine jr.bipush rfl (by decide) ?_
    refine jr.icmp_eq rfl rfl (by omega) (by omega) (fun h30 => ?_) (fun h30 => ?_)
    · refine jr.iload_n rfl rfl ?_
      refine jr.iconst rfl ?_
      refine jr.icmp_eq rfl rfl (by omega) (by omega) (fun h40 => ?_) (fun h40 => ?_)
      · refine jr.iconst rfl ?_
        exact jr.ireturn rfl rfl rfl (q _ (by omega) )
      · refine jr.iload_n rfl rfl ?_
        refine jr.iconst rfl ?_
        refine jr.icmp_eq rfl rfl (by omega) (by omega) (fun h45 => ?_) (fun h45 => ?_)
        · refine jr.iconst rfl ?_
          exact jr.ireturn rfl rfl rfl (q _ (by omega) )
        · refine jr.iload_n rfl rfl ?_
          refine jr.iconst rfl ?_
          refine jr.icmp_eq rfl rfl (by omega) (by omega) (fun h50 => ?_) (fun h50 => ?_)
          · refine jr.iconst rfl ?_
            exact jr.ireturn rfl rfl rfl (q _ (by omega) )
          · refine jr.iconst rfl ?_
            refine jr.goto rfl rfl ?_
            exact jr.ireturn rfl rfl rfl (q _ (by omega) )
    · refine jr.iload_n rfl rfl ?_
      refine jr.iconst rfl ?_
      refine jr.icmp_ne rfl rfl (by omega) (by omega) (fun h35 => ?_) (fun h35 => ?_)
      · refine jr.iconst rfl ?_
        exact jr.ireturn rfl rfl rfl (q _ (by omega) )
      · refine jr.iload_n rfl rfl ?_
        refine jr.iconst rfl ?_
        refine jr.icmp_eq rfl rfl (by omega) (by omega) (fun h40 => ?_) (fun h40 => ?_)
        · refine jr.iconst rfl ?_
          exact jr.ireturn rfl rfl rfl (q _ (by omega) )
        · refine jr.iload_n rfl rfl ?_
          refine jr.iconst rfl ?_
          refine jr.icmp_eq rfl rfl (by omega) (by omega) (fun h45 => ?_) (fun h45 => ?_)
          · refine jr.iconst rfl ?_
            exact jr.ireturn rfl rfl rfl (q _ (by omega) )
          · refine jr.iload_n rfl rfl ?_
            refine jr.iconst rfl ?_
            refine jr.icmp_eq rfl rfl (by omega) (by omega) (fun h50 => ?_) (fun h50 => ?_)
            · refine jr.iconst rfl ?_
              exact jr.ireturn rfl rfl rfl (q _ (by omega) )
            · refine jr.iconst rfl ?_
              refine jr.goto rfl rfl ?_
              exact jr.ireturn rfl rfl rfl (q _ (by omega) )
  · refine jr.iload_n rfl rfl ?_
    refine jr.iconst rfl ?_
    refine jr.icmp_eq rfl rfl (by omega) (by omega) (fun h18 => ?_) (fun h18 => ?_)
    · refine jr.iconst rfl ?_
      exact jr.ireturn rfl rfl rfl (q _ (by omega) )
    · refine jr.iconst rfl ?_
      refine jr.goto rfl rfl ?_
      exact jr.ireturn rfl rfl rfl (q _ (by omega) )
theorem c_Headers_isOtherVersion {A : Nat → Option (Nat × (Nat → Int32))} {Q : Option Value → jm → Prop} {T : jm} {M : jm} (hC_M : CI M) (ht_M : KC T M) {t : Nat} (k_t : kd t = 18) {x : Int} (h_x : (-2147483648) ≤ x ∧ x ≤ 2147483647) {y : Int} (h_y : (-2147483648) ≤ y ∧ y ≤ 2147483647) (q : ∀ (r : Int) (M' : jm), CI M' → KC T M' → 0 ≤ r ∧ r ≤ 1 → Q (some (.int (Int32.ofInt r))) M') : jc A 3 129 [.ref (t), .int (Int32.ofInt (x)), .int (Int32.ofInt (y))] M Q := by
  refine jc_of (m := xm_129) rfl (Nat.le_of_ble_eq_true rfl) rfl ?_
  refine jr.aload_n rfl rfl ?_
  refine jr.iload_n rfl rfl ?_
  refine jr.iload_n rfl rfl ?_
  refine jr.iconst rfl ?_
  refine jr.iadd rfl ?_
  refine jr.iw (j_w (y + 1)) (j_w_eq _) ?_
  have b1 : -2147483648 ≤ j_w (y + 1) ∧ j_w (y + 1) ≤ 2147483647 := jb_any _
  generalize j_w (y + 1) = v1 at b1 ⊢
  refine jr_v rfl rfl (Or.inl rfl) rfl rfl (Nat.lt_trans (kx_18 k_t).1 (by decide)) (kx_18 k_t).2 ⟨rfl, Nat.le_of_ble_eq_true rfl, Nat.le_of_ble_eq_true rfl⟩ rfl (jc.deep (c_Headers_isCut hC_M ht_M k_t (by omega) (by omega) (fun r2 M2 hC_M2 ht_M2 z2  => ?_)) (by decide))
  refine jr.if_eq rfl rfl (by omega) (fun h8 => ?_) (fun h8 => ?_)
  · refine jr.aload_n rfl rfl ?_
    obtain ⟨v3, e3⟩ : ∃ z, M2 t 7 = z := ⟨_, rfl⟩
    have b3 : (-9223372036854775808) ≤ v3 ∧ v3 ≤ 9223372036854775807 := by rw [← e3]; exact (CI.r hC_M2 k_t (by decide) 7)
    have k4 : kd (v3).toNat = 33 := ((congrArg (fun z : Int => kd z.toNat) e3).symm.trans (CI.x hC_M2 k_t 7 rfl (by decide)))
    refine jr.getf (i := 7) (x := v3) (v := .ref (v3.toNat)) rfl rfl (Nat.lt_trans (kx_18 k_t).1 (by decide)) (kx_18 k_t).2 (by decide) rfl rfl e3 (jval_mut rfl (kn_18_7 k_t)) ?_
    refine jr.iload_n rfl rfl ?_
    refine jr_v rfl rfl (Or.inl rfl) rfl rfl (Nat.lt_trans (kx_33 k4).1 (by decide)) (kx_33 k4).2 ⟨rfl, Nat.le_of_ble_eq_true rfl, Nat.le_of_ble_eq_true rfl⟩ rfl (jc.deep (c_Packet_byteAt hC_M2 ht_M2 k4 (by omega) (fun r5 z5  => ?_)) (by decide))
    refine jr.iconst rfl ?_
    refine jr.ishr rfl ?_
    have b6 : j_shr r5 4 = r5 / 16 := j_shr_ex 4 (by decide) (by omega) (by omega)
    generalize j_shr r5 4 = v6 at b6 ⊢
    refine jr.iload_n rfl rfl ?_
    refine jr.iconst rfl ?_
    refine jr.icmp_ne rfl rfl (by omega) (by omega) (fun h25 => ?_) (fun h25 => ?_)
    · refine jr.bipush rfl (by decide) ?_
      refine jr.icmp_eq rfl rfl (by omega) (by omega) (fun h34 => ?_) (fun h34 => ?_)
      · refine jr.aload_n rfl rfl ?_
        obtain ⟨v7, e7⟩ : ∃ z, M2 t 4 = z := ⟨_, rfl⟩
        have b7 : (-2147483648) ≤ v7 ∧ v7 ≤ 2147483647 := by rw [← e7]; exact (CI.r hC_M2 k_t (by decide) 4)
        refine jr.getf (i := 4) (x := v7) (v := .int (Int32.ofInt (v7))) rfl rfl (Nat.lt_trans (kx_18 k_t).1 (by decide)) (kx_18 k_t).2 (by decide) rfl rfl e7 rfl ?_
        refine jr.if_eq rfl rfl (by omega) (fun h48 => ?_) (fun h48 => ?_)
        · refine jr.iconst rfl ?_
          exact jr.ireturn rfl rfl rfl (q _ _ hC_M2 ht_M2 (by omega) )
        · refine jr.iconst rfl ?_
          refine jr.goto rfl rfl ?_
          exact jr.ireturn rfl rfl rfl (q _ _ hC_M2 ht_M2 (by omega) )
      · refine jr.aload_n rfl rfl ?_
        refine jr.iconst rfl ?_
        refine jr.iload_n rfl rfl ?_
        refine jr.iload_n rfl rfl ?_
        refine jr_v rfl rfl (Or.inl rfl) rfl rfl (Nat.lt_trans (kx_18 k_t).1 (by decide)) (kx_18 k_t).2 ⟨rfl, Nat.le_of_ble_eq_true rfl, Nat.le_of_ble_eq_true rfl⟩ rfl (jc.deep (c_Headers_find hC_M2 ht_M2 k_t (by omega) (by omega) (by omega) (fun M8 hC_M8 ht_M8  => ?_)) (by decide))
        refine jr.aload_n rfl rfl ?_
        obtain ⟨v9, e9⟩ : ∃ z, M8 t 4 = z := ⟨_, rfl⟩
        have b9 : (-2147483648) ≤ v9 ∧ v9 ≤ 2147483647 := by rw [← e9]; exact (CI.r hC_M8 k_t (by decide) 4)
        refine jr.getf (i := 4) (x := v9) (v := .int (Int32.ofInt (v9))) rfl rfl (Nat.lt_trans (kx_18 k_t).1 (by decide)) (kx_18 k_t).2 (by decide) rfl rfl e9 rfl ?_
        refine jr.if_eq rfl rfl (by omega) (fun h48 => ?_) (fun h48 => ?_)
        · refine jr.iconst rfl ?_
          exact jr.ireturn rfl rfl rfl (q _ _ hC_M8 ht_M8 (by omega) )
        · refine jr.iconst rfl ?_
          refine jr.goto rfl rfl ?_
          exact jr.ireturn rfl rfl rfl (q _ _ hC_M8 ht_M8 (by omega) )
    · refine jr.iconst rfl ?_
      refine jr.goto rfl rfl ?_
      refine jr.icmp_eq rfl rfl (by omega) (by omega) (fun h34 => ?_) (fun h34 => ?_)
      · refine jr.aload_n rfl rfl ?_
        obtain ⟨v10, e10⟩ : ∃ z, M2 t 4 = z := ⟨_, rfl⟩
        have b10 : (-2147483648) ≤ v10 ∧ v10 ≤ 2147483647 := by rw [← e10]; exact (CI.r hC_M2 k_t (by decide) 4)
        refine jr.getf (i := 4) (x := v10) (v := .int (Int32.ofInt (v10))) rfl rfl (Nat.lt_trans (kx_18 k_t).1 (by decide)) (kx_18 k_t).2 (by decide) rfl rfl e10 rfl ?_
        refine jr.if_eq rfl rfl (by omega) (fun h48 => ?_) (fun h48 => ?_)
        · refine jr.iconst rfl ?_
          exact jr.ireturn rfl rfl rfl (q _ _ hC_M2 ht_M2 (by omega) )
        · refine jr.iconst rfl ?_
          refine jr.goto rfl rfl ?_
          exact jr.ireturn rfl rfl rfl (q _ _ hC_M2 ht_M2 (by omega) )
      · refine jr.aload_n rfl rfl ?_
        refine jr.iconst rfl ?_
        refine jr.iload_n rfl rfl ?_
        refine jr.iload_n rfl rfl ?_
        refine jr_v rfl rfl (Or.inl rfl) rfl rfl (Nat.lt_trans (kx_18 k_t).1 (by decide)) (kx_18 k_t).2 ⟨rfl, Nat.le_of_ble_eq_true rfl, Nat.le_of_ble_eq_true rfl⟩ rfl (jc.deep (c_Headers_find hC_M2 ht_M2 k_t (by omega) (by omega) (by omega) (fun M11 hC_M11 ht_M11  => ?_)) (by decide))
        refine jr.aload_n rfl rfl ?_
        obtain ⟨v12, e12⟩ : ∃ z, M11 t 4 = z := ⟨_, rfl⟩
        have b12 : (-2147483648) ≤ v12 ∧ v12 ≤ 2147483647 := by rw [← e12]; exact (CI.r hC_M11 k_t (by decide) 4)
        refine jr.getf (i := 4) (x := v12) (v := .int (Int32.ofInt (v12))) rfl rfl (Nat.lt_trans (kx_18 k_t).1 (by decide)) (kx_18 k_t).2 (by decide) rfl rfl e12 rfl ?_
        refine jr.if_eq rfl rfl (by omega) (fun h48 => ?_) (fun h48 => ?_)
        · refine jr.iconst rfl ?_
          exact jr.ireturn rfl rfl rfl (q _ _ hC_M11 ht_M11 (by omega) )
        · refine jr.iconst rfl ?_
          refine jr.goto rfl rfl ?_
          exact jr.ireturn rfl rfl rfl (q _ _ hC_M11 ht_M11 (by omega) )
  · refine jr.iconst rfl ?_
    exact jr.ireturn rfl rfl rfl (q _ _ hC_M2 ht_M2 (by omega) )
theorem c_Headers_quotedKind {A : Nat → Option (Nat × (Nat → Int32))} {Q : Option Value → jm → Prop} {T : jm} {M : jm} (hC_M : CI M) (ht_M : KC T M) {t : Nat} (k_t : kd t = 18) {x : Int} (h_x : (-2147483648) ≤ x ∧ x ≤ 2147483647) {y : Int} (h_y : (-2147483648) ≤ y ∧ y ≤ 2147483647) (q : ∀ (r : Int), (-2147483648) ≤ r ∧ r ≤ 2147483647 → Q (some (.int (Int32.ofInt r))) M) : jc A 2 136 [.ref (t), .int (Int32.ofInt (x)), .int (Int32.ofInt (y))] M Q := by
  refine jc_of (m := xm_136) rfl (Nat.le_of_ble_eq_true rfl) rfl ?_
  refine jr.iload_n rfl rfl ?_
  refine jr.iconst rfl ?_
  refine jr.icmp_eq rfl rfl (by omega) (by omega) (fun h2 => ?_) (fun h2 => ?_)
  · refine jr.aload_n rfl rfl ?_
    obtain ⟨v1, e1⟩ : ∃ z, M t 7 = z := ⟨_, rfl⟩
    have b1 : (-9223372036854775808) ≤ v1 ∧ v1 ≤ 9223372036854775807 := by rw [← e1]; exact (CI.r hC_M k_t (by decide) 7)
    have k2 : kd (v1).toNat = 33 := ((congrArg (fun z : Int => kd z.toNat) e1).symm.trans (CI.x hC_M k_t 7 rfl (by decide)))
    refine jr.getf (i := 7) (x := v1) (v := .ref (v1.toNat)) rfl rfl (Nat.lt_trans (kx_18 k_t).1 (by decide)) (kx_18 k_t).2 (by decide) rfl rfl e1 (jval_mut rfl (kn_18_7 k_t)) ?_
    refine jr.iload_n rfl rfl ?_
    refine jr_v rfl rfl (Or.inl rfl) rfl rfl (Nat.lt_trans (kx_33 k2).1 (by decide)) (kx_33 k2).2 ⟨rfl, Nat.le_of_ble_eq_true rfl, Nat.le_of_ble_eq_true rfl⟩ rfl (jc.deep (c_Packet_byteAt hC_M ht_M k2 (by omega) (fun r3 z3  => ?_)) (by decide))
    refine jr.iconst rfl ?_
    refine jr.ishr rfl ?_
    have b4 : j_shr r3 4 = r3 / 16 := j_shr_ex 4 (by decide) (by omega) (by omega)
    generalize j_shr r3 4 = v4 at b4 ⊢
    refine jr.istore_n rfl (by decide) rfl ?_
    refine jr.iload_n rfl rfl ?_
    refine jr.iconst rfl ?_
    refine jr.icmp_ne rfl rfl (by omega) (by omega) (fun h27 => ?_) (fun h27 => ?_)
    · refine jr.iload_n rfl rfl ?_
      refine jr.bipush rfl (by decide) ?_
      refine jr.icmp_ne rfl rfl (by omega) (by omega) (fun h37 => ?_) (fun h37 => ?_)
      · refine jr.bipush rfl (by decide) ?_
        exact jr.ireturn rfl rfl rfl (q _ (by omega) )
      · refine jr.iconst rfl ?_
        refine jr.goto rfl rfl ?_
        exact jr.ireturn rfl rfl rfl (q _ (by omega) )
    · refine jr.iconst rfl ?_
      refine jr.goto rfl rfl ?_
      exact jr.ireturn rfl rfl rfl (q _ (by omega) )
  · refine jr.iload_n rfl rfl ?_
    refine jr.bipush rfl (by decide) ?_
    refine jr.icmp_eq rfl rfl (by omega) (by omega) (fun h8 => ?_) (fun h8 => ?_)
    · refine jr.aload_n rfl rfl ?_
      obtain ⟨v5, e5⟩ : ∃ z, M t 7 = z := ⟨_, rfl⟩
      have b5 : (-9223372036854775808) ≤ v5 ∧ v5 ≤ 9223372036854775807 := by rw [← e5]; exact (CI.r hC_M k_t (by decide) 7)
      have k6 : kd (v5).toNat = 33 := ((congrArg (fun z : Int => kd z.toNat) e5).symm.trans (CI.x hC_M k_t 7 rfl (by decide)))
      refine jr.getf (i := 7) (x := v5) (v := .ref (v5.toNat)) rfl rfl (Nat.lt_trans (kx_18 k_t).1 (by decide)) (kx_18 k_t).2 (by decide) rfl rfl e5 (jval_mut rfl (kn_18_7 k_t)) ?_
      refine jr.iload_n rfl rfl ?_
      refine jr_v rfl rfl (Or.inl rfl) rfl rfl (Nat.lt_trans (kx_33 k6).1 (by decide)) (kx_33 k6).2 ⟨rfl, Nat.le_of_ble_eq_true rfl, Nat.le_of_ble_eq_true rfl⟩ rfl (jc.deep (c_Packet_byteAt hC_M ht_M k6 (by omega) (fun r7 z7  => ?_)) (by decide))
      refine jr.iconst rfl ?_
      refine jr.ishr rfl ?_
      have b8 : j_shr r7 4 = r7 / 16 := j_shr_ex 4 (by decide) (by omega) (by omega)
      generalize j_shr r7 4 = v8 at b8 ⊢
      refine jr.istore_n rfl (by decide) rfl ?_
      refine jr.iload_n rfl rfl ?_
      refine jr.iconst rfl ?_
      refine jr.icmp_ne rfl rfl (by omega) (by omega) (fun h27 => ?_) (fun h27 => ?_)
      · refine jr.iload_n rfl rfl ?_
        refine jr.bipush rfl (by decide) ?_
        refine jr.icmp_ne rfl rfl (by omega) (by omega) (fun h37 => ?_) (fun h37 => ?_)
        · refine jr.bipush rfl (by decide) ?_
          exact jr.ireturn rfl rfl rfl (q _ (by omega) )
        · refine jr.iconst rfl ?_
          refine jr.goto rfl rfl ?_
          exact jr.ireturn rfl rfl rfl (q _ (by omega) )
      · refine jr.iconst rfl ?_
        refine jr.goto rfl rfl ?_
        exact jr.ireturn rfl rfl rfl (q _ (by omega) )
    · refine jr.bipush rfl (by decide) ?_
      exact jr.ireturn rfl rfl rfl (q _ (by omega) )
theorem c_Machine_clearReport {A : Nat → Option (Nat × (Nat → Int32))} {Q : Option Value → jm → Prop} {T : jm} {M : jm} (hC_M : CI M) (ht_M : KC T M) (q : ∀ (M' : jm), CI M' → KC T M' → Q none M') : jc A 2 141 [.ref (421)] M Q := by
  refine jc_of (m := xm_141) rfl (Nat.le_of_ble_eq_true rfl) rfl ?_
  refine jr.aload_n rfl rfl ?_
  refine jr.iconst rfl ?_
  refine jr.putf (i := 11) (x := 1) rfl rfl (by decide) rfl (by decide) rfl rfl rfl rfl rfl ?_
  refine jr.aload_n rfl rfl ?_
  refine jr.getf (i := 10) (v := .ref 436) rfl rfl (by decide) rfl (by decide) rfl rfl rfl rfl ?_
  refine jr.iconst rfl ?_
  refine jr.iconst rfl ?_
  refine jr.iast (i := 2) (x := 0) rfl (by decide) rfl (by decide) (by omega) (by omega) ?_
  refine jr.aload_n rfl rfl ?_
  refine jr.getf (i := 10) (v := .ref 436) rfl rfl (by decide) rfl (by decide) rfl rfl rfl rfl ?_
  refine jr.iconst rfl ?_
  refine jr.iconst rfl ?_
  refine jr.iast (i := 4) (x := 0) rfl (by decide) rfl (by decide) (by omega) (by omega) ?_
  refine jr.aload_n rfl rfl ?_
  refine jr_v rfl rfl (Or.inl rfl) rfl rfl (by decide) rfl ⟨rfl, Nat.le_of_ble_eq_true rfl, Nat.le_of_ble_eq_true rfl⟩ rfl (jc.deep (c_Machine_clearFailure (CI.u (CI.u (CI.u hC_M (i := 11) (show kd 421 = 22 from rfl) (show (0 : Int) ≤ _ ∧ _ ≤ (1 : Int) from by omega) rfl) (i := 2) (show kd 436 = 24 from rfl) (show (-2147483648 : Int) ≤ _ ∧ _ ≤ (2147483647 : Int) from by omega) rfl) (i := 4) (show kd 436 = 24 from rfl) (show (-2147483648 : Int) ≤ _ ∧ _ ≤ (2147483647 : Int) from by omega) rfl) (KC.o (KC.o (KC.o ht_M (show kd 421 = 22 from rfl) (by decide)) (show kd 436 = 24 from rfl) (by decide)) (show kd 436 = 24 from rfl) (by decide))  (fun M1 hC_M1 ht_M1  => ?_)) (by decide))
  exact jr.vreturn rfl rfl (q _ hC_M1 ht_M1  )
theorem c_Machine_takeStep {A : Nat → Option (Nat × (Nat → Int32))} {Q : Option Value → jm → Prop} {T : jm} {M : jm} (hC_M : CI M) (ht_M : KC T M) (q : ∀ (M' : jm), CI M' → KC T M' → Q none M') : jc A 2 152 [.ref (421)] M Q := by
  refine jc_of (m := xm_152) rfl (Nat.le_of_ble_eq_true rfl) rfl ?_
  refine jr.aload_n rfl rfl ?_
  refine jr.getf (i := 10) (v := .ref 436) rfl rfl (by decide) rfl (by decide) rfl rfl rfl rfl ?_
  refine jr.iconst rfl ?_
  obtain ⟨v1, e1⟩ : ∃ z, M 436 2 = z := ⟨_, rfl⟩
  have b1 : (-2147483648) ≤ v1 ∧ v1 ≤ 2147483647 := by rw [← e1]; exact (CI.r hC_M (show kd 436 = 24 from rfl) (by decide) 2)
  refine jr.iald (i := 2) (x := v1) rfl (by decide) rfl (by decide) (by omega) (by omega) e1 ?_
  refine jr.sipush rfl (by decide) ?_
  refine jr.icmp_lt rfl rfl (by omega) (by omega) (fun h9 => ?_) (fun h9 => ?_)
  · refine jr.aload_n rfl rfl ?_
    refine jr.getf (i := 10) (v := .ref 436) rfl rfl (by decide) rfl (by decide) rfl rfl rfl rfl ?_
    refine jr.iconst rfl ?_
    refine jr.dup2 rfl ⟨rfl, rfl⟩ ?_
    refine jr.iald (i := 2) (x := v1) rfl (by decide) rfl (by decide) (by omega) (by omega) e1 ?_
    refine jr.iconst rfl ?_
    refine jr.iadd rfl ?_
    refine jr.iast (i := 2) (x := (v1 + 1)) rfl (by decide) rfl (by decide) (by omega) (by omega) ?_
    exact jr.vreturn rfl rfl (q _ (CI.u hC_M (i := 2) (show kd 436 = 24 from rfl) (show (-2147483648 : Int) ≤ _ ∧ _ ≤ (2147483647 : Int) from by omega) rfl) (KC.o ht_M (show kd 436 = 24 from rfl) (by decide))  )
  · refine jr.aload_n rfl rfl ?_
    refine jr.bipush rfl (by decide) ?_
    refine jr_v rfl rfl (Or.inl rfl) rfl rfl (by decide) rfl ⟨rfl, Nat.le_of_ble_eq_true rfl, Nat.le_of_ble_eq_true rfl⟩ rfl (jc.deep (c_Machine_fail hC_M ht_M (by omega) (fun M2 hC_M2 ht_M2  => ?_)) (by decide))
    refine jr.goto rfl rfl ?_
    exact jr.vreturn rfl rfl (q _ hC_M2 ht_M2  )
theorem c_Machine_askByte {A : Nat → Option (Nat × (Nat → Int32))} {Q : Option Value → jm → Prop} {T : jm} {M : jm} (hC_M : CI M) (ht_M : KC T M) {x : Int} (h_x : (-9223372036854775808) ≤ x ∧ x ≤ 9223372036854775807) (q : ∀ (M' : jm), CI M' → KC T M' → Q none M') : jc A 2 160 [.ref (421), .long (Int64.ofInt (x))] M Q := by
  refine jc_of (m := xm_160) rfl (Nat.le_of_ble_eq_true rfl) rfl ?_
  refine jr.aload_n rfl rfl ?_
  obtain ⟨v1, e1⟩ : ∃ z, M 421 12 = z := ⟨_, rfl⟩
  have b1 : (-9223372036854775808) ≤ v1 ∧ v1 ≤ 9223372036854775807 := by rw [← e1]; exact (CI.r hC_M (show kd 421 = 22 from rfl) (by decide) 12)
  have k2 : kd (v1).toNat = 18 := ((congrArg (fun z : Int => kd z.toNat) e1).symm.trans (CI.x hC_M (show kd 421 = 22 from rfl) 12 rfl (by decide)))
  refine jr.getf (i := 12) (x := v1) (v := .ref (v1.toNat)) rfl rfl (by decide) rfl (by decide) rfl rfl e1 rfl ?_
  obtain ⟨v3, e3⟩ : ∃ z, M ((v1.toNat)) 7 = z := ⟨_, rfl⟩
  have b3 : (-9223372036854775808) ≤ v3 ∧ v3 ≤ 9223372036854775807 := by rw [← e3]; exact (CI.r hC_M k2 (by decide) 7)
  have k4 : kd (v3).toNat = 33 := ((congrArg (fun z : Int => kd z.toNat) e3).symm.trans (CI.x hC_M k2 7 rfl (by decide)))
  refine jr.getf (i := 7) (x := v3) (v := .ref (v3.toNat)) rfl rfl (Nat.lt_trans (kx_18 k2).1 (by decide)) (kx_18 k2).2 (by decide) rfl rfl e3 (jval_mut rfl (kn_18_7 k2)) ?_
  refine jr_v rfl rfl (Or.inl rfl) rfl rfl (Nat.lt_trans (kx_33 k4).1 (by decide)) (kx_33 k4).2 ⟨rfl, Nat.le_of_ble_eq_true rfl, Nat.le_of_ble_eq_true rfl⟩ rfl (jc.deep (c_Packet_isThere hC_M ht_M k4 (fun r5 z5  => ?_)) (by decide))
  refine jr.if_ne rfl rfl (by omega) (fun h10 => ?_) (fun h10 => ?_)
  · refine jr.aload_n rfl rfl ?_
    have k6 : kd (v1).toNat = 18 := ((congrArg (fun z : Int => kd z.toNat) e1).symm.trans (CI.x hC_M (show kd 421 = 22 from rfl) 12 rfl (by decide)))
    refine jr.getf (i := 12) (x := v1) (v := .ref (v1.toNat)) rfl rfl (by decide) rfl (by decide) rfl rfl e1 rfl ?_
    have k7 : kd (v3).toNat = 33 := ((congrArg (fun z : Int => kd z.toNat) e3).symm.trans (CI.x hC_M k6 7 rfl (by decide)))
    refine jr.getf (i := 7) (x := v3) (v := .ref (v3.toNat)) rfl rfl (Nat.lt_trans (kx_18 k6).1 (by decide)) (kx_18 k6).2 (by decide) rfl rfl e3 (jval_mut rfl (kn_18_7 k6)) ?_
    refine jr.lload_n rfl rfl ?_
    refine jr_v rfl rfl (Or.inl rfl) rfl rfl (Nat.lt_trans (kx_33 k7).1 (by decide)) (kx_33 k7).2 ⟨rfl, Nat.le_of_ble_eq_true rfl, Nat.le_of_ble_eq_true rfl⟩ rfl (jc.deep (c_Packet_hasByte hC_M ht_M k7 (by omega) (fun r8 z8 w8_0 => ?_)) (by decide))
    refine jr.if_ne rfl rfl (by omega) (fun h32 => ?_) (fun h32 => ?_)
    · refine jr.aload_n rfl rfl ?_
      refine jr.aload_n rfl rfl ?_
      have k9 : kd (v1).toNat = 18 := ((congrArg (fun z : Int => kd z.toNat) e1).symm.trans (CI.x hC_M (show kd 421 = 22 from rfl) 12 rfl (by decide)))
      refine jr.getf (i := 12) (x := v1) (v := .ref (v1.toNat)) rfl rfl (by decide) rfl (by decide) rfl rfl e1 rfl ?_
      have k10 : kd (v3).toNat = 33 := ((congrArg (fun z : Int => kd z.toNat) e3).symm.trans (CI.x hC_M k9 7 rfl (by decide)))
      refine jr.getf (i := 7) (x := v3) (v := .ref (v3.toNat)) rfl rfl (Nat.lt_trans (kx_18 k9).1 (by decide)) (kx_18 k9).2 (by decide) rfl rfl e3 (jval_mut rfl (kn_18_7 k9)) ?_
      refine jr.lload_n rfl rfl ?_
      refine jr.l2i rfl ?_
      refine jr_v rfl rfl (Or.inl rfl) rfl rfl (Nat.lt_trans (kx_33 k10).1 (by decide)) (kx_33 k10).2 ⟨rfl, Nat.le_of_ble_eq_true rfl, Nat.le_of_ble_eq_true rfl⟩ rfl (jc.deep (c_Packet_byteAt hC_M ht_M k10 (by omega) (fun r11 z11  => ?_)) (by decide))
      refine jr.i2l rfl (by omega) ?_
      refine jr_v rfl rfl (Or.inl rfl) rfl rfl (by decide) rfl ⟨rfl, Nat.le_of_ble_eq_true rfl, Nat.le_of_ble_eq_true rfl⟩ rfl (jc.deep (c_Machine_push hC_M ht_M (by omega) (fun M12 hC_M12 ht_M12  => ?_)) (by decide))
      exact jr.vreturn rfl rfl (q _ hC_M12 ht_M12  )
    · refine jr.aload_n rfl rfl ?_
      refine jr.iconst rfl ?_
      refine jr_v rfl rfl (Or.inl rfl) rfl rfl (by decide) rfl ⟨rfl, Nat.le_of_ble_eq_true rfl, Nat.le_of_ble_eq_true rfl⟩ rfl (jc.deep (c_Machine_fail hC_M ht_M (by omega) (fun M13 hC_M13 ht_M13  => ?_)) (by decide))
      refine jr.goto rfl rfl ?_
      exact jr.vreturn rfl rfl (q _ hC_M13 ht_M13  )
  · refine jr.aload_n rfl rfl ?_
    refine jr.iconst rfl ?_
    refine jr_v rfl rfl (Or.inl rfl) rfl rfl (by decide) rfl ⟨rfl, Nat.le_of_ble_eq_true rfl, Nat.le_of_ble_eq_true rfl⟩ rfl (jc.deep (c_Machine_fail hC_M ht_M (by omega) (fun M14 hC_M14 ht_M14  => ?_)) (by decide))
    refine jr.goto rfl rfl ?_
    exact jr.vreturn rfl rfl (q _ hC_M14 ht_M14  )
theorem c_Machine_askLong {A : Nat → Option (Nat × (Nat → Int32))} {Q : Option Value → jm → Prop} {T : jm} {M : jm} (hC_M : CI M) (ht_M : KC T M) {x : Int} (h_x : (-9223372036854775808) ≤ x ∧ x ≤ 9223372036854775807) (q : ∀ (M' : jm), CI M' → KC T M' → Q none M') : jc A 3 162 [.ref (421), .long (Int64.ofInt (x))] M Q := by
  refine jc_of (m := xm_162) rfl (Nat.le_of_ble_eq_true rfl) rfl ?_
  refine jr.aload_n rfl rfl ?_
  refine jr.lload_n rfl rfl ?_
  refine jr_v rfl rfl (Or.inl rfl) rfl rfl (by decide) rfl ⟨rfl, Nat.le_of_ble_eq_true rfl, Nat.le_of_ble_eq_true rfl⟩ rfl (jc.deep (c_Machine_isRow hC_M ht_M (by omega) (fun r1 M1 hC_M1 ht_M1 z1 w1_0 => ?_)) (by decide))
  refine jr.if_eq rfl rfl (by omega) (fun h5 => ?_) (fun h5 => ?_)
  · exact jr.vreturn rfl rfl (q _ hC_M1 ht_M1  )
  · refine jr.aload_n rfl rfl ?_
    refine jr.aload_n rfl rfl ?_
    refine jr.getf (i := 0) (v := .ref 422) rfl rfl (by decide) rfl (by decide) rfl rfl rfl rfl ?_
    refine jr.lload_n rfl rfl ?_
    refine jr.l2i rfl ?_
    have k2 := kxe_25 (a := 422) rfl (i := x) (by omega) (by omega)
    refine jr.aald (c := (xe 422 x)) rfl (by decide) rfl (by decide) (by decide) rfl (by decide) (by omega) (by omega) k2.1 ?_
    obtain ⟨v3, e3⟩ : ∃ z, M1 ((xe 422 x)) 1 = z := ⟨_, rfl⟩
    have b3 : (-1) ≤ v3 ∧ v3 ≤ 40 := by rw [← e3]; exact (CI.r hC_M1 k2.2 (by decide) 1)
    refine jr.getf (i := 1) (x := v3) (v := .int (Int32.ofInt (v3))) rfl rfl (Nat.lt_trans (kx_52 k2.2).1 (by decide)) (kx_52 k2.2).2 (by decide) rfl rfl e3 rfl ?_
    refine jr.i2l rfl (by omega) ?_
    refine jr_v rfl rfl (Or.inl rfl) rfl rfl (by decide) rfl ⟨rfl, Nat.le_of_ble_eq_true rfl, Nat.le_of_ble_eq_true rfl⟩ rfl (jc.deep (c_Machine_push hC_M1 ht_M1 (by omega) (fun M4 hC_M4 ht_M4  => ?_)) (by decide))
    exact jr.vreturn rfl rfl (q _ hC_M4 ht_M4  )
theorem c_Machine_askSet {A : Nat → Option (Nat × (Nat → Int32))} {Q : Option Value → jm → Prop} {T : jm} {M : jm} (hC_M : CI M) (ht_M : KC T M) {x : Int} (h_x : (-9223372036854775808) ≤ x ∧ x ≤ 9223372036854775807) {y : Int} (h_y : (-9223372036854775808) ≤ y ∧ y ≤ 9223372036854775807) (q : ∀ (M' : jm), CI M' → KC T M' → Q none M') : jc A 3 163 [.ref (421), .long (Int64.ofInt (x)), .long (Int64.ofInt (y))] M Q := by
  refine jc_of (m := xm_163) rfl (Nat.le_of_ble_eq_true rfl) rfl ?_
  refine jr.lload_n rfl rfl ?_
  refine jr.iconst rfl ?_
  refine jr_s rfl rfl (Or.inl rfl) ⟨Nat.le_of_ble_eq_true rfl, Nat.le_of_ble_eq_true rfl⟩ rfl rfl (jc.deep (c_Machine_isNot hC_M ht_M (by omega) (by omega) (fun r1 z1 w1_0 => ?_)) (by decide))
  refine jr.if_eq rfl rfl (by omega) (fun h5 => ?_) (fun h5 => ?_)
  · refine jr.aload_n rfl rfl ?_
    refine jr.aload_n rfl rfl ?_
    refine jr.getf (i := 1) (v := .ref 423) rfl rfl (by decide) rfl (by decide) rfl rfl rfl rfl ?_
    refine jr.lload_n rfl rfl ?_
    refine jr.l2i rfl ?_
    refine jr.lload_n rfl rfl ?_
    refine jr_v rfl rfl (Or.inl rfl) rfl rfl (by decide) rfl ⟨rfl, Nat.le_of_ble_eq_true rfl, Nat.le_of_ble_eq_true rfl⟩ rfl (jc.deep (c_Memory_knows hC_M ht_M (show kd 423 = 27 from rfl) (by omega) (by omega) (fun r2 z2  => ?_)) (by decide))
    refine jr_v rfl rfl (Or.inl rfl) rfl rfl (by decide) rfl ⟨rfl, Nat.le_of_ble_eq_true rfl, Nat.le_of_ble_eq_true rfl⟩ rfl (jc.deep (c_Machine_pushTruth hC_M ht_M (by omega) (fun M3 hC_M3 ht_M3  => ?_)) (by decide))
    exact jr.vreturn rfl rfl (q _ hC_M3 ht_M3  )
  · refine jr.aload_n rfl rfl ?_
    refine jr.iconst rfl ?_
    refine jr_v rfl rfl (Or.inl rfl) rfl rfl (by decide) rfl ⟨rfl, Nat.le_of_ble_eq_true rfl, Nat.le_of_ble_eq_true rfl⟩ rfl (jc.deep (c_Machine_fail hC_M ht_M (by omega) (fun M4 hC_M4 ht_M4  => ?_)) (by decide))
    refine jr.goto rfl rfl ?_
    exact jr.vreturn rfl rfl (q _ hC_M4 ht_M4  )
theorem c_Machine_askRow {A : Nat → Option (Nat × (Nat → Int32))} {Q : Option Value → jm → Prop} {T : jm} {M : jm} (hC_M : CI M) (ht_M : KC T M) {x : Int} (h_x : (-9223372036854775808) ≤ x ∧ x ≤ 9223372036854775807) {y : Int} (h_y : (-9223372036854775808) ≤ y ∧ y ≤ 9223372036854775807) (q : ∀ (M' : jm), CI M' → KC T M' → Q none M') : jc A 4 164 [.ref (421), .long (Int64.ofInt (x)), .long (Int64.ofInt (y))] M Q := by
  refine jc_of (m := xm_164) rfl (Nat.le_of_ble_eq_true rfl) rfl ?_
  refine jr.aload_n rfl rfl ?_
  refine jr.lload_n rfl rfl ?_
  refine jr.lload_n rfl rfl ?_
  refine jr_v rfl rfl (Or.inl rfl) rfl rfl (by decide) rfl ⟨rfl, Nat.le_of_ble_eq_true rfl, Nat.le_of_ble_eq_true rfl⟩ rfl (jc.deep (c_Machine_isItemOfNumbers hC_M ht_M (by omega) (by omega) (fun r1 M1 hC_M1 ht_M1 z1 w1_0 => ?_)) (by decide))
  refine jr.if_eq rfl rfl (by omega) (fun h6 => ?_) (fun h6 => ?_)
  · exact jr.vreturn rfl rfl (q _ hC_M1 ht_M1  )
  · refine jr.aload_n rfl rfl ?_
    refine jr.aload_n rfl rfl ?_
    refine jr.getf (i := 0) (v := .ref 422) rfl rfl (by decide) rfl (by decide) rfl rfl rfl rfl ?_
    refine jr.lload_n rfl rfl ?_
    refine jr.l2i rfl ?_
    have k2 := kxe_25 (a := 422) rfl (i := x) (by omega) (by omega)
    refine jr.aald (c := (xe 422 x)) rfl (by decide) rfl (by decide) (by decide) rfl (by decide) (by omega) (by omega) k2.1 ?_
    have k3 := kf_52_2 k2.2
    refine jr.getf (i := 2) (v := .ref ((xe 422 x) + 1)) rfl rfl (Nat.lt_trans (kx_52 k2.2).1 (by decide)) (kx_52 k2.2).2 (by decide) rfl rfl rfl (jval_ref rfl k3.1) ?_
    refine jr.lload_n rfl rfl ?_
    refine jr.l2i rfl ?_
    obtain ⟨v4, e4⟩ : ∃ z, M1 (((xe 422 x) + 1)) y = z := ⟨_, rfl⟩
    have b4 : (-9223372036854775808) ≤ v4 ∧ v4 ≤ 9223372036854775807 := by rw [← e4]; exact (CI.r hC_M1 k3.2 (by decide) y)
    refine jr.lald (i := y) (x := v4) rfl (Nat.lt_trans (kx_54 k3.2).1 (by decide)) (kx_54 k3.2).2 (by decide) (by omega) (by omega) e4 ?_
    refine jr_v rfl rfl (Or.inl rfl) rfl rfl (by decide) rfl ⟨rfl, Nat.le_of_ble_eq_true rfl, Nat.le_of_ble_eq_true rfl⟩ rfl (jc.deep (c_Machine_push hC_M1 ht_M1 (by omega) (fun M5 hC_M5 ht_M5  => ?_)) (by decide))
    exact jr.vreturn rfl rfl (q _ hC_M5 ht_M5  )
theorem c_Machine_skip {A : Nat → Option (Nat × (Nat → Int32))} {Q : Option Value → jm → Prop} {T : jm} {M : jm} (hC_M : CI M) (ht_M : KC T M) {x : Int} (h_x : 0 ≤ x ∧ x ≤ 1) {y : Int} (h_y : (-2147483648) ≤ y ∧ y ≤ 2147483647) (q : ∀ (M' : jm), CI M' → KC T M' → Q none M') : jc A 3 170 [.ref (421), .int (Int32.ofInt (x)), .int (Int32.ofInt (y))] M Q := by
  refine jc_of (m := xm_170) rfl (Nat.le_of_ble_eq_true rfl) rfl ?_
  refine jr.iload_n rfl rfl ?_
  refine jr.if_eq rfl rfl (by omega) (fun h1 => ?_) (fun h1 => ?_)
  · exact jr.vreturn rfl rfl (q _ hC_M ht_M  )
  · refine jr.aload_n rfl rfl ?_
    refine jr.aload_n rfl rfl ?_
    obtain ⟨v1, e1⟩ : ∃ z, M 421 2 = z := ⟨_, rfl⟩
    have b1 : (-9223372036854775808) ≤ v1 ∧ v1 ≤ 9223372036854775807 := by rw [← e1]; exact (CI.r hC_M (show kd 421 = 22 from rfl) (by decide) 2)
    have k2 : kd (v1).toNat = 47 := ((congrArg (fun z : Int => kd z.toNat) e1).symm.trans (CI.x hC_M (show kd 421 = 22 from rfl) 2 rfl (by decide)))
    refine jr.getf (i := 2) (x := v1) (v := .ref (v1.toNat)) rfl rfl (by decide) rfl (by decide) rfl rfl e1 rfl ?_
    refine jr.aload_n rfl rfl ?_
    obtain ⟨v3, e3⟩ : ∃ z, M 421 16 = z := ⟨_, rfl⟩
    have b3 : (-2147483648) ≤ v3 ∧ v3 ≤ 2147483647 := by rw [← e3]; exact (CI.r hC_M (show kd 421 = 22 from rfl) (by decide) 16)
    refine jr.getf (i := 16) (x := v3) (v := .int (Int32.ofInt (v3))) rfl rfl (by decide) rfl (by decide) rfl rfl e3 rfl ?_
    refine jr.iconst rfl ?_
    refine jr.isub rfl ?_
    refine jr.iw (j_w (v3 - 1)) (j_w_eq _) ?_
    have b4 : -2147483648 ≤ j_w (v3 - 1) ∧ j_w (v3 - 1) ≤ 2147483647 := jb_any _
    generalize j_w (v3 - 1) = v4 at b4 ⊢
    refine jr_v rfl rfl (Or.inl rfl) rfl rfl (Nat.lt_trans (kx_47 k2).1 (by decide)) (kx_47 k2).2 ⟨rfl, Nat.le_of_ble_eq_true rfl, Nat.le_of_ble_eq_true rfl⟩ rfl (jc.deep (c_Program_opAt hC_M ht_M k2 (by omega) (fun r5 z5  => ?_)) (by decide))
    refine jr.sipush rfl (by decide) ?_
    refine jr.icmp_ne rfl rfl (by omega) (by omega) (fun h21 => ?_) (fun h21 => ?_)
    · refine jr.iconst rfl ?_
      refine jr_v rfl rfl (Or.inl rfl) rfl rfl (by decide) rfl ⟨rfl, Nat.le_of_ble_eq_true rfl, Nat.le_of_ble_eq_true rfl⟩ rfl (jc.deep (c_Machine_pushTruth hC_M ht_M (by omega) (fun M6 hC_M6 ht_M6  => ?_)) (by decide))
      refine jr.aload_n rfl rfl ?_
      refine jr.iload_n rfl rfl ?_
      refine jr.putf (i := 16) (x := y) rfl rfl (by decide) rfl (by decide) rfl rfl rfl rfl rfl ?_
      exact jr.vreturn rfl rfl (q _ (CI.u hC_M6 (i := 16) (show kd 421 = 22 from rfl) (show (-2147483648 : Int) ≤ _ ∧ _ ≤ (2147483647 : Int) from by omega) rfl) (KC.o ht_M6 (show kd 421 = 22 from rfl) (by decide))  )
    · refine jr.iconst rfl ?_
      refine jr.goto rfl rfl ?_
      refine jr_v rfl rfl (Or.inl rfl) rfl rfl (by decide) rfl ⟨rfl, Nat.le_of_ble_eq_true rfl, Nat.le_of_ble_eq_true rfl⟩ rfl (jc.deep (c_Machine_pushTruth hC_M ht_M (by omega) (fun M7 hC_M7 ht_M7  => ?_)) (by decide))
      refine jr.aload_n rfl rfl ?_
      refine jr.iload_n rfl rfl ?_
      refine jr.putf (i := 16) (x := y) rfl rfl (by decide) rfl (by decide) rfl rfl rfl rfl rfl ?_
      exact jr.vreturn rfl rfl (q _ (CI.u hC_M7 (i := 16) (show kd 421 = 22 from rfl) (show (-2147483648 : Int) ≤ _ ∧ _ ≤ (2147483647 : Int) from by omega) rfl) (KC.o ht_M7 (show kd 421 = 22 from rfl) (by decide))  )
theorem c_Machine_setLabel {A : Nat → Option (Nat × (Nat → Int32))} {Q : Option Value → jm → Prop} {T : jm} {M : jm} (hC_M : CI M) (ht_M : KC T M) (q : ∀ (M' : jm), CI M' → KC T M' → Q none M') : jc A 2 174 [.ref (421)] M Q := by
  refine jc_of (m := xm_174) rfl (Nat.le_of_ble_eq_true rfl) rfl ?_
  refine jr.aload_n rfl rfl ?_
  obtain ⟨v1, e1⟩ : ∃ z, M 421 12 = z := ⟨_, rfl⟩
  have b1 : (-9223372036854775808) ≤ v1 ∧ v1 ≤ 9223372036854775807 := by rw [← e1]; exact (CI.r hC_M (show kd 421 = 22 from rfl) (by decide) 12)
  have k2 : kd (v1).toNat = 18 := ((congrArg (fun z : Int => kd z.toNat) e1).symm.trans (CI.x hC_M (show kd 421 = 22 from rfl) 12 rfl (by decide)))
  refine jr.getf (i := 12) (x := v1) (v := .ref (v1.toNat)) rfl rfl (by decide) rfl (by decide) rfl rfl e1 rfl ?_
  obtain ⟨v3, e3⟩ : ∃ z, M ((v1.toNat)) 7 = z := ⟨_, rfl⟩
  have b3 : (-9223372036854775808) ≤ v3 ∧ v3 ≤ 9223372036854775807 := by rw [← e3]; exact (CI.r hC_M k2 (by decide) 7)
  have k4 : kd (v3).toNat = 33 := ((congrArg (fun z : Int => kd z.toNat) e3).symm.trans (CI.x hC_M k2 7 rfl (by decide)))
  refine jr.getf (i := 7) (x := v3) (v := .ref (v3.toNat)) rfl rfl (Nat.lt_trans (kx_18 k2).1 (by decide)) (kx_18 k2).2 (by decide) rfl rfl e3 (jval_mut rfl (kn_18_7 k2)) ?_
  refine jr_v rfl rfl (Or.inl rfl) rfl rfl (Nat.lt_trans (kx_33 k4).1 (by decide)) (kx_33 k4).2 ⟨rfl, Nat.le_of_ble_eq_true rfl, Nat.le_of_ble_eq_true rfl⟩ rfl (jc.deep (c_Packet_isThere hC_M ht_M k4 (fun r5 z5  => ?_)) (by decide))
  refine jr.if_eq rfl rfl (by omega) (fun h10 => ?_) (fun h10 => ?_)
  · refine jr.aload_n rfl rfl ?_
    refine jr.iconst rfl ?_
    refine jr_v rfl rfl (Or.inl rfl) rfl rfl (by decide) rfl ⟨rfl, Nat.le_of_ble_eq_true rfl, Nat.le_of_ble_eq_true rfl⟩ rfl (jc.deep (c_Machine_fail hC_M ht_M (by omega) (fun M6 hC_M6 ht_M6  => ?_)) (by decide))
    exact jr.vreturn rfl rfl (q _ hC_M6 ht_M6  )
  · refine jr.aload_n rfl rfl ?_
    refine jr.getf (i := 1) (v := .ref 423) rfl rfl (by decide) rfl (by decide) rfl rfl rfl rfl ?_
    refine jr.aload_n rfl rfl ?_
    refine jr.getf (i := 8) (v := .ref 435) rfl rfl (by decide) rfl (by decide) rfl rfl rfl rfl ?_
    refine jr.iconst rfl ?_
    obtain ⟨v7, e7⟩ : ∃ z, M 435 0 = z := ⟨_, rfl⟩
    have b7 : (-9223372036854775808) ≤ v7 ∧ v7 ≤ 9223372036854775807 := by rw [← e7]; exact (CI.r hC_M (show kd 435 = 26 from rfl) (by decide) 0)
    refine jr.lald (i := 0) (x := v7) rfl (by decide) rfl (by decide) (by omega) (by omega) e7 ?_
    refine jr.putf (i := 6) (x := v7) rfl rfl (by decide) rfl (by decide) rfl rfl rfl rfl rfl ?_
    refine jr.goto rfl rfl ?_
    exact jr.vreturn rfl rfl (q _ (CI.u hC_M (i := 6) (show kd 423 = 27 from rfl) (show (-9223372036854775808 : Int) ≤ _ ∧ _ ≤ (9223372036854775807 : Int) from by omega) rfl) (KC.o ht_M (show kd 423 = 27 from rfl) (by decide))  )
theorem c_Parser_countNode {A : Nat → Option (Nat × (Nat → Int32))} {Q : Option Value → jm → Prop} {T : jm} {M : jm} (hC_M : CI M) (ht_M : KC T M) (q : ∀ (M' : jm), CI M' → KC T M' → Q none M') : jc A 2 223 [.ref (413)] M Q := by
  refine jc_of (m := xm_223) rfl (Nat.le_of_ble_eq_true rfl) rfl ?_
  refine jr.aload_n rfl rfl ?_
  obtain ⟨v1, e1⟩ : ∃ z, M 413 2 = z := ⟨_, rfl⟩
  have b1 : (-9223372036854775808) ≤ v1 ∧ v1 ≤ 9223372036854775807 := by rw [← e1]; exact (CI.r hC_M (show kd 413 = 44 from rfl) (by decide) 2)
  have k2 : kd (v1).toNat = 47 := ((congrArg (fun z : Int => kd z.toNat) e1).symm.trans (CI.x hC_M (show kd 413 = 44 from rfl) 2 rfl (by decide)))
  refine jr.getf (i := 2) (x := v1) (v := .ref (v1.toNat)) rfl rfl (by decide) rfl (by decide) rfl rfl e1 rfl ?_
  obtain ⟨v3, e3⟩ : ∃ z, M ((v1.toNat)) 4 = z := ⟨_, rfl⟩
  have b3 : (-2147483648) ≤ v3 ∧ v3 ≤ 2147483647 := by rw [← e3]; exact (CI.r hC_M k2 (by decide) 4)
  refine jr.getf (i := 4) (x := v3) (v := .int (Int32.ofInt (v3))) rfl rfl (Nat.lt_trans (kx_47 k2).1 (by decide)) (kx_47 k2).2 (by decide) rfl rfl e3 rfl ?_
  refine jr.sipush rfl (by decide) ?_
  refine jr.icmp_lt rfl rfl (by omega) (by omega) (fun h10 => ?_) (fun h10 => ?_)
  · refine jr.aload_n rfl rfl ?_
    have k4 : kd (v1).toNat = 47 := ((congrArg (fun z : Int => kd z.toNat) e1).symm.trans (CI.x hC_M (show kd 413 = 44 from rfl) 2 rfl (by decide)))
    refine jr.getf (i := 2) (x := v1) (v := .ref (v1.toNat)) rfl rfl (by decide) rfl (by decide) rfl rfl e1 rfl ?_
    refine jr.dup rfl rfl ?_
    refine jr.getf (i := 4) (x := v3) (v := .int (Int32.ofInt (v3))) rfl rfl (Nat.lt_trans (kx_47 k4).1 (by decide)) (kx_47 k4).2 (by decide) rfl rfl e3 rfl ?_
    refine jr.iconst rfl ?_
    refine jr.iadd rfl ?_
    refine jr.putf (i := 4) (x := (v3 + 1)) rfl rfl (Nat.lt_trans (kx_47 k4).1 (by decide)) (kx_47 k4).2 (by decide) rfl rfl rfl rfl rfl ?_
    exact jr.vreturn rfl rfl (q _ (CI.u hC_M (i := 4) k4 (show (-2147483648 : Int) ≤ _ ∧ _ ≤ (2147483647 : Int) from by omega) rfl) (KC.o ht_M k4 (by decide))  )
  · refine jr.aload_n rfl rfl ?_
    refine jr.iconst rfl ?_
    refine jr_v rfl rfl (Or.inl rfl) rfl rfl (by decide) rfl ⟨rfl, Nat.le_of_ble_eq_true rfl, Nat.le_of_ble_eq_true rfl⟩ rfl (jc.deep (c_Parser_fail hC_M ht_M (by omega) (fun M5 hC_M5 ht_M5  => ?_)) (by decide))
    exact jr.vreturn rfl rfl (q _ hC_M5 ht_M5  )
theorem c_Parser_refuse {A : Nat → Option (Nat × (Nat → Int32))} {Q : Option Value → jm → Prop} {T : jm} {M : jm} (hC_M : CI M) (ht_M : KC T M) (q : ∀ (M' : jm), CI M' → KC T M' → Q none M') : jc A 2 224 [.ref (413)] M Q := by
  refine jc_of (m := xm_224) rfl (Nat.le_of_ble_eq_true rfl) rfl ?_
  refine jr.aload_n rfl rfl ?_
  refine jr.aload_n rfl rfl ?_
  obtain ⟨v1, e1⟩ : ∃ z, M 413 6 = z := ⟨_, rfl⟩
  have b1 : (-2147483648) ≤ v1 ∧ v1 ≤ 2147483647 := by rw [← e1]; exact (CI.r hC_M (show kd 413 = 44 from rfl) (by decide) 6)
  refine jr.getf (i := 6) (x := v1) (v := .int (Int32.ofInt (v1))) rfl rfl (by decide) rfl (by decide) rfl rfl e1 rfl ?_
  refine jr.iconst rfl ?_
  refine jr.icmp_ne rfl rfl (by omega) (by omega) (fun h6 => ?_) (fun h6 => ?_)
  · refine jr.iconst rfl ?_
    refine jr_v rfl rfl (Or.inl rfl) rfl rfl (by decide) rfl ⟨rfl, Nat.le_of_ble_eq_true rfl, Nat.le_of_ble_eq_true rfl⟩ rfl (jc.deep (c_Parser_fail hC_M ht_M (by omega) (fun M2 hC_M2 ht_M2  => ?_)) (by decide))
    exact jr.vreturn rfl rfl (q _ hC_M2 ht_M2  )
  · refine jr.iconst rfl ?_
    refine jr.goto rfl rfl ?_
    refine jr_v rfl rfl (Or.inl rfl) rfl rfl (by decide) rfl ⟨rfl, Nat.le_of_ble_eq_true rfl, Nat.le_of_ble_eq_true rfl⟩ rfl (jc.deep (c_Parser_fail hC_M ht_M (by omega) (fun M3 hC_M3 ht_M3  => ?_)) (by decide))
    exact jr.vreturn rfl rfl (q _ hC_M3 ht_M3  )
theorem c_Row_putItem {A : Nat → Option (Nat × (Nat → Int32))} {Q : Option Value → jm → Prop} {T : jm} {M : jm} (hC_M : CI M) (ht_M : KC T M) {t : Nat} (k_t : kd t = 52) {x : Int} (h_x : (-2147483648) ≤ x ∧ x ≤ 2147483647) {y : Int} (h_y : (-9223372036854775808) ≤ y ∧ y ≤ 9223372036854775807) (q : ∀ (M' : jm), CI M' → KC T M' → Q none M') : jc A 2 237 [.ref (t), .int (Int32.ofInt (x)), .long (Int64.ofInt (y))] M Q := by
  refine jc_of (m := xm_237) rfl (Nat.le_of_ble_eq_true rfl) rfl ?_
  refine jr.aload_n rfl rfl ?_
  refine jr.iload_n rfl rfl ?_
  refine jr.i2l rfl (by omega) ?_
  refine jr_v rfl rfl (Or.inl rfl) rfl rfl (Nat.lt_trans (kx_52 k_t).1 (by decide)) (kx_52 k_t).2 ⟨rfl, Nat.le_of_ble_eq_true rfl, Nat.le_of_ble_eq_true rfl⟩ rfl (jc.deep (c_Row_hasItem hC_M ht_M k_t (by omega) (fun r1 z1 w1_0 => ?_)) (by decide))
  refine jr.if_ne rfl rfl (by omega) (fun h6 => ?_) (fun h6 => ?_)
  · refine jr.aload_n rfl rfl ?_
    obtain ⟨v2, e2⟩ : ∃ z, M t 0 = z := ⟨_, rfl⟩
    have b2 : (-2147483648) ≤ v2 ∧ v2 ≤ 2147483647 := by rw [← e2]; exact (CI.r hC_M k_t (by decide) 0)
    refine jr.getf (i := 0) (x := v2) (v := .int (Int32.ofInt (v2))) rfl rfl (Nat.lt_trans (kx_52 k_t).1 (by decide)) (kx_52 k_t).2 (by decide) rfl rfl e2 rfl ?_
    rcases (show v2 = 0 ∨ v2 = 1 ∨ v2 = 2 ∨ v2 = 3 ∨ (v2 ≠ 0 ∧ v2 ≠ 1 ∧ v2 ≠ 2 ∧ v2 ≠ 3) by omega) with h14 | h14 | h14 | h14 | h14
    · refine jr.tsw_k 0 rfl h14 rfl ?_
      refine jr.aload_n rfl rfl ?_
      have k3 := kf_52_2 k_t
      refine jr.getf (i := 2) (v := .ref (t + 1)) rfl rfl (Nat.lt_trans (kx_52 k_t).1 (by decide)) (kx_52 k_t).2 (by decide) rfl rfl rfl (jval_ref rfl k3.1) ?_
      refine jr.iload_n rfl rfl ?_
      refine jr.lload_n rfl rfl ?_
      refine jr.l2i rfl ?_
      refine jr.iw (j_w y) (j_w_eq _) ?_
      have b4 : -2147483648 ≤ j_w y ∧ j_w y ≤ 2147483647 := jb_any _
      generalize j_w y = v4 at b4 ⊢
      refine jr.i2b rfl ?_
      have b5 : -2147483648 ≤ j_b v4 ∧ j_b v4 ≤ 2147483647 := jb_any _
      generalize j_b v4 = v5 at b5 ⊢
      refine jr.i2l rfl (by omega) ?_
      refine jr.last (i := x) (x := v5) rfl (Nat.lt_trans (kx_54 k3.2).1 (by decide)) (kx_54 k3.2).2 (by decide) (by omega) (by omega) ?_
      refine jr.goto rfl rfl ?_
      exact jr.vreturn rfl rfl (q _ (CI.u hC_M (i := x) k3.2 (show (-9223372036854775808 : Int) ≤ _ ∧ _ ≤ (9223372036854775807 : Int) from by omega) rfl) (KC.o ht_M k3.2 (by decide))  )
    · refine jr.tsw_k 1 rfl h14 rfl ?_
      refine jr.aload_n rfl rfl ?_
      have k6 := kf_52_2 k_t
      refine jr.getf (i := 2) (v := .ref (t + 1)) rfl rfl (Nat.lt_trans (kx_52 k_t).1 (by decide)) (kx_52 k_t).2 (by decide) rfl rfl rfl (jval_ref rfl k6.1) ?_
      refine jr.iload_n rfl rfl ?_
      refine jr.lload_n rfl rfl ?_
      refine jr.l2i rfl ?_
      refine jr.iw (j_w y) (j_w_eq _) ?_
      have b7 : -2147483648 ≤ j_w y ∧ j_w y ≤ 2147483647 := jb_any _
      generalize j_w y = v7 at b7 ⊢
      refine jr.i2s rfl ?_
      have b8 : -2147483648 ≤ j_s v7 ∧ j_s v7 ≤ 2147483647 := jb_any _
      generalize j_s v7 = v8 at b8 ⊢
      refine jr.i2l rfl (by omega) ?_
      refine jr.last (i := x) (x := v8) rfl (Nat.lt_trans (kx_54 k6.2).1 (by decide)) (kx_54 k6.2).2 (by decide) (by omega) (by omega) ?_
      refine jr.goto rfl rfl ?_
      exact jr.vreturn rfl rfl (q _ (CI.u hC_M (i := x) k6.2 (show (-9223372036854775808 : Int) ≤ _ ∧ _ ≤ (9223372036854775807 : Int) from by omega) rfl) (KC.o ht_M k6.2 (by decide))  )
    · refine jr.tsw_k 2 rfl h14 rfl ?_
      refine jr.aload_n rfl rfl ?_
      have k9 := kf_52_2 k_t
      refine jr.getf (i := 2) (v := .ref (t + 1)) rfl rfl (Nat.lt_trans (kx_52 k_t).1 (by decide)) (kx_52 k_t).2 (by decide) rfl rfl rfl (jval_ref rfl k9.1) ?_
      refine jr.iload_n rfl rfl ?_
      refine jr.lload_n rfl rfl ?_
      refine jr.l2i rfl ?_
      refine jr.iw (j_w y) (j_w_eq _) ?_
      have b10 : -2147483648 ≤ j_w y ∧ j_w y ≤ 2147483647 := jb_any _
      generalize j_w y = v10 at b10 ⊢
      refine jr.i2c rfl ?_
      have b11 : -2147483648 ≤ j_c v10 ∧ j_c v10 ≤ 2147483647 := jb_any _
      generalize j_c v10 = v11 at b11 ⊢
      refine jr.i2l rfl (by omega) ?_
      refine jr.last (i := x) (x := v11) rfl (Nat.lt_trans (kx_54 k9.2).1 (by decide)) (kx_54 k9.2).2 (by decide) (by omega) (by omega) ?_
      refine jr.goto rfl rfl ?_
      exact jr.vreturn rfl rfl (q _ (CI.u hC_M (i := x) k9.2 (show (-9223372036854775808 : Int) ≤ _ ∧ _ ≤ (9223372036854775807 : Int) from by omega) rfl) (KC.o ht_M k9.2 (by decide))  )
    · refine jr.tsw_k 3 rfl h14 rfl ?_
      refine jr.aload_n rfl rfl ?_
      have k12 := kf_52_2 k_t
      refine jr.getf (i := 2) (v := .ref (t + 1)) rfl rfl (Nat.lt_trans (kx_52 k_t).1 (by decide)) (kx_52 k_t).2 (by decide) rfl rfl rfl (jval_ref rfl k12.1) ?_
      refine jr.iload_n rfl rfl ?_
      refine jr.lload_n rfl rfl ?_
      refine jr.l2i rfl ?_
      refine jr.iw (j_w y) (j_w_eq _) ?_
      have b13 : -2147483648 ≤ j_w y ∧ j_w y ≤ 2147483647 := jb_any _
      generalize j_w y = v13 at b13 ⊢
      refine jr.i2l rfl (by omega) ?_
      refine jr.last (i := x) (x := v13) rfl (Nat.lt_trans (kx_54 k12.2).1 (by decide)) (kx_54 k12.2).2 (by decide) (by omega) (by omega) ?_
      refine jr.goto rfl rfl ?_
      exact jr.vreturn rfl rfl (q _ (CI.u hC_M (i := x) k12.2 (show (-9223372036854775808 : Int) ≤ _ ∧ _ ≤ (9223372036854775807 : Int) from by omega) rfl) (KC.o ht_M k12.2 (by decide))  )
    · refine jr.tsw_d rfl (by omega) (by omega) rfl ?_
      refine jr.aload_n rfl rfl ?_
      have k14 := kf_52_2 k_t
      refine jr.getf (i := 2) (v := .ref (t + 1)) rfl rfl (Nat.lt_trans (kx_52 k_t).1 (by decide)) (kx_52 k_t).2 (by decide) rfl rfl rfl (jval_ref rfl k14.1) ?_
      refine jr.iload_n rfl rfl ?_
      refine jr.lload_n rfl rfl ?_
      refine jr.last (i := x) (x := y) rfl (Nat.lt_trans (kx_54 k14.2).1 (by decide)) (kx_54 k14.2).2 (by decide) (by omega) (by omega) ?_
      exact jr.vreturn rfl rfl (q _ (CI.u hC_M (i := x) k14.2 (show (-9223372036854775808 : Int) ≤ _ ∧ _ ≤ (9223372036854775807 : Int) from by omega) rfl) (KC.o ht_M k14.2 (by decide))  )
  · exact jr.vreturn rfl rfl (q _ hC_M ht_M  )
theorem c_Row_isUnlike {A : Nat → Option (Nat × (Nat → Int32))} {Q : Option Value → jm → Prop} {T : jm} {M : jm} (hC_M : CI M) (ht_M : KC T M) {t : Nat} (k_t : kd t = 52) {x : Nat} (k_x : kd x = 52) (q : ∀ (r : Int), 0 ≤ r ∧ r ≤ 1 → Q (some (.int (Int32.ofInt r))) M) : jc A 2 238 [.ref (t), .ref (x)] M Q := by
  refine jc_of (m := xm_238) rfl (Nat.le_of_ble_eq_true rfl) rfl ?_
  refine jr.aload_n rfl rfl ?_
  obtain ⟨v1, e1⟩ : ∃ z, M t 0 = z := ⟨_, rfl⟩
  have b1 : (-2147483648) ≤ v1 ∧ v1 ≤ 2147483647 := by rw [← e1]; exact (CI.r hC_M k_t (by decide) 0)
  refine jr.getf (i := 0) (x := v1) (v := .int (Int32.ofInt (v1))) rfl rfl (Nat.lt_trans (kx_52 k_t).1 (by decide)) (kx_52 k_t).2 (by decide) rfl rfl e1 rfl ?_
  refine jr.aload_n rfl rfl ?_
  obtain ⟨v2, e2⟩ : ∃ z, M x 0 = z := ⟨_, rfl⟩
  have b2 : (-2147483648) ≤ v2 ∧ v2 ≤ 2147483647 := by rw [← e2]; exact (CI.r hC_M k_x (by decide) 0)
  refine jr.getf (i := 0) (x := v2) (v := .int (Int32.ofInt (v2))) rfl rfl (Nat.lt_trans (kx_52 k_x).1 (by decide)) (kx_52 k_x).2 (by decide) rfl rfl e2 rfl ?_
  refine jr.icmp_eq rfl rfl (by omega) (by omega) (fun h8 => ?_) (fun h8 => ?_)
  · refine jr.iconst rfl ?_
    exact jr.ireturn rfl rfl rfl (q _ (by omega) )
  · refine jr.aload_n rfl rfl ?_
    refine jr_v rfl rfl (Or.inl rfl) rfl rfl (Nat.lt_trans (kx_52 k_t).1 (by decide)) (kx_52 k_t).2 ⟨rfl, Nat.le_of_ble_eq_true rfl, Nat.le_of_ble_eq_true rfl⟩ rfl (jc.deep (c_Row_isOfHeaders hC_M ht_M k_t (fun r3 z3  => ?_)) (by decide))
    refine jr.if_eq rfl rfl (by omega) (fun h15 => ?_) (fun h15 => ?_)
    · refine jr.iconst rfl ?_
      refine jr.goto rfl rfl ?_
      exact jr.ireturn rfl rfl rfl (q _ (by omega) )
    · refine jr.aload_n rfl rfl ?_
      refine jr_v rfl rfl (Or.inl rfl) rfl rfl (Nat.lt_trans (kx_52 k_x).1 (by decide)) (kx_52 k_x).2 ⟨rfl, Nat.le_of_ble_eq_true rfl, Nat.le_of_ble_eq_true rfl⟩ rfl (jc.deep (c_Row_isOfHeaders hC_M ht_M k_x (fun r4 z4  => ?_)) (by decide))
      refine jr.if_ne rfl rfl (by omega) (fun h22 => ?_) (fun h22 => ?_)
      · refine jr.iconst rfl ?_
        exact jr.ireturn rfl rfl rfl (q _ (by omega) )
      · refine jr.iconst rfl ?_
        refine jr.goto rfl rfl ?_
        exact jr.ireturn rfl rfl rfl (q _ (by omega) )
