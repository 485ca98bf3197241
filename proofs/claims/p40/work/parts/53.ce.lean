section
/-! ===== the class's methods ===== -/
theorem c_Headers_ruleValue {A : Nat → Option (Nat × (Nat → Int32))} {Q : Option Value → jm → Prop} {M : jm} (hC_M : CI M) {t : Nat} (k_t : kd t = 18) {x : Int} (h_x : 0 ≤ x ∧ x ≤ 11) {y : Int} (h_y : (-2147483648) ≤ y ∧ y ≤ 2147483647) {z : Int} (h_z : (-2147483648) ≤ z ∧ z ≤ 2147483647) (q : ∀ (r : Int), (-9223372036854775808) ≤ r ∧ r ≤ 9223372036854775807 → Q (some (.long (Int64.ofInt r))) M) : jc A 3 112 [.ref (t), .int (Int32.ofInt (x)), .int (Int32.ofInt (y)), .int (Int32.ofInt (z))] M Q := by
  refine jc_of (m := xm_112) rfl (Nat.le_of_ble_eq_true rfl) rfl ?_
  refine jr.iload_n rfl rfl ?_
  refine jr.bipush rfl (jbp _ (nlt rfl)) ?_
  refine jr.icmp_ne rfl rfl (by first | (refine rgb (by assumption) ?_; exact rfl) | omega) (rgl rfl) (fun h3 => ?_) (fun h3 => ?_)
  · refine jr.iload_n rfl rfl ?_
    refine jr.bipush rfl (jbp _ (nlt rfl)) ?_
    refine jr.icmp_ne rfl rfl (by first | (refine rgb (by assumption) ?_; exact rfl) | omega) (rgl rfl) (fun h34 => ?_) (fun h34 => ?_)
    · refine jr.aload_n rfl rfl ?_
      refine jr.iload_n rfl rfl ?_
      refine jr.iload_n rfl rfl ?_
      refine jr_v rfl rfl (Or.inl rfl) rfl rfl (Nat.lt_trans (kx_18 k_t).1 (by decide)) (kx_18 k_t).2 ⟨rfl, Nat.le_of_ble_eq_true rfl, Nat.le_of_ble_eq_true rfl⟩ rfl (jc.deep (c_Headers_valueOf hC_M k_t (by omega) (by omega) (fun r1 z1  => ?_)) (Nat.le_of_ble_eq_true rfl))
      exact jr.lreturn rfl rfl (q _ (by omega) )
    · refine jr.iload_n rfl rfl ?_
      refine jr.if_lt rfl rfl (by first | (refine rgb (by assumption) ?_; exact rfl) | omega) (fun h38 => ?_) (fun h38 => ?_)
      · refine jr.aload_n rfl rfl ?_
        refine jr.iload_n rfl rfl ?_
        refine jr.iload_n rfl rfl ?_
        refine jr_v rfl rfl (Or.inl rfl) rfl rfl (Nat.lt_trans (kx_18 k_t).1 (by decide)) (kx_18 k_t).2 ⟨rfl, Nat.le_of_ble_eq_true rfl, Nat.le_of_ble_eq_true rfl⟩ rfl (jc.deep (c_Headers_valueOf hC_M k_t (by omega) (by omega) (fun r2 z2  => ?_)) (Nat.le_of_ble_eq_true rfl))
        exact jr.lreturn rfl rfl (q _ (by omega) )
      · refine jr.iload_n rfl rfl ?_
        refine jr.gst (v := .ref 1000007) rfl rfl ?_
        refine jr.alens (x := 5) rfl (by decide) rfl rfl ?_
        refine jr.icmp_ge rfl rfl (by first | (refine rgb (by assumption) ?_; exact rfl) | omega) (by first | (refine rgb (by assumption) ?_; exact rfl) | omega) (fun h46 => ?_) (fun h46 => ?_)
        · refine jr.aload_n rfl rfl ?_
          refine jr.iload_n rfl rfl ?_
          refine jr.iload_n rfl rfl ?_
          refine jr_v rfl rfl (Or.inl rfl) rfl rfl (Nat.lt_trans (kx_18 k_t).1 (by decide)) (kx_18 k_t).2 ⟨rfl, Nat.le_of_ble_eq_true rfl, Nat.le_of_ble_eq_true rfl⟩ rfl (jc.deep (c_Headers_valueOf hC_M k_t (by omega) (by omega) (fun r3 z3  => ?_)) (Nat.le_of_ble_eq_true rfl))
          exact jr.lreturn rfl rfl (q _ (by omega) )
        · refine jr.aload_n rfl rfl ?_
          refine jr.iload_n rfl rfl ?_
          refine jr.aload_n rfl rfl ?_
          refine jr.iload_n rfl rfl ?_
          refine jr_v rfl rfl (Or.inl rfl) rfl rfl (Nat.lt_trans (kx_18 k_t).1 (by decide)) (kx_18 k_t).2 ⟨rfl, Nat.le_of_ble_eq_true rfl, Nat.le_of_ble_eq_true rfl⟩ rfl (jc.deep (c_Headers_kindAt hC_M k_t (by omega) (fun r4 z4 w4_0 w4_1 => ?_)) (Nat.le_of_ble_eq_true rfl))
          refine jr.iconst rfl ?_
          refine jr.icmp_ne rfl rfl (by first | (refine rgb (by assumption) ?_; exact rfl) | omega) (rgl rfl) (fun h57 => ?_) (fun h57 => ?_)
          · refine jr.gst (v := .ref 1000007) rfl rfl ?_
            refine jr.iload_n rfl rfl ?_
            obtain ⟨v5, e5⟩ : ∃ z_, xcv_7 z = z_ := ⟨_, rfl⟩
            have b5 : 0 ≤ v5 ∧ v5 ≤ 6 := by rw [← e5]; exact xcr_7 (by omega) (by omega)
            refine jr.ials (i := z) v5 rfl (by decide) rfl (by decide) (by omega) (by omega) (by rw [← e5]; exact (Int32.ofInt_toInt _).symm) ?_
            refine jr_v rfl rfl (Or.inl rfl) rfl rfl (Nat.lt_trans (kx_18 k_t).1 (by decide)) (kx_18 k_t).2 ⟨rfl, Nat.le_of_ble_eq_true rfl, Nat.le_of_ble_eq_true rfl⟩ rfl (jc.deep (c_Headers_valueOf hC_M k_t (by omega) (by omega) (fun r6 z6  => ?_)) (Nat.le_of_ble_eq_true rfl))
            exact jr.lreturn rfl rfl (q _ (by omega) )
          · refine jr.gst (v := .ref 1000008) rfl rfl ?_
            refine jr.iload_n rfl rfl ?_
            obtain ⟨v7, e7⟩ : ∃ z_, xcv_8 z = z_ := ⟨_, rfl⟩
            have b7 : 1 ≤ v7 ∧ v7 ≤ 10 := by rw [← e7]; exact xcr_8 (by omega) (by omega)
            refine jr.ials (i := z) v7 rfl (by decide) rfl (by decide) (by omega) (by omega) (by rw [← e7]; exact (Int32.ofInt_toInt _).symm) ?_
            refine jr.goto rfl rfl ?_
            refine jr_v rfl rfl (Or.inl rfl) rfl rfl (Nat.lt_trans (kx_18 k_t).1 (by decide)) (kx_18 k_t).2 ⟨rfl, Nat.le_of_ble_eq_true rfl, Nat.le_of_ble_eq_true rfl⟩ rfl (jc.deep (c_Headers_valueOf hC_M k_t (by omega) (by omega) (fun r8 z8  => ?_)) (Nat.le_of_ble_eq_true rfl))
            exact jr.lreturn rfl rfl (q _ (by omega) )
  · refine jr.aload_n rfl rfl ?_
    obtain ⟨v9, e9⟩ : ∃ z_, M t 7 = z_ := ⟨_, rfl⟩
    have b9 : 0 ≤ v9 ∧ v9 ≤ 597 := by rw [← e9]; exact (CI.r hC_M k_t (by decide) 7)
    have k10 : kd (v9).toNat = 33 := ((congrArg (fun z : Int => kd z.toNat) (show M t 7 = v9 from e9)).symm.trans (CI.x hC_M k_t 7 rfl (by decide)))
    refine jr.getf (i := 7) (x := v9) (v := .ref (v9.toNat)) rfl rfl (Nat.lt_trans (kx_18 k_t).1 (by decide)) (kx_18 k_t).2 (by decide) rfl rfl e9 (jval_mut rfl (kn_18_7 k_t)) ?_
    refine jr.aload_n rfl rfl ?_
    have k11 := kf_18_1 k_t
    refine jr.getf (i := 1) (v := .ref (t + 2)) rfl rfl (Nat.lt_trans (kx_18 k_t).1 (by decide)) (kx_18 k_t).2 (by decide) rfl rfl rfl (jval_ref rfl k11.1) ?_
    refine jr.iload_n rfl rfl ?_
    obtain ⟨v12, e12⟩ : ∃ z_, M ((t + 2)) x = z_ := ⟨_, rfl⟩
    have b12 : 0 ≤ v12 ∧ v12 ≤ 400 := by rw [← e12]; exact (CI.r hC_M k11.2 (by decide) x)
    refine jr.iald (i := x) (x := v12) rfl (Nat.lt_trans (kx_20 k11.2).1 (by decide)) (kx_20 k11.2).2 (by decide) (by omega) (by omega) e12 ?_
    refine jr.aload_n rfl rfl ?_
    have k13 := kf_18_0 k_t
    refine jr.getf (i := 0) (v := .ref (t + 1)) rfl rfl (Nat.lt_trans (kx_18 k_t).1 (by decide)) (kx_18 k_t).2 (by decide) rfl rfl rfl (jval_ref rfl k13.1) ?_
    refine jr.iload_n rfl rfl ?_
    obtain ⟨v14, e14⟩ : ∃ z_, M ((t + 1)) x = z_ := ⟨_, rfl⟩
    have b14 : 0 ≤ v14 ∧ v14 ≤ 11 := by rw [← e14]; exact (CI.r hC_M k13.2 (by decide) x)
    refine jr.iald (i := x) (x := v14) rfl (Nat.lt_trans (kx_19 k13.2).1 (by decide)) (kx_19 k13.2).2 (by decide) (by omega) (by omega) e14 ?_
    refine jr_s rfl rfl (Or.inl rfl) ⟨Nat.le_of_ble_eq_true rfl, Nat.le_of_ble_eq_true rfl⟩ rfl rfl (jc.deep (c_Headers_sumOffset hC_M (by omega) (fun r15 z15  => ?_)) (Nat.le_of_ble_eq_true rfl))
    refine jr.iadd rfl ?_
    refine jr.iconst rfl ?_
    refine jr_v rfl rfl (Or.inl rfl) rfl rfl (Nat.lt_trans (kx_33 k10).1 (by decide)) (kx_33 k10).2 ⟨rfl, Nat.le_of_ble_eq_true rfl, Nat.le_of_ble_eq_true rfl⟩ rfl (jc.deep (c_Packet_numberFrom hC_M k10 (by omega) (by omega) (fun r16 z16  => ?_)) (Nat.le_of_ble_eq_true rfl))
    exact jr.lreturn rfl rfl (q _ (by omega) )
theorem c_Flows_isQuoting {A : Nat → Option (Nat × (Nat → Int32))} {Q : Option Value → jm → Prop} {M : jm} (hC_M : CI M) {x : Nat} (k_x : kd x = 18) (q : ∀ (r : Int), 0 ≤ r ∧ r ≤ 1 → Q (some (.int (Int32.ofInt r))) M) : jc A 3 90 [.ref (15), .ref (x)] M Q := by
  refine jc_of (m := xm_90) rfl (Nat.le_of_ble_eq_true rfl) rfl ?_
  refine jr.aload_n rfl rfl ?_
  refine jr.aload_n rfl rfl ?_
  obtain ⟨v1, e1⟩ : ∃ z_, M 15 4 = z_ := ⟨_, rfl⟩
  have b1 : (-2147483648) ≤ v1 ∧ v1 ≤ 2147483647 := by rw [← e1]; exact (CI.r hC_M (show kd 15 = 9 from rfl) (by decide) 4)
  refine jr.getf (i := 4) (x := v1) (v := .int (Int32.ofInt (v1))) rfl rfl (nlt rfl) rfl (nlt rfl) rfl rfl e1 rfl ?_
  refine jr_v rfl rfl (Or.inl rfl) rfl rfl (Nat.lt_trans (kx_18 k_x).1 (by decide)) (kx_18 k_x).2 ⟨rfl, Nat.le_of_ble_eq_true rfl, Nat.le_of_ble_eq_true rfl⟩ rfl (jc.deep (c_Headers_kindAt hC_M k_x (by omega) (fun r2 z2 w2_0 w2_1 => ?_)) (Nat.le_of_ble_eq_true rfl))
  refine jr.bipush rfl (jbp _ (nlt rfl)) ?_
  refine jr.icmp_eq rfl rfl (by first | (refine rgb (by assumption) ?_; exact rfl) | omega) (rgl rfl) (fun h10 => ?_) (fun h10 => ?_)
  · refine jr.aload_n rfl rfl ?_
    refine jr.aload_n rfl rfl ?_
    refine jr.getf (i := 4) (x := v1) (v := .int (Int32.ofInt (v1))) rfl rfl (nlt rfl) rfl (nlt rfl) rfl rfl e1 rfl ?_
    refine jr.iconst rfl ?_
    refine jr_v rfl rfl (Or.inl rfl) rfl rfl (Nat.lt_trans (kx_18 k_x).1 (by decide)) (kx_18 k_x).2 ⟨rfl, Nat.le_of_ble_eq_true rfl, Nat.le_of_ble_eq_true rfl⟩ rfl (jc.deep (c_Headers_valueOf hC_M k_x (by omega) (by omega) (fun r3 z3  => ?_)) (Nat.le_of_ble_eq_true rfl))
    refine jr.lstore_n (ls' := [_, _, _]) rfl (nlt rfl) rfl ?_
    refine jr.aload_n rfl rfl ?_
    refine jr.aload_n rfl rfl ?_
    refine jr.getf (i := 4) (x := v1) (v := .int (Int32.ofInt (v1))) rfl rfl (nlt rfl) rfl (nlt rfl) rfl rfl e1 rfl ?_
    refine jr.iconst rfl ?_
    refine jr.iadd rfl ?_
    refine jr_v rfl rfl (Or.inl rfl) rfl rfl (Nat.lt_trans (kx_18 k_x).1 (by decide)) (kx_18 k_x).2 ⟨rfl, Nat.le_of_ble_eq_true rfl, Nat.le_of_ble_eq_true rfl⟩ rfl (jc.deep (c_Headers_kindAt hC_M k_x (by omega) (fun r4 z4 w4_0 w4_1 => ?_)) (Nat.le_of_ble_eq_true rfl))
    refine jr_s rfl rfl (Or.inr rfl) ⟨Nat.le_of_ble_eq_true rfl, Nat.le_of_ble_eq_true rfl⟩ rfl rfl (jc.deep (c_PacketWall_isNetKind hC_M (by omega) (fun r5 z5 w5_0 => ?_)) (Nat.le_of_ble_eq_true rfl))
    refine jr.if_eq rfl rfl (by first | (refine rgb (by assumption) ?_; exact rfl) | omega) (fun h38 => ?_) (fun h38 => ?_)
    · refine jr.iconst rfl ?_
      refine jr.istore (ls' := [_, _, _, _]) rfl (nlt rfl) rfl ?_
      refine jr.lload_n rfl rfl ?_
      refine jr.ldc2 (x := 3) rfl rfl (by decide) ?_
      refine jr.lcmp_eq rfl rfl rfl (by omega) (by omega) (fun h68 => ?_) (fun h68 => ?_)
      · refine jr.iload rfl rfl ?_
        refine jr.if_eq rfl rfl (by first | exact rgl rfl | omega) (fun _ => ?_) (fun h => absurd (by decide) h)
        refine jr.iconst rfl ?_
        exact jr.ireturn rfl rfl rfl (q _ (by first | exact rgq rfl | omega) )
      · refine jr.lload_n rfl rfl ?_
        refine jr.ldc2 (x := 11) rfl rfl (by decide) ?_
        refine jr.lcmp_ne rfl rfl rfl (by omega) (by omega) (fun h76 => ?_) (fun h76 => ?_)
        · refine jr.iconst rfl ?_
          exact jr.ireturn rfl rfl rfl (q _ (by first | exact rgq rfl | omega) )
        · refine jr.iload rfl rfl ?_
          refine jr.if_eq rfl rfl (by first | exact rgl rfl | omega) (fun _ => ?_) (fun h => absurd (by decide) h)
          refine jr.iconst rfl ?_
          exact jr.ireturn rfl rfl rfl (q _ (by first | exact rgq rfl | omega) )
    · refine jr.aload_n rfl rfl ?_
      refine jr.aload_n rfl rfl ?_
      refine jr.getf (i := 4) (x := v1) (v := .int (Int32.ofInt (v1))) rfl rfl (nlt rfl) rfl (nlt rfl) rfl rfl e1 rfl ?_
      refine jr.iconst rfl ?_
      refine jr.iadd rfl ?_
      refine jr_v rfl rfl (Or.inl rfl) rfl rfl (Nat.lt_trans (kx_18 k_x).1 (by decide)) (kx_18 k_x).2 ⟨rfl, Nat.le_of_ble_eq_true rfl, Nat.le_of_ble_eq_true rfl⟩ rfl (jc.deep (c_Headers_kindAt hC_M k_x (by omega) (fun r6 z6 w6_0 w6_1 => ?_)) (Nat.le_of_ble_eq_true rfl))
      refine jr_s rfl rfl (Or.inr rfl) ⟨Nat.le_of_ble_eq_true rfl, Nat.le_of_ble_eq_true rfl⟩ rfl rfl (jc.deep (c_PacketWall_isCarriedKind hC_M (by omega) (fun r7 z7 w7_0 => ?_)) (Nat.le_of_ble_eq_true rfl))
      refine jr.if_eq rfl rfl (by first | (refine rgb (by assumption) ?_; exact rfl) | omega) (fun h54 => ?_) (fun h54 => ?_)
      · refine jr.iconst rfl ?_
        refine jr.istore (ls' := [_, _, _, _]) rfl (nlt rfl) rfl ?_
        refine jr.lload_n rfl rfl ?_
        refine jr.ldc2 (x := 3) rfl rfl (by decide) ?_
        refine jr.lcmp_eq rfl rfl rfl (by omega) (by omega) (fun h68 => ?_) (fun h68 => ?_)
        · refine jr.iload rfl rfl ?_
          refine jr.if_eq rfl rfl (by first | exact rgl rfl | omega) (fun _ => ?_) (fun h => absurd (by decide) h)
          refine jr.iconst rfl ?_
          exact jr.ireturn rfl rfl rfl (q _ (by first | exact rgq rfl | omega) )
        · refine jr.lload_n rfl rfl ?_
          refine jr.ldc2 (x := 11) rfl rfl (by decide) ?_
          refine jr.lcmp_ne rfl rfl rfl (by omega) (by omega) (fun h76 => ?_) (fun h76 => ?_)
          · refine jr.iconst rfl ?_
            exact jr.ireturn rfl rfl rfl (q _ (by first | exact rgq rfl | omega) )
          · refine jr.iload rfl rfl ?_
            refine jr.if_eq rfl rfl (by first | exact rgl rfl | omega) (fun _ => ?_) (fun h => absurd (by decide) h)
            refine jr.iconst rfl ?_
            exact jr.ireturn rfl rfl rfl (q _ (by first | exact rgq rfl | omega) )
      · refine jr.iconst rfl ?_
        refine jr.goto rfl rfl ?_
        refine jr.istore (ls' := [_, _, _, _]) rfl (nlt rfl) rfl ?_
        refine jr.lload_n rfl rfl ?_
        refine jr.ldc2 (x := 3) rfl rfl (by decide) ?_
        refine jr.lcmp_eq rfl rfl rfl (by omega) (by omega) (fun h68 => ?_) (fun h68 => ?_)
        · refine jr.iload rfl rfl ?_
          refine jr.if_eq rfl rfl (by first | exact rgl rfl | omega) (fun h => absurd h (by decide)) (fun _ => ?_)
          refine jr.iconst rfl ?_
          refine jr.goto rfl rfl ?_
          exact jr.ireturn rfl rfl rfl (q _ (by first | exact rgq rfl | omega) )
        · refine jr.lload_n rfl rfl ?_
          refine jr.ldc2 (x := 11) rfl rfl (by decide) ?_
          refine jr.lcmp_ne rfl rfl rfl (by omega) (by omega) (fun h76 => ?_) (fun h76 => ?_)
          · refine jr.iconst rfl ?_
            exact jr.ireturn rfl rfl rfl (q _ (by first | exact rgq rfl | omega) )
          · refine jr.iload rfl rfl ?_
            refine jr.if_eq rfl rfl (by first | exact rgl rfl | omega) (fun h => absurd h (by decide)) (fun _ => ?_)
            refine jr.iconst rfl ?_
            refine jr.goto rfl rfl ?_
            exact jr.ireturn rfl rfl rfl (q _ (by first | exact rgq rfl | omega) )
  · refine jr.iconst rfl ?_
    exact jr.ireturn rfl rfl rfl (q _ (by first | exact rgq rfl | omega) )
theorem c_Headers_addressOf {A : Nat → Option (Nat × (Nat → Int32))} {Q : Option Value → jm → Prop} {M : jm} (hC_M : CI M) {t : Nat} (k_t : kd t = 18) {x : Int} (h_x : (-2147483648) ≤ x ∧ x ≤ 2147483647) {y : Int} (h_y : (-2147483648) ≤ y ∧ y ≤ 2147483647) (q : ∀ (r : Int), (-9223372036854775808) ≤ r ∧ r ≤ 9223372036854775807 → Q (some (.long (Int64.ofInt r))) M) : jc A 3 113 [.ref (t), .int (Int32.ofInt (x)), .int (Int32.ofInt (y))] M Q := by
  refine jc_of (m := xm_113) rfl (Nat.le_of_ble_eq_true rfl) rfl ?_
  refine jr.aload_n rfl rfl ?_
  refine jr.iload_n rfl rfl ?_
  refine jr_v rfl rfl (Or.inl rfl) rfl rfl (Nat.lt_trans (kx_18 k_t).1 (by decide)) (kx_18 k_t).2 ⟨rfl, Nat.le_of_ble_eq_true rfl, Nat.le_of_ble_eq_true rfl⟩ rfl (jc.deep (c_Headers_kindAt hC_M k_t (by omega) (fun r1 z1 w1_0 w1_1 => ?_)) (Nat.le_of_ble_eq_true rfl))
  refine jr.iconst rfl ?_
  refine jr.icmp_ne rfl rfl (by first | (refine rgb (by assumption) ?_; exact rfl) | omega) (rgl rfl) (fun h6 => ?_) (fun h6 => ?_)
  · refine jr.iconst rfl ?_
    refine jr.istore_n (ls' := [_, _, _, _]) rfl (nlt rfl) rfl ?_
    refine jr.aload_n rfl rfl ?_
    refine jr.iload_n rfl rfl ?_
    refine jr.iload_n rfl rfl ?_
    refine jr.iload_n rfl rfl ?_
    refine jr.iadd rfl ?_
    refine jr.iw (j_w (5 + y)) (j_w_eq _) ?_
    have b2 : -2147483648 ≤ j_w (5 + y) ∧ j_w (5 + y) ≤ 2147483647 := jb_any _
    generalize j_w (5 + y) = v2 at b2 ⊢
    refine jr_v rfl rfl (Or.inl rfl) rfl rfl (Nat.lt_trans (kx_18 k_t).1 (by decide)) (kx_18 k_t).2 ⟨rfl, Nat.le_of_ble_eq_true rfl, Nat.le_of_ble_eq_true rfl⟩ rfl (jc.deep (c_Headers_valueOf hC_M k_t (by omega) (by omega) (fun r3 z3  => ?_)) (Nat.le_of_ble_eq_true rfl))
    exact jr.lreturn rfl rfl (q _ (by omega) )
  · refine jr.bipush rfl (jbp _ (nlt rfl)) ?_
    refine jr.goto rfl rfl ?_
    refine jr.istore_n (ls' := [_, _, _, _]) rfl (nlt rfl) rfl ?_
    refine jr.aload_n rfl rfl ?_
    refine jr.iload_n rfl rfl ?_
    refine jr.iload_n rfl rfl ?_
    refine jr.iload_n rfl rfl ?_
    refine jr.iadd rfl ?_
    refine jr.iw (j_w (9 + y)) (j_w_eq _) ?_
    have b4 : -2147483648 ≤ j_w (9 + y) ∧ j_w (9 + y) ≤ 2147483647 := jb_any _
    generalize j_w (9 + y) = v4 at b4 ⊢
    refine jr_v rfl rfl (Or.inl rfl) rfl rfl (Nat.lt_trans (kx_18 k_t).1 (by decide)) (kx_18 k_t).2 ⟨rfl, Nat.le_of_ble_eq_true rfl, Nat.le_of_ble_eq_true rfl⟩ rfl (jc.deep (c_Headers_valueOf hC_M k_t (by omega) (by omega) (fun r5 z5  => ?_)) (Nat.le_of_ble_eq_true rfl))
    exact jr.lreturn rfl rfl (q _ (by omega) )
noncomputable def W_c_Machine_tellField : List (Nat × Nat) := [(22, 4), (22, 9), (24, 1000), (26, 1000)]
theorem c_Machine_tellField {A : Nat → Option (Nat × (Nat → Int32))} {Q : Option Value → jm → Prop} {T : jm} {M : jm} (hC_M : CI M) (ht_M : FR W_c_Machine_tellField T M) {x : Int} (h_x : (-2147483648) ≤ x ∧ x ≤ 2147483647) {y : Int} (h_y : (-2147483648) ≤ y ∧ y ≤ 2147483647) (q : ∀ (M' : jm), CI M' → FR W_c_Machine_tellField T M' → Q none M') : jc A 4 158 [.ref (421), .int (Int32.ofInt (x)), .int (Int32.ofInt (y))] M Q := by
  refine jc_of (m := xm_158) rfl (Nat.le_of_ble_eq_true rfl) rfl ?_
  refine jr.aload_n rfl rfl ?_
  obtain ⟨v1, e1⟩ : ∃ z_, M 421 12 = z_ := ⟨_, rfl⟩
  have b1 : 0 ≤ v1 ∧ v1 ≤ 597 := by rw [← e1]; exact (CI.r hC_M (show kd 421 = 22 from rfl) (by decide) 12)
  have k2 : kd (v1).toNat = 18 := ((congrArg (fun z : Int => kd z.toNat) (show M 421 12 = v1 from e1)).symm.trans (CI.x hC_M (show kd 421 = 22 from rfl) 12 rfl (by decide)))
  refine jr.getf (i := 12) (x := v1) (v := .ref (v1.toNat)) rfl rfl (nlt rfl) rfl (nlt rfl) rfl rfl e1 rfl ?_
  refine jr.iload_n rfl rfl ?_
  refine jr_v rfl rfl (Or.inl rfl) rfl rfl (Nat.lt_trans (kx_18 k2).1 (by decide)) (kx_18 k2).2 ⟨rfl, Nat.le_of_ble_eq_true rfl, Nat.le_of_ble_eq_true rfl⟩ rfl (jc.deep (c_Headers_firstOf hC_M k2 (by omega) (fun r3 z3 w3_0 => ?_)) (Nat.le_of_ble_eq_true rfl))
  refine jr.istore_n (ls' := [_, _, _, _]) rfl (nlt rfl) rfl ?_
  refine jr.iload_n rfl rfl ?_
  refine jr.iconst rfl ?_
  refine jr.icmp_ne rfl rfl (by first | (refine rgb (by assumption) ?_; exact rfl) | omega) (rgl rfl) (fun h11 => ?_) (fun h11 => ?_)
  · have sx11 : (0 : Int) ≤ r3 := by omega
    clear h11
    refine jr.aload_n rfl rfl ?_
    refine jr.aload_n rfl rfl ?_
    have k4 : kd (v1).toNat = 18 := ((congrArg (fun z : Int => kd z.toNat) (show M 421 12 = v1 from e1)).symm.trans (CI.x hC_M (show kd 421 = 22 from rfl) 12 rfl (by decide)))
    refine jr.getf (i := 12) (x := v1) (v := .ref (v1.toNat)) rfl rfl (nlt rfl) rfl (nlt rfl) rfl rfl e1 rfl ?_
    refine jr.iload_n rfl rfl ?_
    refine jr.iload_n rfl rfl ?_
    refine jr.iload_n rfl rfl ?_
    refine jr_v rfl rfl (Or.inl rfl) rfl rfl (Nat.lt_trans (kx_18 k4).1 (by decide)) (kx_18 k4).2 ⟨rfl, Nat.le_of_ble_eq_true rfl, Nat.le_of_ble_eq_true rfl⟩ rfl (jc.deep (c_Headers_ruleValue hC_M k4 (by omega) (by omega) (by omega) (fun r5 z5  => ?_)) (Nat.le_of_ble_eq_true rfl))
    refine jr_v rfl rfl (Or.inl rfl) rfl rfl (nlt rfl) rfl ⟨rfl, Nat.le_of_ble_eq_true rfl, Nat.le_of_ble_eq_true rfl⟩ rfl (jc.deep (c_Machine_push hC_M (FR.rfl _ M) (by omega) (fun M6 hC_M6 hf_M6  => ?_)) (Nat.le_of_ble_eq_true rfl))
    have ht_M6 : FR W_c_Machine_tellField T M6 := FR.t ht_M hf_M6 (kw_sub rfl)
    exact jr.vreturn rfl rfl (q _ hC_M6 ht_M6  )
  · refine jr.aload_n rfl rfl ?_
    refine jr.iconst rfl ?_
    refine jr_v rfl rfl (Or.inl rfl) rfl rfl (nlt rfl) rfl ⟨rfl, Nat.le_of_ble_eq_true rfl, Nat.le_of_ble_eq_true rfl⟩ rfl (jc.deep (c_Machine_fail hC_M (FR.rfl _ M) (by omega) (fun M7 hC_M7 hf_M7  => ?_)) (Nat.le_of_ble_eq_true rfl))
    have ht_M7 : FR W_c_Machine_tellField T M7 := FR.t ht_M hf_M7 (kw_sub rfl)
    refine jr.goto rfl rfl ?_
    exact jr.vreturn rfl rfl (q _ hC_M7 ht_M7  )
noncomputable def W_c_Machine_tell : List (Nat × Nat) := [(22, 4), (22, 9), (24, 1000), (26, 1000)]
theorem c_Machine_tell {A : Nat → Option (Nat × (Nat → Int32))} {Q : Option Value → jm → Prop} {T : jm} {M : jm} (hC_M : CI M) (ht_M : FR W_c_Machine_tell T M) {x : Int} (h_x : (-2147483648) ≤ x ∧ x ≤ 2147483647) {y : Int} (h_y : (-2147483648) ≤ y ∧ y ≤ 2147483647) (q : ∀ (M' : jm), CI M' → FR W_c_Machine_tell T M' → Q none M') : jc A 5 157 [.ref (421), .int (Int32.ofInt (x)), .int (Int32.ofInt (y))] M Q := by
  refine jc_of (m := xm_157) rfl (Nat.le_of_ble_eq_true rfl) rfl ?_
  refine jr.aload_n rfl rfl ?_
  obtain ⟨v1, e1⟩ : ∃ z_, M 421 12 = z_ := ⟨_, rfl⟩
  have b1 : 0 ≤ v1 ∧ v1 ≤ 597 := by rw [← e1]; exact (CI.r hC_M (show kd 421 = 22 from rfl) (by decide) 12)
  have k2 : kd (v1).toNat = 18 := ((congrArg (fun z : Int => kd z.toNat) (show M 421 12 = v1 from e1)).symm.trans (CI.x hC_M (show kd 421 = 22 from rfl) 12 rfl (by decide)))
  refine jr.getf (i := 12) (x := v1) (v := .ref (v1.toNat)) rfl rfl (nlt rfl) rfl (nlt rfl) rfl rfl e1 rfl ?_
  obtain ⟨v3, e3⟩ : ∃ z_, M ((v1.toNat)) 7 = z_ := ⟨_, rfl⟩
  have b3 : 0 ≤ v3 ∧ v3 ≤ 597 := by rw [← e3]; exact (CI.r hC_M k2 (by decide) 7)
  have k4 : kd (v3).toNat = 33 := ((congrArg (fun z : Int => kd z.toNat) (show M ((v1.toNat)) 7 = v3 from e3)).symm.trans (CI.x hC_M k2 7 rfl (by decide)))
  refine jr.getf (i := 7) (x := v3) (v := .ref (v3.toNat)) rfl rfl (Nat.lt_trans (kx_18 k2).1 (by decide)) (kx_18 k2).2 (by decide) rfl rfl e3 (jval_mut rfl (kn_18_7 k2)) ?_
  refine jr_v rfl rfl (Or.inl rfl) rfl rfl (Nat.lt_trans (kx_33 k4).1 (by decide)) (kx_33 k4).2 ⟨rfl, Nat.le_of_ble_eq_true rfl, Nat.le_of_ble_eq_true rfl⟩ rfl (jc.deep (c_Packet_isThere hC_M k4 (fun r5 z5 w5_0 => ?_)) (Nat.le_of_ble_eq_true rfl))
  obtain ⟨v6, e6⟩ : ∃ z_, M ((v3.toNat)) 1 = z_ := ⟨_, rfl⟩
  have b6 : (-1) ≤ v6 ∧ v6 ≤ 400 := by rw [← e6]; exact (CI.r hC_M k4 (by decide) 1)
  refine jr.istore_n (ls' := [_, _, _, _]) rfl (nlt rfl) rfl ?_
  refine jr.iload_n rfl rfl ?_
  rcases (show x = 19 ∨ x = 21 ∨ x = 22 ∨ x = 23 ∨ x = 24 ∨ x = 50 ∨ x = 51 ∨ (x ≠ 19 ∧ x ≠ 21 ∧ x ≠ 22 ∧ x ≠ 23 ∧ x ≠ 24 ∧ x ≠ 50 ∧ x ≠ 51) by omega) with h12 | h12 | h12 | h12 | h12 | h12 | h12 | h12
  · refine jr.lsw_k 19 rfl h12 rfl ?_
    refine jr.aload_n rfl rfl ?_
    refine jr.aload_n rfl rfl ?_
    obtain ⟨v7, e7⟩ : ∃ z_, M 421 15 = z_ := ⟨_, rfl⟩
    have b7 : (-2147483648) ≤ v7 ∧ v7 ≤ 2147483647 := by rw [← e7]; exact (CI.r hC_M (show kd 421 = 22 from rfl) (by decide) 15)
    refine jr.getf (i := 15) (x := v7) (v := .int (Int32.ofInt (v7))) rfl rfl (nlt rfl) rfl (nlt rfl) rfl rfl e7 rfl ?_
    refine jr.i2l rfl (by omega) ?_
    refine jr_v rfl rfl (Or.inl rfl) rfl rfl (nlt rfl) rfl ⟨rfl, Nat.le_of_ble_eq_true rfl, Nat.le_of_ble_eq_true rfl⟩ rfl (jc.deep (c_Machine_push hC_M (FR.rfl _ M) (by omega) (fun M8 hC_M8 hf_M8  => ?_)) (Nat.le_of_ble_eq_true rfl))
    have ht_M8 : FR W_c_Machine_tell T M8 := FR.t ht_M hf_M8 (kw_sub rfl)
    exact jr.vreturn rfl rfl (q _ hC_M8 ht_M8  )
  · refine jr.lsw_k 21 rfl h12 rfl ?_
    refine jr.aload_n rfl rfl ?_
    refine jr.aload_n rfl rfl ?_
    obtain ⟨v9, e9⟩ : ∃ z_, M 421 13 = z_ := ⟨_, rfl⟩
    have b9 : (-2147483648) ≤ v9 ∧ v9 ≤ 2147483647 := by rw [← e9]; exact (CI.r hC_M (show kd 421 = 22 from rfl) (by decide) 13)
    refine jr.getf (i := 13) (x := v9) (v := .int (Int32.ofInt (v9))) rfl rfl (nlt rfl) rfl (nlt rfl) rfl rfl e9 rfl ?_
    refine jr.i2l rfl (by omega) ?_
    refine jr_v rfl rfl (Or.inl rfl) rfl rfl (nlt rfl) rfl ⟨rfl, Nat.le_of_ble_eq_true rfl, Nat.le_of_ble_eq_true rfl⟩ rfl (jc.deep (c_Machine_push hC_M (FR.rfl _ M) (by omega) (fun M10 hC_M10 hf_M10  => ?_)) (Nat.le_of_ble_eq_true rfl))
    have ht_M10 : FR W_c_Machine_tell T M10 := FR.t ht_M hf_M10 (kw_sub rfl)
    exact jr.vreturn rfl rfl (q _ hC_M10 ht_M10  )
  · refine jr.lsw_k 22 rfl h12 rfl ?_
    refine jr.aload_n rfl rfl ?_
    refine jr.aload_n rfl rfl ?_
    obtain ⟨v11, e11⟩ : ∃ z_, M 421 14 = z_ := ⟨_, rfl⟩
    have b11 : (-2147483648) ≤ v11 ∧ v11 ≤ 2147483647 := by rw [← e11]; exact (CI.r hC_M (show kd 421 = 22 from rfl) (by decide) 14)
    refine jr.getf (i := 14) (x := v11) (v := .int (Int32.ofInt (v11))) rfl rfl (nlt rfl) rfl (nlt rfl) rfl rfl e11 rfl ?_
    refine jr.i2l rfl (by omega) ?_
    refine jr_v rfl rfl (Or.inl rfl) rfl rfl (nlt rfl) rfl ⟨rfl, Nat.le_of_ble_eq_true rfl, Nat.le_of_ble_eq_true rfl⟩ rfl (jc.deep (c_Machine_push hC_M (FR.rfl _ M) (by omega) (fun M12 hC_M12 hf_M12  => ?_)) (Nat.le_of_ble_eq_true rfl))
    have ht_M12 : FR W_c_Machine_tell T M12 := FR.t ht_M hf_M12 (kw_sub rfl)
    exact jr.vreturn rfl rfl (q _ hC_M12 ht_M12  )
  · refine jr.lsw_k 23 rfl h12 rfl ?_
    refine jr.aload_n rfl rfl ?_
    refine jr.aload_n rfl rfl ?_
    obtain ⟨v13, e13⟩ : ∃ z_, M 421 19 = z_ := ⟨_, rfl⟩
    have b13 : (-2147483648) ≤ v13 ∧ v13 ≤ 2147483647 := by rw [← e13]; exact (CI.r hC_M (show kd 421 = 22 from rfl) (by decide) 19)
    refine jr.getf (i := 19) (x := v13) (v := .int (Int32.ofInt (v13))) rfl rfl (nlt rfl) rfl (nlt rfl) rfl rfl e13 rfl ?_
    refine jr.i2l rfl (by omega) ?_
    refine jr_v rfl rfl (Or.inl rfl) rfl rfl (nlt rfl) rfl ⟨rfl, Nat.le_of_ble_eq_true rfl, Nat.le_of_ble_eq_true rfl⟩ rfl (jc.deep (c_Machine_push hC_M (FR.rfl _ M) (by omega) (fun M14 hC_M14 hf_M14  => ?_)) (Nat.le_of_ble_eq_true rfl))
    have ht_M14 : FR W_c_Machine_tell T M14 := FR.t ht_M hf_M14 (kw_sub rfl)
    exact jr.vreturn rfl rfl (q _ hC_M14 ht_M14  )
  · refine jr.lsw_k 24 rfl h12 rfl ?_
    refine jr.aload_n rfl rfl ?_
    refine jr.aload_n rfl rfl ?_
    have k15 : kd (v1).toNat = 18 := ((congrArg (fun z : Int => kd z.toNat) (show M 421 12 = v1 from e1)).symm.trans (CI.x hC_M (show kd 421 = 22 from rfl) 12 rfl (by decide)))
    refine jr.getf (i := 12) (x := v1) (v := .ref (v1.toNat)) rfl rfl (nlt rfl) rfl (nlt rfl) rfl rfl e1 rfl ?_
    refine jr.iload_n rfl rfl ?_
    refine jr_v rfl rfl (Or.inl rfl) rfl rfl (Nat.lt_trans (kx_18 k15).1 (by decide)) (kx_18 k15).2 ⟨rfl, Nat.le_of_ble_eq_true rfl, Nat.le_of_ble_eq_true rfl⟩ rfl (jc.deep (c_Headers_firstOf hC_M k15 (by omega) (fun r16 z16 w16_0 => ?_)) (Nat.le_of_ble_eq_true rfl))
    refine jr.iconst rfl ?_
    refine jr.icmp_eq rfl rfl (by first | (refine rgb (by assumption) ?_; exact rfl) | omega) (rgl rfl) (fun h114 => ?_) (fun h114 => ?_)
    · refine jr.iconst rfl ?_
      refine jr_v rfl rfl (Or.inl rfl) rfl rfl (nlt rfl) rfl ⟨rfl, Nat.le_of_ble_eq_true rfl, Nat.le_of_ble_eq_true rfl⟩ rfl (jc.deep (c_Machine_pushTruth hC_M (FR.rfl _ M) (by omega) (fun M17 hC_M17 hf_M17  => ?_)) (Nat.le_of_ble_eq_true rfl))
      have ht_M17 : FR W_c_Machine_tell T M17 := FR.t ht_M hf_M17 (kw_sub rfl)
      exact jr.vreturn rfl rfl (q _ hC_M17 ht_M17  )
    · have sx114 : (0 : Int) ≤ r16 := by omega
      clear h114
      refine jr.iconst rfl ?_
      refine jr.goto rfl rfl ?_
      refine jr_v rfl rfl (Or.inl rfl) rfl rfl (nlt rfl) rfl ⟨rfl, Nat.le_of_ble_eq_true rfl, Nat.le_of_ble_eq_true rfl⟩ rfl (jc.deep (c_Machine_pushTruth hC_M (FR.rfl _ M) (by omega) (fun M18 hC_M18 hf_M18  => ?_)) (Nat.le_of_ble_eq_true rfl))
      have ht_M18 : FR W_c_Machine_tell T M18 := FR.t ht_M hf_M18 (kw_sub rfl)
      exact jr.vreturn rfl rfl (q _ hC_M18 ht_M18  )
  · refine jr.lsw_k 50 rfl h12 rfl ?_
    refine jr.aload_n rfl rfl ?_
    refine jr.iload_n rfl rfl ?_
    refine jr.i2l rfl (by omega) ?_
    refine jr.ldc2 (x := 4294967295) rfl rfl (by decide) ?_
    refine jr.land rfl ?_
    have b19 : 0 ≤ jl_and y 4294967295 ∧ jl_and y 4294967295 ≤ 4294967295 := jl_and_le (by decide)
    generalize jl_and y 4294967295 = v19 at b19 ⊢
    refine jr_v rfl rfl (Or.inl rfl) rfl rfl (nlt rfl) rfl ⟨rfl, Nat.le_of_ble_eq_true rfl, Nat.le_of_ble_eq_true rfl⟩ rfl (jc.deep (c_Machine_push hC_M (FR.rfl _ M) (by omega) (fun M20 hC_M20 hf_M20  => ?_)) (Nat.le_of_ble_eq_true rfl))
    have ht_M20 : FR W_c_Machine_tell T M20 := FR.t ht_M hf_M20 (kw_sub rfl)
    exact jr.vreturn rfl rfl (q _ hC_M20 ht_M20  )
  · refine jr.lsw_k 51 rfl h12 rfl ?_
    refine jr.aload_n rfl rfl ?_
    refine jr.iload_n rfl rfl ?_
    refine jr.bipush rfl (jbp _ (nlt rfl)) ?_
    refine jr.idiv rfl (by decide) ?_
    have b21 : -2147483648 ≤ j_div y 16 ∧ j_div y 16 ≤ 2147483647 := jb_any _
    generalize j_div y 16 = v21 at b21 ⊢
    refine jr.iload_n rfl rfl ?_
    refine jr.bipush rfl (jbp _ (nlt rfl)) ?_
    refine jr.irem rfl (by decide) ?_
    have b22 : -2147483648 ≤ j_rem y 16 ∧ j_rem y 16 ≤ 2147483647 := jb_any _
    generalize j_rem y 16 = v22 at b22 ⊢
    refine jr_v rfl rfl (Or.inl rfl) rfl rfl (nlt rfl) rfl ⟨rfl, Nat.le_of_ble_eq_true rfl, Nat.le_of_ble_eq_true rfl⟩ rfl (jc.deep (c_Machine_tellField hC_M (FR.rfl _ M) (by omega) (by omega) (fun M23 hC_M23 hf_M23  => ?_)) (Nat.le_of_ble_eq_true rfl))
    have ht_M23 : FR W_c_Machine_tell T M23 := FR.t ht_M hf_M23 (kw_sub rfl)
    exact jr.vreturn rfl rfl (q _ hC_M23 ht_M23  )
  · refine jr.lsw_d rfl (by omega) rfl (fun q hq => by simp only [List.mem_cons, List.not_mem_nil, or_false] at hq; rcases hq with rfl | rfl | rfl | rfl | rfl | rfl | rfl <;> (simp only; omega)) rfl ?_
    refine jr.iload_n rfl rfl ?_
    refine jr.if_eq rfl rfl (by first | (refine rgb (by assumption) ?_; exact rfl) | omega) (fun h167 => ?_) (fun h167 => ?_)
    · refine jr.aload_n rfl rfl ?_
      refine jr.iconst rfl ?_
      refine jr_v rfl rfl (Or.inl rfl) rfl rfl (nlt rfl) rfl ⟨rfl, Nat.le_of_ble_eq_true rfl, Nat.le_of_ble_eq_true rfl⟩ rfl (jc.deep (c_Machine_fail hC_M (FR.rfl _ M) (by omega) (fun M24 hC_M24 hf_M24  => ?_)) (Nat.le_of_ble_eq_true rfl))
      have ht_M24 : FR W_c_Machine_tell T M24 := FR.t ht_M hf_M24 (kw_sub rfl)
      exact jr.vreturn rfl rfl (q _ hC_M24 ht_M24  )
    · have sx167 : (1 : Int) ≤ r5 := by omega
      clear h167
      refine jr.aload_n rfl rfl ?_
      refine jr.iload_n rfl rfl ?_
      refine jr.bipush rfl (jbp _ (nlt rfl)) ?_
      refine jr.icmp_ne rfl rfl (by first | (refine rgb (by assumption) ?_; exact rfl) | omega) (rgl rfl) (fun h174 => ?_) (fun h174 => ?_)
      · refine jr.aload_n rfl rfl ?_
        refine jr.getf (i := 1) (v := .ref 423) rfl rfl (nlt rfl) rfl (nlt rfl) rfl rfl rfl rfl ?_
        obtain ⟨v25, e25⟩ : ∃ z_, M 423 6 = z_ := ⟨_, rfl⟩
        have b25 : (-9223372036854775808) ≤ v25 ∧ v25 ≤ 9223372036854775807 := by rw [← e25]; exact (CI.r hC_M (show kd 423 = 27 from rfl) (by decide) 6)
        refine jr.getf (i := 6) (x := v25) (v := .long (Int64.ofInt (v25))) rfl rfl (nlt rfl) rfl (nlt rfl) rfl rfl e25 rfl ?_
        refine jr_v rfl rfl (Or.inl rfl) rfl rfl (nlt rfl) rfl ⟨rfl, Nat.le_of_ble_eq_true rfl, Nat.le_of_ble_eq_true rfl⟩ rfl (jc.deep (c_Machine_push hC_M (FR.rfl _ M) (by omega) (fun M26 hC_M26 hf_M26  => ?_)) (Nat.le_of_ble_eq_true rfl))
        have ht_M26 : FR W_c_Machine_tell T M26 := FR.t ht_M hf_M26 (kw_sub rfl)
        refine jr.goto rfl rfl ?_
        exact jr.vreturn rfl rfl (q _ hC_M26 ht_M26  )
      · refine jr.aload_n rfl rfl ?_
        have k27 : kd (v1).toNat = 18 := ((congrArg (fun z : Int => kd z.toNat) (show M 421 12 = v1 from e1)).symm.trans (CI.x hC_M (show kd 421 = 22 from rfl) 12 rfl (by decide)))
        refine jr.getf (i := 12) (x := v1) (v := .ref (v1.toNat)) rfl rfl (nlt rfl) rfl (nlt rfl) rfl rfl e1 rfl ?_
        have k28 : kd (v3).toNat = 33 := ((congrArg (fun z : Int => kd z.toNat) (show M ((v1.toNat)) 7 = v3 from e3)).symm.trans (CI.x hC_M k27 7 rfl (by decide)))
        refine jr.getf (i := 7) (x := v3) (v := .ref (v3.toNat)) rfl rfl (Nat.lt_trans (kx_18 k27).1 (by decide)) (kx_18 k27).2 (by decide) rfl rfl e3 (jval_mut rfl (kn_18_7 k27)) ?_
        refine jr.getf (i := 1) (x := v6) (v := .int (Int32.ofInt (v6))) rfl rfl (Nat.lt_trans (kx_33 k28).1 (by decide)) (kx_33 k28).2 (by decide) rfl rfl e6 rfl ?_
        refine jr.i2l rfl (by omega) ?_
        refine jr.goto rfl rfl ?_
        refine jr_v rfl rfl (Or.inl rfl) rfl rfl (nlt rfl) rfl ⟨rfl, Nat.le_of_ble_eq_true rfl, Nat.le_of_ble_eq_true rfl⟩ rfl (jc.deep (c_Machine_push hC_M (FR.rfl _ M) (by omega) (fun M29 hC_M29 hf_M29  => ?_)) (Nat.le_of_ble_eq_true rfl))
        have ht_M29 : FR W_c_Machine_tell T M29 := FR.t ht_M hf_M29 (kw_sub rfl)
        refine jr.goto rfl rfl ?_
        exact jr.vreturn rfl rfl (q _ hC_M29 ht_M29  )
noncomputable def W_c_Machine_askHead : List (Nat × Nat) := [(22, 4), (22, 9), (24, 1000), (26, 1000)]
theorem c_Machine_askHead {A : Nat → Option (Nat × (Nat → Int32))} {Q : Option Value → jm → Prop} {T : jm} {M : jm} (hC_M : CI M) (ht_M : FR W_c_Machine_askHead T M) {x : Int} (h_x : (-9223372036854775808) ≤ x ∧ x ≤ 9223372036854775807) {y : Int} (h_y : (-9223372036854775808) ≤ y ∧ y ≤ 9223372036854775807) {z : Int} (h_z : (-9223372036854775808) ≤ z ∧ z ≤ 9223372036854775807) (q : ∀ (M' : jm), CI M' → FR W_c_Machine_askHead T M' → Q none M') : jc A 3 165 [.ref (421), .long (Int64.ofInt (x)), .long (Int64.ofInt (y)), .long (Int64.ofInt (z))] M Q := by
  refine jc_of (m := xm_165) rfl (Nat.le_of_ble_eq_true rfl) rfl ?_
  refine jr.aload_n rfl rfl ?_
  refine jr.lload_n rfl rfl ?_
  refine jr_v rfl rfl (Or.inl rfl) rfl rfl (nlt rfl) rfl ⟨rfl, Nat.le_of_ble_eq_true rfl, Nat.le_of_ble_eq_true rfl⟩ rfl (jc.deep (c_Machine_isRow hC_M (FR.rfl _ M) (by omega) (fun r1 M1 hC_M1 hf_M1 z1 w1_0 => ?_)) (Nat.le_of_ble_eq_true rfl))
  have ht_M1 : FR W_c_Machine_askHead T M1 := FR.t ht_M hf_M1 (kw_sub rfl)
  refine jr.if_ne rfl rfl (by first | (refine rgb (by assumption) ?_; exact rfl) | omega) (fun h5 => ?_) (fun h5 => ?_)
  · refine jr.aload_n rfl rfl ?_
    refine jr.getf (i := 0) (v := .ref 422) rfl rfl (nlt rfl) rfl (nlt rfl) rfl rfl rfl rfl ?_
    refine jr.lload_n rfl rfl ?_
    refine jr.l2i rfl ?_
    have k2 := kxe_25 (a := 422) rfl (i := x) (by omega) (by omega)
    refine jr.aald (c := (xe 422 x)) rfl (by decide) rfl (by decide) (by decide) rfl (by decide) (by omega) (by omega) k2.1 ?_
    refine jr.astore (ls' := [_, _, _, _, _]) rfl (nlt rfl) rfl ?_
    refine jr.aload rfl rfl ?_
    refine jr_v rfl rfl (Or.inl rfl) rfl rfl (Nat.lt_trans (kx_52 k2.2).1 (by decide)) (kx_52 k2.2).2 ⟨rfl, Nat.le_of_ble_eq_true rfl, Nat.le_of_ble_eq_true rfl⟩ rfl (jc.deep (c_Row_isOfHeaders hC_M1 k2.2 (fun r3 z3  => ?_)) (Nat.le_of_ble_eq_true rfl))
    refine jr.if_ne rfl rfl (by first | (refine rgb (by assumption) ?_; exact rfl) | omega) (fun h23 => ?_) (fun h23 => ?_)
    · refine jr.aload rfl rfl ?_
      refine jr.lload_n rfl rfl ?_
      refine jr_v rfl rfl (Or.inl rfl) rfl rfl (Nat.lt_trans (kx_52 k2.2).1 (by decide)) (kx_52 k2.2).2 ⟨rfl, Nat.le_of_ble_eq_true rfl, Nat.le_of_ble_eq_true rfl⟩ rfl (jc.deep (c_Row_hasItem hC_M1 k2.2 (by omega) (fun r4 z4 w4_0 => ?_)) (Nat.le_of_ble_eq_true rfl))
      refine jr.if_ne rfl rfl (by first | (refine rgb (by assumption) ?_; exact rfl) | omega) (fun h40 => ?_) (fun h40 => ?_)
      · refine jr.aload rfl rfl ?_
        have k5 := kf_52_2 k2.2
        refine jr.getf (i := 2) (v := .ref ((xe 422 x) + 1)) rfl rfl (Nat.lt_trans (kx_52 k2.2).1 (by decide)) (kx_52 k2.2).2 (by decide) rfl rfl rfl (jval_ref rfl k5.1) ?_
        refine jr.lload_n rfl rfl ?_
        refine jr.l2i rfl ?_
        obtain ⟨v6, e6⟩ : ∃ z_, M (((xe 422 x) + 1)) y = z_ := ⟨_, rfl⟩
        have b6 : (-9223372036854775808) ≤ v6 ∧ v6 ≤ 9223372036854775807 := by rw [← e6]; exact (CI.r hC_M k5.2 (by decide) y)
        have e7 : M1 (((xe 422 x) + 1)) y = v6 := (hf_M1.g k5.2 rfl).trans e6
        refine jr.lald (i := y) (x := v6) rfl (Nat.lt_trans (kx_54 k5.2).1 (by decide)) (kx_54 k5.2).2 (by decide) (by omega) (by omega) e7 ?_
        refine jr.ldc2 (x := (-1)) rfl rfl (by decide) ?_
        refine jr.lcmp_ne rfl rfl rfl (by omega) (by omega) (fun h62 => ?_) (fun h62 => ?_)
        · refine jr.lload rfl rfl ?_
          refine jr.aload rfl rfl ?_
          have k8 := kf_52_2 k2.2
          refine jr.getf (i := 2) (v := .ref ((xe 422 x) + 1)) rfl rfl (Nat.lt_trans (kx_52 k2.2).1 (by decide)) (kx_52 k2.2).2 (by decide) rfl rfl rfl (jval_ref rfl k8.1) ?_
          refine jr.lload_n rfl rfl ?_
          refine jr.l2i rfl ?_
          refine jr.lald (i := y) (x := v6) rfl (Nat.lt_trans (kx_54 k8.2).1 (by decide)) (kx_54 k8.2).2 (by decide) (by omega) (by omega) e7 ?_
          refine jr.l2i rfl ?_
          refine jr.iw (j_w v6) (j_w_eq _) ?_
          have b9 : -2147483648 ≤ j_w v6 ∧ j_w v6 ≤ 2147483647 := jb_any _
          generalize j_w v6 = v9 at b9 ⊢
          refine jr_s rfl rfl (Or.inl rfl) ⟨Nat.le_of_ble_eq_true rfl, Nat.le_of_ble_eq_true rfl⟩ rfl rfl (jc.deep (c_Headers_fieldCount hC_M1 (by omega) (fun r10 z10 w10_0 w10_1 => ?_)) (Nat.le_of_ble_eq_true rfl))
          refine jr_s rfl rfl (Or.inl rfl) ⟨Nat.le_of_ble_eq_true rfl, Nat.le_of_ble_eq_true rfl⟩ rfl rfl (jc.deep (c_Machine_isNot hC_M1 (by omega) (by omega) (fun r11 z11 w11_0 => ?_)) (Nat.le_of_ble_eq_true rfl))
          refine jr.if_eq rfl rfl (by first | (refine rgb (by assumption) ?_; exact rfl) | omega) (fun h91 => ?_) (fun h91 => ?_)
          · refine jr.aload_n rfl rfl ?_
            refine jr.aload rfl rfl ?_
            have k12 := kf_52_3 k2.2
            refine jr.getf (i := 3) (v := .ref ((xe 422 x) + 2)) rfl rfl (Nat.lt_trans (kx_52 k2.2).1 (by decide)) (kx_52 k2.2).2 (by decide) rfl rfl rfl (jval_ref rfl k12.1) ?_
            refine jr.lload_n rfl rfl ?_
            refine jr.l2i rfl ?_
            refine jr.bipush rfl (jbp _ (nlt rfl)) ?_
            refine jr.imul rfl ?_
            refine jr.lload rfl rfl ?_
            refine jr.l2i rfl ?_
            refine jr.iadd rfl ?_
            obtain ⟨v13, e13⟩ : ∃ z_, M (((xe 422 x) + 2)) ((y * 11) + z) = z_ := ⟨_, rfl⟩
            have b13 : (-9223372036854775808) ≤ v13 ∧ v13 ≤ 9223372036854775807 := by rw [← e13]; exact (CI.r hC_M k12.2 (by decide) ((y * 11) + z))
            have e14 : M1 (((xe 422 x) + 2)) ((y * 11) + z) = v13 := (hf_M1.g k12.2 rfl).trans e13
            refine jr.lald (i := ((y * 11) + z)) (x := v13) rfl (Nat.lt_trans (kx_53 k12.2).1 (by decide)) (kx_53 k12.2).2 (by decide) (by omega) (by omega) e14 ?_
            refine jr_v rfl rfl (Or.inl rfl) rfl rfl (nlt rfl) rfl ⟨rfl, Nat.le_of_ble_eq_true rfl, Nat.le_of_ble_eq_true rfl⟩ rfl (jc.deep (c_Machine_push hC_M1 (FR.rfl _ M1) (by omega) (fun M15 hC_M15 hf_M15  => ?_)) (Nat.le_of_ble_eq_true rfl))
            have ht_M15 : FR W_c_Machine_askHead T M15 := FR.t ht_M1 hf_M15 (kw_sub rfl)
            exact jr.vreturn rfl rfl (q _ hC_M15 ht_M15  )
          · refine jr.aload_n rfl rfl ?_
            refine jr.iconst rfl ?_
            refine jr_v rfl rfl (Or.inl rfl) rfl rfl (nlt rfl) rfl ⟨rfl, Nat.le_of_ble_eq_true rfl, Nat.le_of_ble_eq_true rfl⟩ rfl (jc.deep (c_Machine_fail hC_M1 (FR.rfl _ M1) (by omega) (fun M16 hC_M16 hf_M16  => ?_)) (Nat.le_of_ble_eq_true rfl))
            have ht_M16 : FR W_c_Machine_askHead T M16 := FR.t ht_M1 hf_M16 (kw_sub rfl)
            refine jr.goto rfl rfl ?_
            exact jr.vreturn rfl rfl (q _ hC_M16 ht_M16  )
        · refine jr.aload_n rfl rfl ?_
          refine jr.iconst rfl ?_
          refine jr_v rfl rfl (Or.inl rfl) rfl rfl (nlt rfl) rfl ⟨rfl, Nat.le_of_ble_eq_true rfl, Nat.le_of_ble_eq_true rfl⟩ rfl (jc.deep (c_Machine_fail hC_M1 (FR.rfl _ M1) (by omega) (fun M17 hC_M17 hf_M17  => ?_)) (Nat.le_of_ble_eq_true rfl))
          have ht_M17 : FR W_c_Machine_askHead T M17 := FR.t ht_M1 hf_M17 (kw_sub rfl)
          refine jr.goto rfl rfl ?_
          exact jr.vreturn rfl rfl (q _ hC_M17 ht_M17  )
      · refine jr.aload_n rfl rfl ?_
        refine jr.iconst rfl ?_
        refine jr_v rfl rfl (Or.inl rfl) rfl rfl (nlt rfl) rfl ⟨rfl, Nat.le_of_ble_eq_true rfl, Nat.le_of_ble_eq_true rfl⟩ rfl (jc.deep (c_Machine_fail hC_M1 (FR.rfl _ M1) (by omega) (fun M18 hC_M18 hf_M18  => ?_)) (Nat.le_of_ble_eq_true rfl))
        have ht_M18 : FR W_c_Machine_askHead T M18 := FR.t ht_M1 hf_M18 (kw_sub rfl)
        refine jr.goto rfl rfl ?_
        exact jr.vreturn rfl rfl (q _ hC_M18 ht_M18  )
    · refine jr.aload_n rfl rfl ?_
      refine jr.iconst rfl ?_
      refine jr_v rfl rfl (Or.inl rfl) rfl rfl (nlt rfl) rfl ⟨rfl, Nat.le_of_ble_eq_true rfl, Nat.le_of_ble_eq_true rfl⟩ rfl (jc.deep (c_Machine_fail hC_M1 (FR.rfl _ M1) (by omega) (fun M19 hC_M19 hf_M19  => ?_)) (Nat.le_of_ble_eq_true rfl))
      have ht_M19 : FR W_c_Machine_askHead T M19 := FR.t ht_M1 hf_M19 (kw_sub rfl)
      refine jr.goto rfl rfl ?_
      exact jr.vreturn rfl rfl (q _ hC_M19 ht_M19  )
  · exact jr.vreturn rfl rfl (q _ hC_M1 ht_M1  )
end
section
/-! ===== the class's methods ===== -/
noncomputable def W_c_Machine_ask : List (Nat × Nat) := [(22, 4), (22, 9), (24, 1000), (26, 1000), (28, 1000)]
theorem c_Machine_ask {A : Nat → Option (Nat × (Nat → Int32))} {Q : Option Value → jm → Prop} {T : jm} {M : jm} (hC_M : CI M) (ht_M : FR W_c_Machine_ask T M) {x : Int} (h_x : (-2147483648) ≤ x ∧ x ≤ 2147483647) (q : ∀ (M' : jm), CI M' → FR W_c_Machine_ask T M' → Q none M') : jc A 5 159 [.ref (421), .int (Int32.ofInt (x))] M Q := by
  refine jc_of (m := xm_159) rfl (Nat.le_of_ble_eq_true rfl) rfl ?_
  refine jr.iload_n rfl rfl ?_
  refine jr.bipush rfl (jbp _ (nlt rfl)) ?_
  refine jr.icmp_ne rfl rfl (by first | (refine rgb (by assumption) ?_; exact rfl) | omega) (rgl rfl) (fun h3 => ?_) (fun h3 => ?_)
  · refine jr.lconst (x := 0) rfl (by decide) ?_
    refine jr.lstore_n (ls' := [_, _, _]) rfl (nlt rfl) rfl ?_
    refine jr.iload_n rfl rfl ?_
    refine jr.bipush rfl (jbp _ (nlt rfl)) ?_
    refine jr.icmp_lt rfl rfl (by first | (refine rgb (by assumption) ?_; exact rfl) | omega) (rgl rfl) (fun h18 => ?_) (fun h18 => ?_)
    · refine jr.lconst (x := 0) rfl (by decide) ?_
      refine jr.lstore (ls' := [_, _, _, _]) rfl (nlt rfl) rfl ?_
      refine jr.aload_n rfl rfl ?_
      refine jr_v rfl rfl (Or.inl rfl) rfl rfl (nlt rfl) rfl ⟨rfl, Nat.le_of_ble_eq_true rfl, Nat.le_of_ble_eq_true rfl⟩ rfl (jc.deep (c_Machine_pop hC_M (FR.rfl _ M)  (fun r1 M1 hC_M1 hf_M1 z1  => ?_)) (Nat.le_of_ble_eq_true rfl))
      have ht_M1 : FR W_c_Machine_ask T M1 := FR.t ht_M hf_M1 (kw_sub rfl)
      refine jr.lstore (ls' := [_, _, _, _, _]) rfl (nlt rfl) rfl ?_
      refine jr.iload_n rfl rfl ?_
      rcases (show x = 25 ∨ x = 26 ∨ x = 27 ∨ (x ≠ 25 ∧ x ≠ 26 ∧ x ≠ 27 ∧ x ≠ 28 ∧ x ≠ 29) by omega) with h38 | h38 | h38 | h38
      · refine jr.tsw_k 25 rfl h38 rfl ?_
        refine jr.aload_n rfl rfl ?_
        refine jr.lload rfl rfl ?_
        refine jr_v rfl rfl (Or.inl rfl) rfl rfl (nlt rfl) rfl ⟨rfl, Nat.le_of_ble_eq_true rfl, Nat.le_of_ble_eq_true rfl⟩ rfl (jc.deep (c_Machine_askByte hC_M1 (FR.rfl _ M1) (by omega) (fun M2 hC_M2 hf_M2  => ?_)) (Nat.le_of_ble_eq_true rfl))
        have ht_M2 : FR W_c_Machine_ask T M2 := FR.t ht_M1 hf_M2 (kw_sub rfl)
        exact jr.vreturn rfl rfl (q _ hC_M2 ht_M2  )
      · refine jr.tsw_k 26 rfl h38 rfl ?_
        refine jr.aload_n rfl rfl ?_
        refine jr.lload rfl rfl ?_
        refine jr_v rfl rfl (Or.inl rfl) rfl rfl (nlt rfl) rfl ⟨rfl, Nat.le_of_ble_eq_true rfl, Nat.le_of_ble_eq_true rfl⟩ rfl (jc.deep (c_Machine_spend hC_M1 (FR.rfl _ M1) (by omega) (fun M3 hC_M3 hf_M3  => ?_)) (Nat.le_of_ble_eq_true rfl))
        have ht_M3 : FR W_c_Machine_ask T M3 := FR.t ht_M1 hf_M3 (kw_sub rfl)
        exact jr.vreturn rfl rfl (q _ hC_M3 ht_M3  )
      · refine jr.tsw_k 27 rfl h38 rfl ?_
        refine jr.aload_n rfl rfl ?_
        refine jr.lload rfl rfl ?_
        refine jr_v rfl rfl (Or.inl rfl) rfl rfl (nlt rfl) rfl ⟨rfl, Nat.le_of_ble_eq_true rfl, Nat.le_of_ble_eq_true rfl⟩ rfl (jc.deep (c_Machine_askLong hC_M1 (FR.rfl _ M1) (by omega) (fun M4 hC_M4 hf_M4  => ?_)) (Nat.le_of_ble_eq_true rfl))
        have ht_M4 : FR W_c_Machine_ask T M4 := FR.t ht_M1 hf_M4 (kw_sub rfl)
        exact jr.vreturn rfl rfl (q _ hC_M4 ht_M4  )
      · refine jr.tsw_d rfl (by omega) (by omega) rfl ?_
        refine jr.aload_n rfl rfl ?_
        refine jr.lload rfl rfl ?_
        refine jr.lload rfl rfl ?_
        refine jr.lload_n rfl rfl ?_
        refine jr_v rfl rfl (Or.inl rfl) rfl rfl (nlt rfl) rfl ⟨rfl, Nat.le_of_ble_eq_true rfl, Nat.le_of_ble_eq_true rfl⟩ rfl (jc.deep (c_Machine_askHead hC_M1 (FR.rfl _ M1) (by omega) (by omega) (by omega) (fun M5 hC_M5 hf_M5  => ?_)) (Nat.le_of_ble_eq_true rfl))
        have ht_M5 : FR W_c_Machine_ask T M5 := FR.t ht_M1 hf_M5 (kw_sub rfl)
        exact jr.vreturn rfl rfl (q _ hC_M5 ht_M5  )
    · refine jr.aload_n rfl rfl ?_
      refine jr_v rfl rfl (Or.inl rfl) rfl rfl (nlt rfl) rfl ⟨rfl, Nat.le_of_ble_eq_true rfl, Nat.le_of_ble_eq_true rfl⟩ rfl (jc.deep (c_Machine_pop hC_M (FR.rfl _ M)  (fun r6 M6 hC_M6 hf_M6 z6  => ?_)) (Nat.le_of_ble_eq_true rfl))
      have ht_M6 : FR W_c_Machine_ask T M6 := FR.t ht_M hf_M6 (kw_sub rfl)
      refine jr.goto rfl rfl ?_
      refine jr.lstore (ls' := [_, _, _, _]) rfl (nlt rfl) rfl ?_
      refine jr.aload_n rfl rfl ?_
      refine jr_v rfl rfl (Or.inl rfl) rfl rfl (nlt rfl) rfl ⟨rfl, Nat.le_of_ble_eq_true rfl, Nat.le_of_ble_eq_true rfl⟩ rfl (jc.deep (c_Machine_pop hC_M6 (FR.rfl _ M6)  (fun r7 M7 hC_M7 hf_M7 z7  => ?_)) (Nat.le_of_ble_eq_true rfl))
      have ht_M7 : FR W_c_Machine_ask T M7 := FR.t ht_M6 hf_M7 (kw_sub rfl)
      refine jr.lstore (ls' := [_, _, _, _, _]) rfl (nlt rfl) rfl ?_
      refine jr.iload_n rfl rfl ?_
      rcases (show x = 28 ∨ x = 29 ∨ (x ≠ 25 ∧ x ≠ 26 ∧ x ≠ 27 ∧ x ≠ 28 ∧ x ≠ 29) by omega) with h38 | h38 | h38
      · refine jr.tsw_k 28 rfl h38 rfl ?_
        refine jr.aload_n rfl rfl ?_
        refine jr.lload rfl rfl ?_
        refine jr.lload rfl rfl ?_
        refine jr_v rfl rfl (Or.inl rfl) rfl rfl (nlt rfl) rfl ⟨rfl, Nat.le_of_ble_eq_true rfl, Nat.le_of_ble_eq_true rfl⟩ rfl (jc.deep (c_Machine_askSet hC_M7 (FR.rfl _ M7) (by omega) (by omega) (fun M8 hC_M8 hf_M8  => ?_)) (Nat.le_of_ble_eq_true rfl))
        have ht_M8 : FR W_c_Machine_ask T M8 := FR.t ht_M7 hf_M8 (kw_sub rfl)
        exact jr.vreturn rfl rfl (q _ hC_M8 ht_M8  )
      · refine jr.tsw_k 29 rfl h38 rfl ?_
        refine jr.aload_n rfl rfl ?_
        refine jr.lload rfl rfl ?_
        refine jr.lload rfl rfl ?_
        refine jr_v rfl rfl (Or.inl rfl) rfl rfl (nlt rfl) rfl ⟨rfl, Nat.le_of_ble_eq_true rfl, Nat.le_of_ble_eq_true rfl⟩ rfl (jc.deep (c_Machine_askRow hC_M7 (FR.rfl _ M7) (by omega) (by omega) (fun M9 hC_M9 hf_M9  => ?_)) (Nat.le_of_ble_eq_true rfl))
        have ht_M9 : FR W_c_Machine_ask T M9 := FR.t ht_M7 hf_M9 (kw_sub rfl)
        exact jr.vreturn rfl rfl (q _ hC_M9 ht_M9  )
      · refine jr.tsw_d rfl (by omega) (by omega) rfl ?_
        refine jr.aload_n rfl rfl ?_
        refine jr.lload rfl rfl ?_
        refine jr.lload rfl rfl ?_
        refine jr.lload_n rfl rfl ?_
        refine jr_v rfl rfl (Or.inl rfl) rfl rfl (nlt rfl) rfl ⟨rfl, Nat.le_of_ble_eq_true rfl, Nat.le_of_ble_eq_true rfl⟩ rfl (jc.deep (c_Machine_askHead hC_M7 (FR.rfl _ M7) (by omega) (by omega) (by omega) (fun M10 hC_M10 hf_M10  => ?_)) (Nat.le_of_ble_eq_true rfl))
        have ht_M10 : FR W_c_Machine_ask T M10 := FR.t ht_M7 hf_M10 (kw_sub rfl)
        exact jr.vreturn rfl rfl (q _ hC_M10 ht_M10  )
  · refine jr.aload_n rfl rfl ?_
    refine jr_v rfl rfl (Or.inl rfl) rfl rfl (nlt rfl) rfl ⟨rfl, Nat.le_of_ble_eq_true rfl, Nat.le_of_ble_eq_true rfl⟩ rfl (jc.deep (c_Machine_pop hC_M (FR.rfl _ M)  (fun r11 M11 hC_M11 hf_M11 z11  => ?_)) (Nat.le_of_ble_eq_true rfl))
    have ht_M11 : FR W_c_Machine_ask T M11 := FR.t ht_M hf_M11 (kw_sub rfl)
    refine jr.goto rfl rfl ?_
    refine jr.lstore_n (ls' := [_, _, _]) rfl (nlt rfl) rfl ?_
    refine jr.iload_n rfl rfl ?_
    refine jr.bipush rfl (jbp _ (nlt rfl)) ?_
    refine jr.icmp_lt rfl rfl (by first | (refine rgb (by assumption) ?_; exact rfl) | omega) (rgl rfl) (fun h18 => ?_) (fun h18 => ?_)
    · exact absurd h18 (by omega)
    · refine jr.aload_n rfl rfl ?_
      refine jr_v rfl rfl (Or.inl rfl) rfl rfl (nlt rfl) rfl ⟨rfl, Nat.le_of_ble_eq_true rfl, Nat.le_of_ble_eq_true rfl⟩ rfl (jc.deep (c_Machine_pop hC_M11 (FR.rfl _ M11)  (fun r12 M12 hC_M12 hf_M12 z12  => ?_)) (Nat.le_of_ble_eq_true rfl))
      have ht_M12 : FR W_c_Machine_ask T M12 := FR.t ht_M11 hf_M12 (kw_sub rfl)
      refine jr.goto rfl rfl ?_
      refine jr.lstore (ls' := [_, _, _, _]) rfl (nlt rfl) rfl ?_
      refine jr.aload_n rfl rfl ?_
      refine jr_v rfl rfl (Or.inl rfl) rfl rfl (nlt rfl) rfl ⟨rfl, Nat.le_of_ble_eq_true rfl, Nat.le_of_ble_eq_true rfl⟩ rfl (jc.deep (c_Machine_pop hC_M12 (FR.rfl _ M12)  (fun r13 M13 hC_M13 hf_M13 z13  => ?_)) (Nat.le_of_ble_eq_true rfl))
      have ht_M13 : FR W_c_Machine_ask T M13 := FR.t ht_M12 hf_M13 (kw_sub rfl)
      refine jr.lstore (ls' := [_, _, _, _, _]) rfl (nlt rfl) rfl ?_
      refine jr.iload_n rfl rfl ?_
      rcases (show (x ≠ 25 ∧ x ≠ 26 ∧ x ≠ 27 ∧ x ≠ 28 ∧ x ≠ 29) by omega) with h38
      · refine jr.tsw_d rfl (by omega) (by omega) rfl ?_
        refine jr.aload_n rfl rfl ?_
        refine jr.lload rfl rfl ?_
        refine jr.lload rfl rfl ?_
        refine jr.lload_n rfl rfl ?_
        refine jr_v rfl rfl (Or.inl rfl) rfl rfl (nlt rfl) rfl ⟨rfl, Nat.le_of_ble_eq_true rfl, Nat.le_of_ble_eq_true rfl⟩ rfl (jc.deep (c_Machine_askHead hC_M13 (FR.rfl _ M13) (by omega) (by omega) (by omega) (fun M14 hC_M14 hf_M14  => ?_)) (Nat.le_of_ble_eq_true rfl))
        have ht_M14 : FR W_c_Machine_ask T M14 := FR.t ht_M13 hf_M14 (kw_sub rfl)
        exact jr.vreturn rfl rfl (q _ hC_M14 ht_M14  )
end
section
/-! ===== the class's methods ===== -/
noncomputable def W_c_Row_listAll : List (Nat × Nat) := [(52, 0), (52, 1), (53, 1000), (54, 1000)]
theorem c_Row_listAll_L33 {A : Nat → Option (Nat × (Nat → Int32))} {Q : Option Value → jm → Prop} {T : jm} {t : Nat} (k_t : kd t = 52) {x : Nat} (k_x : kd x = 18) (q : ∀ (M' : jm), CI M' → FR W_c_Row_listAll T M' → Q none M') {kM : Nat} (hK : ∀ (M : jm) (h : Int), CI M → FR W_c_Row_listAll T M → 0 ≤ h ∧ h ≤ 12 → 12 - h ≤ kM → jr A 2 xm_236 11 [(2, .int (Int32.ofInt (h))), (0, .ref (t)), (1, .ref (x))] [] M Q) : ∀ (nM : Nat) (M : jm) (h : Int) (f : Int), CI M → FR W_c_Row_listAll T M → 0 ≤ h ∧ h ≤ 11 → 0 ≤ f ∧ f ≤ 11 → (12 - (h + 1) ≤ kM) → 11 - f ≤ nM → jr A 2 xm_236 33 [(2, .int (Int32.ofInt (h))), (3, .int (Int32.ofInt (f))), (0, .ref (t)), (1, .ref (x))] [] M Q := by
  intro nM
  induction nM using Nat.strongRecOn with
  | ind nM ih =>
    intro M h f hC_M ht_M h_h h_f hy0 hm
    refine jr.iload_n rfl rfl ?_
    refine jr.bipush rfl (jbp _ (nlt rfl)) ?_
    refine jr.icmp_ge rfl rfl (by first | (refine rgb (by assumption) ?_; exact rfl) | omega) (rgl rfl) (fun h36 => ?_) (fun h36 => ?_)
    · refine jr.iinc (ls' := [_, _, _, _]) rfl rfl (nlt rfl) rfl ?_
      refine jr.goto rfl rfl ?_
      refine jr.pick (ls := [_, _, _]) [0, 2, 3] rfl rfl ?_
      exact hK M (h + 1) hC_M ht_M (by omega)  (by omega)
    · refine jr.aload_n rfl rfl ?_
      have k1 := kf_52_3 k_t
      refine jr.getf (i := 3) (v := .ref (t + 2)) rfl rfl (Nat.lt_trans (kx_52 k_t).1 (by decide)) (kx_52 k_t).2 (by decide) rfl rfl rfl (jval_ref rfl k1.1) ?_
      refine jr.iload_n rfl rfl ?_
      refine jr.bipush rfl (jbp _ (nlt rfl)) ?_
      refine jr.imul rfl ?_
      refine jr.iload_n rfl rfl ?_
      refine jr.iadd rfl ?_
      refine jr.aload_n rfl rfl ?_
      refine jr.iload_n rfl rfl ?_
      refine jr.iload_n rfl rfl ?_
      refine jr_v rfl rfl (Or.inl rfl) rfl rfl (Nat.lt_trans (kx_18 k_x).1 (by decide)) (kx_18 k_x).2 ⟨rfl, Nat.le_of_ble_eq_true rfl, Nat.le_of_ble_eq_true rfl⟩ rfl (jc.deep (c_Headers_valueOf hC_M k_x (by omega) (by omega) (fun r2 z2  => ?_)) (Nat.le_of_ble_eq_true rfl))
      refine jr.last (i := ((h * 11) + f)) (x := r2) rfl (Nat.lt_trans (kx_53 k1.2).1 (by decide)) (kx_53 k1.2).2 (by decide) (by omega) (by omega) ?_
      refine jr.iinc (ls' := [_, _, _, _]) rfl rfl (nlt rfl) rfl ?_
      refine jr.goto rfl rfl ?_
      refine jr.pick (ls := [_, _, _, _]) [1, 0, 2, 3] rfl rfl ?_
      exact ih (nM - 1) (by omega) ((ju M ((t + 2)) ((h * 11) + f) r2)) h (f + 1) (CI.u hC_M (i := ((h * 11) + f)) k1.2 (show (-9223372036854775808 : Int) ≤ _ ∧ _ ≤ (9223372036854775807 : Int) from by omega) rfl) (FR.o ht_M k1.2 rfl) (by omega) (by omega) (by omega) (by omega)
theorem c_Row_listAll_L11 {A : Nat → Option (Nat × (Nat → Int32))} {Q : Option Value → jm → Prop} {T : jm} {t : Nat} (k_t : kd t = 52) {x : Nat} (k_x : kd x = 18) (q : ∀ (M' : jm), CI M' → FR W_c_Row_listAll T M' → Q none M') : ∀ (nM : Nat) (M : jm) (h : Int), CI M → FR W_c_Row_listAll T M → 0 ≤ h ∧ h ≤ 12 → 12 - h ≤ nM → jr A 2 xm_236 11 [(2, .int (Int32.ofInt (h))), (0, .ref (t)), (1, .ref (x))] [] M Q := by
  intro nM
  induction nM using Nat.strongRecOn with
  | ind nM ih =>
    intro M h hC_M ht_M h_h hm
    refine jr.iload_n rfl rfl ?_
    refine jr.aload_n rfl rfl ?_
    obtain ⟨v1, e1⟩ : ∃ z_, M x 3 = z_ := ⟨_, rfl⟩
    have b1 : 0 ≤ v1 ∧ v1 ≤ 12 := by rw [← e1]; exact (CI.r hC_M k_x (by decide) 3)
    refine jr.getf (i := 3) (x := v1) (v := .int (Int32.ofInt (v1))) rfl rfl (Nat.lt_trans (kx_18 k_x).1 (by decide)) (kx_18 k_x).2 (by decide) rfl rfl e1 rfl ?_
    refine jr.icmp_ge rfl rfl (by first | (refine rgb (by assumption) ?_; exact rfl) | omega) (by first | (refine rgb (by assumption) ?_; exact rfl) | omega) (fun h16 => ?_) (fun h16 => ?_)
    · exact jr.vreturn rfl rfl (q _ hC_M ht_M  )
    · refine jr.aload_n rfl rfl ?_
      have k2 := kf_52_2 k_t
      refine jr.getf (i := 2) (v := .ref (t + 1)) rfl rfl (Nat.lt_trans (kx_52 k_t).1 (by decide)) (kx_52 k_t).2 (by decide) rfl rfl rfl (jval_ref rfl k2.1) ?_
      refine jr.iload_n rfl rfl ?_
      refine jr.aload_n rfl rfl ?_
      refine jr.iload_n rfl rfl ?_
      refine jr_v rfl rfl (Or.inl rfl) rfl rfl (Nat.lt_trans (kx_18 k_x).1 (by decide)) (kx_18 k_x).2 ⟨rfl, Nat.le_of_ble_eq_true rfl, Nat.le_of_ble_eq_true rfl⟩ rfl (jc.deep (c_Headers_kindAt hC_M k_x (by omega) (fun r3 z3 w3_0 w3_1 => ?_)) (Nat.le_of_ble_eq_true rfl))
      refine jr.i2l rfl (by omega) ?_
      refine jr.last (i := h) (x := r3) rfl (Nat.lt_trans (kx_54 k2.2).1 (by decide)) (kx_54 k2.2).2 (by decide) (by omega) (by omega) ?_
      refine jr.iconst rfl ?_
      refine jr.istore_n (ls' := [_, _, _, _]) rfl (nlt rfl) rfl ?_
      refine jr.pick (ls := [_, _, _, _]) [1, 0, 2, 3] rfl rfl ?_
      exact c_Row_listAll_L33 k_t k_x q (ih (nM - 1) (by omega)) 11 ((ju M ((t + 1)) h r3)) h 0 (CI.u hC_M (i := h) k2.2 (show (-9223372036854775808 : Int) ≤ _ ∧ _ ≤ (9223372036854775807 : Int) from by omega) rfl) (FR.o ht_M k2.2 rfl) (by omega) (by omega) (by omega) (by omega)
theorem c_Row_listAll {A : Nat → Option (Nat × (Nat → Int32))} {Q : Option Value → jm → Prop} {T : jm} {M : jm} (hC_M : CI M) (ht_M : FR W_c_Row_listAll T M) {t : Nat} (k_t : kd t = 52) {x : Nat} (k_x : kd x = 18) (q : ∀ (M' : jm), CI M' → FR W_c_Row_listAll T M' → Q none M') : jc A 3 236 [.ref (t), .ref (x)] M Q := by
  refine jc_of (m := xm_236) rfl (Nat.le_of_ble_eq_true rfl) rfl ?_
  refine jr.aload_n rfl rfl ?_
  refine jr.iconst rfl ?_
  refine jr.aload_n rfl rfl ?_
  obtain ⟨v1, e1⟩ : ∃ z_, M x 3 = z_ := ⟨_, rfl⟩
  have b1 : 0 ≤ v1 ∧ v1 ≤ 12 := by rw [← e1]; exact (CI.r hC_M k_x (by decide) 3)
  refine jr.getf (i := 3) (x := v1) (v := .int (Int32.ofInt (v1))) rfl rfl (Nat.lt_trans (kx_18 k_x).1 (by decide)) (kx_18 k_x).2 (by decide) rfl rfl e1 rfl ?_
  refine jr_v rfl rfl (Or.inl rfl) rfl rfl (Nat.lt_trans (kx_52 k_t).1 (by decide)) (kx_52 k_t).2 ⟨rfl, Nat.le_of_ble_eq_true rfl, Nat.le_of_ble_eq_true rfl⟩ rfl (jc.deep (c_Row_renew hC_M (FR.rfl _ M) k_t (by omega) (by omega) (fun M2 hC_M2 hf_M2  => ?_)) (Nat.le_of_ble_eq_true rfl))
  have ht_M2 : FR W_c_Row_listAll T M2 := FR.t ht_M hf_M2 (kw_sub rfl)
  refine jr.iconst rfl ?_
  refine jr.istore_n (ls' := [_, _, _]) rfl (nlt rfl) rfl ?_
  refine jr.pick (ls := [_, _, _]) [0, 1, 2] rfl rfl ?_
  exact c_Row_listAll_L11 k_t k_x q 12 M2 0 hC_M2 ht_M2 (by omega)  (by omega)
noncomputable def W_c_Row_copyInto : List (Nat × Nat) := [(53, 1000), (54, 1000)]
theorem c_Row_copyInto_L51 {A : Nat → Option (Nat × (Nat → Int32))} {Q : Option Value → jm → Prop} {T : jm} {t : Nat} (k_t : kd t = 52) {x : Nat} (k_x : kd x = 52) {u : Int} {y : Int} {z : Int} (q : ∀ (r : Int) (M' : jm), CI M' → FR W_c_Row_copyInto T M' → 0 ≤ r ∧ r ≤ 1 → Q (some (.int (Int32.ofInt r))) M') : ∀ (nM : Nat) (M : jm) (i : Int), CI M → FR W_c_Row_copyInto T M → 0 ≤ y ∧ y ≤ 40 → 0 ≤ z ∧ z ≤ 40 → 0 ≤ u ∧ u ≤ 40 → 0 ≤ i ∧ i ≤ 40 → (y + u ≤ 40) → (z + u ≤ 40) → u - i ≤ nM → jr A 2 xm_239 51 [(2, .int (Int32.ofInt (y))), (3, .int (Int32.ofInt (z))), (4, .int (Int32.ofInt (u))), (5, .int (Int32.ofInt (i))), (0, .ref (t)), (1, .ref (x))] [] M Q := by
  intro nM
  induction nM using Nat.strongRecOn with
  | ind nM ih =>
    intro M i hC_M ht_M h_y h_z h_u h_i hy0 hy1 hm
    refine jr.iload rfl rfl ?_
    refine jr.iload rfl rfl ?_
    refine jr.icmp_ge rfl rfl (by first | (refine rgb (by assumption) ?_; exact rfl) | omega) (by first | (refine rgb (by assumption) ?_; exact rfl) | omega) (fun h55 => ?_) (fun h55 => ?_)
    · refine jr.iconst rfl ?_
      exact jr.ireturn rfl rfl rfl (q _ _ hC_M ht_M (by first | exact rgq rfl | omega) )
    · refine jr.aload_n rfl rfl ?_
      obtain ⟨v1, e1⟩ : ∃ z_, M x 0 = z_ := ⟨_, rfl⟩
      have b1 : (-2147483648) ≤ v1 ∧ v1 ≤ 2147483647 := by rw [← e1]; exact (CI.r hC_M k_x (by decide) 0)
      refine jr.getf (i := 0) (x := v1) (v := .int (Int32.ofInt (v1))) rfl rfl (Nat.lt_trans (kx_52 k_x).1 (by decide)) (kx_52 k_x).2 (by decide) rfl rfl e1 rfl ?_
      refine jr.bipush rfl (jbp _ (nlt rfl)) ?_
      refine jr.icmp_ne rfl rfl (by first | (refine rgb (by assumption) ?_; exact rfl) | omega) (rgl rfl) (fun h64 => ?_) (fun h64 => ?_)
      · refine jr.aload_n rfl rfl ?_
        refine jr.aload_n rfl rfl ?_
        refine jr.iload_n rfl rfl ?_
        refine jr.iload rfl rfl ?_
        refine jr.iadd rfl ?_
        refine jr.iload_n rfl rfl ?_
        refine jr.iload rfl rfl ?_
        refine jr.iadd rfl ?_
        refine jr_v rfl rfl (Or.inl rfl) rfl rfl (Nat.lt_trans (kx_52 k_t).1 (by decide)) (kx_52 k_t).2 ⟨rfl, Nat.le_of_ble_eq_true rfl, Nat.le_of_ble_eq_true rfl⟩ rfl (jc.deep (c_Row_copyItem hC_M (FR.rfl _ M) k_t k_x (by omega) (by omega) (fun M2 hC_M2 hf_M2  => ?_)) (Nat.le_of_ble_eq_true rfl))
        have ht_M2 : FR W_c_Row_copyInto T M2 := FR.t ht_M hf_M2 (kw_sub rfl)
        refine jr.iinc (ls' := [_, _, _, _, _, _]) rfl rfl (nlt rfl) rfl ?_
        refine jr.goto rfl rfl ?_
        refine jr.pick (ls := [_, _, _, _, _, _]) [1, 2, 3, 0, 4, 5] rfl rfl ?_
        exact ih (nM - 1) (by omega) M2 (i + 1) hC_M2 ht_M2 (by omega) (by omega) (by omega) (by omega) (by omega) (by omega) (by omega)
      · refine jr.aload_n rfl rfl ?_
        have k3 := kf_52_2 k_t
        refine jr.getf (i := 2) (v := .ref (t + 1)) rfl rfl (Nat.lt_trans (kx_52 k_t).1 (by decide)) (kx_52 k_t).2 (by decide) rfl rfl rfl (jval_ref rfl k3.1) ?_
        refine jr.iload_n rfl rfl ?_
        refine jr.iload rfl rfl ?_
        refine jr.iadd rfl ?_
        obtain ⟨v4, e4⟩ : ∃ z_, M ((t + 1)) (y + i) = z_ := ⟨_, rfl⟩
        have b4 : (-9223372036854775808) ≤ v4 ∧ v4 ≤ 9223372036854775807 := by rw [← e4]; exact (CI.r hC_M k3.2 (by decide) (y + i))
        refine jr.lald (i := (y + i)) (x := v4) rfl (Nat.lt_trans (kx_54 k3.2).1 (by decide)) (kx_54 k3.2).2 (by decide) (by omega) (by omega) e4 ?_
        refine jr.ldc2 (x := (-1)) rfl rfl (by decide) ?_
        refine jr.lcmp_eq rfl rfl rfl (by omega) (by omega) (fun h79 => ?_) (fun h79 => ?_)
        · refine jr.aload_n rfl rfl ?_
          refine jr.aload_n rfl rfl ?_
          refine jr.iload_n rfl rfl ?_
          refine jr.iload rfl rfl ?_
          refine jr.iadd rfl ?_
          refine jr.iload_n rfl rfl ?_
          refine jr.iload rfl rfl ?_
          refine jr.iadd rfl ?_
          refine jr_v rfl rfl (Or.inl rfl) rfl rfl (Nat.lt_trans (kx_52 k_t).1 (by decide)) (kx_52 k_t).2 ⟨rfl, Nat.le_of_ble_eq_true rfl, Nat.le_of_ble_eq_true rfl⟩ rfl (jc.deep (c_Row_copyItem hC_M (FR.rfl _ M) k_t k_x (by omega) (by omega) (fun M5 hC_M5 hf_M5  => ?_)) (Nat.le_of_ble_eq_true rfl))
          have ht_M5 : FR W_c_Row_copyInto T M5 := FR.t ht_M hf_M5 (kw_sub rfl)
          refine jr.iinc (ls' := [_, _, _, _, _, _]) rfl rfl (nlt rfl) rfl ?_
          refine jr.goto rfl rfl ?_
          refine jr.pick (ls := [_, _, _, _, _, _]) [1, 2, 3, 0, 4, 5] rfl rfl ?_
          exact ih (nM - 1) (by omega) M5 (i + 1) hC_M5 ht_M5 (by omega) (by omega) (by omega) (by omega) (by omega) (by omega) (by omega)
        · refine jr.aload_n rfl rfl ?_
          have k6 := kf_52_2 k_t
          refine jr.getf (i := 2) (v := .ref (t + 1)) rfl rfl (Nat.lt_trans (kx_52 k_t).1 (by decide)) (kx_52 k_t).2 (by decide) rfl rfl rfl (jval_ref rfl k6.1) ?_
          refine jr.iload_n rfl rfl ?_
          refine jr.iload rfl rfl ?_
          refine jr.iadd rfl ?_
          refine jr.lald (i := (y + i)) (x := v4) rfl (Nat.lt_trans (kx_54 k6.2).1 (by decide)) (kx_54 k6.2).2 (by decide) (by omega) (by omega) e4 ?_
          refine jr.l2i rfl ?_
          refine jr.iw (j_w v4) (j_w_eq _) ?_
          have b7 : -2147483648 ≤ j_w v4 ∧ j_w v4 ≤ 2147483647 := jb_any _
          generalize j_w v4 = v7 at b7 ⊢
          refine jr_s rfl rfl (Or.inr rfl) ⟨Nat.le_of_ble_eq_true rfl, Nat.le_of_ble_eq_true rfl⟩ rfl rfl (jc.deep (c_PacketWall_isCarriedKind hC_M (by omega) (fun r8 z8 w8_0 => ?_)) (Nat.le_of_ble_eq_true rfl))
          refine jr.if_ne rfl rfl (by first | (refine rgb (by assumption) ?_; exact rfl) | omega) (fun h96 => ?_) (fun h96 => ?_)
          · refine jr.aload_n rfl rfl ?_
            refine jr.aload_n rfl rfl ?_
            refine jr.iload_n rfl rfl ?_
            refine jr.iload rfl rfl ?_
            refine jr.iadd rfl ?_
            refine jr.iload_n rfl rfl ?_
            refine jr.iload rfl rfl ?_
            refine jr.iadd rfl ?_
            refine jr_v rfl rfl (Or.inl rfl) rfl rfl (Nat.lt_trans (kx_52 k_t).1 (by decide)) (kx_52 k_t).2 ⟨rfl, Nat.le_of_ble_eq_true rfl, Nat.le_of_ble_eq_true rfl⟩ rfl (jc.deep (c_Row_copyItem hC_M (FR.rfl _ M) k_t k_x (by omega) (by omega) (fun M9 hC_M9 hf_M9  => ?_)) (Nat.le_of_ble_eq_true rfl))
            have ht_M9 : FR W_c_Row_copyInto T M9 := FR.t ht_M hf_M9 (kw_sub rfl)
            refine jr.iinc (ls' := [_, _, _, _, _, _]) rfl rfl (nlt rfl) rfl ?_
            refine jr.goto rfl rfl ?_
            refine jr.pick (ls := [_, _, _, _, _, _]) [1, 2, 3, 0, 4, 5] rfl rfl ?_
            exact ih (nM - 1) (by omega) M9 (i + 1) hC_M9 ht_M9 (by omega) (by omega) (by omega) (by omega) (by omega) (by omega) (by omega)
          · refine jr.iconst rfl ?_
            exact jr.ireturn rfl rfl rfl (q _ _ hC_M ht_M (by first | exact rgq rfl | omega) )
theorem c_Row_copyInto_L22 {A : Nat → Option (Nat × (Nat → Int32))} {Q : Option Value → jm → Prop} {T : jm} {t : Nat} (k_t : kd t = 52) {x : Nat} (k_x : kd x = 52) {y : Int} {z : Int} (q : ∀ (r : Int) (M' : jm), CI M' → FR W_c_Row_copyInto T M' → 0 ≤ r ∧ r ≤ 1 → Q (some (.int (Int32.ofInt r))) M') : ∀ (nM : Nat) (M : jm) (i : Int), CI M → FR W_c_Row_copyInto T M → 0 ≤ y ∧ y ≤ 40 → 0 ≤ z ∧ z ≤ 40 → (-1) ≤ i ∧ i ≤ 39 → (y + i ≤ 39) → (z + i ≤ 39) → i + 1 ≤ nM → jr A 2 xm_239 22 [(2, .int (Int32.ofInt (y))), (3, .int (Int32.ofInt (z))), (5, .int (Int32.ofInt (i))), (0, .ref (t)), (1, .ref (x))] [] M Q := by
  intro nM
  induction nM using Nat.strongRecOn with
  | ind nM ih =>
    intro M i hC_M ht_M h_y h_z h_i hy0 hy1 hm
    refine jr.iload rfl rfl ?_
    refine jr.if_lt rfl rfl (by first | (refine rgb (by assumption) ?_; exact rfl) | omega) (fun h24 => ?_) (fun h24 => ?_)
    · refine jr.iconst rfl ?_
      exact jr.ireturn rfl rfl rfl (q _ _ hC_M ht_M (by first | exact rgq rfl | omega) )
    · refine jr.aload_n rfl rfl ?_
      refine jr.aload_n rfl rfl ?_
      refine jr.iload_n rfl rfl ?_
      refine jr.iload rfl rfl ?_
      refine jr.iadd rfl ?_
      refine jr.iload_n rfl rfl ?_
      refine jr.iload rfl rfl ?_
      refine jr.iadd rfl ?_
      refine jr_v rfl rfl (Or.inl rfl) rfl rfl (Nat.lt_trans (kx_52 k_t).1 (by decide)) (kx_52 k_t).2 ⟨rfl, Nat.le_of_ble_eq_true rfl, Nat.le_of_ble_eq_true rfl⟩ rfl (jc.deep (c_Row_copyItem hC_M (FR.rfl _ M) k_t k_x (by omega) (by omega) (fun M1 hC_M1 hf_M1  => ?_)) (Nat.le_of_ble_eq_true rfl))
      have ht_M1 : FR W_c_Row_copyInto T M1 := FR.t ht_M hf_M1 (kw_sub rfl)
      refine jr.iinc (ls' := [_, _, _, _, _]) rfl rfl (nlt rfl) rfl ?_
      refine jr.goto rfl rfl ?_
      refine jr.pick (ls := [_, _, _, _, _]) [1, 2, 0, 3, 4] rfl rfl ?_
      exact ih (nM - 1) (by omega) M1 (i + (-1)) hC_M1 ht_M1 (by omega) (by omega) (by omega) (by omega) (by omega) (by omega)
theorem c_Row_copyInto {A : Nat → Option (Nat × (Nat → Int32))} {Q : Option Value → jm → Prop} {T : jm} {M : jm} (hC_M : CI M) (ht_M : FR W_c_Row_copyInto T M) {t : Nat} (k_t : kd t = 52) {x : Nat} (k_x : kd x = 52) {y : Int} (h_y : 0 ≤ y ∧ y ≤ 40) {z : Int} (h_z : 0 ≤ z ∧ z ≤ 40) {u : Int} (h_u : 0 ≤ u ∧ u ≤ 40) (p0 : y + u ≤ 40) (p1 : z + u ≤ 40) (q : ∀ (r : Int) (M' : jm), CI M' → FR W_c_Row_copyInto T M' → 0 ≤ r ∧ r ≤ 1 → Q (some (.int (Int32.ofInt r))) M') : jc A 3 239 [.ref (t), .ref (x), .int (Int32.ofInt (y)), .int (Int32.ofInt (z)), .int (Int32.ofInt (u))] M Q := by
  refine jc_of (m := xm_239) rfl (Nat.le_of_ble_eq_true rfl) rfl ?_
  refine jr.aload_n rfl rfl ?_
  obtain ⟨v1, e1⟩ : ∃ z_, M t 0 = z_ := ⟨_, rfl⟩
  have b1 : (-2147483648) ≤ v1 ∧ v1 ≤ 2147483647 := by rw [← e1]; exact (CI.r hC_M k_t (by decide) 0)
  refine jr.getf (i := 0) (x := v1) (v := .int (Int32.ofInt (v1))) rfl rfl (Nat.lt_trans (kx_52 k_t).1 (by decide)) (kx_52 k_t).2 (by decide) rfl rfl e1 rfl ?_
  refine jr.aload_n rfl rfl ?_
  obtain ⟨v2, e2⟩ : ∃ z_, M x 0 = z_ := ⟨_, rfl⟩
  have b2 : (-2147483648) ≤ v2 ∧ v2 ≤ 2147483647 := by rw [← e2]; exact (CI.r hC_M k_x (by decide) 0)
  refine jr.getf (i := 0) (x := v2) (v := .int (Int32.ofInt (v2))) rfl rfl (Nat.lt_trans (kx_52 k_x).1 (by decide)) (kx_52 k_x).2 (by decide) rfl rfl e2 rfl ?_
  refine jr.icmp_ne rfl rfl (by first | (refine rgb (by assumption) ?_; exact rfl) | omega) (by first | (refine rgb (by assumption) ?_; exact rfl) | omega) (fun h8 => ?_) (fun h8 => ?_)
  · refine jr.iconst rfl ?_
    refine jr.istore (ls' := [_, _, _, _, _, _]) rfl (nlt rfl) rfl ?_
    refine jr.pick (ls := [_, _, _, _, _, _]) [3, 4, 5, 0, 1, 2] rfl rfl ?_
    exact c_Row_copyInto_L51 k_t k_x q 40 M 0 hC_M ht_M (by omega) (by omega) (by omega) (by omega) (by omega) (by omega) (by omega)
  · refine jr.iload_n rfl rfl ?_
    refine jr.iload_n rfl rfl ?_
    refine jr.icmp_ge rfl rfl (by first | (refine rgb (by assumption) ?_; exact rfl) | omega) (by first | (refine rgb (by assumption) ?_; exact rfl) | omega) (fun h13 => ?_) (fun h13 => ?_)
    · refine jr.iconst rfl ?_
      refine jr.istore (ls' := [_, _, _, _, _, _]) rfl (nlt rfl) rfl ?_
      refine jr.pick (ls := [_, _, _, _, _, _]) [3, 4, 5, 0, 1, 2] rfl rfl ?_
      exact c_Row_copyInto_L51 k_t k_x q 40 M 0 hC_M ht_M (by omega) (by omega) (by omega) (by omega) (by omega) (by omega) (by omega)
    · refine jr.iload rfl rfl ?_
      refine jr.iconst rfl ?_
      refine jr.isub rfl ?_
      refine jr.istore (ls' := [_, _, _, _, _, _]) rfl (nlt rfl) rfl ?_
      refine jr.pick (ls := [_, _, _, _, _]) [3, 4, 0, 1, 2] rfl rfl ?_
      exact c_Row_copyInto_L22 k_t k_x q 40 M (u - 1) hC_M ht_M (by omega) (by omega) (by omega) (by omega) (by omega) (by omega)
noncomputable def W_c_Machine_copyItems : List (Nat × Nat) := [(22, 4), (24, 1000), (53, 1000), (54, 1000)]
theorem c_Machine_copyItems {A : Nat → Option (Nat × (Nat → Int32))} {Q : Option Value → jm → Prop} {T : jm} {M : jm} (hC_M : CI M) (ht_M : FR W_c_Machine_copyItems T M) (q : ∀ (M' : jm), CI M' → FR W_c_Machine_copyItems T M' → Q none M') : jc A 4 178 [.ref (421)] M Q := by
  refine jc_of (m := xm_178) rfl (Nat.le_of_ble_eq_true rfl) rfl ?_
  refine jr.aload_n rfl rfl ?_
  refine jr.getf (i := 8) (v := .ref 435) rfl rfl (nlt rfl) rfl (nlt rfl) rfl rfl rfl rfl ?_
  refine jr.iconst rfl ?_
  obtain ⟨v1, e1⟩ : ∃ z_, M 435 0 = z_ := ⟨_, rfl⟩
  have b1 : (-9223372036854775808) ≤ v1 ∧ v1 ≤ 9223372036854775807 := by rw [← e1]; exact (CI.r hC_M (show kd 435 = 26 from rfl) (by decide) 0)
  refine jr.lald (i := 0) (x := v1) rfl (nlt rfl) rfl (Nat.le_of_ble_eq_true rfl) (by omega) (by omega) e1 ?_
  refine jr.bipush rfl (jbp _ (nlt rfl)) ?_
  refine jr_s rfl rfl (Or.inl rfl) ⟨Nat.le_of_ble_eq_true rfl, Nat.le_of_ble_eq_true rfl⟩ rfl rfl (jc.deep (c_Machine_isNot hC_M (by omega) (by omega) (fun r2 z2 w2_0 => ?_)) (Nat.le_of_ble_eq_true rfl))
  refine jr.if_ne rfl rfl (by first | (refine rgb (by assumption) ?_; exact rfl) | omega) (fun h11 => ?_) (fun h11 => ?_)
  · have sx11 : (1 : Int) ≤ r2 := by omega
    clear h11
    refine jr.aload_n rfl rfl ?_
    refine jr.iconst rfl ?_
    refine jr_v rfl rfl (Or.inl rfl) rfl rfl (nlt rfl) rfl ⟨rfl, Nat.le_of_ble_eq_true rfl, Nat.le_of_ble_eq_true rfl⟩ rfl (jc.deep (c_Machine_fail hC_M (FR.rfl _ M) (by omega) (fun M3 hC_M3 hf_M3  => ?_)) (Nat.le_of_ble_eq_true rfl))
    have ht_M3 : FR W_c_Machine_copyItems T M3 := FR.t ht_M hf_M3 (kw_sub rfl)
    exact jr.vreturn rfl rfl (q _ hC_M3 ht_M3  )
  · refine jr.aload_n rfl rfl ?_
    refine jr.getf (i := 8) (v := .ref 435) rfl rfl (nlt rfl) rfl (nlt rfl) rfl rfl rfl rfl ?_
    refine jr.iconst rfl ?_
    obtain ⟨v4, e4⟩ : ∃ z_, M 435 2 = z_ := ⟨_, rfl⟩
    have b4 : (-9223372036854775808) ≤ v4 ∧ v4 ≤ 9223372036854775807 := by rw [← e4]; exact (CI.r hC_M (show kd 435 = 26 from rfl) (by decide) 2)
    refine jr.lald (i := 2) (x := v4) rfl (nlt rfl) rfl (Nat.le_of_ble_eq_true rfl) (by omega) (by omega) e4 ?_
    refine jr.bipush rfl (jbp _ (nlt rfl)) ?_
    refine jr_s rfl rfl (Or.inl rfl) ⟨Nat.le_of_ble_eq_true rfl, Nat.le_of_ble_eq_true rfl⟩ rfl rfl (jc.deep (c_Machine_isNot hC_M (by omega) (by omega) (fun r5 z5 w5_0 => ?_)) (Nat.le_of_ble_eq_true rfl))
    refine jr.if_eq rfl rfl (by first | (refine rgb (by assumption) ?_; exact rfl) | omega) (fun h25 => ?_) (fun h25 => ?_)
    · refine jr.aload_n rfl rfl ?_
      refine jr.getf (i := 0) (v := .ref 422) rfl rfl (nlt rfl) rfl (nlt rfl) rfl rfl rfl rfl ?_
      refine jr.aload_n rfl rfl ?_
      refine jr.getf (i := 8) (v := .ref 435) rfl rfl (nlt rfl) rfl (nlt rfl) rfl rfl rfl rfl ?_
      refine jr.iconst rfl ?_
      refine jr.lald (i := 0) (x := v1) rfl (nlt rfl) rfl (Nat.le_of_ble_eq_true rfl) (by omega) (by omega) e1 ?_
      refine jr.l2i rfl ?_
      have k6 := kxe_25 (a := 422) rfl (i := v1) (by omega) (by omega)
      refine jr.aald (c := (xe 422 v1)) rfl (by decide) rfl (by decide) (by decide) rfl (by decide) (by omega) (by omega) k6.1 ?_
      refine jr.astore_n (ls' := [_, _]) rfl (nlt rfl) rfl ?_
      refine jr.aload_n rfl rfl ?_
      refine jr.getf (i := 0) (v := .ref 422) rfl rfl (nlt rfl) rfl (nlt rfl) rfl rfl rfl rfl ?_
      refine jr.aload_n rfl rfl ?_
      refine jr.getf (i := 8) (v := .ref 435) rfl rfl (nlt rfl) rfl (nlt rfl) rfl rfl rfl rfl ?_
      refine jr.iconst rfl ?_
      refine jr.lald (i := 2) (x := v4) rfl (nlt rfl) rfl (Nat.le_of_ble_eq_true rfl) (by omega) (by omega) e4 ?_
      refine jr.l2i rfl ?_
      have k7 := kxe_25 (a := 422) rfl (i := v4) (by omega) (by omega)
      refine jr.aald (c := (xe 422 v4)) rfl (by decide) rfl (by decide) (by decide) rfl (by decide) (by omega) (by omega) k7.1 ?_
      refine jr.astore_n (ls' := [_, _, _]) rfl (nlt rfl) rfl ?_
      refine jr.aload_n rfl rfl ?_
      obtain ⟨v8, e8⟩ : ∃ z_, M ((xe 422 v1)) 0 = z_ := ⟨_, rfl⟩
      have b8 : (-2147483648) ≤ v8 ∧ v8 ≤ 2147483647 := by rw [← e8]; exact (CI.r hC_M k6.2 (by decide) 0)
      refine jr.getf (i := 0) (x := v8) (v := .int (Int32.ofInt (v8))) rfl rfl (Nat.lt_trans (kx_52 k6.2).1 (by decide)) (kx_52 k6.2).2 (by decide) rfl rfl e8 rfl ?_
      refine jr.iconst rfl ?_
      refine jr.icmp_eq rfl rfl (by first | (refine rgb (by assumption) ?_; exact rfl) | omega) (rgl rfl) (fun h65 => ?_) (fun h65 => ?_)
      · refine jr.aload_n rfl rfl ?_
        refine jr.iconst rfl ?_
        refine jr_v rfl rfl (Or.inl rfl) rfl rfl (nlt rfl) rfl ⟨rfl, Nat.le_of_ble_eq_true rfl, Nat.le_of_ble_eq_true rfl⟩ rfl (jc.deep (c_Machine_fail hC_M (FR.rfl _ M) (by omega) (fun M9 hC_M9 hf_M9  => ?_)) (Nat.le_of_ble_eq_true rfl))
        have ht_M9 : FR W_c_Machine_copyItems T M9 := FR.t ht_M hf_M9 (kw_sub rfl)
        refine jr.goto rfl rfl ?_
        exact jr.vreturn rfl rfl (q _ hC_M9 ht_M9  )
      · refine jr.aload_n rfl rfl ?_
        obtain ⟨v10, e10⟩ : ∃ z_, M ((xe 422 v4)) 0 = z_ := ⟨_, rfl⟩
        have b10 : (-2147483648) ≤ v10 ∧ v10 ≤ 2147483647 := by rw [← e10]; exact (CI.r hC_M k7.2 (by decide) 0)
        refine jr.getf (i := 0) (x := v10) (v := .int (Int32.ofInt (v10))) rfl rfl (Nat.lt_trans (kx_52 k7.2).1 (by decide)) (kx_52 k7.2).2 (by decide) rfl rfl e10 rfl ?_
        refine jr.iconst rfl ?_
        refine jr.icmp_ne rfl rfl (by first | (refine rgb (by assumption) ?_; exact rfl) | omega) (rgl rfl) (fun h73 => ?_) (fun h73 => ?_)
        · refine jr.aload_n rfl rfl ?_
          refine jr.aload_n rfl rfl ?_
          refine jr_v rfl rfl (Or.inl rfl) rfl rfl (Nat.lt_trans (kx_52 k6.2).1 (by decide)) (kx_52 k6.2).2 ⟨rfl, Nat.le_of_ble_eq_true rfl, Nat.le_of_ble_eq_true rfl⟩ rfl (jc.deep (c_Row_isUnlike hC_M k6.2 k7.2 (fun r11 z11  => ?_)) (Nat.le_of_ble_eq_true rfl))
          refine jr.if_eq rfl rfl (by first | (refine rgb (by assumption) ?_; exact rfl) | omega) (fun h89 => ?_) (fun h89 => ?_)
          · refine jr.aload_n rfl rfl ?_
            refine jr.aload_n rfl rfl ?_
            refine jr.getf (i := 8) (v := .ref 435) rfl rfl (nlt rfl) rfl (nlt rfl) rfl rfl rfl rfl ?_
            refine jr.iconst rfl ?_
            obtain ⟨v12, e12⟩ : ∃ z_, M 435 1 = z_ := ⟨_, rfl⟩
            have b12 : (-9223372036854775808) ≤ v12 ∧ v12 ≤ 9223372036854775807 := by rw [← e12]; exact (CI.r hC_M (show kd 435 = 26 from rfl) (by decide) 1)
            refine jr.lald (i := 1) (x := v12) rfl (nlt rfl) rfl (Nat.le_of_ble_eq_true rfl) (by omega) (by omega) e12 ?_
            refine jr.aload_n rfl rfl ?_
            refine jr.getf (i := 8) (v := .ref 435) rfl rfl (nlt rfl) rfl (nlt rfl) rfl rfl rfl rfl ?_
            refine jr.iconst rfl ?_
            obtain ⟨v13, e13⟩ : ∃ z_, M 435 4 = z_ := ⟨_, rfl⟩
            have b13 : (-9223372036854775808) ≤ v13 ∧ v13 ≤ 9223372036854775807 := by rw [← e13]; exact (CI.r hC_M (show kd 435 = 26 from rfl) (by decide) 4)
            refine jr.lald (i := 4) (x := v13) rfl (nlt rfl) rfl (Nat.le_of_ble_eq_true rfl) (by omega) (by omega) e13 ?_
            refine jr_s rfl rfl (Or.inl rfl) ⟨Nat.le_of_ble_eq_true rfl, Nat.le_of_ble_eq_true rfl⟩ rfl rfl (jc.deep (c_Machine_isBeyond hC_M k6.2 (by omega) (by omega) (fun r14 z14 w14_0 => ?_)) (Nat.le_of_ble_eq_true rfl))
            refine jr.if_ne rfl rfl (by first | (refine rgb (by assumption) ?_; exact rfl) | omega) (fun h116 => ?_) (fun h116 => ?_)
            · have sx116 : (1 : Int) ≤ r14 := by omega
              clear h116
              refine jr.aload_n rfl rfl ?_
              refine jr.iconst rfl ?_
              refine jr_v rfl rfl (Or.inl rfl) rfl rfl (nlt rfl) rfl ⟨rfl, Nat.le_of_ble_eq_true rfl, Nat.le_of_ble_eq_true rfl⟩ rfl (jc.deep (c_Machine_fail hC_M (FR.rfl _ M) (by omega) (fun M15 hC_M15 hf_M15  => ?_)) (Nat.le_of_ble_eq_true rfl))
              have ht_M15 : FR W_c_Machine_copyItems T M15 := FR.t ht_M hf_M15 (kw_sub rfl)
              refine jr.goto rfl rfl ?_
              exact jr.vreturn rfl rfl (q _ hC_M15 ht_M15  )
            · refine jr.aload_n rfl rfl ?_
              refine jr.aload_n rfl rfl ?_
              refine jr.getf (i := 8) (v := .ref 435) rfl rfl (nlt rfl) rfl (nlt rfl) rfl rfl rfl rfl ?_
              refine jr.iconst rfl ?_
              obtain ⟨v16, e16⟩ : ∃ z_, M 435 3 = z_ := ⟨_, rfl⟩
              have b16 : (-9223372036854775808) ≤ v16 ∧ v16 ≤ 9223372036854775807 := by rw [← e16]; exact (CI.r hC_M (show kd 435 = 26 from rfl) (by decide) 3)
              refine jr.lald (i := 3) (x := v16) rfl (nlt rfl) rfl (Nat.le_of_ble_eq_true rfl) (by omega) (by omega) e16 ?_
              refine jr.aload_n rfl rfl ?_
              refine jr.getf (i := 8) (v := .ref 435) rfl rfl (nlt rfl) rfl (nlt rfl) rfl rfl rfl rfl ?_
              refine jr.iconst rfl ?_
              refine jr.lald (i := 4) (x := v13) rfl (nlt rfl) rfl (Nat.le_of_ble_eq_true rfl) (by omega) (by omega) e13 ?_
              refine jr_s rfl rfl (Or.inl rfl) ⟨Nat.le_of_ble_eq_true rfl, Nat.le_of_ble_eq_true rfl⟩ rfl rfl (jc.deep (c_Machine_isBeyond hC_M k7.2 (by omega) (by omega) (fun r17 z17 w17_0 => ?_)) (Nat.le_of_ble_eq_true rfl))
              refine jr.if_eq rfl rfl (by first | (refine rgb (by assumption) ?_; exact rfl) | omega) (fun h135 => ?_) (fun h135 => ?_)
              · refine jr.aload_n rfl rfl ?_
                refine jr.aload_n rfl rfl ?_
                refine jr.aload_n rfl rfl ?_
                refine jr.getf (i := 8) (v := .ref 435) rfl rfl (nlt rfl) rfl (nlt rfl) rfl rfl rfl rfl ?_
                refine jr.iconst rfl ?_
                refine jr.lald (i := 1) (x := v12) rfl (nlt rfl) rfl (Nat.le_of_ble_eq_true rfl) (by omega) (by omega) e12 ?_
                refine jr.l2i rfl ?_
                refine jr.aload_n rfl rfl ?_
                refine jr.getf (i := 8) (v := .ref 435) rfl rfl (nlt rfl) rfl (nlt rfl) rfl rfl rfl rfl ?_
                refine jr.iconst rfl ?_
                refine jr.lald (i := 3) (x := v16) rfl (nlt rfl) rfl (Nat.le_of_ble_eq_true rfl) (by omega) (by omega) e16 ?_
                refine jr.l2i rfl ?_
                refine jr.aload_n rfl rfl ?_
                refine jr.getf (i := 8) (v := .ref 435) rfl rfl (nlt rfl) rfl (nlt rfl) rfl rfl rfl rfl ?_
                refine jr.iconst rfl ?_
                refine jr.lald (i := 4) (x := v13) rfl (nlt rfl) rfl (Nat.le_of_ble_eq_true rfl) (by omega) (by omega) e13 ?_
                refine jr.l2i rfl ?_
                refine jr_v rfl rfl (Or.inl rfl) rfl rfl (Nat.lt_trans (kx_52 k6.2).1 (by decide)) (kx_52 k6.2).2 ⟨rfl, Nat.le_of_ble_eq_true rfl, Nat.le_of_ble_eq_true rfl⟩ rfl (jc.deep (c_Row_copyInto hC_M (FR.rfl _ M) k6.2 k7.2 (by omega) (by omega) (by omega) (by omega) (by omega) (fun r18 M18 hC_M18 hf_M18 z18  => ?_)) (Nat.le_of_ble_eq_true rfl))
                have ht_M18 : FR W_c_Machine_copyItems T M18 := FR.t ht_M hf_M18 (kw_sub rfl)
                refine jr.if_ne rfl rfl (by first | (refine rgb (by assumption) ?_; exact rfl) | omega) (fun h172 => ?_) (fun h172 => ?_)
                · have sx172 : (1 : Int) ≤ r18 := by omega
                  clear h172
                  exact jr.vreturn rfl rfl (q _ hC_M18 ht_M18  )
                · refine jr.aload_n rfl rfl ?_
                  refine jr.iconst rfl ?_
                  refine jr_v rfl rfl (Or.inl rfl) rfl rfl (nlt rfl) rfl ⟨rfl, Nat.le_of_ble_eq_true rfl, Nat.le_of_ble_eq_true rfl⟩ rfl (jc.deep (c_Machine_fail hC_M18 (FR.rfl _ M18) (by omega) (fun M19 hC_M19 hf_M19  => ?_)) (Nat.le_of_ble_eq_true rfl))
                  have ht_M19 : FR W_c_Machine_copyItems T M19 := FR.t ht_M18 hf_M19 (kw_sub rfl)
                  exact jr.vreturn rfl rfl (q _ hC_M19 ht_M19  )
              · have sx135 : (1 : Int) ≤ r17 := by omega
                clear h135
                refine jr.aload_n rfl rfl ?_
                refine jr.iconst rfl ?_
                refine jr_v rfl rfl (Or.inl rfl) rfl rfl (nlt rfl) rfl ⟨rfl, Nat.le_of_ble_eq_true rfl, Nat.le_of_ble_eq_true rfl⟩ rfl (jc.deep (c_Machine_fail hC_M (FR.rfl _ M) (by omega) (fun M20 hC_M20 hf_M20  => ?_)) (Nat.le_of_ble_eq_true rfl))
                have ht_M20 : FR W_c_Machine_copyItems T M20 := FR.t ht_M hf_M20 (kw_sub rfl)
                refine jr.goto rfl rfl ?_
                exact jr.vreturn rfl rfl (q _ hC_M20 ht_M20  )
          · have sx89 : (1 : Int) ≤ r11 := by omega
            clear h89
            refine jr.aload_n rfl rfl ?_
            refine jr.iconst rfl ?_
            refine jr_v rfl rfl (Or.inl rfl) rfl rfl (nlt rfl) rfl ⟨rfl, Nat.le_of_ble_eq_true rfl, Nat.le_of_ble_eq_true rfl⟩ rfl (jc.deep (c_Machine_fail hC_M (FR.rfl _ M) (by omega) (fun M21 hC_M21 hf_M21  => ?_)) (Nat.le_of_ble_eq_true rfl))
            have ht_M21 : FR W_c_Machine_copyItems T M21 := FR.t ht_M hf_M21 (kw_sub rfl)
            refine jr.goto rfl rfl ?_
            exact jr.vreturn rfl rfl (q _ hC_M21 ht_M21  )
        · refine jr.aload_n rfl rfl ?_
          refine jr.iconst rfl ?_
          refine jr_v rfl rfl (Or.inl rfl) rfl rfl (nlt rfl) rfl ⟨rfl, Nat.le_of_ble_eq_true rfl, Nat.le_of_ble_eq_true rfl⟩ rfl (jc.deep (c_Machine_fail hC_M (FR.rfl _ M) (by omega) (fun M22 hC_M22 hf_M22  => ?_)) (Nat.le_of_ble_eq_true rfl))
          have ht_M22 : FR W_c_Machine_copyItems T M22 := FR.t ht_M hf_M22 (kw_sub rfl)
          refine jr.goto rfl rfl ?_
          exact jr.vreturn rfl rfl (q _ hC_M22 ht_M22  )
    · have sx25 : (1 : Int) ≤ r5 := by omega
      clear h25
      refine jr.aload_n rfl rfl ?_
      refine jr.iconst rfl ?_
      refine jr_v rfl rfl (Or.inl rfl) rfl rfl (nlt rfl) rfl ⟨rfl, Nat.le_of_ble_eq_true rfl, Nat.le_of_ble_eq_true rfl⟩ rfl (jc.deep (c_Machine_fail hC_M (FR.rfl _ M) (by omega) (fun M23 hC_M23 hf_M23  => ?_)) (Nat.le_of_ble_eq_true rfl))
      have ht_M23 : FR W_c_Machine_copyItems T M23 := FR.t ht_M hf_M23 (kw_sub rfl)
      exact jr.vreturn rfl rfl (q _ hC_M23 ht_M23  )
noncomputable def W_c_Machine_makeList : List (Nat × Nat) := [(22, 4), (22, 5), (24, 1000), (52, 0), (52, 1), (53, 1000), (54, 1000)]
theorem c_Machine_makeList {A : Nat → Option (Nat × (Nat → Int32))} {Q : Option Value → jm → Prop} {T : jm} {M : jm} (hC_M : CI M) (ht_M : FR W_c_Machine_makeList T M) (q : ∀ (M' : jm), CI M' → FR W_c_Machine_makeList T M' → Q none M') : jc A 4 181 [.ref (421)] M Q := by
  refine jc_of (m := xm_181) rfl (Nat.le_of_ble_eq_true rfl) rfl ?_
  refine jr.aload_n rfl rfl ?_
  refine jr.getf (i := 8) (v := .ref 435) rfl rfl (nlt rfl) rfl (nlt rfl) rfl rfl rfl rfl ?_
  refine jr.iconst rfl ?_
  obtain ⟨v1, e1⟩ : ∃ z_, M 435 0 = z_ := ⟨_, rfl⟩
  have b1 : (-9223372036854775808) ≤ v1 ∧ v1 ≤ 9223372036854775807 := by rw [← e1]; exact (CI.r hC_M (show kd 435 = 26 from rfl) (by decide) 0)
  refine jr.lald (i := 0) (x := v1) rfl (nlt rfl) rfl (Nat.le_of_ble_eq_true rfl) (by omega) (by omega) e1 ?_
  refine jr.bipush rfl (jbp _ (nlt rfl)) ?_
  refine jr_s rfl rfl (Or.inl rfl) ⟨Nat.le_of_ble_eq_true rfl, Nat.le_of_ble_eq_true rfl⟩ rfl rfl (jc.deep (c_Machine_isNot hC_M (by omega) (by omega) (fun r2 z2 w2_0 => ?_)) (Nat.le_of_ble_eq_true rfl))
  refine jr.if_eq rfl rfl (by first | (refine rgb (by assumption) ?_; exact rfl) | omega) (fun h11 => ?_) (fun h11 => ?_)
  · refine jr.aload_n rfl rfl ?_
    obtain ⟨v3, e3⟩ : ∃ z_, M 421 12 = z_ := ⟨_, rfl⟩
    have b3 : 0 ≤ v3 ∧ v3 ≤ 597 := by rw [← e3]; exact (CI.r hC_M (show kd 421 = 22 from rfl) (by decide) 12)
    have k4 : kd (v3).toNat = 18 := ((congrArg (fun z : Int => kd z.toNat) (show M 421 12 = v3 from e3)).symm.trans (CI.x hC_M (show kd 421 = 22 from rfl) 12 rfl (by decide)))
    refine jr.getf (i := 12) (x := v3) (v := .ref (v3.toNat)) rfl rfl (nlt rfl) rfl (nlt rfl) rfl rfl e3 rfl ?_
    obtain ⟨v5, e5⟩ : ∃ z_, M ((v3.toNat)) 7 = z_ := ⟨_, rfl⟩
    have b5 : 0 ≤ v5 ∧ v5 ≤ 597 := by rw [← e5]; exact (CI.r hC_M k4 (by decide) 7)
    have k6 : kd (v5).toNat = 33 := ((congrArg (fun z : Int => kd z.toNat) (show M ((v3.toNat)) 7 = v5 from e5)).symm.trans (CI.x hC_M k4 7 rfl (by decide)))
    refine jr.getf (i := 7) (x := v5) (v := .ref (v5.toNat)) rfl rfl (Nat.lt_trans (kx_18 k4).1 (by decide)) (kx_18 k4).2 (by decide) rfl rfl e5 (jval_mut rfl (kn_18_7 k4)) ?_
    refine jr_v rfl rfl (Or.inl rfl) rfl rfl (Nat.lt_trans (kx_33 k6).1 (by decide)) (kx_33 k6).2 ⟨rfl, Nat.le_of_ble_eq_true rfl, Nat.le_of_ble_eq_true rfl⟩ rfl (jc.deep (c_Packet_isThere hC_M k6 (fun r7 z7 w7_0 => ?_)) (Nat.le_of_ble_eq_true rfl))
    obtain ⟨v8, e8⟩ : ∃ z_, M ((v5.toNat)) 1 = z_ := ⟨_, rfl⟩
    have b8 : (-1) ≤ v8 ∧ v8 ≤ 400 := by rw [← e8]; exact (CI.r hC_M k6 (by decide) 1)
    refine jr.if_ne rfl rfl (by first | (refine rgb (by assumption) ?_; exact rfl) | omega) (fun h32 => ?_) (fun h32 => ?_)
    · have sx32 : (1 : Int) ≤ r7 := by omega
      clear h32
      refine jr.aload_n rfl rfl ?_
      obtain ⟨v9, e9⟩ : ∃ z_, M 421 5 = z_ := ⟨_, rfl⟩
      have b9 : (-2147483648) ≤ v9 ∧ v9 ≤ 2147483647 := by rw [← e9]; exact (CI.r hC_M (show kd 421 = 22 from rfl) (by decide) 5)
      refine jr.getf (i := 5) (x := v9) (v := .int (Int32.ofInt (v9))) rfl rfl (nlt rfl) rfl (nlt rfl) rfl rfl e9 rfl ?_
      refine jr.sipush rfl (by decide) ?_
      refine jr.icmp_lt rfl rfl (by first | (refine rgb (by assumption) ?_; exact rfl) | omega) (rgl rfl) (fun h50 => ?_) (fun h50 => ?_)
      · refine jr.aload_n rfl rfl ?_
        refine jr.dup rfl rfl ?_
        refine jr.getf (i := 5) (x := v9) (v := .int (Int32.ofInt (v9))) rfl rfl (nlt rfl) rfl (nlt rfl) rfl rfl e9 rfl ?_
        refine jr.iconst rfl ?_
        refine jr.iadd rfl ?_
        refine jr.putf (i := 5) (x := (v9 + 1)) rfl rfl (nlt rfl) rfl (nlt rfl) rfl rfl rfl rfl rfl ?_
        refine jr.aload_n rfl rfl ?_
        refine jr.getf (i := 0) (v := .ref 422) rfl rfl (nlt rfl) rfl (nlt rfl) rfl rfl rfl rfl ?_
        refine jr.aload_n rfl rfl ?_
        refine jr.getf (i := 8) (v := .ref 435) rfl rfl (nlt rfl) rfl (nlt rfl) rfl rfl rfl rfl ?_
        refine jr.iconst rfl ?_
        refine jr.lald (i := 0) (x := v1) rfl (nlt rfl) rfl (Nat.le_of_ble_eq_true rfl) (by omega) (by omega) ((ju_c _ _ (by decide)).trans e1) ?_
        refine jr.l2i rfl ?_
        have k10 := kxe_25 (a := 422) rfl (i := v1) (by omega) (by omega)
        refine jr.aald (c := (xe 422 v1)) rfl (by decide) rfl (by decide) (by decide) rfl (by decide) (by omega) (by omega) k10.1 ?_
        refine jr.aload_n rfl rfl ?_
        have k11 : kd (v3).toNat = 18 := ((congrArg (fun z : Int => kd z.toNat) (show (ju M 421 5 (v9 + 1)) 421 12 = v3 from ((ju_i _ _ (zne (by decide))).trans e3))).symm.trans (CI.x (CI.u hC_M (i := 5) (show kd 421 = 22 from rfl) (show (-2147483648 : Int) ≤ _ ∧ _ ≤ (2147483647 : Int) from by omega) rfl) (show kd 421 = 22 from rfl) 12 rfl (by decide)))
        refine jr.getf (i := 12) (x := v3) (v := .ref (v3.toNat)) rfl rfl (nlt rfl) rfl (nlt rfl) rfl rfl ((ju_i _ _ (zne (by decide))).trans e3) rfl ?_
        refine jr_v rfl rfl (Or.inl rfl) rfl rfl (Nat.lt_trans (kx_52 k10.2).1 (by decide)) (kx_52 k10.2).2 ⟨rfl, Nat.le_of_ble_eq_true rfl, Nat.le_of_ble_eq_true rfl⟩ rfl (jc.deep (c_Row_listAll (CI.u hC_M (i := 5) (show kd 421 = 22 from rfl) (show (-2147483648 : Int) ≤ _ ∧ _ ≤ (2147483647 : Int) from by omega) rfl) (FR.rfl _ ((ju M 421 5 (v9 + 1)))) k10.2 k11 (fun M12 hC_M12 hf_M12  => ?_)) (Nat.le_of_ble_eq_true rfl))
        have ht_M12 : FR W_c_Machine_makeList T M12 := FR.t (FR.o ht_M (show kd 421 = 22 from rfl) rfl) hf_M12 (kw_sub rfl)
        exact jr.vreturn rfl rfl (q _ hC_M12 ht_M12  )
      · refine jr.aload_n rfl rfl ?_
        refine jr.bipush rfl (jbp _ (nlt rfl)) ?_
        refine jr_v rfl rfl (Or.inl rfl) rfl rfl (nlt rfl) rfl ⟨rfl, Nat.le_of_ble_eq_true rfl, Nat.le_of_ble_eq_true rfl⟩ rfl (jc.deep (c_Machine_fail hC_M (FR.rfl _ M) (by omega) (fun M13 hC_M13 hf_M13  => ?_)) (Nat.le_of_ble_eq_true rfl))
        have ht_M13 : FR W_c_Machine_makeList T M13 := FR.t ht_M hf_M13 (kw_sub rfl)
        refine jr.goto rfl rfl ?_
        exact jr.vreturn rfl rfl (q _ hC_M13 ht_M13  )
    · refine jr.aload_n rfl rfl ?_
      refine jr.iconst rfl ?_
      refine jr_v rfl rfl (Or.inl rfl) rfl rfl (nlt rfl) rfl ⟨rfl, Nat.le_of_ble_eq_true rfl, Nat.le_of_ble_eq_true rfl⟩ rfl (jc.deep (c_Machine_fail hC_M (FR.rfl _ M) (by omega) (fun M14 hC_M14 hf_M14  => ?_)) (Nat.le_of_ble_eq_true rfl))
      have ht_M14 : FR W_c_Machine_makeList T M14 := FR.t ht_M hf_M14 (kw_sub rfl)
      refine jr.goto rfl rfl ?_
      exact jr.vreturn rfl rfl (q _ hC_M14 ht_M14  )
  · have sx11 : (1 : Int) ≤ r2 := by omega
    clear h11
    refine jr.aload_n rfl rfl ?_
    refine jr.iconst rfl ?_
    refine jr_v rfl rfl (Or.inl rfl) rfl rfl (nlt rfl) rfl ⟨rfl, Nat.le_of_ble_eq_true rfl, Nat.le_of_ble_eq_true rfl⟩ rfl (jc.deep (c_Machine_fail hC_M (FR.rfl _ M) (by omega) (fun M15 hC_M15 hf_M15  => ?_)) (Nat.le_of_ble_eq_true rfl))
    have ht_M15 : FR W_c_Machine_makeList T M15 := FR.t ht_M hf_M15 (kw_sub rfl)
    refine jr.goto rfl rfl ?_
    exact jr.vreturn rfl rfl (q _ hC_M15 ht_M15  )
end
