/-! ===== the reference: contracts, c ===== -/
theorem r_read {A : Nat → Option (Nat × (Nat → Int32))} {Q : Option Value → jm → Prop} {T : jm} {M : jm} (hI_M : RI M) (hH_M : RH M) (hS_M : RF M) (ht_M : Kp T M) {x : Int} (h_x : (-2147483648) ≤ x ∧ x ≤ 2147483647) (q : ∀ (r : Int) (M' : jm), RI M' → RH M' → RF M' → Kp T M' → (-20) ≤ r ∧ r ≤ 12 → Q (some (.int (Int32.ofInt r))) M') : jc A 5 267 [.ref (598), .int (Int32.ofInt (x))] M Q := by
  refine jc_of (m := xm_267) rfl (Nat.le_of_ble_eq_true rfl) rfl ?_
  refine jr.iload_n rfl rfl ?_
  refine jr_s rfl rfl (Or.inl rfl) ⟨Nat.le_of_ble_eq_true rfl, Nat.le_of_ble_eq_true rfl⟩ rfl rfl (jc.deep (c_isPN (by omega) (fun l1 u1 => ?_) (fun n1 => ?_)) (by decide))
  · refine jr.if_ne rfl rfl (by omega) (fun _ => ?_) (fun h => absurd (by decide) h)
    refine jr.aload_n rfl rfl ?_
    refine jr.getf (i := 3) (v := .ref 600) rfl rfl (by decide) rfl (by decide) rfl rfl rfl rfl ?_
    refine jr.iload_n rfl rfl ?_
    obtain ⟨v1, e1⟩ : ∃ z, M 600 x = z := ⟨_, rfl⟩
    have b1 : (-1) ≤ v1 ∧ v1 ≤ 400 := by rw [← e1]; exact (by have q := hI_M 600 x (by decide); rw [xri_row rfl rfl] at q; exact q)
    refine jr.iald (i := x) (x := v1) rfl (by decide) rfl (by decide) (by omega) (by omega) e1 ?_
    refine jr.iconst rfl ?_
    refine jr.icmp_ne rfl rfl (by omega) (by omega) (fun h17 => ?_) (fun h17 => ?_)
    · refine jr.aload_n rfl rfl ?_
      refine jr.iload_n rfl rfl ?_
      refine jr_v rfl rfl (Or.inl rfl) rfl rfl (by decide) rfl ⟨rfl, Nat.le_of_ble_eq_true rfl, Nat.le_of_ble_eq_true rfl⟩ rfl (jc.deep (r_look hI_M hH_M hS_M ht_M (by omega) (by rw [e1]; omega) (fun M2 hI_M2 hH_M2 hS_M2 ht_M2 w2_0 w2_1 w2_2 => ?_)) (by decide))
      refine jr.aload_n rfl rfl ?_
      refine jr.aload_n rfl rfl ?_
      obtain ⟨v3, e3⟩ : ∃ z, M2 598 10 = z := ⟨_, rfl⟩
      have b3 : 0 ≤ v3 ∧ v3 ≤ 6 := by rw [← e3]; exact hI_M2 598 10 (by decide)
      refine jr.getf (i := 10) (x := v3) (v := .int (Int32.ofInt (v3))) rfl rfl (by decide) rfl (by decide) rfl rfl e3 rfl ?_
      refine jr.putf (i := 13) (x := v3) rfl rfl (by decide) rfl (by decide) rfl rfl rfl rfl rfl ?_
      refine jr.aload_n rfl rfl ?_
      refine jr.aload_n rfl rfl ?_
      obtain ⟨v4, e4⟩ : ∃ z, M2 598 6 = z := ⟨_, rfl⟩
      have b4 : 0 ≤ v4 ∧ v4 ≤ 12 := by rw [← e4]; exact hI_M2 598 6 (by decide)
      refine jr.getf (i := 6) (x := v4) (v := .int (Int32.ofInt (v4))) rfl rfl (by decide) rfl (by decide) rfl rfl ((ju_i _ _ (by decide)).trans e4) rfl ?_
      refine jr.putf (i := 14) (x := v4) rfl rfl (by decide) rfl (by decide) rfl rfl rfl rfl rfl ?_
      refine jr.aload_n rfl rfl ?_
      refine jr.aload_n rfl rfl ?_
      refine jr.getf (i := 10) (x := v3) (v := .int (Int32.ofInt (v3))) rfl rfl (by decide) rfl (by decide) rfl rfl ((ju_i _ _ (by decide)).trans ((ju_i _ _ (by decide)).trans e3)) rfl ?_
      refine jr.if_ne rfl rfl (by omega) (fun h61 => ?_) (fun h61 => ?_)
      · refine jr.aload_n rfl rfl ?_
        obtain ⟨v5, e5⟩ : ∃ z, M2 598 11 = z := ⟨_, rfl⟩
        have b5 : (-1) ≤ v5 ∧ v5 ≤ 400 := by rw [← e5]; exact hI_M2 598 11 (by decide)
        refine jr.getf (i := 11) (x := v5) (v := .int (Int32.ofInt (v5))) rfl rfl (by decide) rfl (by decide) rfl rfl ((ju_i _ _ (by decide)).trans ((ju_i _ _ (by decide)).trans e5)) rfl ?_
        refine jr.putf (i := 15) (x := v5) rfl rfl (by decide) rfl (by decide) rfl rfl rfl rfl rfl ?_
        refine jr.aload_n rfl rfl ?_
        refine jr.aload_n rfl rfl ?_
        refine jr.getf (i := 10) (x := v3) (v := .int (Int32.ofInt (v3))) rfl rfl (by decide) rfl (by decide) rfl rfl ((ju_i _ _ (by decide)).trans ((ju_i _ _ (by decide)).trans ((ju_i _ _ (by decide)).trans e3))) rfl ?_
        refine jr.if_ne rfl rfl (by omega) (fun h80 => ?_) (fun h80 => ?_)
        · refine jr.aload_n rfl rfl ?_
          obtain ⟨v6, e6⟩ : ∃ z, M2 598 12 = z := ⟨_, rfl⟩
          have b6 : (-1) ≤ v6 ∧ v6 ≤ 11 := by rw [← e6]; exact hI_M2 598 12 (by decide)
          refine jr.getf (i := 12) (x := v6) (v := .int (Int32.ofInt (v6))) rfl rfl (by decide) rfl (by decide) rfl rfl ((ju_i _ _ (by decide)).trans ((ju_i _ _ (by decide)).trans ((ju_i _ _ (by decide)).trans e6))) rfl ?_
          refine jr.putf (i := 16) (x := v6) rfl rfl (by decide) rfl (by decide) rfl rfl rfl rfl rfl ?_
          refine jr.aload_n rfl rfl ?_
          refine jr.getf (i := 10) (x := v3) (v := .int (Int32.ofInt (v3))) rfl rfl (by decide) rfl (by decide) rfl rfl ((ju_i _ _ (by decide)).trans ((ju_i _ _ (by decide)).trans ((ju_i _ _ (by decide)).trans ((ju_i _ _ (by decide)).trans e3)))) rfl ?_
          refine jr.if_ne rfl rfl (by omega) (fun h98 => ?_) (fun h98 => ?_)
          · refine jr.bipush rfl (by decide) ?_
            refine jr.aload_n rfl rfl ?_
            refine jr.getf (i := 10) (x := v3) (v := .int (Int32.ofInt (v3))) rfl rfl (by decide) rfl (by decide) rfl rfl ((ju_i _ _ (by decide)).trans ((ju_i _ _ (by decide)).trans ((ju_i _ _ (by decide)).trans ((ju_i _ _ (by decide)).trans e3)))) rfl ?_
            refine jr.isub rfl ?_
            exact jr.ireturn rfl rfl rfl (q _ _ (RI.u (RI.u (RI.u (RI.u hI_M2 (a := 598) (i := 13) (show (-1 : Int) ≤ _ ∧ _ ≤ (6 : Int) from by omega)) (a := 598) (i := 14) (show (-1 : Int) ≤ _ ∧ _ ≤ (12 : Int) from by omega)) (a := 598) (i := 15) (show (-1 : Int) ≤ _ ∧ _ ≤ (400 : Int) from by omega)) (a := 598) (i := 16) (show (-1 : Int) ≤ _ ∧ _ ≤ (11 : Int) from by omega)) (RH.o (RH.o (RH.o (RH.o hH_M2 (by decide) (by decide) (by decide)) (by decide) (by decide) (by decide)) (by decide) (by decide) (by decide)) (by decide) (by decide) (by decide)) (RF.o (RF.o (RF.o (RF.o hS_M2 (by decide) (by decide)) (by decide) (by decide)) (by decide) (by decide)) (by decide) (by decide)) (Kp.o (Kp.o (Kp.o (Kp.o ht_M2 rfl) rfl) rfl) rfl) (by omega) )
          · exact absurd (by omega) h98
        · exact absurd (by omega) h80
      · refine jr.iconst rfl ?_
        refine jr.goto rfl rfl ?_
        refine jr.putf (i := 15) (x := (-1)) rfl rfl (by decide) rfl (by decide) rfl rfl rfl rfl rfl ?_
        refine jr.aload_n rfl rfl ?_
        refine jr.aload_n rfl rfl ?_
        refine jr.getf (i := 10) (x := v3) (v := .int (Int32.ofInt (v3))) rfl rfl (by decide) rfl (by decide) rfl rfl ((ju_i _ _ (by decide)).trans ((ju_i _ _ (by decide)).trans ((ju_i _ _ (by decide)).trans e3))) rfl ?_
        refine jr.if_ne rfl rfl (by omega) (fun h80 => ?_) (fun h80 => ?_)
        · exact absurd h80 (by omega)
        · refine jr.iconst rfl ?_
          refine jr.goto rfl rfl ?_
          refine jr.putf (i := 16) (x := (-1)) rfl rfl (by decide) rfl (by decide) rfl rfl rfl rfl rfl ?_
          refine jr.aload_n rfl rfl ?_
          refine jr.getf (i := 10) (x := v3) (v := .int (Int32.ofInt (v3))) rfl rfl (by decide) rfl (by decide) rfl rfl ((ju_i _ _ (by decide)).trans ((ju_i _ _ (by decide)).trans ((ju_i _ _ (by decide)).trans ((ju_i _ _ (by decide)).trans e3)))) rfl ?_
          refine jr.if_ne rfl rfl (by omega) (fun h98 => ?_) (fun h98 => ?_)
          · exact absurd h98 (by omega)
          · refine jr.aload_n rfl rfl ?_
            refine jr.getf (i := 6) (x := v4) (v := .int (Int32.ofInt (v4))) rfl rfl (by decide) rfl (by decide) rfl rfl ((ju_i _ _ (by decide)).trans ((ju_i _ _ (by decide)).trans ((ju_i _ _ (by decide)).trans ((ju_i _ _ (by decide)).trans e4)))) rfl ?_
            refine jr.goto rfl rfl ?_
            exact jr.ireturn rfl rfl rfl (q _ _ (RI.u (RI.u (RI.u (RI.u hI_M2 (a := 598) (i := 13) (show (-1 : Int) ≤ _ ∧ _ ≤ (6 : Int) from by omega)) (a := 598) (i := 14) (show (-1 : Int) ≤ _ ∧ _ ≤ (12 : Int) from by omega)) (a := 598) (i := 15) (show (-1 : Int) ≤ _ ∧ _ ≤ (400 : Int) from by omega)) (a := 598) (i := 16) (show (-1 : Int) ≤ _ ∧ _ ≤ (11 : Int) from by omega)) (RH.o (RH.o (RH.o (RH.o hH_M2 (by decide) (by decide) (by decide)) (by decide) (by decide) (by decide)) (by decide) (by decide) (by decide)) (by decide) (by decide) (by decide)) (RF.o (RF.o (RF.o (RF.o hS_M2 (by decide) (by decide)) (by decide) (by decide)) (by decide) (by decide)) (by decide) (by decide)) (Kp.o (Kp.o (Kp.o (Kp.o ht_M2 rfl) rfl) rfl) rfl) (by omega) )
    · refine jr.aload_n rfl rfl ?_
      refine jr.iconst rfl ?_
      refine jr.putf (i := 6) (x := 0) rfl rfl (by decide) rfl (by decide) rfl rfl rfl rfl rfl ?_
      refine jr.aload_n rfl rfl ?_
      refine jr.iconst rfl ?_
      refine jr.iconst rfl ?_
      refine jr.iconst rfl ?_
      refine jr_v rfl rfl (Or.inl rfl) rfl rfl (by decide) rfl ⟨rfl, Nat.le_of_ble_eq_true rfl, Nat.le_of_ble_eq_true rfl⟩ rfl (jc.deep (r_finds (RI.u hI_M (a := 598) (i := 6) (show (0 : Int) ≤ _ ∧ _ ≤ (12 : Int) from by omega)) (RH.o hH_M (by decide) (by decide) (by decide)) (RF.o hS_M (by decide) (by decide)) (Kp.o ht_M rfl) (by omega) (by omega) (by omega)  (fun M7 hI_M7 hH_M7 hS_M7 ht_M7 w7_0 w7_1 => ?_)) (by decide))
      refine jr.goto rfl rfl ?_
      refine jr.aload_n rfl rfl ?_
      refine jr.aload_n rfl rfl ?_
      obtain ⟨v8, e8⟩ : ∃ z, M7 598 10 = z := ⟨_, rfl⟩
      have b8 : 0 ≤ v8 ∧ v8 ≤ 6 := by rw [← e8]; exact hI_M7 598 10 (by decide)
      refine jr.getf (i := 10) (x := v8) (v := .int (Int32.ofInt (v8))) rfl rfl (by decide) rfl (by decide) rfl rfl e8 rfl ?_
      refine jr.putf (i := 13) (x := v8) rfl rfl (by decide) rfl (by decide) rfl rfl rfl rfl rfl ?_
      refine jr.aload_n rfl rfl ?_
      refine jr.aload_n rfl rfl ?_
      have e9 : M7 598 6 = 0 := ((w7_1 6 (by decide) (by decide) (by decide)).trans (ju_same _ _ _ _))
      refine jr.getf (i := 6) (x := 0) (v := .int (Int32.ofInt (0))) rfl rfl (by decide) rfl (by decide) rfl rfl ((ju_i _ _ (by decide)).trans e9) rfl ?_
      refine jr.putf (i := 14) (x := 0) rfl rfl (by decide) rfl (by decide) rfl rfl rfl rfl rfl ?_
      refine jr.aload_n rfl rfl ?_
      refine jr.aload_n rfl rfl ?_
      refine jr.getf (i := 10) (x := v8) (v := .int (Int32.ofInt (v8))) rfl rfl (by decide) rfl (by decide) rfl rfl ((ju_i _ _ (by decide)).trans ((ju_i _ _ (by decide)).trans e8)) rfl ?_
      refine jr.if_ne rfl rfl (by omega) (fun h61 => ?_) (fun h61 => ?_)
      · refine jr.aload_n rfl rfl ?_
        obtain ⟨v10, e10⟩ : ∃ z, M7 598 11 = z := ⟨_, rfl⟩
        have b10 : (-1) ≤ v10 ∧ v10 ≤ 400 := by rw [← e10]; exact hI_M7 598 11 (by decide)
        refine jr.getf (i := 11) (x := v10) (v := .int (Int32.ofInt (v10))) rfl rfl (by decide) rfl (by decide) rfl rfl ((ju_i _ _ (by decide)).trans ((ju_i _ _ (by decide)).trans e10)) rfl ?_
        refine jr.putf (i := 15) (x := v10) rfl rfl (by decide) rfl (by decide) rfl rfl rfl rfl rfl ?_
        refine jr.aload_n rfl rfl ?_
        refine jr.aload_n rfl rfl ?_
        refine jr.getf (i := 10) (x := v8) (v := .int (Int32.ofInt (v8))) rfl rfl (by decide) rfl (by decide) rfl rfl ((ju_i _ _ (by decide)).trans ((ju_i _ _ (by decide)).trans ((ju_i _ _ (by decide)).trans e8))) rfl ?_
        refine jr.if_ne rfl rfl (by omega) (fun h80 => ?_) (fun h80 => ?_)
        · refine jr.aload_n rfl rfl ?_
          obtain ⟨v11, e11⟩ : ∃ z, M7 598 12 = z := ⟨_, rfl⟩
          have b11 : (-1) ≤ v11 ∧ v11 ≤ 11 := by rw [← e11]; exact hI_M7 598 12 (by decide)
          refine jr.getf (i := 12) (x := v11) (v := .int (Int32.ofInt (v11))) rfl rfl (by decide) rfl (by decide) rfl rfl ((ju_i _ _ (by decide)).trans ((ju_i _ _ (by decide)).trans ((ju_i _ _ (by decide)).trans e11))) rfl ?_
          refine jr.putf (i := 16) (x := v11) rfl rfl (by decide) rfl (by decide) rfl rfl rfl rfl rfl ?_
          refine jr.aload_n rfl rfl ?_
          refine jr.getf (i := 10) (x := v8) (v := .int (Int32.ofInt (v8))) rfl rfl (by decide) rfl (by decide) rfl rfl ((ju_i _ _ (by decide)).trans ((ju_i _ _ (by decide)).trans ((ju_i _ _ (by decide)).trans ((ju_i _ _ (by decide)).trans e8)))) rfl ?_
          refine jr.if_ne rfl rfl (by omega) (fun h98 => ?_) (fun h98 => ?_)
          · refine jr.bipush rfl (by decide) ?_
            refine jr.aload_n rfl rfl ?_
            refine jr.getf (i := 10) (x := v8) (v := .int (Int32.ofInt (v8))) rfl rfl (by decide) rfl (by decide) rfl rfl ((ju_i _ _ (by decide)).trans ((ju_i _ _ (by decide)).trans ((ju_i _ _ (by decide)).trans ((ju_i _ _ (by decide)).trans e8)))) rfl ?_
            refine jr.isub rfl ?_
            exact jr.ireturn rfl rfl rfl (q _ _ (RI.u (RI.u (RI.u (RI.u hI_M7 (a := 598) (i := 13) (show (-1 : Int) ≤ _ ∧ _ ≤ (6 : Int) from by omega)) (a := 598) (i := 14) (show (-1 : Int) ≤ _ ∧ _ ≤ (12 : Int) from by omega)) (a := 598) (i := 15) (show (-1 : Int) ≤ _ ∧ _ ≤ (400 : Int) from by omega)) (a := 598) (i := 16) (show (-1 : Int) ≤ _ ∧ _ ≤ (11 : Int) from by omega)) (RH.o (RH.o (RH.o (RH.o hH_M7 (by decide) (by decide) (by decide)) (by decide) (by decide) (by decide)) (by decide) (by decide) (by decide)) (by decide) (by decide) (by decide)) (RF.o (RF.o (RF.o (RF.o hS_M7 (by decide) (by decide)) (by decide) (by decide)) (by decide) (by decide)) (by decide) (by decide)) (Kp.o (Kp.o (Kp.o (Kp.o ht_M7 rfl) rfl) rfl) rfl) (by omega) )
          · exact absurd (by omega) h98
        · exact absurd (by omega) h80
      · refine jr.iconst rfl ?_
        refine jr.goto rfl rfl ?_
        refine jr.putf (i := 15) (x := (-1)) rfl rfl (by decide) rfl (by decide) rfl rfl rfl rfl rfl ?_
        refine jr.aload_n rfl rfl ?_
        refine jr.aload_n rfl rfl ?_
        refine jr.getf (i := 10) (x := v8) (v := .int (Int32.ofInt (v8))) rfl rfl (by decide) rfl (by decide) rfl rfl ((ju_i _ _ (by decide)).trans ((ju_i _ _ (by decide)).trans ((ju_i _ _ (by decide)).trans e8))) rfl ?_
        refine jr.if_ne rfl rfl (by omega) (fun h80 => ?_) (fun h80 => ?_)
        · exact absurd h80 (by omega)
        · refine jr.iconst rfl ?_
          refine jr.goto rfl rfl ?_
          refine jr.putf (i := 16) (x := (-1)) rfl rfl (by decide) rfl (by decide) rfl rfl rfl rfl rfl ?_
          refine jr.aload_n rfl rfl ?_
          refine jr.getf (i := 10) (x := v8) (v := .int (Int32.ofInt (v8))) rfl rfl (by decide) rfl (by decide) rfl rfl ((ju_i _ _ (by decide)).trans ((ju_i _ _ (by decide)).trans ((ju_i _ _ (by decide)).trans ((ju_i _ _ (by decide)).trans e8)))) rfl ?_
          refine jr.if_ne rfl rfl (by omega) (fun h98 => ?_) (fun h98 => ?_)
          · exact absurd h98 (by omega)
          · refine jr.aload_n rfl rfl ?_
            refine jr.getf (i := 6) (x := 0) (v := .int (Int32.ofInt (0))) rfl rfl (by decide) rfl (by decide) rfl rfl ((ju_i _ _ (by decide)).trans ((ju_i _ _ (by decide)).trans ((ju_i _ _ (by decide)).trans ((ju_i _ _ (by decide)).trans e9)))) rfl ?_
            refine jr.goto rfl rfl ?_
            exact jr.ireturn rfl rfl rfl (q _ _ (RI.u (RI.u (RI.u (RI.u hI_M7 (a := 598) (i := 13) (show (-1 : Int) ≤ _ ∧ _ ≤ (6 : Int) from by omega)) (a := 598) (i := 14) (show (-1 : Int) ≤ _ ∧ _ ≤ (12 : Int) from by omega)) (a := 598) (i := 15) (show (-1 : Int) ≤ _ ∧ _ ≤ (400 : Int) from by omega)) (a := 598) (i := 16) (show (-1 : Int) ≤ _ ∧ _ ≤ (11 : Int) from by omega)) (RH.o (RH.o (RH.o (RH.o hH_M7 (by decide) (by decide) (by decide)) (by decide) (by decide) (by decide)) (by decide) (by decide) (by decide)) (by decide) (by decide) (by decide)) (RF.o (RF.o (RF.o (RF.o hS_M7 (by decide) (by decide)) (by decide) (by decide)) (by decide) (by decide)) (by decide) (by decide)) (Kp.o (Kp.o (Kp.o (Kp.o ht_M7 rfl) rfl) rfl) rfl) (by omega) )
  · refine jr.if_ne rfl rfl (by omega) (fun h => absurd h (by decide)) (fun _ => ?_)
    refine jr.bipush rfl (by decide) ?_
    exact jr.ireturn rfl rfl rfl (q _ _ hI_M hH_M hS_M ht_M (by omega) )
theorem r_finding {A : Nat → Option (Nat × (Nat → Int32))} {Q : Option Value → jm → Prop} {T : jm} {M : jm} (hI_M : RI M) (hH_M : RH M) (hS_M : RF M) (ht_M : Kp T M) {w : Int} (h_w : (-2147483648) ≤ w ∧ w ≤ 2147483647) (q : ∀ (r : Int) (M' : jm), RI M' → RH M' → RF M' → Kp T M' → (-3) ≤ r ∧ r ≤ 400 → Q (some (.int (Int32.ofInt r))) M') : jc A 1 268 [.ref (598), .int (Int32.ofInt (w))] M Q := by
  refine jc_of (m := xm_268) rfl (Nat.le_of_ble_eq_true rfl) rfl ?_
  refine jr.iload_n rfl rfl ?_
  rcases (show w = 0 ∨ w = 1 ∨ w = 2 ∨ (w ≠ 0 ∧ w ≠ 1 ∧ w ≠ 2) by omega) with h1 | h1 | h1 | h1
  · refine jr.tsw_k 0 rfl h1 rfl ?_
    refine jr.aload_n rfl rfl ?_
    obtain ⟨v1, e1⟩ : ∃ z, M 598 13 = z := ⟨_, rfl⟩
    have b1 : (-1) ≤ v1 ∧ v1 ≤ 6 := by rw [← e1]; exact hI_M 598 13 (by decide)
    refine jr.getf (i := 13) (x := v1) (v := .int (Int32.ofInt (v1))) rfl rfl (by decide) rfl (by decide) rfl rfl e1 rfl ?_
    refine jr.iconst rfl ?_
    refine jr.icmp_ne rfl rfl (by omega) (by omega) (fun h33 => ?_) (fun h33 => ?_)
    · refine jr.aload_n rfl rfl ?_
      refine jr.getf (i := 13) (x := v1) (v := .int (Int32.ofInt (v1))) rfl rfl (by decide) rfl (by decide) rfl rfl e1 rfl ?_
      exact jr.ireturn rfl rfl rfl (q _ _ hI_M hH_M hS_M ht_M (by omega) )
    · refine jr.iconst rfl ?_
      refine jr.goto rfl rfl ?_
      exact jr.ireturn rfl rfl rfl (q _ _ hI_M hH_M hS_M ht_M (by omega) )
  · refine jr.tsw_k 1 rfl h1 rfl ?_
    refine jr.aload_n rfl rfl ?_
    obtain ⟨v2, e2⟩ : ∃ z, M 598 14 = z := ⟨_, rfl⟩
    have b2 : (-1) ≤ v2 ∧ v2 ≤ 12 := by rw [← e2]; exact hI_M 598 14 (by decide)
    refine jr.getf (i := 14) (x := v2) (v := .int (Int32.ofInt (v2))) rfl rfl (by decide) rfl (by decide) rfl rfl e2 rfl ?_
    exact jr.ireturn rfl rfl rfl (q _ _ hI_M hH_M hS_M ht_M (by omega) )
  · refine jr.tsw_k 2 rfl h1 rfl ?_
    refine jr.aload_n rfl rfl ?_
    obtain ⟨v3, e3⟩ : ∃ z, M 598 15 = z := ⟨_, rfl⟩
    have b3 : (-1) ≤ v3 ∧ v3 ≤ 400 := by rw [← e3]; exact hI_M 598 15 (by decide)
    refine jr.getf (i := 15) (x := v3) (v := .int (Int32.ofInt (v3))) rfl rfl (by decide) rfl (by decide) rfl rfl e3 rfl ?_
    exact jr.ireturn rfl rfl rfl (q _ _ hI_M hH_M hS_M ht_M (by omega) )
  · refine jr.tsw_d rfl (by omega) (by omega) rfl ?_
    refine jr.iload_n rfl rfl ?_
    refine jr.iconst rfl ?_
    refine jr.icmp_ne rfl rfl (by omega) (by omega) (fun h57 => ?_) (fun h57 => ?_)
    · refine jr.bipush rfl (by decide) ?_
      exact jr.ireturn rfl rfl rfl (q _ _ hI_M hH_M hS_M ht_M (by omega) )
    · refine jr.aload_n rfl rfl ?_
      obtain ⟨v4, e4⟩ : ∃ z, M 598 16 = z := ⟨_, rfl⟩
      have b4 : (-1) ≤ v4 ∧ v4 ≤ 11 := by rw [← e4]; exact hI_M 598 16 (by decide)
      refine jr.getf (i := 16) (x := v4) (v := .int (Int32.ofInt (v4))) rfl rfl (by decide) rfl (by decide) rfl rfl e4 rfl ?_
      refine jr.goto rfl rfl ?_
      exact jr.ireturn rfl rfl rfl (q _ _ hI_M hH_M hS_M ht_M (by omega) )
theorem r_kind {A : Nat → Option (Nat × (Nat → Int32))} {Q : Option Value → jm → Prop} {T : jm} {M : jm} (hI_M : RI M) (hH_M : RH M) (hS_M : RF M) (ht_M : Kp T M) {x : Int} (h_x : (-2147483648) ≤ x ∧ x ≤ 2147483647) {h : Int} (h_h : (-2147483648) ≤ h ∧ h ≤ 2147483647) (q : ∀ (r : Int) (M' : jm), RI M' → RH M' → RF M' → Kp T M' → (-2) ≤ r ∧ r ≤ 11 → Q (some (.int (Int32.ofInt r))) M') : jc A 5 269 [.ref (598), .int (Int32.ofInt (x)), .int (Int32.ofInt (h))] M Q := by
  refine jc_of (m := xm_269) rfl (Nat.le_of_ble_eq_true rfl) rfl ?_
  refine jr.aload_n rfl rfl ?_
  refine jr.iload_n rfl rfl ?_
  refine jr_v rfl rfl (Or.inl rfl) rfl rfl (by decide) rfl ⟨rfl, Nat.le_of_ble_eq_true rfl, Nat.le_of_ble_eq_true rfl⟩ rfl (jc.deep (c_isThere hI_M (by omega) (fun l2 u2 t2 => ?_) (fun n2 => ?_)) (by decide))
  · refine jr.if_ne rfl rfl (by omega) (fun _ => ?_) (fun h => absurd (by decide) h)
    refine jr.aload_n rfl rfl ?_
    refine jr.iload_n rfl rfl ?_
    obtain ⟨v2, e2⟩ : ∃ z, M 600 x = z := ⟨_, rfl⟩
    have b2 : (-1) ≤ v2 ∧ v2 ≤ 400 := by rw [← e2]; exact (by have q := hI_M 600 x (by decide); rw [xri_row rfl rfl] at q; exact q)
    refine jr_v rfl rfl (Or.inl rfl) rfl rfl (by decide) rfl ⟨rfl, Nat.le_of_ble_eq_true rfl, Nat.le_of_ble_eq_true rfl⟩ rfl (jc.deep (r_look hI_M hH_M hS_M ht_M (by omega) (by rw [e2]; omega) (fun M1 hI_M1 hH_M1 hS_M1 ht_M1 w1_0 w1_1 w1_2 => ?_)) (by decide))
    refine jr.iload_n rfl rfl ?_
    refine jr.i2l rfl (by omega) ?_
    refine jr.lconst (x := 0) rfl (by decide) ?_
    refine jr.aload_n rfl rfl ?_
    obtain ⟨v3, e3⟩ : ∃ z, M1 598 6 = z := ⟨_, rfl⟩
    have b3 : 0 ≤ v3 ∧ v3 ≤ 12 := by rw [← e3]; exact hI_M1 598 6 (by decide)
    refine jr.getf (i := 6) (x := v3) (v := .int (Int32.ofInt (v3))) rfl rfl (by decide) rfl (by decide) rfl rfl e3 rfl ?_
    refine jr.iconst rfl ?_
    refine jr.isub rfl ?_
    refine jr.i2l rfl (by omega) ?_
    refine jr_s rfl rfl (Or.inl rfl) ⟨Nat.le_of_ble_eq_true rfl, Nat.le_of_ble_eq_true rfl⟩ rfl rfl (jc.deep (c_within (by omega) (by omega) (by omega) (fun l26 u26 => ?_) (fun n26 => ?_)) (by decide))
    · refine jr.if_eq rfl rfl (by omega) (fun h => absurd h (by decide)) (fun _ => ?_)
      refine jr.aload_n rfl rfl ?_
      refine jr.getf (i := 7) (v := .ref 603) rfl rfl (by decide) rfl (by decide) rfl rfl rfl rfl ?_
      refine jr.iload_n rfl rfl ?_
      obtain ⟨v4, e4⟩ : ∃ z, M1 603 h = z := ⟨_, rfl⟩
      have b4 : 0 ≤ v4 ∧ v4 ≤ 11 := by rw [← e4]; exact (by have q := hI_M1 603 h (by decide); rw [xri_row rfl rfl] at q; exact q)
      refine jr.iald (i := h) (x := v4) rfl (by decide) rfl (by decide) (by omega) (by omega) e4 ?_
      refine jr.goto rfl rfl ?_
      exact jr.ireturn rfl rfl rfl (q _ _ hI_M1 hH_M1 hS_M1 ht_M1 (by omega) )
    · refine jr.if_eq rfl rfl (by omega) (fun _ => ?_) (fun h => absurd (by decide) h)
      refine jr.iconst rfl ?_
      exact jr.ireturn rfl rfl rfl (q _ _ hI_M1 hH_M1 hS_M1 ht_M1 (by omega) )
  · refine jr.if_ne rfl rfl (by omega) (fun h => absurd h (by decide)) (fun _ => ?_)
    refine jr.bipush rfl (by decide) ?_
    exact jr.ireturn rfl rfl rfl (q _ _ hI_M hH_M hS_M ht_M (by omega) )
theorem r_place {A : Nat → Option (Nat × (Nat → Int32))} {Q : Option Value → jm → Prop} {T : jm} {M : jm} (hI_M : RI M) (hH_M : RH M) (hS_M : RF M) (ht_M : Kp T M) {x : Int} (h_x : (-2147483648) ≤ x ∧ x ≤ 2147483647) {h : Int} (h_h : (-2147483648) ≤ h ∧ h ≤ 2147483647) (q : ∀ (r : Int) (M' : jm), RI M' → RH M' → RF M' → Kp T M' → (-2) ≤ r ∧ r ≤ 400 → Q (some (.int (Int32.ofInt r))) M') : jc A 5 270 [.ref (598), .int (Int32.ofInt (x)), .int (Int32.ofInt (h))] M Q := by
  refine jc_of (m := xm_270) rfl (Nat.le_of_ble_eq_true rfl) rfl ?_
  refine jr.aload_n rfl rfl ?_
  refine jr.iload_n rfl rfl ?_
  refine jr_v rfl rfl (Or.inl rfl) rfl rfl (by decide) rfl ⟨rfl, Nat.le_of_ble_eq_true rfl, Nat.le_of_ble_eq_true rfl⟩ rfl (jc.deep (c_isThere hI_M (by omega) (fun l2 u2 t2 => ?_) (fun n2 => ?_)) (by decide))
  · refine jr.if_ne rfl rfl (by omega) (fun _ => ?_) (fun h => absurd (by decide) h)
    refine jr.aload_n rfl rfl ?_
    refine jr.iload_n rfl rfl ?_
    obtain ⟨v2, e2⟩ : ∃ z, M 600 x = z := ⟨_, rfl⟩
    have b2 : (-1) ≤ v2 ∧ v2 ≤ 400 := by rw [← e2]; exact (by have q := hI_M 600 x (by decide); rw [xri_row rfl rfl] at q; exact q)
    refine jr_v rfl rfl (Or.inl rfl) rfl rfl (by decide) rfl ⟨rfl, Nat.le_of_ble_eq_true rfl, Nat.le_of_ble_eq_true rfl⟩ rfl (jc.deep (r_look hI_M hH_M hS_M ht_M (by omega) (by rw [e2]; omega) (fun M1 hI_M1 hH_M1 hS_M1 ht_M1 w1_0 w1_1 w1_2 => ?_)) (by decide))
    refine jr.iload_n rfl rfl ?_
    refine jr.i2l rfl (by omega) ?_
    refine jr.lconst (x := 0) rfl (by decide) ?_
    refine jr.aload_n rfl rfl ?_
    obtain ⟨v3, e3⟩ : ∃ z, M1 598 6 = z := ⟨_, rfl⟩
    have b3 : 0 ≤ v3 ∧ v3 ≤ 12 := by rw [← e3]; exact hI_M1 598 6 (by decide)
    refine jr.getf (i := 6) (x := v3) (v := .int (Int32.ofInt (v3))) rfl rfl (by decide) rfl (by decide) rfl rfl e3 rfl ?_
    refine jr.iconst rfl ?_
    refine jr.isub rfl ?_
    refine jr.i2l rfl (by omega) ?_
    refine jr_s rfl rfl (Or.inl rfl) ⟨Nat.le_of_ble_eq_true rfl, Nat.le_of_ble_eq_true rfl⟩ rfl rfl (jc.deep (c_within (by omega) (by omega) (by omega) (fun l26 u26 => ?_) (fun n26 => ?_)) (by decide))
    · refine jr.if_eq rfl rfl (by omega) (fun h => absurd h (by decide)) (fun _ => ?_)
      refine jr.aload_n rfl rfl ?_
      refine jr.getf (i := 8) (v := .ref 604) rfl rfl (by decide) rfl (by decide) rfl rfl rfl rfl ?_
      refine jr.iload_n rfl rfl ?_
      obtain ⟨v4, e4⟩ : ∃ z, M1 604 h = z := ⟨_, rfl⟩
      have b4 : 0 ≤ v4 ∧ v4 ≤ 400 := by rw [← e4]; exact (by have q := hI_M1 604 h (by decide); rw [xri_row rfl rfl] at q; exact q)
      refine jr.iald (i := h) (x := v4) rfl (by decide) rfl (by decide) (by omega) (by omega) e4 ?_
      refine jr.goto rfl rfl ?_
      exact jr.ireturn rfl rfl rfl (q _ _ hI_M1 hH_M1 hS_M1 ht_M1 (by omega) )
    · refine jr.if_eq rfl rfl (by omega) (fun _ => ?_) (fun h => absurd (by decide) h)
      refine jr.iconst rfl ?_
      exact jr.ireturn rfl rfl rfl (q _ _ hI_M1 hH_M1 hS_M1 ht_M1 (by omega) )
  · refine jr.if_ne rfl rfl (by omega) (fun h => absurd h (by decide)) (fun _ => ?_)
    refine jr.bipush rfl (by decide) ?_
    exact jr.ireturn rfl rfl rfl (q _ _ hI_M hH_M hS_M ht_M (by omega) )
theorem r_fields {A : Nat → Option (Nat × (Nat → Int32))} {Q : Option Value → jm → Prop} {T : jm} {M : jm} (hI_M : RI M) (hH_M : RH M) (hS_M : RF M) (ht_M : Kp T M) {k : Int} (h_k : 0 ≤ k ∧ k ≤ 11) (q : ∀ (r : Int), 1 ≤ r ∧ r ≤ 11 → r = fldn k → Q (some (.int (Int32.ofInt r))) M) : jc A 1 271 [.int (Int32.ofInt (k))] M Q := by
  rcases (show k = 0 ∨ k = 1 ∨ k = 2 ∨ k = 3 ∨ k = 4 ∨ k = 5 ∨ k = 6 ∨ k = 7 ∨ k = 8 ∨ k = 9 ∨ k = 10 ∨ k = 11 by omega) with rfl | rfl | rfl | rfl | rfl | rfl | rfl | rfl | rfl | rfl | rfl | rfl
  · refine jc_of (m := xm_271) rfl (Nat.le_of_ble_eq_true rfl) rfl ?_
    refine jr.iload_n rfl rfl ?_
    refine jr.tsw_k 0 rfl rfl rfl ?_
    refine jr.iconst rfl ?_
    exact jr.ireturn rfl rfl rfl (q _ (by omega) (by decide))
  · refine jc_of (m := xm_271) rfl (Nat.le_of_ble_eq_true rfl) rfl ?_
    refine jr.iload_n rfl rfl ?_
    refine jr.tsw_k 1 rfl rfl rfl ?_
    refine jr.iconst rfl ?_
    exact jr.ireturn rfl rfl rfl (q _ (by omega) (by decide))
  · refine jc_of (m := xm_271) rfl (Nat.le_of_ble_eq_true rfl) rfl ?_
    refine jr.iload_n rfl rfl ?_
    refine jr.tsw_k 2 rfl rfl rfl ?_
    refine jr.bipush rfl (by decide) ?_
    exact jr.ireturn rfl rfl rfl (q _ (by omega) (by decide))
  · refine jc_of (m := xm_271) rfl (Nat.le_of_ble_eq_true rfl) rfl ?_
    refine jr.iload_n rfl rfl ?_
    refine jr.tsw_k 3 rfl rfl rfl ?_
    refine jr.bipush rfl (by decide) ?_
    exact jr.ireturn rfl rfl rfl (q _ (by omega) (by decide))
  · refine jc_of (m := xm_271) rfl (Nat.le_of_ble_eq_true rfl) rfl ?_
    refine jr.iload_n rfl rfl ?_
    refine jr.tsw_k 4 rfl rfl rfl ?_
    refine jr.iconst rfl ?_
    exact jr.ireturn rfl rfl rfl (q _ (by omega) (by decide))
  · refine jc_of (m := xm_271) rfl (Nat.le_of_ble_eq_true rfl) rfl ?_
    refine jr.iload_n rfl rfl ?_
    refine jr.tsw_k 5 rfl rfl rfl ?_
    refine jr.iconst rfl ?_
    exact jr.ireturn rfl rfl rfl (q _ (by omega) (by decide))
  · refine jc_of (m := xm_271) rfl (Nat.le_of_ble_eq_true rfl) rfl ?_
    refine jr.iload_n rfl rfl ?_
    refine jr.tsw_k 6 rfl rfl rfl ?_
    refine jr.iconst rfl ?_
    exact jr.ireturn rfl rfl rfl (q _ (by omega) (by decide))
  · refine jc_of (m := xm_271) rfl (Nat.le_of_ble_eq_true rfl) rfl ?_
    refine jr.iload_n rfl rfl ?_
    refine jr.tsw_k 7 rfl rfl rfl ?_
    refine jr.iconst rfl ?_
    exact jr.ireturn rfl rfl rfl (q _ (by omega) (by decide))
  · refine jc_of (m := xm_271) rfl (Nat.le_of_ble_eq_true rfl) rfl ?_
    refine jr.iload_n rfl rfl ?_
    refine jr.tsw_k 8 rfl rfl rfl ?_
    refine jr.bipush rfl (by decide) ?_
    exact jr.ireturn rfl rfl rfl (q _ (by omega) (by decide))
  · refine jc_of (m := xm_271) rfl (Nat.le_of_ble_eq_true rfl) rfl ?_
    refine jr.iload_n rfl rfl ?_
    refine jr.tsw_k 9 rfl rfl rfl ?_
    refine jr.iconst rfl ?_
    exact jr.ireturn rfl rfl rfl (q _ (by omega) (by decide))
  · refine jc_of (m := xm_271) rfl (Nat.le_of_ble_eq_true rfl) rfl ?_
    refine jr.iload_n rfl rfl ?_
    refine jr.tsw_k 10 rfl rfl rfl ?_
    refine jr.iconst rfl ?_
    exact jr.ireturn rfl rfl rfl (q _ (by omega) (by decide))
  · refine jc_of (m := xm_271) rfl (Nat.le_of_ble_eq_true rfl) rfl ?_
    refine jr.iload_n rfl rfl ?_
    refine jr.tsw_k 11 rfl rfl rfl ?_
    refine jr.iconst rfl ?_
    exact jr.ireturn rfl rfl rfl (q _ (by omega) (by decide))
theorem r_ofFour {A : Nat → Option (Nat × (Nat → Int32))} {Q : Option Value → jm → Prop} {T : jm} {M : jm} (hI_M : RI M) (hH_M : RH M) (hS_M : RF M) (ht_M : Kp T M) {x : Int} (h_x : 0 ≤ x ∧ x ≤ 23) {a : Int} (h_a : 0 ≤ a ∧ a ≤ 380) {f : Int} (h_f : 0 ≤ f ∧ f ≤ 10) (q : ∀ (r : Int), (-9223372036854775808) ≤ r ∧ r ≤ 9223372036854775807 → (f = 5 → 0 ≤ r ∧ r ≤ 8191) → Q (some (.long (Int64.ofInt r))) M) : jc A 4 272 [.ref (598), .int (Int32.ofInt (x)), .int (Int32.ofInt (a)), .int (Int32.ofInt (f))] M Q := by
  refine jc_of (m := xm_272) rfl (Nat.le_of_ble_eq_true rfl) rfl ?_
  refine jr.iload_n rfl rfl ?_
  rcases (show f = 0 ∨ f = 1 ∨ f = 2 ∨ f = 3 ∨ f = 4 ∨ f = 5 ∨ f = 6 ∨ f = 7 ∨ f = 8 ∨ (f ≠ 0 ∧ f ≠ 1 ∧ f ≠ 2 ∧ f ≠ 3 ∧ f ≠ 4 ∧ f ≠ 5 ∧ f ≠ 6 ∧ f ≠ 7 ∧ f ≠ 8) by omega) with h1 | h1 | h1 | h1 | h1 | h1 | h1 | h1 | h1 | h1
  · refine jr.tsw_k 0 rfl h1 rfl ?_
    refine jr.aload_n rfl rfl ?_
    refine jr.iload_n rfl rfl ?_
    refine jr.iload_n rfl rfl ?_
    refine jr_v rfl rfl (Or.inl rfl) rfl rfl (by decide) rfl ⟨rfl, Nat.le_of_ble_eq_true rfl, Nat.le_of_ble_eq_true rfl⟩ rfl (jc.deep (r_one hI_M hH_M hS_M ht_M (by omega) (by omega)  (fun r1 z1 w1_0 => ?_)) (by decide))
    refine jr.bipush rfl (by decide) ?_
    refine jr.iand rfl ?_
    have b2 : 0 ≤ j_and r1 15 ∧ j_and r1 15 ≤ 15 := j_and_le (by decide)
    generalize j_and r1 15 = v2 at b2 ⊢
    refine jr.i2l rfl (by omega) ?_
    exact jr.lreturn rfl rfl (q _ (by omega) (by omega))
  · refine jr.tsw_k 1 rfl h1 rfl ?_
    refine jr.aload_n rfl rfl ?_
    refine jr.iload_n rfl rfl ?_
    refine jr.iload_n rfl rfl ?_
    refine jr.iconst rfl ?_
    refine jr.iadd rfl ?_
    refine jr_v rfl rfl (Or.inl rfl) rfl rfl (by decide) rfl ⟨rfl, Nat.le_of_ble_eq_true rfl, Nat.le_of_ble_eq_true rfl⟩ rfl (jc.deep (r_one hI_M hH_M hS_M ht_M (by omega) (by omega)  (fun r3 z3 w3_0 => ?_)) (by decide))
    refine jr.i2l rfl (by omega) ?_
    exact jr.lreturn rfl rfl (q _ (by omega) (by omega))
  · refine jr.tsw_k 2 rfl h1 rfl ?_
    refine jr.aload_n rfl rfl ?_
    refine jr.iload_n rfl rfl ?_
    refine jr.iload_n rfl rfl ?_
    refine jr.iconst rfl ?_
    refine jr.iadd rfl ?_
    refine jr_v rfl rfl (Or.inl rfl) rfl rfl (by decide) rfl ⟨rfl, Nat.le_of_ble_eq_true rfl, Nat.le_of_ble_eq_true rfl⟩ rfl (jc.deep (r_two hI_M hH_M hS_M ht_M (by omega) (by omega)  (fun r4 z4  => ?_)) (by decide))
    refine jr.i2l rfl (by omega) ?_
    exact jr.lreturn rfl rfl (q _ (by omega) (by omega))
  · refine jr.tsw_k 3 rfl h1 rfl ?_
    refine jr.aload_n rfl rfl ?_
    refine jr.iload_n rfl rfl ?_
    refine jr.iload_n rfl rfl ?_
    refine jr.iconst rfl ?_
    refine jr.iadd rfl ?_
    refine jr_v rfl rfl (Or.inl rfl) rfl rfl (by decide) rfl ⟨rfl, Nat.le_of_ble_eq_true rfl, Nat.le_of_ble_eq_true rfl⟩ rfl (jc.deep (r_two hI_M hH_M hS_M ht_M (by omega) (by omega)  (fun r5 z5  => ?_)) (by decide))
    refine jr.i2l rfl (by omega) ?_
    exact jr.lreturn rfl rfl (q _ (by omega) (by omega))
  · refine jr.tsw_k 4 rfl h1 rfl ?_
    refine jr.aload_n rfl rfl ?_
    refine jr.iload_n rfl rfl ?_
    refine jr.iload_n rfl rfl ?_
    refine jr.bipush rfl (by decide) ?_
    refine jr.iadd rfl ?_
    refine jr_v rfl rfl (Or.inl rfl) rfl rfl (by decide) rfl ⟨rfl, Nat.le_of_ble_eq_true rfl, Nat.le_of_ble_eq_true rfl⟩ rfl (jc.deep (r_two hI_M hH_M hS_M ht_M (by omega) (by omega)  (fun r6 z6  => ?_)) (by decide))
    refine jr.bipush rfl (by decide) ?_
    refine jr.ishr rfl ?_
    have b7 : j_shr r6 13 = r6 / 8192 := j_shr_ex 13 (by decide) (by omega) (by omega)
    generalize j_shr r6 13 = v7 at b7 ⊢
    refine jr.i2l rfl (by omega) ?_
    exact jr.lreturn rfl rfl (q _ (by omega) (by omega))
  · refine jr.tsw_k 5 rfl h1 rfl ?_
    refine jr.aload_n rfl rfl ?_
    refine jr.iload_n rfl rfl ?_
    refine jr.iload_n rfl rfl ?_
    refine jr.bipush rfl (by decide) ?_
    refine jr.iadd rfl ?_
    refine jr_v rfl rfl (Or.inl rfl) rfl rfl (by decide) rfl ⟨rfl, Nat.le_of_ble_eq_true rfl, Nat.le_of_ble_eq_true rfl⟩ rfl (jc.deep (r_two hI_M hH_M hS_M ht_M (by omega) (by omega)  (fun r8 z8  => ?_)) (by decide))
    refine jr.sipush rfl (by decide) ?_
    refine jr.iand rfl ?_
    have b9 : 0 ≤ j_and r8 8191 ∧ j_and r8 8191 ≤ 8191 := j_and_le (by decide)
    generalize j_and r8 8191 = v9 at b9 ⊢
    refine jr.i2l rfl (by omega) ?_
    exact jr.lreturn rfl rfl (q _ (by omega) (by omega))
  · refine jr.tsw_k 6 rfl h1 rfl ?_
    refine jr.aload_n rfl rfl ?_
    refine jr.iload_n rfl rfl ?_
    refine jr.iload_n rfl rfl ?_
    refine jr.bipush rfl (by decide) ?_
    refine jr.iadd rfl ?_
    refine jr_v rfl rfl (Or.inl rfl) rfl rfl (by decide) rfl ⟨rfl, Nat.le_of_ble_eq_true rfl, Nat.le_of_ble_eq_true rfl⟩ rfl (jc.deep (r_one hI_M hH_M hS_M ht_M (by omega) (by omega)  (fun r10 z10 w10_0 => ?_)) (by decide))
    refine jr.i2l rfl (by omega) ?_
    exact jr.lreturn rfl rfl (q _ (by omega) (by omega))
  · refine jr.tsw_k 7 rfl h1 rfl ?_
    refine jr.aload_n rfl rfl ?_
    refine jr.iload_n rfl rfl ?_
    refine jr.iload_n rfl rfl ?_
    refine jr.bipush rfl (by decide) ?_
    refine jr.iadd rfl ?_
    refine jr_v rfl rfl (Or.inl rfl) rfl rfl (by decide) rfl ⟨rfl, Nat.le_of_ble_eq_true rfl, Nat.le_of_ble_eq_true rfl⟩ rfl (jc.deep (r_one hI_M hH_M hS_M ht_M (by omega) (by omega)  (fun r11 z11 w11_0 => ?_)) (by decide))
    refine jr.i2l rfl (by omega) ?_
    exact jr.lreturn rfl rfl (q _ (by omega) (by omega))
  · refine jr.tsw_k 8 rfl h1 rfl ?_
    refine jr.aload_n rfl rfl ?_
    refine jr.iload_n rfl rfl ?_
    refine jr.iload_n rfl rfl ?_
    refine jr.bipush rfl (by decide) ?_
    refine jr.iadd rfl ?_
    refine jr_v rfl rfl (Or.inl rfl) rfl rfl (by decide) rfl ⟨rfl, Nat.le_of_ble_eq_true rfl, Nat.le_of_ble_eq_true rfl⟩ rfl (jc.deep (r_two hI_M hH_M hS_M ht_M (by omega) (by omega)  (fun r12 z12  => ?_)) (by decide))
    refine jr.i2l rfl (by omega) ?_
    exact jr.lreturn rfl rfl (q _ (by omega) (by omega))
  · refine jr.tsw_d rfl (by omega) (by omega) rfl ?_
    refine jr.aload_n rfl rfl ?_
    refine jr.iload_n rfl rfl ?_
    refine jr.iload_n rfl rfl ?_
    refine jr.bipush rfl (by decide) ?_
    refine jr.icmp_ne rfl rfl (by omega) (by omega) (fun h160 => ?_) (fun h160 => ?_)
    · refine jr.iload_n rfl rfl ?_
      refine jr.bipush rfl (by decide) ?_
      refine jr.iadd rfl ?_
      refine jr_v rfl rfl (Or.inl rfl) rfl rfl (by decide) rfl ⟨rfl, Nat.le_of_ble_eq_true rfl, Nat.le_of_ble_eq_true rfl⟩ rfl (jc.deep (r_four hI_M hH_M hS_M ht_M (by omega) (by omega)  (fun r13 z13  => ?_)) (by decide))
      exact jr.lreturn rfl rfl (q _ (by omega) (by omega))
    · refine jr.iload_n rfl rfl ?_
      refine jr.bipush rfl (by decide) ?_
      refine jr.iadd rfl ?_
      refine jr.goto rfl rfl ?_
      refine jr_v rfl rfl (Or.inl rfl) rfl rfl (by decide) rfl ⟨rfl, Nat.le_of_ble_eq_true rfl, Nat.le_of_ble_eq_true rfl⟩ rfl (jc.deep (r_four hI_M hH_M hS_M ht_M (by omega) (by omega)  (fun r14 z14  => ?_)) (by decide))
      exact jr.lreturn rfl rfl (q _ (by omega) (by omega))
theorem r_ofSix {A : Nat → Option (Nat × (Nat → Int32))} {Q : Option Value → jm → Prop} {T : jm} {M : jm} (hI_M : RI M) (hH_M : RH M) (hS_M : RF M) (ht_M : Kp T M) {x : Int} (h_x : 0 ≤ x ∧ x ≤ 23) {a : Int} (h_a : 0 ≤ a ∧ a ≤ 376) {f : Int} (h_f : 0 ≤ f ∧ f ≤ 6) (q : ∀ (r : Int), (-9223372036854775808) ≤ r ∧ r ≤ 9223372036854775807 → Q (some (.long (Int64.ofInt r))) M) : jc A 5 273 [.ref (598), .int (Int32.ofInt (x)), .int (Int32.ofInt (a)), .int (Int32.ofInt (f))] M Q := by
  refine jc_of (m := xm_273) rfl (Nat.le_of_ble_eq_true rfl) rfl ?_
  refine jr.iload_n rfl rfl ?_
  rcases (show f = 0 ∨ f = 1 ∨ f = 2 ∨ f = 3 ∨ f = 4 ∨ (f ≠ 0 ∧ f ≠ 1 ∧ f ≠ 2 ∧ f ≠ 3 ∧ f ≠ 4) by omega) with h1 | h1 | h1 | h1 | h1 | h1
  · refine jr.tsw_k 0 rfl h1 rfl ?_
    refine jr.aload_n rfl rfl ?_
    refine jr.iload_n rfl rfl ?_
    refine jr.iload_n rfl rfl ?_
    refine jr.iconst rfl ?_
    refine jr.iadd rfl ?_
    refine jr_v rfl rfl (Or.inl rfl) rfl rfl (by decide) rfl ⟨rfl, Nat.le_of_ble_eq_true rfl, Nat.le_of_ble_eq_true rfl⟩ rfl (jc.deep (r_one hI_M hH_M hS_M ht_M (by omega) (by omega)  (fun r1 z1 w1_0 => ?_)) (by decide))
    refine jr.i2l rfl (by omega) ?_
    exact jr.lreturn rfl rfl (q _ (by omega) )
  · refine jr.tsw_k 1 rfl h1 rfl ?_
    refine jr.aload_n rfl rfl ?_
    refine jr.iload_n rfl rfl ?_
    refine jr.iload_n rfl rfl ?_
    refine jr.iconst rfl ?_
    refine jr.iadd rfl ?_
    refine jr_v rfl rfl (Or.inl rfl) rfl rfl (by decide) rfl ⟨rfl, Nat.le_of_ble_eq_true rfl, Nat.le_of_ble_eq_true rfl⟩ rfl (jc.deep (r_two hI_M hH_M hS_M ht_M (by omega) (by omega)  (fun r2 z2  => ?_)) (by decide))
    refine jr.i2l rfl (by omega) ?_
    exact jr.lreturn rfl rfl (q _ (by omega) )
  · refine jr.tsw_k 2 rfl h1 rfl ?_
    refine jr.aload_n rfl rfl ?_
    refine jr.iload_n rfl rfl ?_
    refine jr.iload_n rfl rfl ?_
    refine jr.iconst rfl ?_
    refine jr.iadd rfl ?_
    refine jr_v rfl rfl (Or.inl rfl) rfl rfl (by decide) rfl ⟨rfl, Nat.le_of_ble_eq_true rfl, Nat.le_of_ble_eq_true rfl⟩ rfl (jc.deep (r_one hI_M hH_M hS_M ht_M (by omega) (by omega)  (fun r3 z3 w3_0 => ?_)) (by decide))
    refine jr.i2l rfl (by omega) ?_
    exact jr.lreturn rfl rfl (q _ (by omega) )
  · refine jr.tsw_k 3 rfl h1 rfl ?_
    refine jr.aload_n rfl rfl ?_
    refine jr.iload_n rfl rfl ?_
    refine jr.iload_n rfl rfl ?_
    refine jr.iconst rfl ?_
    refine jr.iadd rfl ?_
    refine jr_v rfl rfl (Or.inl rfl) rfl rfl (by decide) rfl ⟨rfl, Nat.le_of_ble_eq_true rfl, Nat.le_of_ble_eq_true rfl⟩ rfl (jc.deep (r_one hI_M hH_M hS_M ht_M (by omega) (by omega)  (fun r4 z4 w4_0 => ?_)) (by decide))
    refine jr.i2l rfl (by omega) ?_
    exact jr.lreturn rfl rfl (q _ (by omega) )
  · refine jr.tsw_k 4 rfl h1 rfl ?_
    refine jr.aload_n rfl rfl ?_
    refine jr.iload_n rfl rfl ?_
    refine jr.iload_n rfl rfl ?_
    refine jr.bipush rfl (by decide) ?_
    refine jr.iadd rfl ?_
    refine jr_v rfl rfl (Or.inl rfl) rfl rfl (by decide) rfl ⟨rfl, Nat.le_of_ble_eq_true rfl, Nat.le_of_ble_eq_true rfl⟩ rfl (jc.deep (r_two hI_M hH_M hS_M ht_M (by omega) (by omega)  (fun r5 z5  => ?_)) (by decide))
    refine jr.i2l rfl (by omega) ?_
    exact jr.lreturn rfl rfl (q _ (by omega) )
  · refine jr.tsw_d rfl (by omega) (by omega) rfl ?_
    refine jr.aload_n rfl rfl ?_
    refine jr.iload_n rfl rfl ?_
    refine jr.iload_n rfl rfl ?_
    refine jr.iconst rfl ?_
    refine jr.icmp_ne rfl rfl (by omega) (by omega) (fun h91 => ?_) (fun h91 => ?_)
    · refine jr.iload_n rfl rfl ?_
      refine jr.bipush rfl (by decide) ?_
      refine jr.iadd rfl ?_
      refine jr_v rfl rfl (Or.inl rfl) rfl rfl (by decide) rfl ⟨rfl, Nat.le_of_ble_eq_true rfl, Nat.le_of_ble_eq_true rfl⟩ rfl (jc.deep (r_eight hI_M hH_M hS_M ht_M (by omega) (by omega)  (fun r6 z6  => ?_)) (by decide))
      exact jr.lreturn rfl rfl (q _ (by omega) )
    · refine jr.iload_n rfl rfl ?_
      refine jr.bipush rfl (by decide) ?_
      refine jr.iadd rfl ?_
      refine jr.goto rfl rfl ?_
      refine jr_v rfl rfl (Or.inl rfl) rfl rfl (by decide) rfl ⟨rfl, Nat.le_of_ble_eq_true rfl, Nat.le_of_ble_eq_true rfl⟩ rfl (jc.deep (r_eight hI_M hH_M hS_M ht_M (by omega) (by omega)  (fun r7 z7  => ?_)) (by decide))
      exact jr.lreturn rfl rfl (q _ (by omega) )
theorem r_ofStream {A : Nat → Option (Nat × (Nat → Int32))} {Q : Option Value → jm → Prop} {T : jm} {M : jm} (hI_M : RI M) (hH_M : RH M) (hS_M : RF M) (ht_M : Kp T M) {x : Int} (h_x : 0 ≤ x ∧ x ≤ 23) {a : Int} (h_a : 0 ≤ a ∧ a ≤ 380) {f : Int} (h_f : 0 ≤ f ∧ f ≤ 7) (q : ∀ (r : Int), (-9223372036854775808) ≤ r ∧ r ≤ 9223372036854775807 → Q (some (.long (Int64.ofInt r))) M) : jc A 4 274 [.ref (598), .int (Int32.ofInt (x)), .int (Int32.ofInt (a)), .int (Int32.ofInt (f))] M Q := by
  refine jc_of (m := xm_274) rfl (Nat.le_of_ble_eq_true rfl) rfl ?_
  refine jr.iload_n rfl rfl ?_
  rcases (show f = 0 ∨ f = 1 ∨ f = 2 ∨ f = 3 ∨ f = 4 ∨ f = 5 ∨ (f ≠ 0 ∧ f ≠ 1 ∧ f ≠ 2 ∧ f ≠ 3 ∧ f ≠ 4 ∧ f ≠ 5) by omega) with h1 | h1 | h1 | h1 | h1 | h1 | h1
  · refine jr.tsw_k 0 rfl h1 rfl ?_
    refine jr.aload_n rfl rfl ?_
    refine jr.iload_n rfl rfl ?_
    refine jr.iload_n rfl rfl ?_
    refine jr.iconst rfl ?_
    refine jr.iload_n rfl rfl ?_
    refine jr.imul rfl ?_
    refine jr.iadd rfl ?_
    refine jr_v rfl rfl (Or.inl rfl) rfl rfl (by decide) rfl ⟨rfl, Nat.le_of_ble_eq_true rfl, Nat.le_of_ble_eq_true rfl⟩ rfl (jc.deep (r_two hI_M hH_M hS_M ht_M (by omega) (by omega)  (fun r1 z1  => ?_)) (by decide))
    refine jr.i2l rfl (by omega) ?_
    exact jr.lreturn rfl rfl (q _ (by omega) )
  · refine jr.tsw_k 1 rfl h1 rfl ?_
    refine jr.aload_n rfl rfl ?_
    refine jr.iload_n rfl rfl ?_
    refine jr.iload_n rfl rfl ?_
    refine jr.iconst rfl ?_
    refine jr.iload_n rfl rfl ?_
    refine jr.imul rfl ?_
    refine jr.iadd rfl ?_
    refine jr_v rfl rfl (Or.inl rfl) rfl rfl (by decide) rfl ⟨rfl, Nat.le_of_ble_eq_true rfl, Nat.le_of_ble_eq_true rfl⟩ rfl (jc.deep (r_two hI_M hH_M hS_M ht_M (by omega) (by omega)  (fun r2 z2  => ?_)) (by decide))
    refine jr.i2l rfl (by omega) ?_
    exact jr.lreturn rfl rfl (q _ (by omega) )
  · refine jr.tsw_k 2 rfl h1 rfl ?_
    refine jr.aload_n rfl rfl ?_
    refine jr.iload_n rfl rfl ?_
    refine jr.iload_n rfl rfl ?_
    refine jr.iconst rfl ?_
    refine jr.iload_n rfl rfl ?_
    refine jr.imul rfl ?_
    refine jr.iadd rfl ?_
    refine jr.iconst rfl ?_
    refine jr.isub rfl ?_
    refine jr_v rfl rfl (Or.inl rfl) rfl rfl (by decide) rfl ⟨rfl, Nat.le_of_ble_eq_true rfl, Nat.le_of_ble_eq_true rfl⟩ rfl (jc.deep (r_four hI_M hH_M hS_M ht_M (by omega) (by omega)  (fun r3 z3  => ?_)) (by decide))
    exact jr.lreturn rfl rfl (q _ (by omega) )
  · refine jr.tsw_k 3 rfl h1 rfl ?_
    refine jr.aload_n rfl rfl ?_
    refine jr.iload_n rfl rfl ?_
    refine jr.iload_n rfl rfl ?_
    refine jr.iconst rfl ?_
    refine jr.iload_n rfl rfl ?_
    refine jr.imul rfl ?_
    refine jr.iadd rfl ?_
    refine jr.iconst rfl ?_
    refine jr.isub rfl ?_
    refine jr_v rfl rfl (Or.inl rfl) rfl rfl (by decide) rfl ⟨rfl, Nat.le_of_ble_eq_true rfl, Nat.le_of_ble_eq_true rfl⟩ rfl (jc.deep (r_four hI_M hH_M hS_M ht_M (by omega) (by omega)  (fun r4 z4  => ?_)) (by decide))
    exact jr.lreturn rfl rfl (q _ (by omega) )
  · refine jr.tsw_k 4 rfl h1 rfl ?_
    refine jr.aload_n rfl rfl ?_
    refine jr.iload_n rfl rfl ?_
    refine jr.iload_n rfl rfl ?_
    refine jr.bipush rfl (by decide) ?_
    refine jr.iadd rfl ?_
    refine jr_v rfl rfl (Or.inl rfl) rfl rfl (by decide) rfl ⟨rfl, Nat.le_of_ble_eq_true rfl, Nat.le_of_ble_eq_true rfl⟩ rfl (jc.deep (r_one hI_M hH_M hS_M ht_M (by omega) (by omega)  (fun r5 z5 w5_0 => ?_)) (by decide))
    refine jr.iconst rfl ?_
    refine jr.ishr rfl ?_
    have b6 : j_shr r5 4 = r5 / 16 := j_shr_ex 4 (by decide) (by omega) (by omega)
    generalize j_shr r5 4 = v6 at b6 ⊢
    refine jr.i2l rfl (by omega) ?_
    exact jr.lreturn rfl rfl (q _ (by omega) )
  · refine jr.tsw_k 5 rfl h1 rfl ?_
    refine jr.aload_n rfl rfl ?_
    refine jr.iload_n rfl rfl ?_
    refine jr.iload_n rfl rfl ?_
    refine jr.bipush rfl (by decide) ?_
    refine jr.iadd rfl ?_
    refine jr_v rfl rfl (Or.inl rfl) rfl rfl (by decide) rfl ⟨rfl, Nat.le_of_ble_eq_true rfl, Nat.le_of_ble_eq_true rfl⟩ rfl (jc.deep (r_one hI_M hH_M hS_M ht_M (by omega) (by omega)  (fun r7 z7 w7_0 => ?_)) (by decide))
    refine jr.i2l rfl (by omega) ?_
    exact jr.lreturn rfl rfl (q _ (by omega) )
  · refine jr.tsw_d rfl (by omega) (by omega) rfl ?_
    refine jr.aload_n rfl rfl ?_
    refine jr.iload_n rfl rfl ?_
    refine jr.iload_n rfl rfl ?_
    refine jr.bipush rfl (by decide) ?_
    refine jr.icmp_ne rfl rfl (by omega) (by omega) (fun h94 => ?_) (fun h94 => ?_)
    · refine jr.iload_n rfl rfl ?_
      refine jr.bipush rfl (by decide) ?_
      refine jr.iadd rfl ?_
      refine jr_v rfl rfl (Or.inl rfl) rfl rfl (by decide) rfl ⟨rfl, Nat.le_of_ble_eq_true rfl, Nat.le_of_ble_eq_true rfl⟩ rfl (jc.deep (r_two hI_M hH_M hS_M ht_M (by omega) (by omega)  (fun r8 z8  => ?_)) (by decide))
      refine jr.i2l rfl (by omega) ?_
      exact jr.lreturn rfl rfl (q _ (by omega) )
    · refine jr.iload_n rfl rfl ?_
      refine jr.bipush rfl (by decide) ?_
      refine jr.iadd rfl ?_
      refine jr.goto rfl rfl ?_
      refine jr_v rfl rfl (Or.inl rfl) rfl rfl (by decide) rfl ⟨rfl, Nat.le_of_ble_eq_true rfl, Nat.le_of_ble_eq_true rfl⟩ rfl (jc.deep (r_two hI_M hH_M hS_M ht_M (by omega) (by omega)  (fun r9 z9  => ?_)) (by decide))
      refine jr.i2l rfl (by omega) ?_
      exact jr.lreturn rfl rfl (q _ (by omega) )
theorem r_valueOf {A : Nat → Option (Nat × (Nat → Int32))} {Q : Option Value → jm → Prop} {T : jm} {M : jm} (hI_M : RI M) (hH_M : RH M) (hS_M : RF M) (ht_M : Kp T M) {x : Int} (h_x : 0 ≤ x ∧ x ≤ 23) {k : Int} (h_k : 0 ≤ k ∧ k ≤ 11) {a : Int} (h_a : 0 ≤ a ∧ a ≤ 400) {m : Int} (h_m : 0 ≤ m ∧ m ≤ 400) {f : Int} (h_f : 0 ≤ f ∧ f ≤ 10) (p0 : a + lst k ≤ 400) (p1 : f < fldn k) (q : ∀ (r : Int), (-9223372036854775808) ≤ r ∧ r ≤ 9223372036854775807 → Q (some (.long (Int64.ofInt r))) M) : jc A 6 275 [.ref (598), .int (Int32.ofInt (x)), .int (Int32.ofInt (k)), .int (Int32.ofInt (a)), .int (Int32.ofInt (m)), .int (Int32.ofInt (f))] M Q := by
  have lk := lst_k k
  have fk := fldn_k k
  rcases (show k = 0 ∨ k = 1 ∨ k = 2 ∨ k = 3 ∨ k = 4 ∨ k = 5 ∨ k = 6 ∨ k = 7 ∨ k = 8 ∨ k = 9 ∨ k = 10 ∨ k = 11 by omega) with rfl | rfl | rfl | rfl | rfl | rfl | rfl | rfl | rfl | rfl | rfl | rfl
  · refine jc_of (m := xm_275) rfl (Nat.le_of_ble_eq_true rfl) rfl ?_
    refine jr.iload_n rfl rfl ?_
    refine jr.tsw_k 0 rfl rfl rfl ?_
    refine jr.iload rfl rfl ?_
    refine jr.iconst rfl ?_
    refine jr.icmp_ne rfl rfl (by omega) (by omega) (fun h63 => ?_) (fun h63 => ?_)
    · refine jr.aload_n rfl rfl ?_
      refine jr.iload_n rfl rfl ?_
      refine jr.iload_n rfl rfl ?_
      refine jr.iload rfl rfl ?_
      refine jr.iadd rfl ?_
      refine jr_v rfl rfl (Or.inl rfl) rfl rfl (by decide) rfl ⟨rfl, Nat.le_of_ble_eq_true rfl, Nat.le_of_ble_eq_true rfl⟩ rfl (jc.deep (r_one hI_M hH_M hS_M ht_M (by omega) (by omega)  (fun r1 z1 w1_0 => ?_)) (by decide))
      refine jr.i2l rfl (by omega) ?_
      exact jr.lreturn rfl rfl (q _ (by omega) )
    · refine jr.aload_n rfl rfl ?_
      refine jr.iload_n rfl rfl ?_
      refine jr.iload_n rfl rfl ?_
      refine jr.iconst rfl ?_
      refine jr.iadd rfl ?_
      refine jr_v rfl rfl (Or.inl rfl) rfl rfl (by decide) rfl ⟨rfl, Nat.le_of_ble_eq_true rfl, Nat.le_of_ble_eq_true rfl⟩ rfl (jc.deep (r_two hI_M hH_M hS_M ht_M (by omega) (by omega)  (fun r2 z2  => ?_)) (by decide))
      refine jr.i2l rfl (by omega) ?_
      refine jr.goto rfl rfl ?_
      exact jr.lreturn rfl rfl (q _ (by omega) )
  · refine jc_of (m := xm_275) rfl (Nat.le_of_ble_eq_true rfl) rfl ?_
    refine jr.iload_n rfl rfl ?_
    refine jr.tsw_k 1 rfl rfl rfl ?_
    refine jr.iload rfl rfl ?_
    refine jr.if_ne rfl rfl (by omega) (fun h91 => ?_) (fun h91 => ?_)
    · refine jr.iload rfl rfl ?_
      refine jr.iconst rfl ?_
      refine jr.icmp_ne rfl rfl (by omega) (by omega) (fun h110 => ?_) (fun h110 => ?_)
      · refine jr.aload_n rfl rfl ?_
        refine jr.iload_n rfl rfl ?_
        refine jr.iload_n rfl rfl ?_
        refine jr.iconst rfl ?_
        refine jr.iadd rfl ?_
        refine jr_v rfl rfl (Or.inl rfl) rfl rfl (by decide) rfl ⟨rfl, Nat.le_of_ble_eq_true rfl, Nat.le_of_ble_eq_true rfl⟩ rfl (jc.deep (r_two hI_M hH_M hS_M ht_M (by omega) (by omega)  (fun r1 z1  => ?_)) (by decide))
        refine jr.i2l rfl (by omega) ?_
        exact jr.lreturn rfl rfl (q _ (by omega) )
      · refine jr.aload_n rfl rfl ?_
        refine jr.iload_n rfl rfl ?_
        refine jr.iload_n rfl rfl ?_
        refine jr_v rfl rfl (Or.inl rfl) rfl rfl (by decide) rfl ⟨rfl, Nat.le_of_ble_eq_true rfl, Nat.le_of_ble_eq_true rfl⟩ rfl (jc.deep (r_two hI_M hH_M hS_M ht_M (by omega) (by omega)  (fun r2 z2  => ?_)) (by decide))
        refine jr.sipush rfl (by decide) ?_
        refine jr.iand rfl ?_
        have b3 : 0 ≤ j_and r2 4095 ∧ j_and r2 4095 ≤ 4095 := j_and_le (by decide)
        generalize j_and r2 4095 = v3 at b3 ⊢
        refine jr.i2l rfl (by omega) ?_
        refine jr.goto rfl rfl ?_
        exact jr.lreturn rfl rfl (q _ (by omega) )
    · refine jr.aload_n rfl rfl ?_
      refine jr.iload_n rfl rfl ?_
      refine jr.iload_n rfl rfl ?_
      refine jr_v rfl rfl (Or.inl rfl) rfl rfl (by decide) rfl ⟨rfl, Nat.le_of_ble_eq_true rfl, Nat.le_of_ble_eq_true rfl⟩ rfl (jc.deep (r_two hI_M hH_M hS_M ht_M (by omega) (by omega)  (fun r4 z4  => ?_)) (by decide))
      refine jr.bipush rfl (by decide) ?_
      refine jr.ishr rfl ?_
      have b5 : j_shr r4 12 = r4 / 4096 := j_shr_ex 12 (by decide) (by omega) (by omega)
      generalize j_shr r4 12 = v5 at b5 ⊢
      refine jr.i2l rfl (by omega) ?_
      refine jr.goto rfl rfl ?_
      exact jr.lreturn rfl rfl (q _ (by omega) )
  · refine jc_of (m := xm_275) rfl (Nat.le_of_ble_eq_true rfl) rfl ?_
    refine jr.iload_n rfl rfl ?_
    refine jr.tsw_k 2 rfl rfl rfl ?_
    refine jr.aload_n rfl rfl ?_
    refine jr.iload_n rfl rfl ?_
    refine jr.iload_n rfl rfl ?_
    refine jr.iload rfl rfl ?_
    refine jr_v rfl rfl (Or.inl rfl) rfl rfl (by decide) rfl ⟨rfl, Nat.le_of_ble_eq_true rfl, Nat.le_of_ble_eq_true rfl⟩ rfl (jc.deep (r_ofFour hI_M hH_M hS_M ht_M (by omega) (by omega) (by omega)  (fun r1 z1 w1_0 => ?_)) (by decide))
    exact jr.lreturn rfl rfl (q _ (by omega) )
  · refine jc_of (m := xm_275) rfl (Nat.le_of_ble_eq_true rfl) rfl ?_
    refine jr.iload_n rfl rfl ?_
    refine jr.tsw_k 3 rfl rfl rfl ?_
    refine jr.aload_n rfl rfl ?_
    refine jr.iload_n rfl rfl ?_
    refine jr.iload_n rfl rfl ?_
    refine jr.iload rfl rfl ?_
    refine jr_v rfl rfl (Or.inl rfl) rfl rfl (by decide) rfl ⟨rfl, Nat.le_of_ble_eq_true rfl, Nat.le_of_ble_eq_true rfl⟩ rfl (jc.deep (r_ofSix hI_M hH_M hS_M ht_M (by omega) (by omega) (by omega)  (fun r1 z1  => ?_)) (by decide))
    exact jr.lreturn rfl rfl (q _ (by omega) )
  · refine jc_of (m := xm_275) rfl (Nat.le_of_ble_eq_true rfl) rfl ?_
    refine jr.iload_n rfl rfl ?_
    refine jr.tsw_k 4 rfl rfl rfl ?_
    refine jr.aload_n rfl rfl ?_
    refine jr.iload_n rfl rfl ?_
    refine jr.iload_n rfl rfl ?_
    refine jr.iload rfl rfl ?_
    refine jr.iadd rfl ?_
    refine jr_v rfl rfl (Or.inl rfl) rfl rfl (by decide) rfl ⟨rfl, Nat.le_of_ble_eq_true rfl, Nat.le_of_ble_eq_true rfl⟩ rfl (jc.deep (r_one hI_M hH_M hS_M ht_M (by omega) (by omega)  (fun r1 z1 w1_0 => ?_)) (by decide))
    refine jr.i2l rfl (by omega) ?_
    exact jr.lreturn rfl rfl (q _ (by omega) )
  · refine jc_of (m := xm_275) rfl (Nat.le_of_ble_eq_true rfl) rfl ?_
    refine jr.iload_n rfl rfl ?_
    refine jr.tsw_k 5 rfl rfl rfl ?_
    refine jr.aload_n rfl rfl ?_
    refine jr.iload_n rfl rfl ?_
    refine jr.iload_n rfl rfl ?_
    refine jr.iload rfl rfl ?_
    refine jr.iadd rfl ?_
    refine jr_v rfl rfl (Or.inl rfl) rfl rfl (by decide) rfl ⟨rfl, Nat.le_of_ble_eq_true rfl, Nat.le_of_ble_eq_true rfl⟩ rfl (jc.deep (r_one hI_M hH_M hS_M ht_M (by omega) (by omega)  (fun r1 z1 w1_0 => ?_)) (by decide))
    refine jr.i2l rfl (by omega) ?_
    exact jr.lreturn rfl rfl (q _ (by omega) )
  · refine jc_of (m := xm_275) rfl (Nat.le_of_ble_eq_true rfl) rfl ?_
    refine jr.iload_n rfl rfl ?_
    refine jr.tsw_k 6 rfl rfl rfl ?_
    refine jr.iload rfl rfl ?_
    refine jr.if_ne rfl rfl (by omega) (fun h168 => ?_) (fun h168 => ?_)
    · refine jr.iload rfl rfl ?_
      refine jr.iconst rfl ?_
      refine jr.icmp_ne rfl rfl (by omega) (by omega) (fun h184 => ?_) (fun h184 => ?_)
      · refine jr.iload rfl rfl ?_
        refine jr.iconst rfl ?_
        refine jr.icmp_ne rfl rfl (by omega) (by omega) (fun h204 => ?_) (fun h204 => ?_)
        · refine jr.aload_n rfl rfl ?_
          refine jr.iload_n rfl rfl ?_
          refine jr.iload_n rfl rfl ?_
          refine jr.iconst rfl ?_
          refine jr.iadd rfl ?_
          refine jr_v rfl rfl (Or.inl rfl) rfl rfl (by decide) rfl ⟨rfl, Nat.le_of_ble_eq_true rfl, Nat.le_of_ble_eq_true rfl⟩ rfl (jc.deep (r_four hI_M hH_M hS_M ht_M (by omega) (by omega)  (fun r1 z1  => ?_)) (by decide))
          exact jr.lreturn rfl rfl (q _ (by omega) )
        · refine jr.aload_n rfl rfl ?_
          refine jr.iload_n rfl rfl ?_
          refine jr.iload_n rfl rfl ?_
          refine jr.iconst rfl ?_
          refine jr.iadd rfl ?_
          refine jr_v rfl rfl (Or.inl rfl) rfl rfl (by decide) rfl ⟨rfl, Nat.le_of_ble_eq_true rfl, Nat.le_of_ble_eq_true rfl⟩ rfl (jc.deep (r_two hI_M hH_M hS_M ht_M (by omega) (by omega)  (fun r2 z2  => ?_)) (by decide))
          refine jr.iconst rfl ?_
          refine jr.iand rfl ?_
          have b3 : 0 ≤ j_and r2 1 ∧ j_and r2 1 ≤ 1 := j_and_le (by decide)
          generalize j_and r2 1 = v3 at b3 ⊢
          refine jr.i2l rfl (by omega) ?_
          refine jr.goto rfl rfl ?_
          exact jr.lreturn rfl rfl (q _ (by omega) )
      · refine jr.aload_n rfl rfl ?_
        refine jr.iload_n rfl rfl ?_
        refine jr.iload_n rfl rfl ?_
        refine jr.iconst rfl ?_
        refine jr.iadd rfl ?_
        refine jr_v rfl rfl (Or.inl rfl) rfl rfl (by decide) rfl ⟨rfl, Nat.le_of_ble_eq_true rfl, Nat.le_of_ble_eq_true rfl⟩ rfl (jc.deep (r_two hI_M hH_M hS_M ht_M (by omega) (by omega)  (fun r4 z4  => ?_)) (by decide))
        refine jr.iconst rfl ?_
        refine jr.ishr rfl ?_
        have b5 : j_shr r4 3 = r4 / 8 := j_shr_ex 3 (by decide) (by omega) (by omega)
        generalize j_shr r4 3 = v5 at b5 ⊢
        refine jr.i2l rfl (by omega) ?_
        refine jr.goto rfl rfl ?_
        exact jr.lreturn rfl rfl (q _ (by omega) )
    · refine jr.aload_n rfl rfl ?_
      refine jr.iload_n rfl rfl ?_
      refine jr.iload_n rfl rfl ?_
      refine jr_v rfl rfl (Or.inl rfl) rfl rfl (by decide) rfl ⟨rfl, Nat.le_of_ble_eq_true rfl, Nat.le_of_ble_eq_true rfl⟩ rfl (jc.deep (r_one hI_M hH_M hS_M ht_M (by omega) (by omega)  (fun r6 z6 w6_0 => ?_)) (by decide))
      refine jr.i2l rfl (by omega) ?_
      refine jr.goto rfl rfl ?_
      exact jr.lreturn rfl rfl (q _ (by omega) )
  · refine jc_of (m := xm_275) rfl (Nat.le_of_ble_eq_true rfl) rfl ?_
    refine jr.iload_n rfl rfl ?_
    refine jr.tsw_k 7 rfl rfl rfl ?_
    refine jr.iload rfl rfl ?_
    refine jr.iconst rfl ?_
    refine jr.icmp_ge rfl rfl (by omega) (by omega) (fun h233 => ?_) (fun h233 => ?_)
    · refine jr.iload rfl rfl ?_
      refine jr.iconst rfl ?_
      refine jr.icmp_ne rfl rfl (by omega) (by omega) (fun h252 => ?_) (fun h252 => ?_)
      · refine jr.aload_n rfl rfl ?_
        refine jr.iload_n rfl rfl ?_
        refine jr.iload_n rfl rfl ?_
        refine jr.iconst rfl ?_
        refine jr.iadd rfl ?_
        refine jr_v rfl rfl (Or.inl rfl) rfl rfl (by decide) rfl ⟨rfl, Nat.le_of_ble_eq_true rfl, Nat.le_of_ble_eq_true rfl⟩ rfl (jc.deep (r_four hI_M hH_M hS_M ht_M (by omega) (by omega)  (fun r1 z1  => ?_)) (by decide))
        exact jr.lreturn rfl rfl (q _ (by omega) )
      · refine jr.aload_n rfl rfl ?_
        refine jr.iload_n rfl rfl ?_
        refine jr.iload_n rfl rfl ?_
        refine jr.iconst rfl ?_
        refine jr.iadd rfl ?_
        refine jr_v rfl rfl (Or.inl rfl) rfl rfl (by decide) rfl ⟨rfl, Nat.le_of_ble_eq_true rfl, Nat.le_of_ble_eq_true rfl⟩ rfl (jc.deep (r_two hI_M hH_M hS_M ht_M (by omega) (by omega)  (fun r2 z2  => ?_)) (by decide))
        refine jr.i2l rfl (by omega) ?_
        refine jr.goto rfl rfl ?_
        exact jr.lreturn rfl rfl (q _ (by omega) )
    · refine jr.aload_n rfl rfl ?_
      refine jr.iload_n rfl rfl ?_
      refine jr.iload_n rfl rfl ?_
      refine jr.iload rfl rfl ?_
      refine jr.iadd rfl ?_
      refine jr_v rfl rfl (Or.inl rfl) rfl rfl (by decide) rfl ⟨rfl, Nat.le_of_ble_eq_true rfl, Nat.le_of_ble_eq_true rfl⟩ rfl (jc.deep (r_one hI_M hH_M hS_M ht_M (by omega) (by omega)  (fun r3 z3 w3_0 => ?_)) (by decide))
      refine jr.i2l rfl (by omega) ?_
      refine jr.goto rfl rfl ?_
      exact jr.lreturn rfl rfl (q _ (by omega) )
  · refine jc_of (m := xm_275) rfl (Nat.le_of_ble_eq_true rfl) rfl ?_
    refine jr.iload_n rfl rfl ?_
    refine jr.tsw_k 8 rfl rfl rfl ?_
    refine jr.aload_n rfl rfl ?_
    refine jr.iload_n rfl rfl ?_
    refine jr.iload_n rfl rfl ?_
    refine jr.iload rfl rfl ?_
    refine jr_v rfl rfl (Or.inl rfl) rfl rfl (by decide) rfl ⟨rfl, Nat.le_of_ble_eq_true rfl, Nat.le_of_ble_eq_true rfl⟩ rfl (jc.deep (r_ofStream hI_M hH_M hS_M ht_M (by omega) (by omega) (by omega)  (fun r1 z1  => ?_)) (by decide))
    exact jr.lreturn rfl rfl (q _ (by omega) )
  · refine jc_of (m := xm_275) rfl (Nat.le_of_ble_eq_true rfl) rfl ?_
    refine jr.iload_n rfl rfl ?_
    refine jr.tsw_k 9 rfl rfl rfl ?_
    refine jr.aload_n rfl rfl ?_
    refine jr.iload_n rfl rfl ?_
    refine jr.iload_n rfl rfl ?_
    refine jr.iconst rfl ?_
    refine jr.iload rfl rfl ?_
    refine jr.imul rfl ?_
    refine jr.iadd rfl ?_
    refine jr_v rfl rfl (Or.inl rfl) rfl rfl (by decide) rfl ⟨rfl, Nat.le_of_ble_eq_true rfl, Nat.le_of_ble_eq_true rfl⟩ rfl (jc.deep (r_two hI_M hH_M hS_M ht_M (by omega) (by omega)  (fun r1 z1  => ?_)) (by decide))
    refine jr.i2l rfl (by omega) ?_
    exact jr.lreturn rfl rfl (q _ (by omega) )
  · refine jc_of (m := xm_275) rfl (Nat.le_of_ble_eq_true rfl) rfl ?_
    refine jr.iload_n rfl rfl ?_
    refine jr.tsw_k 10 rfl rfl rfl ?_
    refine jr.aload_n rfl rfl ?_
    refine jr.iload_n rfl rfl ?_
    refine jr.iload_n rfl rfl ?_
    refine jr.iconst rfl ?_
    refine jr.iload rfl rfl ?_
    refine jr.imul rfl ?_
    refine jr.iadd rfl ?_
    refine jr_v rfl rfl (Or.inl rfl) rfl rfl (by decide) rfl ⟨rfl, Nat.le_of_ble_eq_true rfl, Nat.le_of_ble_eq_true rfl⟩ rfl (jc.deep (r_two hI_M hH_M hS_M ht_M (by omega) (by omega)  (fun r1 z1  => ?_)) (by decide))
    refine jr.i2l rfl (by omega) ?_
    exact jr.lreturn rfl rfl (q _ (by omega) )
  · refine jc_of (m := xm_275) rfl (Nat.le_of_ble_eq_true rfl) rfl ?_
    refine jr.iload_n rfl rfl ?_
    refine jr.tsw_d rfl (by decide) (by decide) rfl ?_
    refine jr.iload rfl rfl ?_
    refine jr.i2l rfl (by omega) ?_
    exact jr.lreturn rfl rfl (q _ (by omega) )
theorem r_field {A : Nat → Option (Nat × (Nat → Int32))} {Q : Option Value → jm → Prop} {T : jm} {M : jm} (hI_M : RI M) (hH_M : RH M) (hS_M : RF M) (ht_M : Kp T M) {x : Int} (h_x : (-2147483648) ≤ x ∧ x ≤ 2147483647) {h : Int} (h_h : (-2147483648) ≤ h ∧ h ≤ 2147483647) {f : Int} (h_f : (-2147483648) ≤ f ∧ f ≤ 2147483647) (q : ∀ (r : Int) (M' : jm), RI M' → RH M' → RF M' → Kp T M' → (-9223372036854775808) ≤ r ∧ r ≤ 9223372036854775807 → Q (some (.long (Int64.ofInt r))) M') : jc A 7 276 [.ref (598), .int (Int32.ofInt (x)), .int (Int32.ofInt (h)), .int (Int32.ofInt (f))] M Q := by
  refine jc_of (m := xm_276) rfl (Nat.le_of_ble_eq_true rfl) rfl ?_
  refine jr.aload_n rfl rfl ?_
  refine jr.iload_n rfl rfl ?_
  refine jr_v rfl rfl (Or.inl rfl) rfl rfl (by decide) rfl ⟨rfl, Nat.le_of_ble_eq_true rfl, Nat.le_of_ble_eq_true rfl⟩ rfl (jc.deep (c_isThere hI_M (by omega) (fun l2 u2 t2 => ?_) (fun n2 => ?_)) (by decide))
  · refine jr.if_ne rfl rfl (by omega) (fun _ => ?_) (fun h => absurd (by decide) h)
    refine jr.aload_n rfl rfl ?_
    refine jr.iload_n rfl rfl ?_
    obtain ⟨v2, e2⟩ : ∃ z, M 600 x = z := ⟨_, rfl⟩
    have b2 : (-1) ≤ v2 ∧ v2 ≤ 400 := by rw [← e2]; exact (by have q := hI_M 600 x (by decide); rw [xri_row rfl rfl] at q; exact q)
    refine jr_v rfl rfl (Or.inl rfl) rfl rfl (by decide) rfl ⟨rfl, Nat.le_of_ble_eq_true rfl, Nat.le_of_ble_eq_true rfl⟩ rfl (jc.deep (r_look hI_M hH_M hS_M ht_M (by omega) (by rw [e2]; omega) (fun M1 hI_M1 hH_M1 hS_M1 ht_M1 w1_0 w1_1 w1_2 => ?_)) (by decide))
    refine jr.iload_n rfl rfl ?_
    refine jr.i2l rfl (by omega) ?_
    refine jr.lconst (x := 0) rfl (by decide) ?_
    refine jr.aload_n rfl rfl ?_
    obtain ⟨v3, e3⟩ : ∃ z, M1 598 6 = z := ⟨_, rfl⟩
    have b3 : 0 ≤ v3 ∧ v3 ≤ 12 := by rw [← e3]; exact hI_M1 598 6 (by decide)
    refine jr.getf (i := 6) (x := v3) (v := .int (Int32.ofInt (v3))) rfl rfl (by decide) rfl (by decide) rfl rfl e3 rfl ?_
    refine jr.iconst rfl ?_
    refine jr.isub rfl ?_
    refine jr.i2l rfl (by omega) ?_
    refine jr_s rfl rfl (Or.inl rfl) ⟨Nat.le_of_ble_eq_true rfl, Nat.le_of_ble_eq_true rfl⟩ rfl rfl (jc.deep (c_within (by omega) (by omega) (by omega) (fun l27 u27 => ?_) (fun n27 => ?_)) (by decide))
    · refine jr.if_eq rfl rfl (by omega) (fun h => absurd h (by decide)) (fun _ => ?_)
      refine jr.iload_n rfl rfl ?_
      refine jr.i2l rfl (by omega) ?_
      refine jr.lconst (x := 0) rfl (by decide) ?_
      refine jr.aload_n rfl rfl ?_
      refine jr.getf (i := 7) (v := .ref 603) rfl rfl (by decide) rfl (by decide) rfl rfl rfl rfl ?_
      refine jr.iload_n rfl rfl ?_
      obtain ⟨v4, e4⟩ : ∃ z, M1 603 h = z := ⟨_, rfl⟩
      have b4 : 0 ≤ v4 ∧ v4 ≤ 11 := by rw [← e4]; exact (by have q := hI_M1 603 h (by decide); rw [xri_row rfl rfl] at q; exact q)
      refine jr.iald (i := h) (x := v4) rfl (by decide) rfl (by decide) (by omega) (by omega) e4 ?_
      refine jr_s rfl rfl (Or.inl rfl) ⟨Nat.le_of_ble_eq_true rfl, Nat.le_of_ble_eq_true rfl⟩ rfl rfl (jc.deep (r_fields hI_M1 hH_M1 hS_M1 ht_M1 (by omega)  (fun r5 z5 w5_0 => ?_)) (by decide))
      refine jr.iconst rfl ?_
      refine jr.isub rfl ?_
      refine jr.i2l rfl (by omega) ?_
      refine jr_s rfl rfl (Or.inl rfl) ⟨Nat.le_of_ble_eq_true rfl, Nat.le_of_ble_eq_true rfl⟩ rfl rfl (jc.deep (c_within (by omega) (by omega) (by omega) (fun l48 u48 => ?_) (fun n48 => ?_)) (by decide))
      · refine jr.if_ne rfl rfl (by omega) (fun _ => ?_) (fun h => absurd (by decide) h)
        refine jr.aload_n rfl rfl ?_
        refine jr.iload_n rfl rfl ?_
        refine jr.aload_n rfl rfl ?_
        refine jr.getf (i := 7) (v := .ref 603) rfl rfl (by decide) rfl (by decide) rfl rfl rfl rfl ?_
        refine jr.iload_n rfl rfl ?_
        refine jr.iald (i := h) (x := v4) rfl (by decide) rfl (by decide) (by omega) (by omega) e4 ?_
        refine jr.aload_n rfl rfl ?_
        refine jr.getf (i := 8) (v := .ref 604) rfl rfl (by decide) rfl (by decide) rfl rfl rfl rfl ?_
        refine jr.iload_n rfl rfl ?_
        obtain ⟨v6, e6⟩ : ∃ z, M1 604 h = z := ⟨_, rfl⟩
        have b6 : 0 ≤ v6 ∧ v6 ≤ 400 := by rw [← e6]; exact (by have q := hI_M1 604 h (by decide); rw [xri_row rfl rfl] at q; exact q)
        refine jr.iald (i := h) (x := v6) rfl (by decide) rfl (by decide) (by omega) (by omega) e6 ?_
        refine jr.aload_n rfl rfl ?_
        refine jr.getf (i := 9) (v := .ref 605) rfl rfl (by decide) rfl (by decide) rfl rfl rfl rfl ?_
        refine jr.iload_n rfl rfl ?_
        obtain ⟨v7, e7⟩ : ∃ z, M1 605 h = z := ⟨_, rfl⟩
        have b7 : 0 ≤ v7 ∧ v7 ≤ 400 := by rw [← e7]; exact (by have q := hI_M1 605 h (by decide); rw [xri_row rfl rfl] at q; exact q)
        refine jr.iald (i := h) (x := v7) rfl (by decide) rfl (by decide) (by omega) (by omega) e7 ?_
        refine jr.iload_n rfl rfl ?_
        refine jr_v rfl rfl (Or.inl rfl) rfl rfl (by decide) rfl ⟨rfl, Nat.le_of_ble_eq_true rfl, Nat.le_of_ble_eq_true rfl⟩ rfl (jc.deep (r_valueOf hI_M1 hH_M1 hS_M1 ht_M1 (by omega) (by omega) (by omega) (by omega) (by omega) (by have q := (hH_M1 h).1; rw [e6, e4] at q; exact q) (by omega) (fun r8 z8  => ?_)) (by decide))
        exact jr.lreturn rfl rfl (q _ _ hI_M1 hH_M1 hS_M1 ht_M1 (by omega) )
      · refine jr.if_ne rfl rfl (by omega) (fun h => absurd h (by decide)) (fun _ => ?_)
        refine jr.ldc2 (x := (-1)) rfl rfl (by decide) ?_
        exact jr.lreturn rfl rfl (q _ _ hI_M1 hH_M1 hS_M1 ht_M1 (by omega) )
    · refine jr.if_eq rfl rfl (by omega) (fun _ => ?_) (fun h => absurd (by decide) h)
      refine jr.ldc2 (x := (-1)) rfl rfl (by decide) ?_
      exact jr.lreturn rfl rfl (q _ _ hI_M1 hH_M1 hS_M1 ht_M1 (by omega) )
  · refine jr.if_ne rfl rfl (by omega) (fun h => absurd h (by decide)) (fun _ => ?_)
    refine jr.ldc2 (x := (-2)) rfl rfl (by decide) ?_
    exact jr.lreturn rfl rfl (q _ _ hI_M hH_M hS_M ht_M (by omega) )
theorem c_isCarried {A : Nat → Option (Nat × (Nat → Int32))} {M : jm} {Q : Option Value → jm → Prop} {x : Int} (h_x : -2147483648 ≤ x ∧ x ≤ 2147483647) (k1 : x = 7 ∨ x = 8 ∨ x = 9 → Q (some (.int (Int32.ofInt 1))) M) (k0 : ¬ (x = 7 ∨ x = 8 ∨ x = 9) → Q (some (.int (Int32.ofInt 0))) M) : jc A 1 277 [.int (Int32.ofInt (x))] M Q := by
  refine jc_of (m := xm_277) rfl (Nat.le_of_ble_eq_true rfl) rfl ?_
  refine jr.iload_n rfl rfl ?_
  refine jr.bipush rfl (by decide) ?_
  refine jr.icmp_eq rfl rfl (by omega) (by omega) (fun h3 => ?_) (fun h3 => ?_)
  · refine jr.iconst rfl ?_
    refine jr.goto rfl rfl ?_
    exact jr.ireturn rfl rfl rfl (k1 (by omega))
  · refine jr.iload_n rfl rfl ?_
    refine jr.bipush rfl (by decide) ?_
    refine jr.icmp_eq rfl rfl (by omega) (by omega) (fun h9 => ?_) (fun h9 => ?_)
    · refine jr.iconst rfl ?_
      refine jr.goto rfl rfl ?_
      exact jr.ireturn rfl rfl rfl (k1 (by omega))
    · refine jr.iload_n rfl rfl ?_
      refine jr.bipush rfl (by decide) ?_
      refine jr.icmp_ne rfl rfl (by omega) (by omega) (fun h15 => ?_) (fun h15 => ?_)
      · refine jr.iconst rfl ?_
        exact jr.ireturn rfl rfl rfl (k0 (by omega))
      · refine jr.iconst rfl ?_
        refine jr.goto rfl rfl ?_
        exact jr.ireturn rfl rfl rfl (k1 (by omega))
theorem r_carried_L44 {A : Nat → Option (Nat × (Nat → Int32))} {Q : Option Value → jm → Prop} {T : jm} (q : ∀ (r : Int) (M' : jm), RI M' → RH M' → RF M' → Kp T M' → (-3) ≤ r ∧ r ≤ 12 → Q (some (.int (Int32.ofInt r))) M') : ∀ (n : Nat) (M : jm) (w : Int) (c : Int) (h : Int) (x : Int), RI M → RH M → RF M → Kp T M → 0 ≤ w ∧ w ≤ 12 → 0 ≤ c ∧ c ≤ 12 → 0 ≤ h ∧ h ≤ 12 → 0 ≤ x ∧ x ≤ 23 → w ≤ c → h + c ≤ 12 → c - w ≤ n → jr A 4 xm_278 44 [(4, .int (Int32.ofInt (w))), (3, .int (Int32.ofInt (c))), (2, .int (Int32.ofInt (h))), (1, .int (Int32.ofInt (x))), (0, .ref (598))] [] M Q := by
  intro n
  induction n using Nat.strongRecOn with
  | ind n ih =>
    intro M w c h x hI_M hH_M hS_M ht_M h_w h_c h_h h_x hy0 hy1 hm
    refine jr.iload rfl rfl ?_
    refine jr.iload_n rfl rfl ?_
    refine jr.icmp_ge rfl rfl (by omega) (by omega) (fun h47 => ?_) (fun h47 => ?_)
    · refine jr.iload rfl rfl ?_
      exact jr.ireturn rfl rfl rfl (q _ _ hI_M hH_M hS_M ht_M (by omega) )
    · refine jr.aload_n rfl rfl ?_
      refine jr.getf (i := 7) (v := .ref 603) rfl rfl (by decide) rfl (by decide) rfl rfl rfl rfl ?_
      refine jr.iload_n rfl rfl ?_
      refine jr.iload rfl rfl ?_
      refine jr.iadd rfl ?_
      obtain ⟨v1, e1⟩ : ∃ z, M 603 (h + w) = z := ⟨_, rfl⟩
      have b1 : 0 ≤ v1 ∧ v1 ≤ 11 := by rw [← e1]; exact (by have q := hI_M 603 (h + w) (by decide); rw [xri_row rfl rfl] at q; exact q)
      refine jr.iald (i := (h + w)) (x := v1) rfl (by decide) rfl (by decide) (by omega) (by omega) e1 ?_
      refine jr_s rfl rfl (Or.inl rfl) ⟨Nat.le_of_ble_eq_true rfl, Nat.le_of_ble_eq_true rfl⟩ rfl rfl (jc.deep (c_isCarried (by omega) (fun c59 => ?_) (fun c59 => ?_)) (by decide))
      · refine jr.if_eq rfl rfl (by omega) (fun h => absurd h (by decide)) (fun _ => ?_)
        refine jr.iinc rfl rfl (by decide) rfl ?_
        refine jr.goto rfl rfl ?_
        refine jr.pick [0, 1, 2, 3, 4] rfl rfl ?_
        exact ih (n - 1) (by omega) M (w + 1) c h x hI_M hH_M hS_M ht_M (by omega) (by omega) (by omega) (by omega) (by omega) (by omega) (by omega)
      · refine jr.if_eq rfl rfl (by omega) (fun _ => ?_) (fun h => absurd (by decide) h)
        refine jr.iload rfl rfl ?_
        exact jr.ireturn rfl rfl rfl (q _ _ hI_M hH_M hS_M ht_M (by omega) )
theorem r_carried {A : Nat → Option (Nat × (Nat → Int32))} {Q : Option Value → jm → Prop} {T : jm} {M : jm} (hI_M : RI M) (hH_M : RH M) (hS_M : RF M) (ht_M : Kp T M) {x : Int} (h_x : (-2147483648) ≤ x ∧ x ≤ 2147483647) {h : Int} (h_h : (-2147483648) ≤ h ∧ h ≤ 2147483647) {c : Int} (h_c : (-2147483648) ≤ c ∧ c ≤ 2147483647) (q : ∀ (r : Int) (M' : jm), RI M' → RH M' → RF M' → Kp T M' → (-3) ≤ r ∧ r ≤ 12 → Q (some (.int (Int32.ofInt r))) M') : jc A 5 278 [.ref (598), .int (Int32.ofInt (x)), .int (Int32.ofInt (h)), .int (Int32.ofInt (c))] M Q := by
  refine jc_of (m := xm_278) rfl (Nat.le_of_ble_eq_true rfl) rfl ?_
  refine jr.aload_n rfl rfl ?_
  refine jr.iload_n rfl rfl ?_
  refine jr_v rfl rfl (Or.inl rfl) rfl rfl (by decide) rfl ⟨rfl, Nat.le_of_ble_eq_true rfl, Nat.le_of_ble_eq_true rfl⟩ rfl (jc.deep (c_isThere hI_M (by omega) (fun l2 u2 t2 => ?_) (fun n2 => ?_)) (by decide))
  · refine jr.if_ne rfl rfl (by omega) (fun _ => ?_) (fun h => absurd (by decide) h)
    refine jr.aload_n rfl rfl ?_
    refine jr.iload_n rfl rfl ?_
    obtain ⟨v2, e2⟩ : ∃ z, M 600 x = z := ⟨_, rfl⟩
    have b2 : (-1) ≤ v2 ∧ v2 ≤ 400 := by rw [← e2]; exact (by have q := hI_M 600 x (by decide); rw [xri_row rfl rfl] at q; exact q)
    refine jr_v rfl rfl (Or.inl rfl) rfl rfl (by decide) rfl ⟨rfl, Nat.le_of_ble_eq_true rfl, Nat.le_of_ble_eq_true rfl⟩ rfl (jc.deep (r_look hI_M hH_M hS_M ht_M (by omega) (by rw [e2]; omega) (fun M1 hI_M1 hH_M1 hS_M1 ht_M1 w1_0 w1_1 w1_2 => ?_)) (by decide))
    refine jr.iload_n rfl rfl ?_
    refine jr.if_lt rfl rfl (by omega) (fun h17 => ?_) (fun h17 => ?_)
    · refine jr.bipush rfl (by decide) ?_
      exact jr.ireturn rfl rfl rfl (q _ _ hI_M1 hH_M1 hS_M1 ht_M1 (by omega) )
    · refine jr.iload_n rfl rfl ?_
      refine jr.if_lt rfl rfl (by omega) (fun h21 => ?_) (fun h21 => ?_)
      · refine jr.bipush rfl (by decide) ?_
        exact jr.ireturn rfl rfl rfl (q _ _ hI_M1 hH_M1 hS_M1 ht_M1 (by omega) )
      · refine jr.iload_n rfl rfl ?_
        refine jr.i2l rfl (by omega) ?_
        refine jr.iload_n rfl rfl ?_
        refine jr.i2l rfl (by omega) ?_
        refine jr.ladd rfl ?_
        refine jr.aload_n rfl rfl ?_
        obtain ⟨v3, e3⟩ : ∃ z, M1 598 6 = z := ⟨_, rfl⟩
        have b3 : 0 ≤ v3 ∧ v3 ≤ 12 := by rw [← e3]; exact hI_M1 598 6 (by decide)
        refine jr.getf (i := 6) (x := v3) (v := .int (Int32.ofInt (v3))) rfl rfl (by decide) rfl (by decide) rfl rfl e3 rfl ?_
        refine jr.i2l rfl (by omega) ?_
        refine jr.lcmp_le rfl rfl rfl (by omega) (by omega) (fun h34 => ?_) (fun h34 => ?_)
        · refine jr.iconst rfl ?_
          refine jr.istore rfl (by decide) rfl ?_
          refine jr.pick [0, 4, 3, 2, 1] rfl rfl ?_
          exact r_carried_L44 q 12 M1 0 c h x hI_M1 hH_M1 hS_M1 ht_M1 (by omega) (by omega) (by omega) (by omega) (by omega) (by omega) (by omega)
        · refine jr.bipush rfl (by decide) ?_
          exact jr.ireturn rfl rfl rfl (q _ _ hI_M1 hH_M1 hS_M1 ht_M1 (by omega) )
  · refine jr.if_ne rfl rfl (by omega) (fun h => absurd h (by decide)) (fun _ => ?_)
    refine jr.bipush rfl (by decide) ?_
    exact jr.ireturn rfl rfl rfl (q _ _ hI_M hH_M hS_M ht_M (by omega) )
theorem r_added_L6 {A : Nat → Option (Nat × (Nat → Int32))} {Q : Option Value → jm → Prop} {T : jm} {M : jm} (hI_M : RI M) (hH_M : RH M) (hS_M : RF M) (ht_M : Kp T M) (q : ∀ (r : Int), (-9223372036854775808) ≤ r ∧ r ≤ 9223372036854775807 → Q (some (.long (Int64.ofInt r))) M) : ∀ (n : Nat) (k : Int) (s : Int) (b : Int) (t : Int) (f : Int) (x : Int), 0 ≤ k ∧ k ≤ 400 → (-9223372036854775808) ≤ s ∧ s ≤ 9223372036854775807 → (-2000) ≤ b ∧ b ≤ 2000 → (-1) ≤ t ∧ t ≤ 400 → 0 ≤ f ∧ f ≤ 400 → 0 ≤ x ∧ x ≤ 23 → f ≤ k → 400 - k ≤ n → jr A 1 xm_279 6 [(7, .int (Int32.ofInt (k))), (5, .long (Int64.ofInt (s))), (4, .int (Int32.ofInt (b))), (3, .int (Int32.ofInt (t))), (2, .int (Int32.ofInt (f))), (1, .int (Int32.ofInt (x))), (0, .ref (598))] [] M Q := by
  intro n
  induction n using Nat.strongRecOn with
  | ind n ih =>
    intro k s b t f x h_k h_s h_b h_t h_f h_x hy0 hm
    refine jr.iload rfl rfl ?_
    refine jr.iload_n rfl rfl ?_
    refine jr.icmp_ge rfl rfl (by omega) (by omega) (fun h9 => ?_) (fun h9 => ?_)
    · refine jr.lload rfl rfl ?_
      exact jr.lreturn rfl rfl (q _ (by omega) )
    · refine jr.iload rfl rfl ?_
      refine jr.iload rfl rfl ?_
      refine jr.icmp_eq rfl rfl (by omega) (by omega) (fun h16 => ?_) (fun h16 => ?_)
      · refine jr.iconst rfl ?_
        refine jr.goto rfl rfl ?_
        refine jr.istore rfl (by decide) rfl ?_
        refine jr.lload rfl rfl ?_
        refine jr.iload rfl rfl ?_
        refine jr.iload_n rfl rfl ?_
        refine jr.isub rfl ?_
        refine jr.iconst rfl ?_
        refine jr.irem rfl (by decide) ?_
        have b1 : -2147483648 ≤ j_rem (k - f) 2 ∧ j_rem (k - f) 2 ≤ 2147483647 := jb_any _
        generalize j_rem (k - f) 2 = v1 at b1 ⊢
        refine jr.if_ne rfl rfl (by omega) (fun h49 => ?_) (fun h49 => ?_)
        · refine jr.iload rfl rfl ?_
          refine jr.i2l rfl (by omega) ?_
          refine jr.ladd rfl ?_
          refine jr.lstore rfl (by decide) rfl ?_
          refine jr.iinc rfl rfl (by decide) rfl ?_
          refine jr.goto rfl rfl ?_
          refine jr.pick [0, 1, 3, 4, 5, 6, 7] rfl rfl ?_
          exact ih (n - 1) (by omega) (k + 1) (s + 0) b t f x (by omega) (by omega) (by omega) (by omega) (by omega) (by omega) (by omega) (by omega)
        · refine jr.iload rfl rfl ?_
          refine jr.bipush rfl (by decide) ?_
          refine jr.ishl rfl ?_
          have b2 : j_shl 0 8 = 0 * 256 := j_shl_ex 8 (by decide) (by omega) (by omega)
          generalize j_shl 0 8 = v2 at b2 ⊢
          refine jr.i2l rfl (by omega) ?_
          refine jr.goto rfl rfl ?_
          refine jr.ladd rfl ?_
          refine jr.lstore rfl (by decide) rfl ?_
          refine jr.iinc rfl rfl (by decide) rfl ?_
          refine jr.goto rfl rfl ?_
          refine jr.pick [0, 1, 3, 4, 5, 6, 7] rfl rfl ?_
          exact ih (n - 1) (by omega) (k + 1) (s + v2) b t f x (by omega) (by omega) (by omega) (by omega) (by omega) (by omega) (by omega) (by omega)
      · refine jr.iload rfl rfl ?_
        refine jr.iload rfl rfl ?_
        refine jr.iconst rfl ?_
        refine jr.iadd rfl ?_
        refine jr.icmp_ne rfl rfl (by omega) (by omega) (fun h25 => ?_) (fun h25 => ?_)
        · refine jr.aload_n rfl rfl ?_
          refine jr.iload_n rfl rfl ?_
          refine jr.iload rfl rfl ?_
          refine jr_v rfl rfl (Or.inl rfl) rfl rfl (by decide) rfl ⟨rfl, Nat.le_of_ble_eq_true rfl, Nat.le_of_ble_eq_true rfl⟩ rfl (jc.deep (r_one hI_M hH_M hS_M ht_M (by omega) (by omega)  (fun r3 z3 w3_0 => ?_)) (by decide))
          refine jr.istore rfl (by decide) rfl ?_
          refine jr.lload rfl rfl ?_
          refine jr.iload rfl rfl ?_
          refine jr.iload_n rfl rfl ?_
          refine jr.isub rfl ?_
          refine jr.iconst rfl ?_
          refine jr.irem rfl (by decide) ?_
          have b4 : -2147483648 ≤ j_rem (k - f) 2 ∧ j_rem (k - f) 2 ≤ 2147483647 := jb_any _
          generalize j_rem (k - f) 2 = v4 at b4 ⊢
          refine jr.if_ne rfl rfl (by omega) (fun h49 => ?_) (fun h49 => ?_)
          · refine jr.iload rfl rfl ?_
            refine jr.i2l rfl (by omega) ?_
            refine jr.ladd rfl ?_
            refine jr.lw (jl_w (s + r3)) (jl_w_eq _) ?_
            have b5 : -9223372036854775808 ≤ jl_w (s + r3) ∧ jl_w (s + r3) ≤ 9223372036854775807 := jbl_any _
            generalize jl_w (s + r3) = v5 at b5 ⊢
            refine jr.lstore rfl (by decide) rfl ?_
            refine jr.iinc rfl rfl (by decide) rfl ?_
            refine jr.goto rfl rfl ?_
            refine jr.pick [0, 1, 3, 4, 5, 6, 7] rfl rfl ?_
            exact ih (n - 1) (by omega) (k + 1) v5 b t f x (by omega) (by omega) (by omega) (by omega) (by omega) (by omega) (by omega) (by omega)
          · refine jr.iload rfl rfl ?_
            refine jr.bipush rfl (by decide) ?_
            refine jr.ishl rfl ?_
            have b6 : j_shl r3 8 = r3 * 256 := j_shl_ex 8 (by decide) (by omega) (by omega)
            generalize j_shl r3 8 = v6 at b6 ⊢
            refine jr.i2l rfl (by omega) ?_
            refine jr.goto rfl rfl ?_
            refine jr.ladd rfl ?_
            refine jr.lw (jl_w (s + v6)) (jl_w_eq _) ?_
            have b7 : -9223372036854775808 ≤ jl_w (s + v6) ∧ jl_w (s + v6) ≤ 9223372036854775807 := jbl_any _
            generalize jl_w (s + v6) = v7 at b7 ⊢
            refine jr.lstore rfl (by decide) rfl ?_
            refine jr.iinc rfl rfl (by decide) rfl ?_
            refine jr.goto rfl rfl ?_
            refine jr.pick [0, 1, 3, 4, 5, 6, 7] rfl rfl ?_
            exact ih (n - 1) (by omega) (k + 1) v7 b t f x (by omega) (by omega) (by omega) (by omega) (by omega) (by omega) (by omega) (by omega)
        · refine jr.iconst rfl ?_
          refine jr.goto rfl rfl ?_
          refine jr.istore rfl (by decide) rfl ?_
          refine jr.lload rfl rfl ?_
          refine jr.iload rfl rfl ?_
          refine jr.iload_n rfl rfl ?_
          refine jr.isub rfl ?_
          refine jr.iconst rfl ?_
          refine jr.irem rfl (by decide) ?_
          have b8 : -2147483648 ≤ j_rem (k - f) 2 ∧ j_rem (k - f) 2 ≤ 2147483647 := jb_any _
          generalize j_rem (k - f) 2 = v8 at b8 ⊢
          refine jr.if_ne rfl rfl (by omega) (fun h49 => ?_) (fun h49 => ?_)
          · refine jr.iload rfl rfl ?_
            refine jr.i2l rfl (by omega) ?_
            refine jr.ladd rfl ?_
            refine jr.lstore rfl (by decide) rfl ?_
            refine jr.iinc rfl rfl (by decide) rfl ?_
            refine jr.goto rfl rfl ?_
            refine jr.pick [0, 1, 3, 4, 5, 6, 7] rfl rfl ?_
            exact ih (n - 1) (by omega) (k + 1) (s + 0) b t f x (by omega) (by omega) (by omega) (by omega) (by omega) (by omega) (by omega) (by omega)
          · refine jr.iload rfl rfl ?_
            refine jr.bipush rfl (by decide) ?_
            refine jr.ishl rfl ?_
            have b9 : j_shl 0 8 = 0 * 256 := j_shl_ex 8 (by decide) (by omega) (by omega)
            generalize j_shl 0 8 = v9 at b9 ⊢
            refine jr.i2l rfl (by omega) ?_
            refine jr.goto rfl rfl ?_
            refine jr.ladd rfl ?_
            refine jr.lstore rfl (by decide) rfl ?_
            refine jr.iinc rfl rfl (by decide) rfl ?_
            refine jr.goto rfl rfl ?_
            refine jr.pick [0, 1, 3, 4, 5, 6, 7] rfl rfl ?_
            exact ih (n - 1) (by omega) (k + 1) (s + v9) b t f x (by omega) (by omega) (by omega) (by omega) (by omega) (by omega) (by omega) (by omega)
theorem r_added {A : Nat → Option (Nat × (Nat → Int32))} {Q : Option Value → jm → Prop} {T : jm} {M : jm} (hI_M : RI M) (hH_M : RH M) (hS_M : RF M) (ht_M : Kp T M) {x : Int} (h_x : 0 ≤ x ∧ x ≤ 23) {f : Int} (h_f : 0 ≤ f ∧ f ≤ 400) {t : Int} (h_t : (-1) ≤ t ∧ t ≤ 400) {b : Int} (h_b : (-2000) ≤ b ∧ b ≤ 2000) (q : ∀ (r : Int), (-9223372036854775808) ≤ r ∧ r ≤ 9223372036854775807 → Q (some (.long (Int64.ofInt r))) M) : jc A 2 279 [.ref (598), .int (Int32.ofInt (x)), .int (Int32.ofInt (f)), .int (Int32.ofInt (t)), .int (Int32.ofInt (b))] M Q := by
  refine jc_of (m := xm_279) rfl (Nat.le_of_ble_eq_true rfl) rfl ?_
  refine jr.lconst (x := 0) rfl (by decide) ?_
  refine jr.lstore rfl (by decide) rfl ?_
  refine jr.iload_n rfl rfl ?_
  refine jr.istore rfl (by decide) rfl ?_
  refine jr.pick [0, 1, 6, 5, 4, 3, 2] rfl rfl ?_
  exact r_added_L6 hI_M hH_M hS_M ht_M q 400 f 0 b t f x (by omega) (by omega) (by omega) (by omega) (by omega) (by omega) (by omega) (by omega)
theorem r_turned_L2 {A : Nat → Option (Nat × (Nat → Int32))} {Q : Option Value → jm → Prop} {T : jm} {M : jm} (hI_M : RI M) (hH_M : RH M) (hS_M : RF M) (ht_M : Kp T M) (q : ∀ (r : Int), (-2147483648) ≤ r ∧ r ≤ 2147483647 → Q (some (.int (Int32.ofInt r))) M) : ∀ (n : Nat) (v : Int) (w : Int), (-9223372036854775808) ≤ v ∧ v ≤ 9223372036854775807 → (-9223372036854775808) ≤ w ∧ w ≤ 9223372036854775807 → v ≤ n → jr A 0 xm_280 2 [(2, .long (Int64.ofInt (v))), (0, .long (Int64.ofInt (w)))] [] M Q := by
  intro n
  induction n using Nat.strongRecOn with
  | ind n ih =>
    intro v w h_v h_w hm
    refine jr.lload_n rfl rfl ?_
    refine jr.ldc2 (x := 65535) rfl rfl (by decide) ?_
    refine jr.lcmp_le rfl rfl rfl (by omega) (by omega) (fun h6 => ?_) (fun h6 => ?_)
    · refine jr.ldc2 (x := 65535) rfl rfl (by decide) ?_
      refine jr.lload_n rfl rfl ?_
      refine jr.lsub rfl ?_
      refine jr.lw (jl_w (65535 - v)) (jl_w_eq _) ?_
      have b1 : -9223372036854775808 ≤ jl_w (65535 - v) ∧ jl_w (65535 - v) ≤ 9223372036854775807 := jbl_any _
      generalize jl_w (65535 - v) = v1 at b1 ⊢
      refine jr.l2i rfl ?_
      refine jr.iw (j_w v1) (j_w_eq _) ?_
      have b2 : -2147483648 ≤ j_w v1 ∧ j_w v1 ≤ 2147483647 := jb_any _
      generalize j_w v1 = v2 at b2 ⊢
      exact jr.ireturn rfl rfl rfl (q _ (by omega) )
    · refine jr.lload_n rfl rfl ?_
      refine jr.ldc2 (x := 65535) rfl rfl (by decide) ?_
      refine jr.land rfl ?_
      have b3 : jl_and v 65535 = v % 65536 := jl_and_mask 16 (by decide) (by omega) (by omega)
      generalize jl_and v 65535 = v3 at b3 ⊢
      refine jr.lload_n rfl rfl ?_
      refine jr.bipush rfl (by decide) ?_
      refine jr.lshr rfl ?_
      have b4 : jl_shr v 16 = v / 65536 := jl_shr_ex 16 (by decide) (by omega) (by omega)
      generalize jl_shr v 16 = v4 at b4 ⊢
      refine jr.ladd rfl ?_
      refine jr.lstore_n rfl (by decide) rfl ?_
      refine jr.goto rfl rfl ?_
      refine jr.pick [0, 1] rfl rfl ?_
      exact ih (n - 1) (by omega) (v3 + v4) w (by omega) (by omega)  (by omega)
theorem r_turned {A : Nat → Option (Nat × (Nat → Int32))} {Q : Option Value → jm → Prop} {T : jm} {M : jm} (hI_M : RI M) (hH_M : RH M) (hS_M : RF M) (ht_M : Kp T M) {w : Int} (h_w : (-9223372036854775808) ≤ w ∧ w ≤ 9223372036854775807) (q : ∀ (r : Int), (-2147483648) ≤ r ∧ r ≤ 2147483647 → Q (some (.int (Int32.ofInt r))) M) : jc A 1 280 [.long (Int64.ofInt (w))] M Q := by
  refine jc_of (m := xm_280) rfl (Nat.le_of_ble_eq_true rfl) rfl ?_
  refine jr.lload_n rfl rfl ?_
  refine jr.lstore_n rfl (by decide) rfl ?_
  refine jr.pick [0, 1] rfl rfl ?_
  exact r_turned_L2 hI_M hH_M hS_M ht_M q 9223372036854775807 w w (by omega) (by omega)  (by omega)
theorem r_sumAt {A : Nat → Option (Nat × (Nat → Int32))} {Q : Option Value → jm → Prop} {T : jm} {M : jm} (hI_M : RI M) (hH_M : RH M) (hS_M : RF M) (ht_M : Kp T M) {h : Int} (h_h : 0 ≤ h ∧ h ≤ 11) (q : ∀ (r : Int), (-1) ≤ r ∧ r ≤ 398 → (r = -1 ∨ (0 ≤ r ∧ (M 603 h = 2 ∨ M 603 h = 7 ∨ M 603 h = 8 ∨ M 603 h = 9))) → ((M 603 h = 2 ∨ M 603 h = 7 ∨ M 603 h = 8 ∨ M 603 h = 9) → 0 ≤ r) → Q (some (.int (Int32.ofInt r))) M) : jc A 1 281 [.ref (598), .int (Int32.ofInt (h))] M Q := by
  have rh := hH_M h
  have lk := lst_k (M 603 h)
  refine jc_of (m := xm_281) rfl (Nat.le_of_ble_eq_true rfl) rfl ?_
  refine jr.aload_n rfl rfl ?_
  refine jr.getf (i := 7) (v := .ref 603) rfl rfl (by decide) rfl (by decide) rfl rfl rfl rfl ?_
  refine jr.iload_n rfl rfl ?_
  obtain ⟨v1, e1⟩ : ∃ z, M 603 h = z := ⟨_, rfl⟩
  have b1 : 0 ≤ v1 ∧ v1 ≤ 11 := by rw [← e1]; exact (by have q := hI_M 603 h (by decide); rw [xri_row rfl rfl] at q; exact q)
  refine jr.iald (i := h) (x := v1) rfl (by decide) rfl (by decide) (by omega) (by omega) e1 ?_
  refine jr.istore_n rfl (by decide) rfl ?_
  refine jr.iload_n rfl rfl ?_
  refine jr.iconst rfl ?_
  refine jr.icmp_ne rfl rfl (by omega) (by omega) (fun h9 => ?_) (fun h9 => ?_)
  · refine jr.iload_n rfl rfl ?_
    refine jr.bipush rfl (by decide) ?_
    refine jr.icmp_ne rfl rfl (by omega) (by omega) (fun h27 => ?_) (fun h27 => ?_)
    · refine jr.iload_n rfl rfl ?_
      refine jr.bipush rfl (by decide) ?_
      refine jr.icmp_ne rfl rfl (by omega) (by omega) (fun h44 => ?_) (fun h44 => ?_)
      · refine jr.iload_n rfl rfl ?_
        refine jr.bipush rfl (by decide) ?_
        refine jr.icmp_ne rfl rfl (by omega) (by omega) (fun h62 => ?_) (fun h62 => ?_)
        · refine jr.iconst rfl ?_
          exact jr.ireturn rfl rfl rfl (q _ (by omega) (by omega) (by omega))
        · refine jr.aload_n rfl rfl ?_
          refine jr.getf (i := 8) (v := .ref 604) rfl rfl (by decide) rfl (by decide) rfl rfl rfl rfl ?_
          refine jr.iload_n rfl rfl ?_
          obtain ⟨v2, e2⟩ : ∃ z, M 604 h = z := ⟨_, rfl⟩
          have b2 : 0 ≤ v2 ∧ v2 ≤ 400 := by rw [← e2]; exact (by have q := hI_M 604 h (by decide); rw [xri_row rfl rfl] at q; exact q)
          refine jr.iald (i := h) (x := v2) rfl (by decide) rfl (by decide) (by omega) (by omega) e2 ?_
          refine jr.bipush rfl (by decide) ?_
          refine jr.iadd rfl ?_
          refine jr.goto rfl rfl ?_
          exact jr.ireturn rfl rfl rfl (q _ (by omega) (by omega) (by omega))
      · refine jr.aload_n rfl rfl ?_
        refine jr.getf (i := 8) (v := .ref 604) rfl rfl (by decide) rfl (by decide) rfl rfl rfl rfl ?_
        refine jr.iload_n rfl rfl ?_
        obtain ⟨v3, e3⟩ : ∃ z, M 604 h = z := ⟨_, rfl⟩
        have b3 : 0 ≤ v3 ∧ v3 ≤ 400 := by rw [← e3]; exact (by have q := hI_M 604 h (by decide); rw [xri_row rfl rfl] at q; exact q)
        refine jr.iald (i := h) (x := v3) rfl (by decide) rfl (by decide) (by omega) (by omega) e3 ?_
        refine jr.bipush rfl (by decide) ?_
        refine jr.iadd rfl ?_
        refine jr.goto rfl rfl ?_
        exact jr.ireturn rfl rfl rfl (q _ (by omega) (by omega) (by omega))
    · refine jr.aload_n rfl rfl ?_
      refine jr.getf (i := 8) (v := .ref 604) rfl rfl (by decide) rfl (by decide) rfl rfl rfl rfl ?_
      refine jr.iload_n rfl rfl ?_
      obtain ⟨v4, e4⟩ : ∃ z, M 604 h = z := ⟨_, rfl⟩
      have b4 : 0 ≤ v4 ∧ v4 ≤ 400 := by rw [← e4]; exact (by have q := hI_M 604 h (by decide); rw [xri_row rfl rfl] at q; exact q)
      refine jr.iald (i := h) (x := v4) rfl (by decide) rfl (by decide) (by omega) (by omega) e4 ?_
      refine jr.iconst rfl ?_
      refine jr.iadd rfl ?_
      refine jr.goto rfl rfl ?_
      exact jr.ireturn rfl rfl rfl (q _ (by omega) (by omega) (by omega))
  · refine jr.aload_n rfl rfl ?_
    refine jr.getf (i := 8) (v := .ref 604) rfl rfl (by decide) rfl (by decide) rfl rfl rfl rfl ?_
    refine jr.iload_n rfl rfl ?_
    obtain ⟨v5, e5⟩ : ∃ z, M 604 h = z := ⟨_, rfl⟩
    have b5 : 0 ≤ v5 ∧ v5 ≤ 400 := by rw [← e5]; exact (by have q := hI_M 604 h (by decide); rw [xri_row rfl rfl] at q; exact q)
    refine jr.iald (i := h) (x := v5) rfl (by decide) rfl (by decide) (by omega) (by omega) e5 ?_
    refine jr.bipush rfl (by decide) ?_
    refine jr.iadd rfl ?_
    refine jr.goto rfl rfl ?_
    exact jr.ireturn rfl rfl rfl (q _ (by omega) (by omega) (by omega))
theorem r_sumOf_L61 {A : Nat → Option (Nat × (Nat → Int32))} {Q : Option Value → jm → Prop} {T : jm} {h0 : Int} {M : jm} (hI_M : RI M) (hH_M : RH M) (hS_M : RF M) (ht_M : Kp T M) (q : ∀ (r : Int), (-2147483648) ≤ r ∧ r ≤ 2147483647 → (r = -1 ∨ (M 603 h0 = 2 ∨ M 603 h0 = 7 ∨ M 603 h0 = 8 ∨ M 603 h0 = 9)) → Q (some (.int (Int32.ofInt r))) M) : ∀ (n : Nat) (t : Int) (a : Int) (k : Int) (h : Int) (x : Int), (-1) ≤ t ∧ t ≤ 10 → 0 ≤ a ∧ a ≤ 400 → 0 ≤ k ∧ k ≤ 11 → 0 ≤ h ∧ h ≤ 11 → 0 ≤ x ∧ x ≤ 23 → M 604 h = a → M 603 h = k → (k = 7 ∨ k = 8 ∨ k = 9) → h = h0 → t + 1 ≤ n → jr A 2 xm_282 61 [(5, .int (Int32.ofInt (t))), (4, .int (Int32.ofInt (a))), (3, .int (Int32.ofInt (k))), (2, .int (Int32.ofInt (h))), (1, .int (Int32.ofInt (x))), (0, .ref (598))] [] M Q := by
  intro n
  induction n using Nat.strongRecOn with
  | ind n ih =>
    intro t a k h x h_t h_a h_k h_h h_x hy0 hy1 hy2 hy3 hm
    subst hy3
    have rt := RH.two hH_M t
    refine jr.iload rfl rfl ?_
    refine jr.if_lt rfl rfl (by omega) (fun h63 => ?_) (fun h63 => ?_)
    · refine jr.iload rfl rfl ?_
      refine jr.if_ge rfl rfl (by omega) (fun h96 => ?_) (fun h96 => ?_)
      · exact absurd h96 (by omega)
      · refine jr.iconst rfl ?_
        exact jr.ireturn rfl rfl rfl (q _ (by omega) (by omega))
    · refine jr.aload_n rfl rfl ?_
      refine jr.getf (i := 7) (v := .ref 603) rfl rfl (by decide) rfl (by decide) rfl rfl rfl rfl ?_
      refine jr.iload rfl rfl ?_
      obtain ⟨v1, e1⟩ : ∃ z, M 603 t = z := ⟨_, rfl⟩
      have b1 : 0 ≤ v1 ∧ v1 ≤ 11 := by rw [← e1]; exact (by have q := hI_M 603 t (by decide); rw [xri_row rfl rfl] at q; exact q)
      refine jr.iald (i := t) (x := v1) rfl (by decide) rfl (by decide) (by omega) (by omega) e1 ?_
      refine jr.iconst rfl ?_
      refine jr.icmp_eq rfl rfl (by omega) (by omega) (fun h74 => ?_) (fun h74 => ?_)
      · refine jr.iload rfl rfl ?_
        refine jr.if_ge rfl rfl (by omega) (fun h96 => ?_) (fun h96 => ?_)
        · refine jr.aload_n rfl rfl ?_
          refine jr.iload_n rfl rfl ?_
          refine jr.iload rfl rfl ?_
          refine jr.aload_n rfl rfl ?_
          refine jr.getf (i := 3) (v := .ref 600) rfl rfl (by decide) rfl (by decide) rfl rfl rfl rfl ?_
          refine jr.iload_n rfl rfl ?_
          obtain ⟨v2, e2⟩ : ∃ z, M 600 x = z := ⟨_, rfl⟩
          have b2 : (-1) ≤ v2 ∧ v2 ≤ 400 := by rw [← e2]; exact (by have q := hI_M 600 x (by decide); rw [xri_row rfl rfl] at q; exact q)
          refine jr.iald (i := x) (x := v2) rfl (by decide) rfl (by decide) (by omega) (by omega) e2 ?_
          refine jr.aload_n rfl rfl ?_
          refine jr.iload_n rfl rfl ?_
          refine jr_v rfl rfl (Or.inl rfl) rfl rfl (by decide) rfl ⟨rfl, Nat.le_of_ble_eq_true rfl, Nat.le_of_ble_eq_true rfl⟩ rfl (jc.deep (r_sumAt hI_M hH_M hS_M ht_M (by omega)  (fun r3 z3 w3_0 w3_1 => ?_)) (by decide))
          refine jr_v rfl rfl (Or.inl rfl) rfl rfl (by decide) rfl ⟨rfl, Nat.le_of_ble_eq_true rfl, Nat.le_of_ble_eq_true rfl⟩ rfl (jc.deep (r_added hI_M hH_M hS_M ht_M (by omega) (by omega) (by omega) (by omega)  (fun r4 z4  => ?_)) (by decide))
          refine jr.lstore rfl (by decide) rfl ?_
          refine jr.iload_n rfl rfl ?_
          refine jr.bipush rfl (by decide) ?_
          refine jr.icmp_ne rfl rfl (by omega) (by omega) (fun h124 => ?_) (fun h124 => ?_)
          · refine jr.aload_n rfl rfl ?_
            refine jr.getf (i := 7) (v := .ref 603) rfl rfl (by decide) rfl (by decide) rfl rfl rfl rfl ?_
            refine jr.iload rfl rfl ?_
            refine jr.iald (i := t) (x := v1) rfl (by decide) rfl (by decide) (by omega) (by omega) e1 ?_
            refine jr.iconst rfl ?_
            refine jr.icmp_ne rfl rfl (by omega) (by omega) (fun h141 => ?_) (fun h141 => ?_)
            · exact absurd h141 (by omega)
            · refine jr.aload_n rfl rfl ?_
              refine jr.getf (i := 8) (v := .ref 604) rfl rfl (by decide) rfl (by decide) rfl rfl rfl rfl ?_
              refine jr.iload rfl rfl ?_
              obtain ⟨v5, e5⟩ : ∃ z, M 604 t = z := ⟨_, rfl⟩
              have b5 : 0 ≤ v5 ∧ v5 ≤ 400 := by rw [← e5]; exact (by have q := hI_M 604 t (by decide); rw [xri_row rfl rfl] at q; exact q)
              refine jr.iald (i := t) (x := v5) rfl (by decide) rfl (by decide) (by omega) (by omega) e5 ?_
              refine jr.bipush rfl (by decide) ?_
              refine jr.iadd rfl ?_
              refine jr.goto rfl rfl ?_
              refine jr.istore rfl (by decide) rfl ?_
              refine jr.lload rfl rfl ?_
              refine jr.aload_n rfl rfl ?_
              refine jr.iload_n rfl rfl ?_
              refine jr.iload rfl rfl ?_
              refine jr.aload_n rfl rfl ?_
              refine jr.getf (i := 7) (v := .ref 603) rfl rfl (by decide) rfl (by decide) rfl rfl rfl rfl ?_
              refine jr.iload rfl rfl ?_
              refine jr.iald (i := t) (x := v1) rfl (by decide) rfl (by decide) (by omega) (by omega) e1 ?_
              refine jr.iconst rfl ?_
              refine jr.icmp_ne rfl rfl (by omega) (by omega) (fun h183 => ?_) (fun h183 => ?_)
              · exact absurd h183 (by omega)
              · refine jr.iload rfl rfl ?_
                refine jr.bipush rfl (by decide) ?_
                refine jr.iadd rfl ?_
                refine jr.goto rfl rfl ?_
                refine jr.bipush rfl (by decide) ?_
                refine jr_v rfl rfl (Or.inl rfl) rfl rfl (by decide) rfl ⟨rfl, Nat.le_of_ble_eq_true rfl, Nat.le_of_ble_eq_true rfl⟩ rfl (jc.deep (r_added hI_M hH_M hS_M ht_M (by omega) (by omega) (by omega) (by omega)  (fun r6 z6  => ?_)) (by decide))
                refine jr.ladd rfl ?_
                refine jr.lw (jl_w (r4 + r6)) (jl_w_eq _) ?_
                have b7 : -9223372036854775808 ≤ jl_w (r4 + r6) ∧ jl_w (r4 + r6) ≤ 9223372036854775807 := jbl_any _
                generalize jl_w (r4 + r6) = v7 at b7 ⊢
                refine jr.lstore rfl (by decide) rfl ?_
                refine jr.lload rfl rfl ?_
                refine jr.aload_n rfl rfl ?_
                refine jr.getf (i := 3) (v := .ref 600) rfl rfl (by decide) rfl (by decide) rfl rfl rfl rfl ?_
                refine jr.iload_n rfl rfl ?_
                refine jr.iald (i := x) (x := v2) rfl (by decide) rfl (by decide) (by omega) (by omega) e2 ?_
                refine jr.iload rfl rfl ?_
                refine jr.isub rfl ?_
                refine jr.iload_n rfl rfl ?_
                refine jr.bipush rfl (by decide) ?_
                refine jr.icmp_ne rfl rfl (by omega) (by omega) (fun h221 => ?_) (fun h221 => ?_)
                · refine jr.bipush rfl (by decide) ?_
                  refine jr.iadd rfl ?_
                  refine jr.i2l rfl (by omega) ?_
                  refine jr.ladd rfl ?_
                  refine jr.lw (jl_w (v7 + ((v2 - a) + 17))) (jl_w_eq _) ?_
                  have b8 : -9223372036854775808 ≤ jl_w (v7 + ((v2 - a) + 17)) ∧ jl_w (v7 + ((v2 - a) + 17)) ≤ 9223372036854775807 := jbl_any _
                  generalize jl_w (v7 + ((v2 - a) + 17)) = v8 at b8 ⊢
                  refine jr.lstore rfl (by decide) rfl ?_
                  refine jr.lload rfl rfl ?_
                  refine jr_s rfl rfl (Or.inl rfl) ⟨Nat.le_of_ble_eq_true rfl, Nat.le_of_ble_eq_true rfl⟩ rfl rfl (jc.deep (r_turned hI_M hH_M hS_M ht_M (by omega)  (fun r9 z9  => ?_)) (by decide))
                  refine jr.istore rfl (by decide) rfl ?_
                  refine jr.iload_n rfl rfl ?_
                  refine jr.bipush rfl (by decide) ?_
                  refine jr.icmp_ne rfl rfl (by omega) (by omega) (fun h246 => ?_) (fun h246 => ?_)
                  · refine jr.iload rfl rfl ?_
                    exact jr.ireturn rfl rfl rfl (q _ (by omega) (by omega))
                  · refine jr.iload rfl rfl ?_
                    refine jr.if_ne rfl rfl (by omega) (fun h251 => ?_) (fun h251 => ?_)
                    · refine jr.iload rfl rfl ?_
                      exact jr.ireturn rfl rfl rfl (q _ (by omega) (by omega))
                    · refine jr.ldcw (x := 65535) rfl rfl (by decide) ?_
                      refine jr.goto rfl rfl ?_
                      exact jr.ireturn rfl rfl rfl (q _ (by omega) (by omega))
                · refine jr.bipush rfl (by decide) ?_
                  refine jr.goto rfl rfl ?_
                  refine jr.iadd rfl ?_
                  refine jr.i2l rfl (by omega) ?_
                  refine jr.ladd rfl ?_
                  refine jr.lw (jl_w (v7 + ((v2 - a) + 6))) (jl_w_eq _) ?_
                  have b10 : -9223372036854775808 ≤ jl_w (v7 + ((v2 - a) + 6)) ∧ jl_w (v7 + ((v2 - a) + 6)) ≤ 9223372036854775807 := jbl_any _
                  generalize jl_w (v7 + ((v2 - a) + 6)) = v10 at b10 ⊢
                  refine jr.lstore rfl (by decide) rfl ?_
                  refine jr.lload rfl rfl ?_
                  refine jr_s rfl rfl (Or.inl rfl) ⟨Nat.le_of_ble_eq_true rfl, Nat.le_of_ble_eq_true rfl⟩ rfl rfl (jc.deep (r_turned hI_M hH_M hS_M ht_M (by omega)  (fun r11 z11  => ?_)) (by decide))
                  refine jr.istore rfl (by decide) rfl ?_
                  refine jr.iload_n rfl rfl ?_
                  refine jr.bipush rfl (by decide) ?_
                  refine jr.icmp_ne rfl rfl (by omega) (by omega) (fun h246 => ?_) (fun h246 => ?_)
                  · refine jr.iload rfl rfl ?_
                    exact jr.ireturn rfl rfl rfl (q _ (by omega) (by omega))
                  · exact absurd (by omega) h246
          · refine jr.lload rfl rfl ?_
            refine jr_s rfl rfl (Or.inl rfl) ⟨Nat.le_of_ble_eq_true rfl, Nat.le_of_ble_eq_true rfl⟩ rfl rfl (jc.deep (r_turned hI_M hH_M hS_M ht_M (by omega)  (fun r12 z12  => ?_)) (by decide))
            exact jr.ireturn rfl rfl rfl (q _ (by omega) (by omega))
        · exact absurd (by omega) h96
      · refine jr.aload_n rfl rfl ?_
        refine jr.getf (i := 7) (v := .ref 603) rfl rfl (by decide) rfl (by decide) rfl rfl rfl rfl ?_
        refine jr.iload rfl rfl ?_
        refine jr.iald (i := t) (x := v1) rfl (by decide) rfl (by decide) (by omega) (by omega) e1 ?_
        refine jr.iconst rfl ?_
        refine jr.icmp_eq rfl rfl (by omega) (by omega) (fun h85 => ?_) (fun h85 => ?_)
        · refine jr.iload rfl rfl ?_
          refine jr.if_ge rfl rfl (by omega) (fun h96 => ?_) (fun h96 => ?_)
          · refine jr.aload_n rfl rfl ?_
            refine jr.iload_n rfl rfl ?_
            refine jr.iload rfl rfl ?_
            refine jr.aload_n rfl rfl ?_
            refine jr.getf (i := 3) (v := .ref 600) rfl rfl (by decide) rfl (by decide) rfl rfl rfl rfl ?_
            refine jr.iload_n rfl rfl ?_
            obtain ⟨v13, e13⟩ : ∃ z, M 600 x = z := ⟨_, rfl⟩
            have b13 : (-1) ≤ v13 ∧ v13 ≤ 400 := by rw [← e13]; exact (by have q := hI_M 600 x (by decide); rw [xri_row rfl rfl] at q; exact q)
            refine jr.iald (i := x) (x := v13) rfl (by decide) rfl (by decide) (by omega) (by omega) e13 ?_
            refine jr.aload_n rfl rfl ?_
            refine jr.iload_n rfl rfl ?_
            refine jr_v rfl rfl (Or.inl rfl) rfl rfl (by decide) rfl ⟨rfl, Nat.le_of_ble_eq_true rfl, Nat.le_of_ble_eq_true rfl⟩ rfl (jc.deep (r_sumAt hI_M hH_M hS_M ht_M (by omega)  (fun r14 z14 w14_0 w14_1 => ?_)) (by decide))
            refine jr_v rfl rfl (Or.inl rfl) rfl rfl (by decide) rfl ⟨rfl, Nat.le_of_ble_eq_true rfl, Nat.le_of_ble_eq_true rfl⟩ rfl (jc.deep (r_added hI_M hH_M hS_M ht_M (by omega) (by omega) (by omega) (by omega)  (fun r15 z15  => ?_)) (by decide))
            refine jr.lstore rfl (by decide) rfl ?_
            refine jr.iload_n rfl rfl ?_
            refine jr.bipush rfl (by decide) ?_
            refine jr.icmp_ne rfl rfl (by omega) (by omega) (fun h124 => ?_) (fun h124 => ?_)
            · refine jr.aload_n rfl rfl ?_
              refine jr.getf (i := 7) (v := .ref 603) rfl rfl (by decide) rfl (by decide) rfl rfl rfl rfl ?_
              refine jr.iload rfl rfl ?_
              refine jr.iald (i := t) (x := v1) rfl (by decide) rfl (by decide) (by omega) (by omega) e1 ?_
              refine jr.iconst rfl ?_
              refine jr.icmp_ne rfl rfl (by omega) (by omega) (fun h141 => ?_) (fun h141 => ?_)
              · refine jr.aload_n rfl rfl ?_
                refine jr.getf (i := 8) (v := .ref 604) rfl rfl (by decide) rfl (by decide) rfl rfl rfl rfl ?_
                refine jr.iload rfl rfl ?_
                obtain ⟨v16, e16⟩ : ∃ z, M 604 t = z := ⟨_, rfl⟩
                have b16 : 0 ≤ v16 ∧ v16 ≤ 400 := by rw [← e16]; exact (by have q := hI_M 604 t (by decide); rw [xri_row rfl rfl] at q; exact q)
                refine jr.iald (i := t) (x := v16) rfl (by decide) rfl (by decide) (by omega) (by omega) e16 ?_
                refine jr.bipush rfl (by decide) ?_
                refine jr.iadd rfl ?_
                refine jr.istore rfl (by decide) rfl ?_
                refine jr.lload rfl rfl ?_
                refine jr.aload_n rfl rfl ?_
                refine jr.iload_n rfl rfl ?_
                refine jr.iload rfl rfl ?_
                refine jr.aload_n rfl rfl ?_
                refine jr.getf (i := 7) (v := .ref 603) rfl rfl (by decide) rfl (by decide) rfl rfl rfl rfl ?_
                refine jr.iload rfl rfl ?_
                refine jr.iald (i := t) (x := v1) rfl (by decide) rfl (by decide) (by omega) (by omega) e1 ?_
                refine jr.iconst rfl ?_
                refine jr.icmp_ne rfl rfl (by omega) (by omega) (fun h183 => ?_) (fun h183 => ?_)
                · refine jr.iload rfl rfl ?_
                  refine jr.bipush rfl (by decide) ?_
                  refine jr.iadd rfl ?_
                  refine jr.bipush rfl (by decide) ?_
                  refine jr_v rfl rfl (Or.inl rfl) rfl rfl (by decide) rfl ⟨rfl, Nat.le_of_ble_eq_true rfl, Nat.le_of_ble_eq_true rfl⟩ rfl (jc.deep (r_added hI_M hH_M hS_M ht_M (by omega) (by omega) (by omega) (by omega)  (fun r17 z17  => ?_)) (by decide))
                  refine jr.ladd rfl ?_
                  refine jr.lw (jl_w (r15 + r17)) (jl_w_eq _) ?_
                  have b18 : -9223372036854775808 ≤ jl_w (r15 + r17) ∧ jl_w (r15 + r17) ≤ 9223372036854775807 := jbl_any _
                  generalize jl_w (r15 + r17) = v18 at b18 ⊢
                  refine jr.lstore rfl (by decide) rfl ?_
                  refine jr.lload rfl rfl ?_
                  refine jr.aload_n rfl rfl ?_
                  refine jr.getf (i := 3) (v := .ref 600) rfl rfl (by decide) rfl (by decide) rfl rfl rfl rfl ?_
                  refine jr.iload_n rfl rfl ?_
                  refine jr.iald (i := x) (x := v13) rfl (by decide) rfl (by decide) (by omega) (by omega) e13 ?_
                  refine jr.iload rfl rfl ?_
                  refine jr.isub rfl ?_
                  refine jr.iload_n rfl rfl ?_
                  refine jr.bipush rfl (by decide) ?_
                  refine jr.icmp_ne rfl rfl (by omega) (by omega) (fun h221 => ?_) (fun h221 => ?_)
                  · refine jr.bipush rfl (by decide) ?_
                    refine jr.iadd rfl ?_
                    refine jr.i2l rfl (by omega) ?_
                    refine jr.ladd rfl ?_
                    refine jr.lw (jl_w (v18 + ((v13 - a) + 17))) (jl_w_eq _) ?_
                    have b19 : -9223372036854775808 ≤ jl_w (v18 + ((v13 - a) + 17)) ∧ jl_w (v18 + ((v13 - a) + 17)) ≤ 9223372036854775807 := jbl_any _
                    generalize jl_w (v18 + ((v13 - a) + 17)) = v19 at b19 ⊢
                    refine jr.lstore rfl (by decide) rfl ?_
                    refine jr.lload rfl rfl ?_
                    refine jr_s rfl rfl (Or.inl rfl) ⟨Nat.le_of_ble_eq_true rfl, Nat.le_of_ble_eq_true rfl⟩ rfl rfl (jc.deep (r_turned hI_M hH_M hS_M ht_M (by omega)  (fun r20 z20  => ?_)) (by decide))
                    refine jr.istore rfl (by decide) rfl ?_
                    refine jr.iload_n rfl rfl ?_
                    refine jr.bipush rfl (by decide) ?_
                    refine jr.icmp_ne rfl rfl (by omega) (by omega) (fun h246 => ?_) (fun h246 => ?_)
                    · refine jr.iload rfl rfl ?_
                      exact jr.ireturn rfl rfl rfl (q _ (by omega) (by omega))
                    · refine jr.iload rfl rfl ?_
                      refine jr.if_ne rfl rfl (by omega) (fun h251 => ?_) (fun h251 => ?_)
                      · refine jr.iload rfl rfl ?_
                        exact jr.ireturn rfl rfl rfl (q _ (by omega) (by omega))
                      · refine jr.ldcw (x := 65535) rfl rfl (by decide) ?_
                        refine jr.goto rfl rfl ?_
                        exact jr.ireturn rfl rfl rfl (q _ (by omega) (by omega))
                  · refine jr.bipush rfl (by decide) ?_
                    refine jr.goto rfl rfl ?_
                    refine jr.iadd rfl ?_
                    refine jr.i2l rfl (by omega) ?_
                    refine jr.ladd rfl ?_
                    refine jr.lw (jl_w (v18 + ((v13 - a) + 6))) (jl_w_eq _) ?_
                    have b21 : -9223372036854775808 ≤ jl_w (v18 + ((v13 - a) + 6)) ∧ jl_w (v18 + ((v13 - a) + 6)) ≤ 9223372036854775807 := jbl_any _
                    generalize jl_w (v18 + ((v13 - a) + 6)) = v21 at b21 ⊢
                    refine jr.lstore rfl (by decide) rfl ?_
                    refine jr.lload rfl rfl ?_
                    refine jr_s rfl rfl (Or.inl rfl) ⟨Nat.le_of_ble_eq_true rfl, Nat.le_of_ble_eq_true rfl⟩ rfl rfl (jc.deep (r_turned hI_M hH_M hS_M ht_M (by omega)  (fun r22 z22  => ?_)) (by decide))
                    refine jr.istore rfl (by decide) rfl ?_
                    refine jr.iload_n rfl rfl ?_
                    refine jr.bipush rfl (by decide) ?_
                    refine jr.icmp_ne rfl rfl (by omega) (by omega) (fun h246 => ?_) (fun h246 => ?_)
                    · refine jr.iload rfl rfl ?_
                      exact jr.ireturn rfl rfl rfl (q _ (by omega) (by omega))
                    · exact absurd (by omega) h246
                · exact absurd (by omega) h183
              · exact absurd (by omega) h141
            · refine jr.lload rfl rfl ?_
              refine jr_s rfl rfl (Or.inl rfl) ⟨Nat.le_of_ble_eq_true rfl, Nat.le_of_ble_eq_true rfl⟩ rfl rfl (jc.deep (r_turned hI_M hH_M hS_M ht_M (by omega)  (fun r23 z23  => ?_)) (by decide))
              exact jr.ireturn rfl rfl rfl (q _ (by omega) (by omega))
          · exact absurd (by omega) h96
        · refine jr.iinc rfl rfl (by decide) rfl ?_
          refine jr.goto rfl rfl ?_
          refine jr.pick [0, 1, 2, 3, 4, 5] rfl rfl ?_
          exact ih (n - 1) (by omega) (t + (-1)) a k h x (by omega) (by omega) (by omega) (by omega) (by omega) (by omega) (by omega) (by omega) (by omega) (by omega)
theorem r_sumOf {A : Nat → Option (Nat × (Nat → Int32))} {Q : Option Value → jm → Prop} {T : jm} {M : jm} (hI_M : RI M) (hH_M : RH M) (hS_M : RF M) (ht_M : Kp T M) {x : Int} (h_x : 0 ≤ x ∧ x ≤ 23) {h : Int} (h_h : 0 ≤ h ∧ h ≤ 11) (q : ∀ (r : Int), (-2147483648) ≤ r ∧ r ≤ 2147483647 → (r = -1 ∨ (M 603 h = 2 ∨ M 603 h = 7 ∨ M 603 h = 8 ∨ M 603 h = 9)) → Q (some (.int (Int32.ofInt r))) M) : jc A 3 282 [.ref (598), .int (Int32.ofInt (x)), .int (Int32.ofInt (h))] M Q := by
  have rh := (hH_M h).2
  refine jc_of (m := xm_282) rfl (Nat.le_of_ble_eq_true rfl) rfl ?_
  refine jr.aload_n rfl rfl ?_
  refine jr.getf (i := 7) (v := .ref 603) rfl rfl (by decide) rfl (by decide) rfl rfl rfl rfl ?_
  refine jr.iload_n rfl rfl ?_
  obtain ⟨v1, e1⟩ : ∃ z, M 603 h = z := ⟨_, rfl⟩
  have b1 : 0 ≤ v1 ∧ v1 ≤ 11 := by rw [← e1]; exact (by have q := hI_M 603 h (by decide); rw [xri_row rfl rfl] at q; exact q)
  refine jr.iald (i := h) (x := v1) rfl (by decide) rfl (by decide) (by omega) (by omega) e1 ?_
  refine jr.istore_n rfl (by decide) rfl ?_
  refine jr.aload_n rfl rfl ?_
  refine jr.getf (i := 8) (v := .ref 604) rfl rfl (by decide) rfl (by decide) rfl rfl rfl rfl ?_
  refine jr.iload_n rfl rfl ?_
  obtain ⟨v2, e2⟩ : ∃ z, M 604 h = z := ⟨_, rfl⟩
  have b2 : 0 ≤ v2 ∧ v2 ≤ 400 := by rw [← e2]; exact (by have q := hI_M 604 h (by decide); rw [xri_row rfl rfl] at q; exact q)
  refine jr.iald (i := h) (x := v2) rfl (by decide) rfl (by decide) (by omega) (by omega) e2 ?_
  refine jr.istore rfl (by decide) rfl ?_
  refine jr.aload_n rfl rfl ?_
  refine jr.iload_n rfl rfl ?_
  refine jr_v rfl rfl (Or.inl rfl) rfl rfl (by decide) rfl ⟨rfl, Nat.le_of_ble_eq_true rfl, Nat.le_of_ble_eq_true rfl⟩ rfl (jc.deep (r_sumAt hI_M hH_M hS_M ht_M (by omega)  (fun r3 z3 w3_0 w3_1 => ?_)) (by decide))
  refine jr.iconst rfl ?_
  refine jr.icmp_ne rfl rfl (by omega) (by omega) (fun h21 => ?_) (fun h21 => ?_)
  · refine jr.iload_n rfl rfl ?_
    refine jr.iconst rfl ?_
    refine jr.icmp_ne rfl rfl (by omega) (by omega) (fun h28 => ?_) (fun h28 => ?_)
    · refine jr.iload_n rfl rfl ?_
      refine jr.iconst rfl ?_
      refine jr.isub rfl ?_
      refine jr.istore rfl (by decide) rfl ?_
      refine jr.pick [0, 1, 2, 5, 4, 3] rfl rfl ?_
      exact r_sumOf_L61 hI_M hH_M hS_M ht_M q 12 (h - 1) v2 v1 h x (by omega) (by omega) (by omega) (by omega) (by omega) (by omega) (by omega) (by omega) (by omega) (by omega)
    · refine jr.aload_n rfl rfl ?_
      refine jr.iload_n rfl rfl ?_
      refine jr.iload rfl rfl ?_
      refine jr.iload rfl rfl ?_
      refine jr.aload_n rfl rfl ?_
      refine jr.getf (i := 9) (v := .ref 605) rfl rfl (by decide) rfl (by decide) rfl rfl rfl rfl ?_
      refine jr.iload_n rfl rfl ?_
      obtain ⟨v4, e4⟩ : ∃ z, M 605 h = z := ⟨_, rfl⟩
      have b4 : 0 ≤ v4 ∧ v4 ≤ 400 := by rw [← e4]; exact (by have q := hI_M 605 h (by decide); rw [xri_row rfl rfl] at q; exact q)
      refine jr.iald (i := h) (x := v4) rfl (by decide) rfl (by decide) (by omega) (by omega) e4 ?_
      refine jr.iadd rfl ?_
      refine jr.iload rfl rfl ?_
      refine jr.bipush rfl (by decide) ?_
      refine jr.iadd rfl ?_
      refine jr_v rfl rfl (Or.inl rfl) rfl rfl (by decide) rfl ⟨rfl, Nat.le_of_ble_eq_true rfl, Nat.le_of_ble_eq_true rfl⟩ rfl (jc.deep (r_added hI_M hH_M hS_M ht_M (by omega) (by omega) (by omega) (by omega)  (fun r5 z5  => ?_)) (by decide))
      refine jr_s rfl rfl (Or.inl rfl) ⟨Nat.le_of_ble_eq_true rfl, Nat.le_of_ble_eq_true rfl⟩ rfl rfl (jc.deep (r_turned hI_M hH_M hS_M ht_M (by omega)  (fun r6 z6  => ?_)) (by decide))
      exact jr.ireturn rfl rfl rfl (q _ (by omega) (by omega))
  · refine jr.iconst rfl ?_
    exact jr.ireturn rfl rfl rfl (q _ (by omega) (by omega))
theorem r_sum {A : Nat → Option (Nat × (Nat → Int32))} {Q : Option Value → jm → Prop} {T : jm} {M : jm} (hI_M : RI M) (hH_M : RH M) (hS_M : RF M) (ht_M : Kp T M) {x : Int} (h_x : (-2147483648) ≤ x ∧ x ≤ 2147483647) {h : Int} (h_h : (-2147483648) ≤ h ∧ h ≤ 2147483647) (q : ∀ (r : Int) (M' : jm), RI M' → RH M' → RF M' → Kp T M' → (-2147483648) ≤ r ∧ r ≤ 2147483647 → Q (some (.int (Int32.ofInt r))) M') : jc A 5 283 [.ref (598), .int (Int32.ofInt (x)), .int (Int32.ofInt (h))] M Q := by
  refine jc_of (m := xm_283) rfl (Nat.le_of_ble_eq_true rfl) rfl ?_
  refine jr.aload_n rfl rfl ?_
  refine jr.iload_n rfl rfl ?_
  refine jr_v rfl rfl (Or.inl rfl) rfl rfl (by decide) rfl ⟨rfl, Nat.le_of_ble_eq_true rfl, Nat.le_of_ble_eq_true rfl⟩ rfl (jc.deep (c_isThere hI_M (by omega) (fun l2 u2 t2 => ?_) (fun n2 => ?_)) (by decide))
  · refine jr.if_ne rfl rfl (by omega) (fun _ => ?_) (fun h => absurd (by decide) h)
    refine jr.aload_n rfl rfl ?_
    refine jr.iload_n rfl rfl ?_
    obtain ⟨v2, e2⟩ : ∃ z, M 600 x = z := ⟨_, rfl⟩
    have b2 : (-1) ≤ v2 ∧ v2 ≤ 400 := by rw [← e2]; exact (by have q := hI_M 600 x (by decide); rw [xri_row rfl rfl] at q; exact q)
    refine jr_v rfl rfl (Or.inl rfl) rfl rfl (by decide) rfl ⟨rfl, Nat.le_of_ble_eq_true rfl, Nat.le_of_ble_eq_true rfl⟩ rfl (jc.deep (r_look hI_M hH_M hS_M ht_M (by omega) (by rw [e2]; omega) (fun M1 hI_M1 hH_M1 hS_M1 ht_M1 w1_0 w1_1 w1_2 => ?_)) (by decide))
    refine jr.iload_n rfl rfl ?_
    refine jr.i2l rfl (by omega) ?_
    refine jr.lconst (x := 0) rfl (by decide) ?_
    refine jr.aload_n rfl rfl ?_
    obtain ⟨v3, e3⟩ : ∃ z, M1 598 6 = z := ⟨_, rfl⟩
    have b3 : 0 ≤ v3 ∧ v3 ≤ 12 := by rw [← e3]; exact hI_M1 598 6 (by decide)
    refine jr.getf (i := 6) (x := v3) (v := .int (Int32.ofInt (v3))) rfl rfl (by decide) rfl (by decide) rfl rfl e3 rfl ?_
    refine jr.iconst rfl ?_
    refine jr.isub rfl ?_
    refine jr.i2l rfl (by omega) ?_
    refine jr_s rfl rfl (Or.inl rfl) ⟨Nat.le_of_ble_eq_true rfl, Nat.le_of_ble_eq_true rfl⟩ rfl rfl (jc.deep (c_within (by omega) (by omega) (by omega) (fun l26 u26 => ?_) (fun n26 => ?_)) (by decide))
    · refine jr.if_eq rfl rfl (by omega) (fun h => absurd h (by decide)) (fun _ => ?_)
      refine jr.aload_n rfl rfl ?_
      refine jr.iload_n rfl rfl ?_
      refine jr.iload_n rfl rfl ?_
      refine jr_v rfl rfl (Or.inl rfl) rfl rfl (by decide) rfl ⟨rfl, Nat.le_of_ble_eq_true rfl, Nat.le_of_ble_eq_true rfl⟩ rfl (jc.deep (r_sumOf hI_M1 hH_M1 hS_M1 ht_M1 (by omega) (by omega)  (fun r4 z4 w4_0 => ?_)) (by decide))
      refine jr.goto rfl rfl ?_
      exact jr.ireturn rfl rfl rfl (q _ _ hI_M1 hH_M1 hS_M1 ht_M1 (by omega) )
    · refine jr.if_eq rfl rfl (by omega) (fun _ => ?_) (fun h => absurd (by decide) h)
      refine jr.iconst rfl ?_
      exact jr.ireturn rfl rfl rfl (q _ _ hI_M1 hH_M1 hS_M1 ht_M1 (by omega) )
  · refine jr.if_ne rfl rfl (by omega) (fun h => absurd h (by decide)) (fun _ => ?_)
    refine jr.bipush rfl (by decide) ?_
    exact jr.ireturn rfl rfl rfl (q _ _ hI_M hH_M hS_M ht_M (by omega) )
theorem r_right {A : Nat → Option (Nat × (Nat → Int32))} {Q : Option Value → jm → Prop} {T : jm} {M : jm} (hI_M : RI M) (hH_M : RH M) (hS_M : RF M) (ht_M : Kp T M) {x : Int} (h_x : 0 ≤ x ∧ x ≤ 23) {h : Int} (h_h : 0 ≤ h ∧ h ≤ 11) (q : ∀ (r : Int) (M' : jm), RI M' → RH M' → RF M' → Kp T M' → 0 ≤ r ∧ r ≤ 1 → (∀ (a : Nat) (i : Int), a ≠ 601 → M' a i = M a i) → Q (some (.int (Int32.ofInt r))) M') : jc A 4 284 [.ref (598), .int (Int32.ofInt (x)), .int (Int32.ofInt (h))] M Q := by
  refine jc_of (m := xm_284) rfl (Nat.le_of_ble_eq_true rfl) rfl ?_
  refine jr.aload_n rfl rfl ?_
  refine jr.iload_n rfl rfl ?_
  refine jr.iload_n rfl rfl ?_
  refine jr_v rfl rfl (Or.inl rfl) rfl rfl (by decide) rfl ⟨rfl, Nat.le_of_ble_eq_true rfl, Nat.le_of_ble_eq_true rfl⟩ rfl (jc.deep (r_sumOf hI_M hH_M hS_M ht_M (by omega) (by omega)  (fun r1 z1 w1_0 => ?_)) (by decide))
  refine jr.istore_n rfl (by decide) rfl ?_
  refine jr.iload_n rfl rfl ?_
  refine jr.iconst rfl ?_
  refine jr.icmp_eq rfl rfl (by omega) (by omega) (fun h9 => ?_) (fun h9 => ?_)
  · refine jr.iconst rfl ?_
    exact jr.ireturn rfl rfl rfl (q _ _ hI_M hH_M hS_M ht_M (by omega) (fun a i f601 => rfl))
  · refine jr.aload_n rfl rfl ?_
    refine jr.iload_n rfl rfl ?_
    refine jr.aload_n rfl rfl ?_
    refine jr.iload_n rfl rfl ?_
    refine jr_v rfl rfl (Or.inl rfl) rfl rfl (by decide) rfl ⟨rfl, Nat.le_of_ble_eq_true rfl, Nat.le_of_ble_eq_true rfl⟩ rfl (jc.deep (r_sumAt hI_M hH_M hS_M ht_M (by omega)  (fun r2 z2 w2_0 w2_1 => ?_)) (by decide))
    refine jr_v rfl rfl (Or.inl rfl) rfl rfl (by decide) rfl ⟨rfl, Nat.le_of_ble_eq_true rfl, Nat.le_of_ble_eq_true rfl⟩ rfl (jc.deep (r_two hI_M hH_M hS_M ht_M (by omega) (by omega)  (fun r3 z3  => ?_)) (by decide))
    refine jr.iload_n rfl rfl ?_
    refine jr.icmp_ne rfl rfl (by omega) (by omega) (fun h23 => ?_) (fun h23 => ?_)
    · refine jr.aload_n rfl rfl ?_
      refine jr.iload_n rfl rfl ?_
      refine jr.aload_n rfl rfl ?_
      refine jr.iload_n rfl rfl ?_
      refine jr_v rfl rfl (Or.inl rfl) rfl rfl (by decide) rfl ⟨rfl, Nat.le_of_ble_eq_true rfl, Nat.le_of_ble_eq_true rfl⟩ rfl (jc.deep (r_sumAt hI_M hH_M hS_M ht_M (by omega)  (fun r4 z4 w4_0 w4_1 => ?_)) (by decide))
      refine jr.iload_n rfl rfl ?_
      refine jr_v rfl rfl (Or.inl rfl) rfl rfl (by decide) rfl ⟨rfl, Nat.le_of_ble_eq_true rfl, Nat.le_of_ble_eq_true rfl⟩ rfl (jc.deep (r_layTwo hI_M hH_M hS_M ht_M (by omega) (by omega) (by omega)  (fun M5 hI_M5 hH_M5 hS_M5 ht_M5 w5_0 w5_1 => ?_)) (by decide))
      refine jr.iconst rfl ?_
      exact jr.ireturn rfl rfl rfl (q _ _ hI_M5 hH_M5 hS_M5 ht_M5 (by omega) (fun a i f601 => ((w5_1 a i f601).trans rfl)))
    · refine jr.iconst rfl ?_
      exact jr.ireturn rfl rfl rfl (q _ _ hI_M hH_M hS_M ht_M (by omega) (fun a i f601 => rfl))
theorem r_repair_L25 {A : Nat → Option (Nat × (Nat → Int32))} {Q : Option Value → jm → Prop} {T : jm} (q : ∀ (r : Int) (M' : jm), RI M' → RH M' → RF M' → Kp T M' → (-2) ≤ r ∧ r ≤ 20 → Q (some (.int (Int32.ofInt r))) M') : ∀ (n : Nat) (M : jm) (h : Int) (c : Int) (x : Int), RI M → RH M → RF M → Kp T M → (-1) ≤ h ∧ h ≤ 11 → 0 ≤ c ∧ c ≤ 12 → 0 ≤ x ∧ x ≤ 23 → c + h ≤ 11 → h + 1 ≤ n → jr A 4 xm_285 25 [(3, .int (Int32.ofInt (h))), (2, .int (Int32.ofInt (c))), (1, .int (Int32.ofInt (x))), (0, .ref (598))] [] M Q := by
  intro n
  induction n using Nat.strongRecOn with
  | ind n ih =>
    intro M h c x hI_M hH_M hS_M ht_M h_h h_c h_x hy0 hm
    refine jr.iload_n rfl rfl ?_
    refine jr.if_lt rfl rfl (by omega) (fun h26 => ?_) (fun h26 => ?_)
    · refine jr.iload_n rfl rfl ?_
      exact jr.ireturn rfl rfl rfl (q _ _ hI_M hH_M hS_M ht_M (by omega) )
    · refine jr.iload_n rfl rfl ?_
      refine jr.aload_n rfl rfl ?_
      refine jr.iload_n rfl rfl ?_
      refine jr.iload_n rfl rfl ?_
      refine jr_v rfl rfl (Or.inl rfl) rfl rfl (by decide) rfl ⟨rfl, Nat.le_of_ble_eq_true rfl, Nat.le_of_ble_eq_true rfl⟩ rfl (jc.deep (r_right hI_M hH_M hS_M ht_M (by omega) (by omega)  (fun r1 M1 hI_M1 hH_M1 hS_M1 ht_M1 z1 w1_0 => ?_)) (by decide))
      refine jr.if_eq rfl rfl (by omega) (fun h36 => ?_) (fun h36 => ?_)
      · refine jr.iconst rfl ?_
        refine jr.iadd rfl ?_
        refine jr.istore_n rfl (by decide) rfl ?_
        refine jr.iinc rfl rfl (by decide) rfl ?_
        refine jr.goto rfl rfl ?_
        refine jr.pick [0, 1, 2, 3] rfl rfl ?_
        exact ih (n - 1) (by omega) M1 (h + (-1)) (c + 0) x hI_M1 hH_M1 hS_M1 ht_M1 (by omega) (by omega) (by omega) (by omega) (by omega)
      · refine jr.iconst rfl ?_
        refine jr.goto rfl rfl ?_
        refine jr.iadd rfl ?_
        refine jr.istore_n rfl (by decide) rfl ?_
        refine jr.iinc rfl rfl (by decide) rfl ?_
        refine jr.goto rfl rfl ?_
        refine jr.pick [0, 1, 2, 3] rfl rfl ?_
        exact ih (n - 1) (by omega) M1 (h + (-1)) (c + 1) x hI_M1 hH_M1 hS_M1 ht_M1 (by omega) (by omega) (by omega) (by omega) (by omega)
theorem r_repair {A : Nat → Option (Nat × (Nat → Int32))} {Q : Option Value → jm → Prop} {T : jm} {M : jm} (hI_M : RI M) (hH_M : RH M) (hS_M : RF M) (ht_M : Kp T M) {x : Int} (h_x : (-2147483648) ≤ x ∧ x ≤ 2147483647) (q : ∀ (r : Int) (M' : jm), RI M' → RH M' → RF M' → Kp T M' → (-2) ≤ r ∧ r ≤ 20 → Q (some (.int (Int32.ofInt r))) M') : jc A 5 285 [.ref (598), .int (Int32.ofInt (x))] M Q := by
  refine jc_of (m := xm_285) rfl (Nat.le_of_ble_eq_true rfl) rfl ?_
  refine jr.aload_n rfl rfl ?_
  refine jr.iload_n rfl rfl ?_
  refine jr_v rfl rfl (Or.inl rfl) rfl rfl (by decide) rfl ⟨rfl, Nat.le_of_ble_eq_true rfl, Nat.le_of_ble_eq_true rfl⟩ rfl (jc.deep (c_isThere hI_M (by omega) (fun l2 u2 t2 => ?_) (fun n2 => ?_)) (by decide))
  · refine jr.if_ne rfl rfl (by omega) (fun _ => ?_) (fun h => absurd (by decide) h)
    refine jr.aload_n rfl rfl ?_
    refine jr.iload_n rfl rfl ?_
    obtain ⟨v2, e2⟩ : ∃ z, M 600 x = z := ⟨_, rfl⟩
    have b2 : (-1) ≤ v2 ∧ v2 ≤ 400 := by rw [← e2]; exact (by have q := hI_M 600 x (by decide); rw [xri_row rfl rfl] at q; exact q)
    refine jr_v rfl rfl (Or.inl rfl) rfl rfl (by decide) rfl ⟨rfl, Nat.le_of_ble_eq_true rfl, Nat.le_of_ble_eq_true rfl⟩ rfl (jc.deep (r_look hI_M hH_M hS_M ht_M (by omega) (by rw [e2]; omega) (fun M1 hI_M1 hH_M1 hS_M1 ht_M1 w1_0 w1_1 w1_2 => ?_)) (by decide))
    refine jr.iconst rfl ?_
    refine jr.istore_n rfl (by decide) rfl ?_
    refine jr.aload_n rfl rfl ?_
    obtain ⟨v3, e3⟩ : ∃ z, M1 598 6 = z := ⟨_, rfl⟩
    have b3 : 0 ≤ v3 ∧ v3 ≤ 12 := by rw [← e3]; exact hI_M1 598 6 (by decide)
    refine jr.getf (i := 6) (x := v3) (v := .int (Int32.ofInt (v3))) rfl rfl (by decide) rfl (by decide) rfl rfl e3 rfl ?_
    refine jr.iconst rfl ?_
    refine jr.isub rfl ?_
    refine jr.istore_n rfl (by decide) rfl ?_
    refine jr.pick [0, 1, 3, 2] rfl rfl ?_
    exact r_repair_L25 q 13 M1 (v3 - 1) 0 x hI_M1 hH_M1 hS_M1 ht_M1 (by omega) (by omega) (by omega) (by omega) (by omega)
  · refine jr.if_ne rfl rfl (by omega) (fun h => absurd h (by decide)) (fun _ => ?_)
    refine jr.bipush rfl (by decide) ?_
    exact jr.ireturn rfl rfl rfl (q _ _ hI_M hH_M hS_M ht_M (by omega) )
