/-! ===== the reference: contracts, 33.rh ===== -/
theorem r_turn {A : Nat → Option (Nat × (Nat → Int32))} {Q : Option Value → jm → Prop} {T : jm} {M : jm} (hI_M : RI M) (hH_M : RH M) (hS_M : RF M) (ht_M : Kp T M) {x : Int} (h_x : (-2147483648) ≤ x ∧ x ≤ 2147483647) (q : ∀ (r : Int) (M' : jm), RI M' → RH M' → RF M' → Kp T M' → (-4) ≤ r ∧ r ≤ 1 → Q (some (.int (Int32.ofInt r))) M') : jc A 8 322 [.ref (598), .int (Int32.ofInt (x))] M Q := by
  refine jc_of (m := xm_322) rfl (Nat.le_of_ble_eq_true rfl) rfl ?_
  refine jr.aload_n rfl rfl ?_
  refine jr.iload_n rfl rfl ?_
  refine jr_v rfl rfl (Or.inl rfl) rfl rfl (by decide) rfl ⟨rfl, Nat.le_of_ble_eq_true rfl, Nat.le_of_ble_eq_true rfl⟩ rfl (jc.deep (c_isThere hI_M (by omega) (fun l2 u2 t2 => ?_) (fun n2 => ?_)) (by decide))
  · refine jr.if_ne rfl rfl (by omega) (fun _ => ?_) (fun h => absurd (by decide) h)
    refine jr.aload_n rfl rfl ?_
    refine jr.iload_n rfl rfl ?_
    obtain ⟨v2, e2⟩ : ∃ z, M 600 x = z := ⟨_, rfl⟩
    have b2 : (-1) ≤ v2 ∧ v2 ≤ 400 := by rw [← e2]; exact (by have q := hI_M 600 x (by decide); rw [xri_row rfl rfl] at q; exact q)
    refine jr_v rfl rfl (Or.inl rfl) rfl rfl (by decide) rfl ⟨rfl, Nat.le_of_ble_eq_true rfl, Nat.le_of_ble_eq_true rfl⟩ rfl (jc.deep (r_hasEnds hI_M hH_M hS_M ht_M (by omega) (by rw [e2]; omega) (fun r1 M1 hI_M1 hH_M1 hS_M1 ht_M1 z1 w1_0 w1_1 w1_2 => ?_)) (by decide))
    refine jr.if_ne rfl rfl (by omega) (fun h16 => ?_) (fun h16 => ?_)
    · refine jr.aload_n rfl rfl ?_
      refine jr_v rfl rfl (Or.inl rfl) rfl rfl (by decide) rfl ⟨rfl, Nat.le_of_ble_eq_true rfl, Nat.le_of_ble_eq_true rfl⟩ rfl (jc.deep (r_flowByEnds hI_M1 hH_M1 hS_M1 ht_M1   (fun r3 M3 hI_M3 hH_M3 hS_M3 ht_M3 z3 w3_0 w3_1 w3_2 => ?_)) (by decide))
      have q3 := w1_0.resolve_left (by omega)
      obtain ⟨re1, re2, re3, re4, re5, tt, rt0, rt1, rt2⟩ := q3
      obtain ⟨ea, hea⟩ : ∃ z, M1 598 65 = z := ⟨_, rfl⟩
      rw [hea] at re1 re2 re3 re4
      have rc := RH.car hH_M1 ea
      have b65 : M1 598 6 ≤ 12 := (hI_M1 598 6 (by decide)).2
      refine jr.istore_n rfl (by decide) rfl ?_
      refine jr.iload_n rfl rfl ?_
      refine jr.iconst rfl ?_
      refine jr.icmp_eq rfl rfl (by omega) (by omega) (fun h29 => ?_) (fun h29 => ?_)
      · refine jr.bipush rfl (by decide) ?_
        exact jr.ireturn rfl rfl rfl (q _ _ hI_M3 hH_M3 hS_M3 ht_M3 (by omega) )
      · refine jr.aload_n rfl rfl ?_
        refine jr.getf (i := 52) (v := .ref 640) rfl rfl (by decide) rfl (by decide) rfl rfl rfl rfl ?_
        refine jr.iload_n rfl rfl ?_
        obtain ⟨v4, e4⟩ : ∃ z, M 640 r3 = z := ⟨_, rfl⟩
        have b4 : (-1) ≤ v4 ∧ v4 ≤ 3 := by rw [← e4]; exact (by have q := hI_M 640 r3 (by decide); rw [xri_row rfl rfl] at q; exact q)
        have e5 : M1 640 r3 = v4 := ((w1_1 640 r3 (by decide) (by decide) (by decide) (by decide)).trans e4)
        have e6 : M3 640 r3 = v4 := ((w3_1 640 r3 (by decide)).trans e5)
        refine jr.iald (i := r3) (x := v4) rfl (by decide) rfl (by decide) (by omega) (by omega) e6 ?_
        refine jr.iconst rfl ?_
        refine jr.icmp_ne rfl rfl (by omega) (by omega) (fun h39 => ?_) (fun h39 => ?_)
        · refine jr.aload_n rfl rfl ?_
          refine jr_v rfl rfl (Or.inl rfl) rfl rfl (by decide) rfl ⟨rfl, Nat.le_of_ble_eq_true rfl, Nat.le_of_ble_eq_true rfl⟩ rfl (jc.deep (r_net hI_M3 hH_M3 hS_M3 ht_M3   (fun r7 z7 w7_0 w7_1 w7_2 => ?_)) (by decide))
          have rn : ¬ r7 = -1 := by
            intro z
            have z1 := w7_1 z tt rt0 (by rw [w3_2 6 (by decide)]; exact rt1)
            rw [w3_1 603 tt (by decide)] at z1
            omega
          refine jr.istore_n rfl (by decide) rfl ?_
          refine jr.aload_n rfl rfl ?_
          refine jr.getf (i := 8) (v := .ref 604) rfl rfl (by decide) rfl (by decide) rfl rfl rfl rfl ?_
          refine jr.aload_n rfl rfl ?_
          have e8 : M3 598 65 = ea := ((w3_2 65 (by decide)).trans hea)
          refine jr.getf (i := 65) (x := ea) (v := .int (Int32.ofInt (ea))) rfl rfl (by decide) rfl (by decide) rfl rfl e8 rfl ?_
          obtain ⟨v9, e9⟩ : ∃ z, M1 604 ea = z := ⟨_, rfl⟩
          have b9 : 0 ≤ v9 ∧ v9 ≤ 400 := by rw [← e9]; exact (by have q := hI_M1 604 ea (by decide); rw [xri_row rfl rfl] at q; exact q)
          have e10 : M3 604 ea = v9 := ((w3_1 604 ea (by decide)).trans e9)
          refine jr.iald (i := ea) (x := v9) rfl (by decide) rfl (by decide) (by omega) (by omega) e10 ?_
          refine jr.istore rfl (by decide) rfl ?_
          refine jr.aload_n rfl rfl ?_
          obtain ⟨v11, e11⟩ : ∃ z, M3 598 66 = z := ⟨_, rfl⟩
          have b11 : (-1) ≤ v11 ∧ v11 ≤ 1 := by rw [← e11]; exact hI_M3 598 66 (by decide)
          refine jr.getf (i := 66) (x := v11) (v := .int (Int32.ofInt (v11))) rfl rfl (by decide) rfl (by decide) rfl rfl e11 rfl ?_
          refine jr.if_ne rfl rfl (by omega) (fun h65 => ?_) (fun h65 => ?_)
          · refine jr.aload_n rfl rfl ?_
            refine jr.iload_n rfl rfl ?_
            refine jr.aload_n rfl rfl ?_
            refine jr.getf (i := 8) (v := .ref 604) rfl rfl (by decide) rfl (by decide) rfl rfl rfl rfl ?_
            refine jr.iload_n rfl rfl ?_
            obtain ⟨v12, e12⟩ : ∃ z, M1 604 r7 = z := ⟨_, rfl⟩
            have b12 : 0 ≤ v12 ∧ v12 ≤ 400 := by rw [← e12]; exact (by have q := hI_M1 604 r7 (by decide); rw [xri_row rfl rfl] at q; exact q)
            have e13 : M3 604 r7 = v12 := ((w3_1 604 r7 (by decide)).trans e12)
            refine jr.iald (i := r7) (x := v12) rfl (by decide) rfl (by decide) (by omega) (by omega) e13 ?_
            refine jr.bipush rfl (by decide) ?_
            refine jr.iadd rfl ?_
            refine jr.aload_n rfl rfl ?_
            refine jr.getf (i := 42) (v := .ref 630) rfl rfl (by decide) rfl (by decide) rfl rfl rfl rfl ?_
            refine jr.iconst rfl ?_
            refine jr.iload_n rfl rfl ?_
            refine jr.imul rfl ?_
            obtain ⟨v14, e14⟩ : ∃ z, M 630 (2 * r3) = z := ⟨_, rfl⟩
            have b14 : (-9223372036854775808) ≤ v14 ∧ v14 ≤ 9223372036854775807 := by rw [← e14]; exact (by have q := hI_M 630 (2 * r3) (by decide); rw [xri_row rfl rfl] at q; exact q)
            have e15 : M1 630 (2 * r3) = v14 := ((w1_1 630 (2 * r3) (by decide) (by decide) (by decide) (by decide)).trans e14)
            have e16 : M3 630 (2 * r3) = v14 := ((w3_1 630 (2 * r3) (by decide)).trans e15)
            refine jr.lald (i := (2 * r3)) (x := v14) rfl (by decide) rfl (by decide) (by omega) (by omega) e16 ?_
            refine jr_v rfl rfl (Or.inl rfl) rfl rfl (by decide) rfl ⟨rfl, Nat.le_of_ble_eq_true rfl, Nat.le_of_ble_eq_true rfl⟩ rfl (jc.deep (r_layFour hI_M3 hH_M3 hS_M3 ht_M3 (by omega) (by omega) (by omega)  (fun M17 hI_M17 hH_M17 hS_M17 ht_M17 w17_0 => ?_)) (by decide))
            refine jr.aload_n rfl rfl ?_
            refine jr.iload_n rfl rfl ?_
            refine jr.iload rfl rfl ?_
            refine jr.iconst rfl ?_
            refine jr.iadd rfl ?_
            refine jr.aload_n rfl rfl ?_
            refine jr.getf (i := 43) (v := .ref 631) rfl rfl (by decide) rfl (by decide) rfl rfl rfl rfl ?_
            refine jr.iconst rfl ?_
            refine jr.iload_n rfl rfl ?_
            refine jr.imul rfl ?_
            obtain ⟨v18, e18⟩ : ∃ z, M 631 (2 * r3) = z := ⟨_, rfl⟩
            have b18 : 0 ≤ v18 ∧ v18 ≤ 65535 := by rw [← e18]; exact (by have q := hI_M 631 (2 * r3) (by decide); rw [xri_row rfl rfl] at q; exact q)
            have e19 : M1 631 (2 * r3) = v18 := ((w1_1 631 (2 * r3) (by decide) (by decide) (by decide) (by decide)).trans e18)
            have e20 : M3 631 (2 * r3) = v18 := ((w3_1 631 (2 * r3) (by decide)).trans e19)
            have e21 : M17 631 (2 * r3) = v18 := ((w17_0 631 (2 * r3) (by decide)).trans e20)
            refine jr.iald (i := (2 * r3)) (x := v18) rfl (by decide) rfl (by decide) (by omega) (by omega) e21 ?_
            refine jr_v rfl rfl (Or.inl rfl) rfl rfl (by decide) rfl ⟨rfl, Nat.le_of_ble_eq_true rfl, Nat.le_of_ble_eq_true rfl⟩ rfl (jc.deep (r_layTwo hI_M17 hH_M17 hS_M17 ht_M17 (by omega) (by omega) (by omega)  (fun M22 hI_M22 hH_M22 hS_M22 ht_M22 w22_0 w22_1 => ?_)) (by decide))
            refine jr.aload_n rfl rfl ?_
            refine jr.iload_n rfl rfl ?_
            refine jr.aload_n rfl rfl ?_
            have e23 : M17 598 65 = ea := ((w17_0 598 65 (by decide)).trans e8)
            have e24 : M22 598 65 = ea := ((w22_1 598 65 (by decide)).trans e23)
            refine jr.getf (i := 65) (x := ea) (v := .int (Int32.ofInt (ea))) rfl rfl (by decide) rfl (by decide) rfl rfl e24 rfl ?_
            refine jr_v rfl rfl (Or.inl rfl) rfl rfl (by decide) rfl ⟨rfl, Nat.le_of_ble_eq_true rfl, Nat.le_of_ble_eq_true rfl⟩ rfl (jc.deep (r_right hI_M22 hH_M22 hS_M22 ht_M22 (by omega) (by omega)  (fun r25 M25 hI_M25 hH_M25 hS_M25 ht_M25 z25 w25_0 => ?_)) (by decide))
            refine jr.istore rfl (by decide) rfl ?_
            refine jr.aload_n rfl rfl ?_
            refine jr.iload_n rfl rfl ?_
            refine jr.iload_n rfl rfl ?_
            refine jr_v rfl rfl (Or.inl rfl) rfl rfl (by decide) rfl ⟨rfl, Nat.le_of_ble_eq_true rfl, Nat.le_of_ble_eq_true rfl⟩ rfl (jc.deep (r_right hI_M25 hH_M25 hS_M25 ht_M25 (by omega) (by omega)  (fun r26 M26 hI_M26 hH_M26 hS_M26 ht_M26 z26 w26_0 => ?_)) (by decide))
            refine jr.istore rfl (by decide) rfl ?_
            refine jr.aload_n rfl rfl ?_
            have e27 : M17 598 66 = v11 := ((w17_0 598 66 (by decide)).trans e11)
            have e28 : M22 598 66 = v11 := ((w22_1 598 66 (by decide)).trans e27)
            have e29 : M25 598 66 = v11 := ((w25_0 598 66 (by decide)).trans e28)
            have e30 : M26 598 66 = v11 := ((w26_0 598 66 (by decide)).trans e29)
            refine jr.getf (i := 66) (x := v11) (v := .int (Int32.ofInt (v11))) rfl rfl (by decide) rfl (by decide) rfl rfl e30 rfl ?_
            exact jr.ireturn rfl rfl rfl (q _ _ hI_M26 hH_M26 hS_M26 ht_M26 (by omega) )
          · refine jr.aload_n rfl rfl ?_
            refine jr.iload_n rfl rfl ?_
            refine jr.aload_n rfl rfl ?_
            refine jr.getf (i := 8) (v := .ref 604) rfl rfl (by decide) rfl (by decide) rfl rfl rfl rfl ?_
            refine jr.iload_n rfl rfl ?_
            obtain ⟨v31, e31⟩ : ∃ z, M1 604 r7 = z := ⟨_, rfl⟩
            have b31 : 0 ≤ v31 ∧ v31 ≤ 400 := by rw [← e31]; exact (by have q := hI_M1 604 r7 (by decide); rw [xri_row rfl rfl] at q; exact q)
            have e32 : M3 604 r7 = v31 := ((w3_1 604 r7 (by decide)).trans e31)
            refine jr.iald (i := r7) (x := v31) rfl (by decide) rfl (by decide) (by omega) (by omega) e32 ?_
            refine jr.bipush rfl (by decide) ?_
            refine jr.iadd rfl ?_
            refine jr.aload_n rfl rfl ?_
            refine jr.getf (i := 53) (v := .ref 641) rfl rfl (by decide) rfl (by decide) rfl rfl rfl rfl ?_
            refine jr.iload_n rfl rfl ?_
            obtain ⟨v33, e33⟩ : ∃ z, M 641 r3 = z := ⟨_, rfl⟩
            have b33 : (-9223372036854775808) ≤ v33 ∧ v33 ≤ 9223372036854775807 := by rw [← e33]; exact (by have q := hI_M 641 r3 (by decide); rw [xri_row rfl rfl] at q; exact q)
            have e34 : M1 641 r3 = v33 := ((w1_1 641 r3 (by decide) (by decide) (by decide) (by decide)).trans e33)
            have e35 : M3 641 r3 = v33 := ((w3_1 641 r3 (by decide)).trans e34)
            refine jr.lald (i := r3) (x := v33) rfl (by decide) rfl (by decide) (by omega) (by omega) e35 ?_
            refine jr_v rfl rfl (Or.inl rfl) rfl rfl (by decide) rfl ⟨rfl, Nat.le_of_ble_eq_true rfl, Nat.le_of_ble_eq_true rfl⟩ rfl (jc.deep (r_layFour hI_M3 hH_M3 hS_M3 ht_M3 (by omega) (by omega) (by omega)  (fun M36 hI_M36 hH_M36 hS_M36 ht_M36 w36_0 => ?_)) (by decide))
            refine jr.aload_n rfl rfl ?_
            refine jr.iload_n rfl rfl ?_
            refine jr.iload rfl rfl ?_
            refine jr.aload_n rfl rfl ?_
            refine jr.getf (i := 54) (v := .ref 642) rfl rfl (by decide) rfl (by decide) rfl rfl rfl rfl ?_
            refine jr.iload_n rfl rfl ?_
            obtain ⟨v37, e37⟩ : ∃ z, M 642 r3 = z := ⟨_, rfl⟩
            have b37 : 0 ≤ v37 ∧ v37 ≤ 70000 := by rw [← e37]; exact (by have q := hI_M 642 r3 (by decide); rw [xri_row rfl rfl] at q; exact q)
            have e38 : M1 642 r3 = v37 := ((w1_1 642 r3 (by decide) (by decide) (by decide) (by decide)).trans e37)
            have e39 : M3 642 r3 = v37 := ((w3_1 642 r3 (by decide)).trans e38)
            have e40 : M36 642 r3 = v37 := ((w36_0 642 r3 (by decide)).trans e39)
            refine jr.iald (i := r3) (x := v37) rfl (by decide) rfl (by decide) (by omega) (by omega) e40 ?_
            refine jr_v rfl rfl (Or.inl rfl) rfl rfl (by decide) rfl ⟨rfl, Nat.le_of_ble_eq_true rfl, Nat.le_of_ble_eq_true rfl⟩ rfl (jc.deep (r_layTwo hI_M36 hH_M36 hS_M36 ht_M36 (by omega) (by omega) (by omega)  (fun M41 hI_M41 hH_M41 hS_M41 ht_M41 w41_0 w41_1 => ?_)) (by decide))
            refine jr.goto rfl rfl ?_
            refine jr.aload_n rfl rfl ?_
            refine jr.iload_n rfl rfl ?_
            refine jr.aload_n rfl rfl ?_
            have e42 : M36 598 65 = ea := ((w36_0 598 65 (by decide)).trans e8)
            have e43 : M41 598 65 = ea := ((w41_1 598 65 (by decide)).trans e42)
            refine jr.getf (i := 65) (x := ea) (v := .int (Int32.ofInt (ea))) rfl rfl (by decide) rfl (by decide) rfl rfl e43 rfl ?_
            refine jr_v rfl rfl (Or.inl rfl) rfl rfl (by decide) rfl ⟨rfl, Nat.le_of_ble_eq_true rfl, Nat.le_of_ble_eq_true rfl⟩ rfl (jc.deep (r_right hI_M41 hH_M41 hS_M41 ht_M41 (by omega) (by omega)  (fun r44 M44 hI_M44 hH_M44 hS_M44 ht_M44 z44 w44_0 => ?_)) (by decide))
            refine jr.istore rfl (by decide) rfl ?_
            refine jr.aload_n rfl rfl ?_
            refine jr.iload_n rfl rfl ?_
            refine jr.iload_n rfl rfl ?_
            refine jr_v rfl rfl (Or.inl rfl) rfl rfl (by decide) rfl ⟨rfl, Nat.le_of_ble_eq_true rfl, Nat.le_of_ble_eq_true rfl⟩ rfl (jc.deep (r_right hI_M44 hH_M44 hS_M44 ht_M44 (by omega) (by omega)  (fun r45 M45 hI_M45 hH_M45 hS_M45 ht_M45 z45 w45_0 => ?_)) (by decide))
            refine jr.istore rfl (by decide) rfl ?_
            refine jr.aload_n rfl rfl ?_
            have e46 : M36 598 66 = v11 := ((w36_0 598 66 (by decide)).trans e11)
            have e47 : M41 598 66 = v11 := ((w41_1 598 66 (by decide)).trans e46)
            have e48 : M44 598 66 = v11 := ((w44_0 598 66 (by decide)).trans e47)
            have e49 : M45 598 66 = v11 := ((w45_0 598 66 (by decide)).trans e48)
            refine jr.getf (i := 66) (x := v11) (v := .int (Int32.ofInt (v11))) rfl rfl (by decide) rfl (by decide) rfl rfl e49 rfl ?_
            exact jr.ireturn rfl rfl rfl (q _ _ hI_M45 hH_M45 hS_M45 ht_M45 (by omega) )
        · refine jr.bipush rfl (by decide) ?_
          exact jr.ireturn rfl rfl rfl (q _ _ hI_M3 hH_M3 hS_M3 ht_M3 (by omega) )
    · refine jr.bipush rfl (by decide) ?_
      exact jr.ireturn rfl rfl rfl (q _ _ hI_M1 hH_M1 hS_M1 ht_M1 (by omega) )
  · refine jr.if_ne rfl rfl (by omega) (fun h => absurd h (by decide)) (fun _ => ?_)
    refine jr.bipush rfl (by decide) ?_
    exact jr.ireturn rfl rfl rfl (q _ _ hI_M hH_M hS_M ht_M (by omega) )
