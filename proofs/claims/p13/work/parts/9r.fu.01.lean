section
theorem r_turn_x {A : Nat → Option (Nat × (Nat → Int32))} {Q : Option Value → jm → Prop} {M : jm} (hI_M : RI M) (hH_M : RH M) (hS_M : RF M) {x : Int} (h_x : (-2147483648) ≤ x ∧ x ≤ 2147483647) (q : ∀ (r : Int) (M' : jm), RI M' → RH M' → RF M' → (-4) ≤ r ∧ r ≤ 1 → TU6 M M' x r → (∀ (a : Nat) (i : Int), a ≠ 598 → a ≠ 601 → a ≠ 603 → a ≠ 604 → a ≠ 605 → M' a i = M a i) → (∀ (i : Int), i ≠ 6 → i ≠ 10 → i ≠ 11 → i ≠ 12 → i ≠ 59 → i ≠ 60 → i ≠ 61 → i ≠ 62 → i ≠ 63 → i ≠ 64 → i ≠ 65 → i ≠ 66 → M' 598 i = M 598 i) → Q (some (.int (Int32.ofInt r))) M') : jc A 8 322 [.ref (598), .int (Int32.ofInt (x))] M Q := by
  refine jc_of (m := xm_322) rfl (Nat.le_of_ble_eq_true rfl) rfl ?_
  refine jr.aload_n rfl rfl ?_
  refine jr.iload_n rfl rfl ?_
  refine jr_v rfl rfl (Or.inl rfl) rfl rfl (by decide) rfl ⟨rfl, Nat.le_of_ble_eq_true rfl, Nat.le_of_ble_eq_true rfl⟩ rfl (jc.deep (c_isThere hI_M (by omega) (fun l2 u2 t2 => ?_) (fun n2 => ?_)) (by decide))
  · refine jr.if_ne rfl rfl (by omega) (fun _ => ?_) (fun h => absurd (by decide) h)
    refine jr.aload_n rfl rfl ?_
    refine jr.iload_n rfl rfl ?_
    obtain ⟨v2, e2⟩ : ∃ z, M 600 x = z := ⟨_, rfl⟩
    have b2 : (-1) ≤ v2 ∧ v2 ≤ 400 := by rw [← e2]; exact (by have q := hI_M 600 x (by decide); rw [xri_row rfl rfl] at q; exact q)
    refine jr_v rfl rfl (Or.inl rfl) rfl rfl (by decide) rfl ⟨rfl, Nat.le_of_ble_eq_true rfl, Nat.le_of_ble_eq_true rfl⟩ rfl (jc.deep (r_hasEnds_x hI_M hH_M hS_M  (by omega) (by rw [e2]; omega) (fun r1 M1 hI_M1 hH_M1 hS_M1  z1 w1_0 w1_1 w1_2 w1_3 => ?_)) (by decide))
    refine jr.if_ne rfl rfl (by omega) (fun h16 => ?_) (fun h16 => ?_)
    · have sx16 : (1 : Int) ≤ r1 := by omega
      clear h16
      refine jr.aload_n rfl rfl ?_
      refine jr_v rfl rfl (Or.inl rfl) rfl rfl (by decide) rfl ⟨rfl, Nat.le_of_ble_eq_true rfl, Nat.le_of_ble_eq_true rfl⟩ rfl (jc.deep (r_flowByEnds_x hI_M1 hH_M1 hS_M1    (fun r3 M3 hI_M3 hH_M3 hS_M3  z3 w3_0 w3_1 w3_2 w3_3 => ?_)) (by decide))
      have q3 := w1_0.resolve_left (by omega)
      obtain ⟨re1, re2, re3, re4, re5, tt, rt0, rt1, rt2⟩ := q3
      obtain ⟨ea, hea⟩ : ∃ z, M1 598 65 = z := ⟨_, rfl⟩
      rw [hea] at re1 re2 re3 re4
      have rc := RH.car hH_M1 ea
      have b65 : M1 598 6 ≤ 12 := (hI_M1 598 6 (by decide)).2
      refine jr.istore_n (ls' := [_, _, _]) rfl (by decide) rfl ?_
      refine jr.iload_n rfl rfl ?_
      refine jr.iconst rfl ?_
      refine jr.icmp_eq rfl rfl (by omega) (by omega) (fun h29 => ?_) (fun h29 => ?_)
      · refine jr.bipush rfl (by decide) ?_
        exact jr.ireturn rfl rfl rfl (q _ _ hI_M3 hH_M3 hS_M3  (by omega) (TU6.n ⟨⟨by omega, by omega⟩, by omega⟩ (by omega) w1_1 w1_2 (w1_3 2 (by decide) (by decide) (by decide) (by decide) (by decide) (by decide) (by decide) (by decide) (by decide) (by decide) (by decide)) w3_1.1 w3_2 w3_3 (by exact Or.inl ⟨by first | (left; omega) | (right; omega), rfl, (fun i => (w3_2 601 i (by decide)).trans (w1_2 601 i (by decide) (by decide) (by decide) (by decide)))⟩)) (fun a i f598 f601 f603 f604 f605 => ((w3_2 a i f598).trans ((w1_2 a i f598 f603 f604 f605).trans rfl))) (fun i g6 g10 g11 g12 g59 g60 g61 g62 g63 g64 g65 g66 => ((w3_3 i g66).trans ((w1_3 i g6 g10 g11 g12 g59 g60 g61 g62 g63 g64 g65).trans rfl))))
      · have sx29 : (0 : Int) ≤ r3 := by omega
        clear h29
        refine jr.aload_n rfl rfl ?_
        refine jr.getf (i := 52) (v := .ref 640) rfl rfl (by decide) rfl (by decide) rfl rfl rfl rfl ?_
        refine jr.iload_n rfl rfl ?_
        obtain ⟨v4, e4⟩ : ∃ z, M 640 r3 = z := ⟨_, rfl⟩
        have b4 : (-1) ≤ v4 ∧ v4 ≤ 3 := by rw [← e4]; exact (by have q := hI_M 640 r3 (by decide); rw [xri_row rfl rfl] at q; exact q)
        have e5 : M1 640 r3 = v4 := ((w1_2 640 r3 (by decide) (by decide) (by decide) (by decide)).trans e4)
        have e6 : M3 640 r3 = v4 := ((w3_2 640 r3 (by decide)).trans e5)
        refine jr.iald (i := r3) (x := v4) rfl (by decide) rfl (by decide) (by omega) (by omega) e6 ?_
        refine jr.iconst rfl ?_
        refine jr.icmp_ne rfl rfl (by omega) (by omega) (fun h39 => ?_) (fun h39 => ?_)
        · have sx39 : (0 : Int) ≤ v4 := by omega
          clear h39
          refine jr.aload_n rfl rfl ?_
          refine jr_v rfl rfl (Or.inl rfl) rfl rfl (by decide) rfl ⟨rfl, Nat.le_of_ble_eq_true rfl, Nat.le_of_ble_eq_true rfl⟩ rfl (jc.deep (r_net_x hI_M3 hH_M3 hS_M3   (HT.q w1_1.1 (fun b i hb => w3_2 b i hb) (w3_3 6 (by decide))) (fun r7 z7 w7_0 w7_1 w7_2 w7_3 => ?_)) (by decide))
          have h66 := w3_3 6 (by decide)
          have rn : ¬ r7 = -1 := by
            intro z
            have z1 := w7_1 z tt rt0 (by rw [w3_3 6 (by decide)]; exact rt1)
            rw [w3_2 603 tt (by decide)] at z1
            omega
          refine jr.istore_n (ls' := [_, _, _, _]) rfl (by decide) rfl ?_
          refine jr.aload_n rfl rfl ?_
          refine jr.getf (i := 8) (v := .ref 604) rfl rfl (by decide) rfl (by decide) rfl rfl rfl rfl ?_
          refine jr.aload_n rfl rfl ?_
          have e8 : M3 598 65 = ea := ((w3_3 65 (by decide)).trans hea)
          refine jr.getf (i := 65) (x := ea) (v := .int (Int32.ofInt (ea))) rfl rfl (by decide) rfl (by decide) rfl rfl e8 rfl ?_
          obtain ⟨v9, e9⟩ : ∃ z, M1 604 ea = z := ⟨_, rfl⟩
          have b9 : 0 ≤ v9 ∧ v9 ≤ 400 := by rw [← e9]; exact (by have q := hI_M1 604 ea (by decide); rw [xri_row rfl rfl] at q; exact q)
          have e10 : M3 604 ea = v9 := ((w3_2 604 ea (by decide)).trans e9)
          refine jr.iald (i := ea) (x := v9) rfl (by decide) rfl (by decide) (by omega) (by omega) e10 ?_
          refine jr.istore (ls' := [_, _, _, _, _]) rfl (by decide) rfl ?_
          refine jr.aload_n rfl rfl ?_
          obtain ⟨v11, e11⟩ : ∃ z, M3 598 66 = z := ⟨_, rfl⟩
          have b11 : (-1) ≤ v11 ∧ v11 ≤ 1 := by rw [← e11]; exact hI_M3 598 66 (by decide)
          refine jr.getf (i := 66) (x := v11) (v := .int (Int32.ofInt (v11))) rfl rfl (by decide) rfl (by decide) rfl rfl e11 rfl ?_
          refine jr.if_ne rfl rfl (by omega) (fun h65 => ?_) (fun h65 => ?_)
          · refine jr.aload_n rfl rfl ?_
            refine jr.iload_n rfl rfl ?_
            refine jr.aload_n rfl rfl ?_
            refine jr.getf (i := 8) (v := .ref 604) rfl rfl (by decide) rfl (by decide) rfl rfl rfl rfl ?_
            refine jr.iload_n rfl rfl ?_
            obtain ⟨v12, e12⟩ : ∃ z, M1 604 r7 = z := ⟨_, rfl⟩
            have b12 : 0 ≤ v12 ∧ v12 ≤ 400 := by rw [← e12]; exact (by have q := hI_M1 604 r7 (by decide); rw [xri_row rfl rfl] at q; exact q)
            have e13 : M3 604 r7 = v12 := ((w3_2 604 r7 (by decide)).trans e12)
            refine jr.iald (i := r7) (x := v12) rfl (by decide) rfl (by decide) (by omega) (by omega) e13 ?_
            refine jr.bipush rfl (by decide) ?_
            refine jr.iadd rfl ?_
            refine jr.aload_n rfl rfl ?_
            refine jr.getf (i := 42) (v := .ref 630) rfl rfl (by decide) rfl (by decide) rfl rfl rfl rfl ?_
            refine jr.iconst rfl ?_
            refine jr.iload_n rfl rfl ?_
            refine jr.imul rfl ?_
            obtain ⟨v14, e14⟩ : ∃ z, M 630 (2 * r3) = z := ⟨_, rfl⟩
            have b14 : (-9223372036854775808) ≤ v14 ∧ v14 ≤ 9223372036854775807 := by rw [← e14]; exact (by have q := hI_M 630 (2 * r3) (by decide); rw [xri_row rfl rfl] at q; exact q)
            have e15 : M1 630 (2 * r3) = v14 := ((w1_2 630 (2 * r3) (by decide) (by decide) (by decide) (by decide)).trans e14)
            have e16 : M3 630 (2 * r3) = v14 := ((w3_2 630 (2 * r3) (by decide)).trans e15)
            refine jr.lald (i := (2 * r3)) (x := v14) rfl (by decide) rfl (by decide) (by omega) (by omega) e16 ?_
            refine jr_v rfl rfl (Or.inl rfl) rfl rfl (by decide) rfl ⟨rfl, Nat.le_of_ble_eq_true rfl, Nat.le_of_ble_eq_true rfl⟩ rfl (jc.deep (r_layFour_x hI_M3 hH_M3 hS_M3  (by omega) (by omega) (by omega)  (fun M17 hI_M17 hH_M17 hS_M17  w17_0 w17_1 w17_2 => ?_)) (by decide))
            refine jr.aload_n rfl rfl ?_
            refine jr.iload_n rfl rfl ?_
            refine jr.iload rfl rfl ?_
            refine jr.iconst rfl ?_
            refine jr.iadd rfl ?_
            refine jr.aload_n rfl rfl ?_
            refine jr.getf (i := 43) (v := .ref 631) rfl rfl (by decide) rfl (by decide) rfl rfl rfl rfl ?_
            refine jr.iconst rfl ?_
            refine jr.iload_n rfl rfl ?_
            refine jr.imul rfl ?_
            obtain ⟨v18, e18⟩ : ∃ z, M 631 (2 * r3) = z := ⟨_, rfl⟩
            have b18 : 0 ≤ v18 ∧ v18 ≤ 65535 := by rw [← e18]; exact (by have q := hI_M 631 (2 * r3) (by decide); rw [xri_row rfl rfl] at q; exact q)
            have e19 : M1 631 (2 * r3) = v18 := ((w1_2 631 (2 * r3) (by decide) (by decide) (by decide) (by decide)).trans e18)
            have e20 : M3 631 (2 * r3) = v18 := ((w3_2 631 (2 * r3) (by decide)).trans e19)
            have e21 : M17 631 (2 * r3) = v18 := ((w17_2 631 (2 * r3) (by decide)).trans e20)
            refine jr.iald (i := (2 * r3)) (x := v18) rfl (by decide) rfl (by decide) (by omega) (by omega) e21 ?_
            refine jr_v rfl rfl (Or.inl rfl) rfl rfl (by decide) rfl ⟨rfl, Nat.le_of_ble_eq_true rfl, Nat.le_of_ble_eq_true rfl⟩ rfl (jc.deep (r_layTwo_x hI_M17 hH_M17 hS_M17  (by omega) (by omega) (by omega)  (fun M22 hI_M22 hH_M22 hS_M22  w22_0 w22_1 w22_2 => ?_)) (by decide))
            refine jr.aload_n rfl rfl ?_
            refine jr.iload_n rfl rfl ?_
            refine jr.aload_n rfl rfl ?_
            have e23 : M17 598 65 = ea := ((w17_2 598 65 (by decide)).trans e8)
            have e24 : M22 598 65 = ea := ((w22_2 598 65 (by decide)).trans e23)
            refine jr.getf (i := 65) (x := ea) (v := .int (Int32.ofInt (ea))) rfl rfl (by decide) rfl (by decide) rfl rfl e24 rfl ?_
            have e26 : M1 600 x = v2 := ((w1_2 600 x (by decide) (by decide) (by decide) (by decide)).trans e2)
            have e27 : M3 600 x = v2 := ((w3_2 600 x (by decide)).trans e26)
            have e28 : M17 600 x = v2 := ((w17_2 600 x (by decide)).trans e27)
            have e29 : M22 600 x = v2 := ((w22_2 600 x (by decide)).trans e28)
            refine jr_v rfl rfl (Or.inl rfl) rfl rfl (by decide) rfl ⟨rfl, Nat.le_of_ble_eq_true rfl, Nat.le_of_ble_eq_true rfl⟩ rfl (jc.deep (r_right_x hI_M22 hH_M22 hS_M22  (by omega) (by omega) (HT.fr1 (HT.fr1 (HT.q w1_1.1 (fun b i hb => w3_2 b i hb) (w3_3 6 (by decide))) w17_2) w22_2) (by omega) (e29.trans e2.symm) (fun r25 M25 hI_M25 hH_M25 hS_M25  z25 w25_0 w25_1 w25_2 => ?_)) (by decide))
            refine jr.istore (ls' := [_, _, _, _, _, _]) rfl (by decide) rfl ?_
            refine jr.aload_n rfl rfl ?_
            refine jr.iload_n rfl rfl ?_
            refine jr.iload_n rfl rfl ?_
            have e31 : M25 600 x = v2 := ((w25_2 600 x (by decide)).trans e29)
            refine jr_v rfl rfl (Or.inl rfl) rfl rfl (by decide) rfl ⟨rfl, Nat.le_of_ble_eq_true rfl, Nat.le_of_ble_eq_true rfl⟩ rfl (jc.deep (r_right_x hI_M25 hH_M25 hS_M25  (by omega) (by omega) (HT.fr1 (HT.fr1 (HT.fr1 (HT.q w1_1.1 (fun b i hb => w3_2 b i hb) (w3_3 6 (by decide))) w17_2) w22_2) w25_2) (by omega) (e31.trans e2.symm) (fun r30 M30 hI_M30 hH_M30 hS_M30  z30 w30_0 w30_1 w30_2 => ?_)) (by decide))
            refine jr.istore (ls' := [_, _, _, _, _, _]) rfl (by decide) rfl ?_
            refine jr.aload_n rfl rfl ?_
            have e32 : M17 598 66 = v11 := ((w17_2 598 66 (by decide)).trans e11)
            have e33 : M22 598 66 = v11 := ((w22_2 598 66 (by decide)).trans e32)
            have e34 : M25 598 66 = v11 := ((w25_2 598 66 (by decide)).trans e33)
            have e35 : M30 598 66 = v11 := ((w30_2 598 66 (by decide)).trans e34)
            refine jr.getf (i := 66) (x := v11) (v := .int (Int32.ofInt (v11))) rfl rfl (by decide) rfl (by decide) rfl rfl e35 rfl ?_
            exact jr.ireturn rfl rfl rfl (q _ _ hI_M30 hH_M30 hS_M30  (by omega) (TU6.n ⟨⟨by omega, by omega⟩, by omega⟩ (by omega) w1_1 w1_2 (w1_3 2 (by decide) (by decide) (by decide) (by decide) (by decide) (by decide) (by decide) (by decide) (by decide) (by decide) (by decide)) w3_1.1 w3_2 w3_3 (by have hn : r7 = ntf (rf M x) (M 600 x) (M1 598 6) := w7_3; have hr66 : sd6 M1 r3 = v11 := (by rw [← (w3_1.2.resolve_left (by omega)), e11]); have ha1 : hY (rf M x) (M 600 x) r7 = v12 := (by rw [← (HT.f (HT.q w1_1.1 (fun b i hb => w3_2 b i hb) (w3_3 6 (by decide))) (x := r7) (by omega)).2.1]; exact e13); have ha2 : hY (rf M x) (M 600 x) ea = v9 := (by rw [← (HT.f (HT.q w1_1.1 (fun b i hb => w3_2 b i hb) (w3_3 6 (by decide))) (x := ea) (by omega)).2.1]; exact e10); exact Or.inr ⟨⟨by omega, by rw [e6]; omega⟩, by rw [hr66], (by rw [(show M1 598 65 = ea from hea), ← hn, w30_0.2, w25_0.2, w22_0, w17_0, (show rf M3 x = rf M x from rf_e (fun i => (w3_2 601 i (by decide)).trans (w1_2 601 i (by decide) (by decide) (by decide) (by decide))))]; unfold tuF; rw [ha1, ha2]; simp only [if_neg (show v11 ≠ 0 by omega)]; rw [e16, e20]; first | done | rfl | (congr 3; omega)), (fun j hj => (w30_1 j hj).trans ((w25_1 j hj).trans ((w22_1 j hj).trans ((w17_1 j hj).trans ((fun i => (w3_2 601 i (by decide)).trans (w1_2 601 i (by decide) (by decide) (by decide) (by decide))) j)))))⟩)) (fun a i f598 f601 f603 f604 f605 => ((w30_2 a i f601).trans ((w25_2 a i f601).trans ((w22_2 a i f601).trans ((w17_2 a i f601).trans ((w3_2 a i f598).trans ((w1_2 a i f598 f603 f604 f605).trans rfl))))))) (fun i g6 g10 g11 g12 g59 g60 g61 g62 g63 g64 g65 g66 => ((w30_2 598 i (by decide)).trans ((w25_2 598 i (by decide)).trans ((w22_2 598 i (by decide)).trans ((w17_2 598 i (by decide)).trans ((w3_3 i g66).trans ((w1_3 i g6 g10 g11 g12 g59 g60 g61 g62 g63 g64 g65).trans rfl))))))))
          · refine jr.aload_n rfl rfl ?_
            refine jr.iload_n rfl rfl ?_
            refine jr.aload_n rfl rfl ?_
            refine jr.getf (i := 8) (v := .ref 604) rfl rfl (by decide) rfl (by decide) rfl rfl rfl rfl ?_
            refine jr.iload_n rfl rfl ?_
            obtain ⟨v36, e36⟩ : ∃ z, M1 604 r7 = z := ⟨_, rfl⟩
            have b36 : 0 ≤ v36 ∧ v36 ≤ 400 := by rw [← e36]; exact (by have q := hI_M1 604 r7 (by decide); rw [xri_row rfl rfl] at q; exact q)
            have e37 : M3 604 r7 = v36 := ((w3_2 604 r7 (by decide)).trans e36)
            refine jr.iald (i := r7) (x := v36) rfl (by decide) rfl (by decide) (by omega) (by omega) e37 ?_
            refine jr.bipush rfl (by decide) ?_
            refine jr.iadd rfl ?_
            refine jr.aload_n rfl rfl ?_
            refine jr.getf (i := 53) (v := .ref 641) rfl rfl (by decide) rfl (by decide) rfl rfl rfl rfl ?_
            refine jr.iload_n rfl rfl ?_
            obtain ⟨v38, e38⟩ : ∃ z, M 641 r3 = z := ⟨_, rfl⟩
            have b38 : (-9223372036854775808) ≤ v38 ∧ v38 ≤ 9223372036854775807 := by rw [← e38]; exact (by have q := hI_M 641 r3 (by decide); rw [xri_row rfl rfl] at q; exact q)
            have e39 : M1 641 r3 = v38 := ((w1_2 641 r3 (by decide) (by decide) (by decide) (by decide)).trans e38)
            have e40 : M3 641 r3 = v38 := ((w3_2 641 r3 (by decide)).trans e39)
            refine jr.lald (i := r3) (x := v38) rfl (by decide) rfl (by decide) (by omega) (by omega) e40 ?_
            refine jr_v rfl rfl (Or.inl rfl) rfl rfl (by decide) rfl ⟨rfl, Nat.le_of_ble_eq_true rfl, Nat.le_of_ble_eq_true rfl⟩ rfl (jc.deep (r_layFour_x hI_M3 hH_M3 hS_M3  (by omega) (by omega) (by omega)  (fun M41 hI_M41 hH_M41 hS_M41  w41_0 w41_1 w41_2 => ?_)) (by decide))
            refine jr.aload_n rfl rfl ?_
            refine jr.iload_n rfl rfl ?_
            refine jr.iload rfl rfl ?_
            refine jr.aload_n rfl rfl ?_
            refine jr.getf (i := 54) (v := .ref 642) rfl rfl (by decide) rfl (by decide) rfl rfl rfl rfl ?_
            refine jr.iload_n rfl rfl ?_
            obtain ⟨v42, e42⟩ : ∃ z, M 642 r3 = z := ⟨_, rfl⟩
            have b42 : 0 ≤ v42 ∧ v42 ≤ 70000 := by rw [← e42]; exact (by have q := hI_M 642 r3 (by decide); rw [xri_row rfl rfl] at q; exact q)
            have e43 : M1 642 r3 = v42 := ((w1_2 642 r3 (by decide) (by decide) (by decide) (by decide)).trans e42)
            have e44 : M3 642 r3 = v42 := ((w3_2 642 r3 (by decide)).trans e43)
            have e45 : M41 642 r3 = v42 := ((w41_2 642 r3 (by decide)).trans e44)
            refine jr.iald (i := r3) (x := v42) rfl (by decide) rfl (by decide) (by omega) (by omega) e45 ?_
            refine jr_v rfl rfl (Or.inl rfl) rfl rfl (by decide) rfl ⟨rfl, Nat.le_of_ble_eq_true rfl, Nat.le_of_ble_eq_true rfl⟩ rfl (jc.deep (r_layTwo_x hI_M41 hH_M41 hS_M41  (by omega) (by omega) (by omega)  (fun M46 hI_M46 hH_M46 hS_M46  w46_0 w46_1 w46_2 => ?_)) (by decide))
            refine jr.goto rfl rfl ?_
            refine jr.aload_n rfl rfl ?_
            refine jr.iload_n rfl rfl ?_
            refine jr.aload_n rfl rfl ?_
            have e47 : M41 598 65 = ea := ((w41_2 598 65 (by decide)).trans e8)
            have e48 : M46 598 65 = ea := ((w46_2 598 65 (by decide)).trans e47)
            refine jr.getf (i := 65) (x := ea) (v := .int (Int32.ofInt (ea))) rfl rfl (by decide) rfl (by decide) rfl rfl e48 rfl ?_
            have e50 : M1 600 x = v2 := ((w1_2 600 x (by decide) (by decide) (by decide) (by decide)).trans e2)
            have e51 : M3 600 x = v2 := ((w3_2 600 x (by decide)).trans e50)
            have e52 : M41 600 x = v2 := ((w41_2 600 x (by decide)).trans e51)
            have e53 : M46 600 x = v2 := ((w46_2 600 x (by decide)).trans e52)
            refine jr_v rfl rfl (Or.inl rfl) rfl rfl (by decide) rfl ⟨rfl, Nat.le_of_ble_eq_true rfl, Nat.le_of_ble_eq_true rfl⟩ rfl (jc.deep (r_right_x hI_M46 hH_M46 hS_M46  (by omega) (by omega) (HT.fr1 (HT.fr1 (HT.q w1_1.1 (fun b i hb => w3_2 b i hb) (w3_3 6 (by decide))) w41_2) w46_2) (by omega) (e53.trans e2.symm) (fun r49 M49 hI_M49 hH_M49 hS_M49  z49 w49_0 w49_1 w49_2 => ?_)) (by decide))
            refine jr.istore (ls' := [_, _, _, _, _, _]) rfl (by decide) rfl ?_
            refine jr.aload_n rfl rfl ?_
            refine jr.iload_n rfl rfl ?_
            refine jr.iload_n rfl rfl ?_
            have e55 : M49 600 x = v2 := ((w49_2 600 x (by decide)).trans e53)
            refine jr_v rfl rfl (Or.inl rfl) rfl rfl (by decide) rfl ⟨rfl, Nat.le_of_ble_eq_true rfl, Nat.le_of_ble_eq_true rfl⟩ rfl (jc.deep (r_right_x hI_M49 hH_M49 hS_M49  (by omega) (by omega) (HT.fr1 (HT.fr1 (HT.fr1 (HT.q w1_1.1 (fun b i hb => w3_2 b i hb) (w3_3 6 (by decide))) w41_2) w46_2) w49_2) (by omega) (e55.trans e2.symm) (fun r54 M54 hI_M54 hH_M54 hS_M54  z54 w54_0 w54_1 w54_2 => ?_)) (by decide))
            refine jr.istore (ls' := [_, _, _, _, _, _]) rfl (by decide) rfl ?_
            refine jr.aload_n rfl rfl ?_
            have e56 : M41 598 66 = v11 := ((w41_2 598 66 (by decide)).trans e11)
            have e57 : M46 598 66 = v11 := ((w46_2 598 66 (by decide)).trans e56)
            have e58 : M49 598 66 = v11 := ((w49_2 598 66 (by decide)).trans e57)
            have e59 : M54 598 66 = v11 := ((w54_2 598 66 (by decide)).trans e58)
            refine jr.getf (i := 66) (x := v11) (v := .int (Int32.ofInt (v11))) rfl rfl (by decide) rfl (by decide) rfl rfl e59 rfl ?_
            exact jr.ireturn rfl rfl rfl (q _ _ hI_M54 hH_M54 hS_M54  (by omega) (TU6.n ⟨⟨by omega, by omega⟩, by omega⟩ (by omega) w1_1 w1_2 (w1_3 2 (by decide) (by decide) (by decide) (by decide) (by decide) (by decide) (by decide) (by decide) (by decide) (by decide) (by decide)) w3_1.1 w3_2 w3_3 (by have hn : r7 = ntf (rf M x) (M 600 x) (M1 598 6) := w7_3; have hr66 : sd6 M1 r3 = v11 := (by rw [← (w3_1.2.resolve_left (by omega)), e11]); have ha1 : hY (rf M x) (M 600 x) r7 = v36 := (by rw [← (HT.f (HT.q w1_1.1 (fun b i hb => w3_2 b i hb) (w3_3 6 (by decide))) (x := r7) (by omega)).2.1]; exact e37); have ha2 : hY (rf M x) (M 600 x) ea = v9 := (by rw [← (HT.f (HT.q w1_1.1 (fun b i hb => w3_2 b i hb) (w3_3 6 (by decide))) (x := ea) (by omega)).2.1]; exact e10); exact Or.inr ⟨⟨by omega, by rw [e6]; omega⟩, by rw [hr66], (by rw [(show M1 598 65 = ea from hea), ← hn, w54_0.2, w49_0.2, w46_0, w41_0, (show rf M3 x = rf M x from rf_e (fun i => (w3_2 601 i (by decide)).trans (w1_2 601 i (by decide) (by decide) (by decide) (by decide))))]; unfold tuF; rw [ha1, ha2]; simp only [if_pos (show v11 = 0 by omega)]; rw [e40, e44]; first | done | rfl | (congr 3; omega)), (fun j hj => (w54_1 j hj).trans ((w49_1 j hj).trans ((w46_1 j hj).trans ((w41_1 j hj).trans ((fun i => (w3_2 601 i (by decide)).trans (w1_2 601 i (by decide) (by decide) (by decide) (by decide))) j)))))⟩)) (fun a i f598 f601 f603 f604 f605 => ((w54_2 a i f601).trans ((w49_2 a i f601).trans ((w46_2 a i f601).trans ((w41_2 a i f601).trans ((w3_2 a i f598).trans ((w1_2 a i f598 f603 f604 f605).trans rfl))))))) (fun i g6 g10 g11 g12 g59 g60 g61 g62 g63 g64 g65 g66 => ((w54_2 598 i (by decide)).trans ((w49_2 598 i (by decide)).trans ((w46_2 598 i (by decide)).trans ((w41_2 598 i (by decide)).trans ((w3_3 i g66).trans ((w1_3 i g6 g10 g11 g12 g59 g60 g61 g62 g63 g64 g65).trans rfl))))))))
        · refine jr.bipush rfl (by decide) ?_
          exact jr.ireturn rfl rfl rfl (q _ _ hI_M3 hH_M3 hS_M3  (by omega) (TU6.n ⟨⟨by omega, by omega⟩, by omega⟩ (by omega) w1_1 w1_2 (w1_3 2 (by decide) (by decide) (by decide) (by decide) (by decide) (by decide) (by decide) (by decide) (by decide) (by decide) (by decide)) w3_1.1 w3_2 w3_3 (by exact Or.inl ⟨Or.inr (by rw [e6]; omega), rfl, (fun i => (w3_2 601 i (by decide)).trans (w1_2 601 i (by decide) (by decide) (by decide) (by decide)))⟩)) (fun a i f598 f601 f603 f604 f605 => ((w3_2 a i f598).trans ((w1_2 a i f598 f603 f604 f605).trans rfl))) (fun i g6 g10 g11 g12 g59 g60 g61 g62 g63 g64 g65 g66 => ((w3_3 i g66).trans ((w1_3 i g6 g10 g11 g12 g59 g60 g61 g62 g63 g64 g65).trans rfl))))
    · refine jr.bipush rfl (by decide) ?_
      exact jr.ireturn rfl rfl rfl (q _ _ hI_M1 hH_M1 hS_M1  (by omega) (TU6.h0 ⟨⟨by omega, by omega⟩, by omega⟩ (by omega) w1_1 w1_2) (fun a i f598 f601 f603 f604 f605 => ((w1_2 a i f598 f603 f604 f605).trans rfl)) (fun i g6 g10 g11 g12 g59 g60 g61 g62 g63 g64 g65 g66 => ((w1_3 i g6 g10 g11 g12 g59 g60 g61 g62 g63 g64 g65).trans rfl)))
  · refine jr.if_ne rfl rfl (by omega) (fun h => absurd h (by decide)) (fun _ => ?_)
    refine jr.bipush rfl (by decide) ?_
    exact jr.ireturn rfl rfl rfl (q _ _ hI_M hH_M hS_M  (by omega) (Or.inl ⟨by omega, rfl, rfl⟩) (fun a i f598 f601 f603 f604 f605 => rfl) (fun i g6 g10 g11 g12 g59 g60 g61 g62 g63 g64 g65 g66 => rfl))
end
section
end
