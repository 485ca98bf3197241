/-! ===== the reference: contracts, 35.pc ===== -/
theorem r_isCompareOnTop {A : Nat → Option (Nat × (Nat → Int32))} {Q : Option Value → jm → Prop} {T : jm} {M : jm} (hI_M : RI M) (hH_M : RH M) (hS_M : RF M) (ht_M : Kp T M) (q : ∀ (r : Int), 0 ≤ r ∧ r ≤ 1 → (r = 0 → (M 598 102 = 0 ∨ strn (M 664 (M 598 102 - 1)) ≠ 3)) → Q (some (.int (Int32.ofInt r))) M) : jc A 2 362 [.ref (598)] M Q := by
  refine jc_of (m := xm_362) rfl (Nat.le_of_ble_eq_true rfl) rfl ?_
  refine jr.aload_n rfl rfl ?_
  obtain ⟨v1, e1⟩ : ∃ z, M 598 102 = z := ⟨_, rfl⟩
  have b1 : 0 ≤ v1 ∧ v1 ≤ 400 := by rw [← e1]; exact hI_M 598 102 (by decide)
  refine jr.getf (i := 102) (x := v1) (v := .int (Int32.ofInt (v1))) rfl rfl (by decide) rfl (by decide) rfl rfl e1 rfl ?_
  refine jr.if_le rfl rfl (by omega) (fun h4 => ?_) (fun h4 => ?_)
  · refine jr.iconst rfl ?_
    exact jr.ireturn rfl rfl rfl (q _ (by omega) (fun q => by omega))
  · refine jr.aload_n rfl rfl ?_
    refine jr.getf (i := 103) (v := .ref 664) rfl rfl (by decide) rfl (by decide) rfl rfl rfl rfl ?_
    refine jr.aload_n rfl rfl ?_
    refine jr.getf (i := 102) (x := v1) (v := .int (Int32.ofInt (v1))) rfl rfl (by decide) rfl (by decide) rfl rfl e1 rfl ?_
    refine jr.iconst rfl ?_
    refine jr.isub rfl ?_
    obtain ⟨v2, e2⟩ : ∃ z, M 664 (v1 - 1) = z := ⟨_, rfl⟩
    have b2 : 0 ≤ v2 ∧ v2 ≤ 255 := by rw [← e2]; exact (by have q := hI_M 664 (v1 - 1) (by decide); rw [xri_row rfl rfl] at q; exact q)
    refine jr.iald (i := (v1 - 1)) (x := v2) rfl (by decide) rfl (by decide) (by omega) (by omega) e2 ?_
    refine jr_s rfl rfl (Or.inl rfl) ⟨Nat.le_of_ble_eq_true rfl, Nat.le_of_ble_eq_true rfl⟩ rfl rfl (jc.deep (r_strength hI_M hH_M hS_M ht_M (by omega)  (fun r3 z3 w3_0 => ?_)) (by decide))
    refine jr.iconst rfl ?_
    refine jr.icmp_ne rfl rfl (by omega) (by omega) (fun h22 => ?_) (fun h22 => ?_)
    · refine jr.iconst rfl ?_
      exact jr.ireturn rfl rfl rfl (q _ (by omega) (fun q => by first | omega | (rw [e1]; exact Or.inr (by rw [e2]; omega))))
    · refine jr.iconst rfl ?_
      refine jr.goto rfl rfl ?_
      exact jr.ireturn rfl rfl rfl (q _ (by omega) (fun q => by first | omega | (rw [e1]; exact Or.inr (by rw [e2]; omega))))
theorem r_takeSign {A : Nat → Option (Nat × (Nat → Int32))} {Q : Option Value → jm → Prop} {b : Int} {M : jm} (hI_M : RI M) (hH_M : RH M) (hS_M : RF M) (p0 : GS M b 1) (q : ∀ (r : Int) (M' : jm), RI M' → RH M' → RF M' → 0 ≤ r ∧ r ≤ 1 → ((r = 0 ∧ GS M' b 1) ∨ (r = 1 ∧ (BS M' ∨ (GS M' b 0 ∧ TK M' < TK M)))) → TK M' ≤ TK M → M' 598 73 ≤ M' 598 72 → (r = 0 ∨ M' 598 80 ≠ 0 ∨ TK M' < TK M) → (∀ (a : Nat) (i : Int), a ≠ 598 → a ≠ 659 → a ≠ 660 → a ≠ 664 → a ≠ 665 → a ≠ 666 → a ≠ 667 → M' a i = M a i) → (∀ (i : Int), i ≠ 73 → i ≠ 74 → i ≠ 75 → i ≠ 76 → i ≠ 77 → i ≠ 78 → i ≠ 79 → i ≠ 80 → i ≠ 81 → i ≠ 89 → i ≠ 90 → i ≠ 100 → i ≠ 102 → M' 598 i = M 598 i) → Q (some (.int (Int32.ofInt r))) M') : jc A 3 363 [.ref (598)] M Q := by
  obtain ⟨gs1, gs2, gs3, gs4, gs5, gs6⟩ := id p0
  have hE := gs2
  have sl := ES.sgle gs2
  have bb := ES.bb gs2
  have b107 : (0 : Int) ≤ M 598 107 ∧ M 598 107 ≤ 16 := hI_M 598 107 (by decide)
  have b73 : (0 : Int) ≤ M 598 73 ∧ M 598 73 ≤ 1600 := hI_M 598 73 (by decide)
  have b88 : (0 : Int) ≤ M 598 88 ∧ M 598 88 ≤ 16 := hI_M 598 88 (by decide)
  have b100 : (0 : Int) ≤ M 598 100 ∧ M 598 100 ≤ 13 := hI_M 598 100 (by decide)
  refine jc_of (m := xm_363) rfl (Nat.le_of_ble_eq_true rfl) rfl ?_
  refine jr.aload_n rfl rfl ?_
  obtain ⟨v1, e1⟩ : ∃ z, M 598 74 = z := ⟨_, rfl⟩
  have b1 : 0 ≤ v1 ∧ v1 ≤ 4 := by rw [← e1]; exact hI_M 598 74 (by decide)
  refine jr.getf (i := 74) (x := v1) (v := .int (Int32.ofInt (v1))) rfl rfl (by decide) rfl (by decide) rfl rfl e1 rfl ?_
  refine jr.iconst rfl ?_
  refine jr.icmp_ne rfl rfl (by omega) (by omega) (fun h5 => ?_) (fun h5 => ?_)
  · refine jr.iconst rfl ?_
    refine jr.istore_n rfl (by decide) rfl ?_
    refine jr.iload_n rfl rfl ?_
    refine jr.if_ne rfl rfl (by omega) (fun h => absurd h (by decide)) (fun _ => ?_)
    refine jr.iconst rfl ?_
    exact jr.ireturn rfl rfl rfl (q _ _ hI_M hH_M hS_M  (by omega) (Or.inl ⟨rfl, p0⟩) (by omega) (by omega) (by omega) (fun a i f598 f659 f660 f664 f665 f666 f667 => rfl) (fun i g73 g74 g75 g76 g77 g78 g79 g80 g81 g89 g90 g100 g102 => rfl))
  · refine jr.aload_n rfl rfl ?_
    obtain ⟨v2, e2⟩ : ∃ z, M 598 79 = z := ⟨_, rfl⟩
    have b2 : 0 ≤ v2 ∧ v2 ≤ 255 := by rw [← e2]; exact hI_M 598 79 (by decide)
    refine jr.getf (i := 79) (x := v2) (v := .int (Int32.ofInt (v2))) rfl rfl (by decide) rfl (by decide) rfl rfl e2 rfl ?_
    refine jr_s rfl rfl (Or.inl rfl) ⟨Nat.le_of_ble_eq_true rfl, Nat.le_of_ble_eq_true rfl⟩ rfl rfl (jc.deep (r_strength hI_M hH_M hS_M (Kp.rfl _) (by omega)  (fun r3 z3 w3_0 => ?_)) (by decide))
    have n6 : ¬ r3 = 6 := fun z => by
      have z1 := strn_un (show strn v2 = 6 by omega)
      omega
    refine jr.goto rfl rfl ?_
    refine jr.istore_n rfl (by decide) rfl ?_
    refine jr.iload_n rfl rfl ?_
    refine jr.if_ne rfl rfl (by omega) (fun h21 => ?_) (fun h21 => ?_)
    · refine jr.aload_n rfl rfl ?_
      refine jr.getf (i := 79) (x := v2) (v := .int (Int32.ofInt (v2))) rfl rfl (by decide) rfl (by decide) rfl rfl e2 rfl ?_
      refine jr.istore_n rfl (by decide) rfl ?_
      refine jr.aload_n rfl rfl ?_
      refine jr.iload_n rfl rfl ?_
      refine jr.iconst rfl ?_
      refine jr.icmp_ne rfl rfl (by omega) (by omega) (fun h34 => ?_) (fun h34 => ?_)
      · refine jr.iload_n rfl rfl ?_
        refine jr_v rfl rfl (Or.inl rfl) rfl rfl (by decide) rfl ⟨rfl, Nat.le_of_ble_eq_true rfl, Nat.le_of_ble_eq_true rfl⟩ rfl (jc.deep (r_reduce hI_M hH_M hS_M  (by omega) p0 (fun M4 hI_M4 hH_M4 hS_M4  w4_0 w4_1 w4_2 w4_3 w4_4 => ?_)) (by decide))
        obtain ⟨gs1, gs2, gs3, gs4, gs5, gs6⟩ := id w4_0
        have hE := gs2
        have sl := ES.sgle gs2
        have bM4_107 : (0 : Int) ≤ M4 598 107 ∧ M4 598 107 ≤ 16 := hI_M4 598 107 (by decide)
        have bM4_73 : (0 : Int) ≤ M4 598 73 ∧ M4 598 73 ≤ 1600 := hI_M4 598 73 (by decide)
        have bM4_88 : (0 : Int) ≤ M4 598 88 ∧ M4 598 88 ≤ 16 := hI_M4 598 88 (by decide)
        have bM4_100 : (0 : Int) ≤ M4 598 100 ∧ M4 598 100 ≤ 13 := hI_M4 598 100 (by decide)
        obtain ⟨sg, hsg⟩ : ∃ z, M4 598 102 = z := ⟨_, rfl⟩
        rw [hsg] at w4_1
        have bsg : (0 : Int) ≤ sg ∧ sg ≤ 400 := by rw [← hsg]; exact hI_M4 598 102 (by decide)
        refine jr.iload_n rfl rfl ?_
        refine jr.iconst rfl ?_
        refine jr.icmp_ne rfl rfl (by omega) (by omega) (fun h47 => ?_) (fun h47 => ?_)
        · refine jr.aload_n rfl rfl ?_
          obtain ⟨v6, e6⟩ : ∃ z, M 598 89 = z := ⟨_, rfl⟩
          have b6 : 0 ≤ v6 ∧ v6 ≤ 301 := by rw [← e6]; exact hI_M 598 89 (by decide)
          have e7 : M4 598 89 = v6 := ((w4_4 89 (by decide) (by decide) (by decide)).trans e6)
          obtain ⟨v8, e8⟩ : ∃ z, M 598 73 = z := ⟨_, rfl⟩
          have b8 : 0 ≤ v8 ∧ v8 ≤ 1600 := by rw [← e8]; exact hI_M 598 73 (by decide)
          have e9 : M4 598 73 = v8 := ((w4_4 73 (by decide) (by decide) (by decide)).trans e8)
          obtain ⟨v12, e12⟩ : ∃ z, M4 598 100 = z := ⟨_, rfl⟩
          have b12 : 0 ≤ v12 ∧ v12 ≤ 13 := by rw [← e12]; exact hI_M4 598 100 (by decide)
          refine jr_v rfl rfl (Or.inl rfl) rfl rfl (by decide) rfl ⟨rfl, Nat.le_of_ble_eq_true rfl, Nat.le_of_ble_eq_true rfl⟩ rfl (jc.deep (r_node hI_M4 hH_M4 hS_M4   (by rw [e7]; omega) (fun M5 hI_M5 hH_M5 hS_M5  w5_0 w5_1 w5_2 w5_3 w5_4 w5_5 => ?_)) (by decide))
          have tk5 : TK M5 = TK M4 := TK.fr (w5_5 73 (by decide) (by decide) (by decide)) (w5_5 74 (by decide) (by decide) (by decide))
          have y10 : M4 598 73 = v8 := e9
          have y11 : M4 598 89 = v6 := e7
          have y13 : M4 598 100 = v12 := e12
          have x5_73 := w5_5 73 (by decide) (by decide) (by decide)
          have x5_100 := w5_5 100 (by decide) (by decide) (by decide)
          have hE := ES.fr2 hE w5_4 (w5_5 88 (by decide) (by decide) (by decide)) (w5_5 90 (by decide) (by decide) (by decide)) (w5_5 101 (by decide) (by decide) (by decide)) (w5_5 102 (by decide) (by decide) (by decide)) (w5_5 107 (by decide) (by decide) (by decide)) (k' := 4) (d' := 0) (z' := 0) (by omega) (by omega) (by omega) (by omega)
          refine jr.aload_n rfl rfl ?_
          refine jr_v rfl rfl (Or.inl rfl) rfl rfl (by decide) rfl ⟨rfl, Nat.le_of_ble_eq_true rfl, Nat.le_of_ble_eq_true rfl⟩ rfl (jc.deep (c_good hI_M5  (fun t68_0 => ?_) (fun f68_0 => ?_)) (by decide))
          · refine jr.if_ne rfl rfl (by omega) (fun _ => ?_) (fun h => absurd (by decide) h)
            refine jr.aload_n rfl rfl ?_
            have e15 : M5 598 73 = v8 := ((w5_5 73 (by decide) (by decide) (by decide)).trans e9)
            obtain ⟨v16, e16⟩ : ∃ z, M 598 72 = z := ⟨_, rfl⟩
            have b16 : 0 ≤ v16 ∧ v16 ≤ 1600 := by rw [← e16]; exact hI_M 598 72 (by decide)
            have e17 : M4 598 72 = v16 := ((w4_4 72 (by decide) (by decide) (by decide)).trans e16)
            have e18 : M5 598 72 = v16 := ((w5_5 72 (by decide) (by decide) (by decide)).trans e17)
            have e19 : M4 598 74 = v1 := ((w4_4 74 (by decide) (by decide) (by decide)).trans e1)
            have e20 : M5 598 74 = v1 := ((w5_5 74 (by decide) (by decide) (by decide)).trans e19)
            obtain ⟨v23, e23⟩ : ∃ z, M5 598 89 = z := ⟨_, rfl⟩
            have b23 : 0 ≤ v23 ∧ v23 ≤ 301 := by rw [← e23]; exact hI_M5 598 89 (by decide)
            have e25 : M5 598 100 = v12 := ((w5_5 100 (by decide) (by decide) (by decide)).trans e12)
            refine jr_v rfl rfl (Or.inl rfl) rfl rfl (by decide) rfl ⟨rfl, Nat.le_of_ble_eq_true rfl, Nat.le_of_ble_eq_true rfl⟩ rfl (jc.deep (r_next hI_M5 hH_M5 hS_M5   (by rw [e15, e18]; omega) (fun M14 hI_M14 hH_M14 hS_M14  w14_0 w14_1 w14_2 w14_3 w14_4 w14_5 w14_6 => ?_)) (by decide))
            have y21 : M5 598 74 = v1 := e20
            have y22 : M5 598 73 = v8 := e15
            have y24 : M5 598 89 = v23 := e23
            have y26 : M5 598 100 = v12 := e25
            have x14_89 := w14_6 89 (by decide) (by decide) (by decide) (by decide) (by decide) (by decide) (by decide)
            have x14_100 := w14_6 100 (by decide) (by decide) (by decide) (by decide) (by decide) (by decide) (by decide)
            have hE := ES.fr2 hE w14_5 (w14_6 88 (by decide) (by decide) (by decide) (by decide) (by decide) (by decide) (by decide)) (w14_6 90 (by decide) (by decide) (by decide) (by decide) (by decide) (by decide) (by decide)) (w14_6 101 (by decide) (by decide) (by decide) (by decide) (by decide) (by decide) (by decide)) (w14_6 102 (by decide) (by decide) (by decide) (by decide) (by decide) (by decide) (by decide)) (w14_6 107 (by decide) (by decide) (by decide) (by decide) (by decide) (by decide) (by decide)) (k' := 4) (d' := 0) (z' := 0) (by omega) (by omega) (by omega) (by omega)
            refine jr.iload_n rfl rfl ?_
            refine jr.iconst rfl ?_
            refine jr.icmp_ge rfl rfl (by omega) (by omega) (fun h82 => ?_) (fun h82 => ?_)
            · refine jr.aload_n rfl rfl ?_
              refine jr.iload_n rfl rfl ?_
              refine jr.iconst rfl ?_
              have e27 : M5 598 102 = sg := ((w5_5 102 (by decide) (by decide) (by decide)).trans hsg)
              have e28 : M14 598 102 = sg := ((w14_6 102 (by decide) (by decide) (by decide) (by decide) (by decide) (by decide) (by decide)).trans e27)
              refine jr_v rfl rfl (Or.inl rfl) rfl rfl (by decide) rfl ⟨rfl, Nat.le_of_ble_eq_true rfl, Nat.le_of_ble_eq_true rfl⟩ rfl (jc.deep (r_push e28 (by omega) (by omega) (by omega) ?_) (by decide))
              have hE := ES.two hE e28 v2 (-1) 2 (by omega) (by rw [w14_5 664 _ (by decide), w5_4 664 _ (by decide)]; omega) (by omega) (by omega)
              refine jr.iconst rfl ?_
              have e29 : M14 598 72 = v16 := ((w14_6 72 (by decide) (by decide) (by decide) (by decide) (by decide) (by decide) (by decide)).trans e18)
              have y30 : (ju (ju (ju (ju M14 664 sg v2) 666 sg (-1)) 667 sg 1) 598 102 (sg + 1)) 598 72 = v16 := ((ju_i _ _ (by decide)).trans ((ju_c _ _ (by decide)).trans ((ju_c _ _ (by decide)).trans ((ju_c _ _ (by decide)).trans e29))))
              obtain ⟨v31, e31⟩ : ∃ z, M14 598 73 = z := ⟨_, rfl⟩
              have b31 : 0 ≤ v31 ∧ v31 ≤ 1600 := by rw [← e31]; exact hI_M14 598 73 (by decide)
              have y32 : (ju (ju (ju (ju M14 664 sg v2) 666 sg (-1)) 667 sg 1) 598 102 (sg + 1)) 598 73 = v31 := ((ju_i _ _ (by decide)).trans ((ju_c _ _ (by decide)).trans ((ju_c _ _ (by decide)).trans ((ju_c _ _ (by decide)).trans e31))))
              obtain ⟨v33, e33⟩ : ∃ z, M14 598 74 = z := ⟨_, rfl⟩
              have b33 : 0 ≤ v33 ∧ v33 ≤ 4 := by rw [← e33]; exact hI_M14 598 74 (by decide)
              have y34 : (ju (ju (ju (ju M14 664 sg v2) 666 sg (-1)) 667 sg 1) 598 102 (sg + 1)) 598 74 = v33 := ((ju_i _ _ (by decide)).trans ((ju_c _ _ (by decide)).trans ((ju_c _ _ (by decide)).trans ((ju_c _ _ (by decide)).trans e33))))
              obtain ⟨v35, e35⟩ : ∃ z, M14 598 79 = z := ⟨_, rfl⟩
              have b35 : 0 ≤ v35 ∧ v35 ≤ 255 := by rw [← e35]; exact hI_M14 598 79 (by decide)
              have y36 : (ju (ju (ju (ju M14 664 sg v2) 666 sg (-1)) 667 sg 1) 598 102 (sg + 1)) 598 79 = v35 := ((ju_i _ _ (by decide)).trans ((ju_c _ _ (by decide)).trans ((ju_c _ _ (by decide)).trans ((ju_c _ _ (by decide)).trans e35))))
              obtain ⟨v37, e37⟩ : ∃ z, M5 598 80 = z := ⟨_, rfl⟩
              have b37 : 0 ≤ v37 ∧ v37 ≤ 7 := by rw [← e37]; exact hI_M5 598 80 (by decide)
              have e38 : M14 598 80 = v37 := ((w14_6 80 (by decide) (by decide) (by decide) (by decide) (by decide) (by decide) (by decide)).trans e37)
              have y39 : (ju (ju (ju (ju M14 664 sg v2) 666 sg (-1)) 667 sg 1) 598 102 (sg + 1)) 598 80 = v37 := ((ju_i _ _ (by decide)).trans ((ju_c _ _ (by decide)).trans ((ju_c _ _ (by decide)).trans ((ju_c _ _ (by decide)).trans e38))))
              have e40 : M14 598 89 = v23 := ((w14_6 89 (by decide) (by decide) (by decide) (by decide) (by decide) (by decide) (by decide)).trans e23)
              have y41 : (ju (ju (ju (ju M14 664 sg v2) 666 sg (-1)) 667 sg 1) 598 102 (sg + 1)) 598 89 = v23 := ((ju_i _ _ (by decide)).trans ((ju_c _ _ (by decide)).trans ((ju_c _ _ (by decide)).trans ((ju_c _ _ (by decide)).trans e40))))
              obtain ⟨v42, e42⟩ : ∃ z, M4 598 90 = z := ⟨_, rfl⟩
              have b42 : 0 ≤ v42 ∧ v42 ≤ 2200 := by rw [← e42]; exact hI_M4 598 90 (by decide)
              have e43 : M5 598 90 = v42 := ((w5_5 90 (by decide) (by decide) (by decide)).trans e42)
              have e44 : M14 598 90 = v42 := ((w14_6 90 (by decide) (by decide) (by decide) (by decide) (by decide) (by decide) (by decide)).trans e43)
              have y45 : (ju (ju (ju (ju M14 664 sg v2) 666 sg (-1)) 667 sg 1) 598 102 (sg + 1)) 598 90 = v42 := ((ju_i _ _ (by decide)).trans ((ju_c _ _ (by decide)).trans ((ju_c _ _ (by decide)).trans ((ju_c _ _ (by decide)).trans e44))))
              have e46 : M14 598 100 = v12 := ((w14_6 100 (by decide) (by decide) (by decide) (by decide) (by decide) (by decide) (by decide)).trans e25)
              have y47 : (ju (ju (ju (ju M14 664 sg v2) 666 sg (-1)) 667 sg 1) 598 102 (sg + 1)) 598 100 = v12 := ((ju_i _ _ (by decide)).trans ((ju_c _ _ (by decide)).trans ((ju_c _ _ (by decide)).trans ((ju_c _ _ (by decide)).trans e46))))
              obtain ⟨v48, e48⟩ : ∃ z, M 598 107 = z := ⟨_, rfl⟩
              have b48 : 0 ≤ v48 ∧ v48 ≤ 16 := by rw [← e48]; exact hI_M 598 107 (by decide)
              have e49 : M4 598 107 = v48 := ((w4_4 107 (by decide) (by decide) (by decide)).trans e48)
              have e50 : M5 598 107 = v48 := ((w5_5 107 (by decide) (by decide) (by decide)).trans e49)
              have e51 : M14 598 107 = v48 := ((w14_6 107 (by decide) (by decide) (by decide) (by decide) (by decide) (by decide) (by decide)).trans e50)
              have y52 : (ju (ju (ju (ju M14 664 sg v2) 666 sg (-1)) 667 sg 1) 598 102 (sg + 1)) 598 107 = v48 := ((ju_i _ _ (by decide)).trans ((ju_c _ _ (by decide)).trans ((ju_c _ _ (by decide)).trans ((ju_c _ _ (by decide)).trans e51))))
              have y53 : TK (ju (ju (ju (ju M14 664 sg v2) 666 sg (-1)) 667 sg 1) 598 102 (sg + 1)) = TK M14 := ((TK.o (Or.inr ⟨by decide, by decide⟩)).trans ((TK.o (Or.inl (by decide))).trans ((TK.o (Or.inl (by decide))).trans ((TK.o (Or.inl (by decide))).trans rfl))))
              exact jr.ireturn rfl rfl rfl (q _ _ (RI.u (RI.u (RI.u (RI.u hI_M14 (a := 664) (i := sg) (by rw [xri_row rfl rfl]; show (0 : Int) ≤ _ ∧ _ ≤ (255 : Int); omega)) (a := 666) (i := sg) (by rw [xri_row rfl rfl]; show (-1 : Int) ≤ _ ∧ _ ≤ (68 : Int); omega)) (a := 667) (i := sg) (by rw [xri_row rfl rfl]; show (0 : Int) ≤ _ ∧ _ ≤ (4 : Int); omega)) (a := 598) (i := 102) (show (0 : Int) ≤ _ ∧ _ ≤ (400 : Int) from by omega)) (RH.o (RH.o (RH.o (RH.o hH_M14 (by decide) (by decide) (by decide)) (by decide) (by decide) (by decide)) (by decide) (by decide) (by decide)) (by decide) (by decide) (by decide)) (RF.o (RF.o (RF.o (RF.o hS_M14 (by decide) (by decide)) (by decide) (by decide)) (by decide) (by decide)) (by decide) (by decide))  (by omega) (Or.inr ⟨rfl, by by_cases hf : v37 = 0; (first | (exfalso; omega) | (exact Or.inr ⟨⟨by omega, ES.adj hE (k' := 0) (z' := 0) (by omega) (by omega) (by omega), by omega, by omega, by omega, by omega⟩, by omega⟩)); (exact Or.inl ⟨by omega, by omega⟩)⟩) (by omega) (by omega) (by omega) (fun a i f598 f659 f660 f664 f665 f666 f667 => ((ju_c _ _ f598).trans ((ju_c _ _ f667).trans ((ju_c _ _ f666).trans ((ju_c _ _ f664).trans ((w14_5 a i f598).trans ((w5_4 a i f598).trans ((w4_3 a i f598 f659 f660).trans rfl)))))))) (fun i g73 g74 g75 g76 g77 g78 g79 g80 g81 g89 g90 g100 g102 => ((ju_i _ _ g102).trans ((ju_c _ _ (by decide)).trans ((ju_c _ _ (by decide)).trans ((ju_c _ _ (by decide)).trans ((w14_6 i g73 g74 g75 g76 g77 g78 g79).trans ((w5_5 i g80 g81 g89).trans ((w4_4 i g90 g100 g102).trans rfl)))))))))
            · refine jr.aload_n rfl rfl ?_
              refine jr.iload_n rfl rfl ?_
              have e54 : M5 598 102 = sg := ((w5_5 102 (by decide) (by decide) (by decide)).trans hsg)
              have e55 : M14 598 102 = sg := ((w14_6 102 (by decide) (by decide) (by decide) (by decide) (by decide) (by decide) (by decide)).trans e54)
              obtain ⟨v56, e56⟩ : ∃ z, M4 598 90 = z := ⟨_, rfl⟩
              have b56 : 0 ≤ v56 ∧ v56 ≤ 2200 := by rw [← e56]; exact hI_M4 598 90 (by decide)
              have e57 : M5 598 90 = v56 := ((w5_5 90 (by decide) (by decide) (by decide)).trans e56)
              have e58 : M14 598 90 = v56 := ((w14_6 90 (by decide) (by decide) (by decide) (by decide) (by decide) (by decide) (by decide)).trans e57)
              have e60 : M14 598 100 = v12 := ((w14_6 100 (by decide) (by decide) (by decide) (by decide) (by decide) (by decide) (by decide)).trans e25)
              obtain ⟨v62, e62⟩ : ∃ z, M 598 107 = z := ⟨_, rfl⟩
              have b62 : 0 ≤ v62 ∧ v62 ≤ 16 := by rw [← e62]; exact hI_M 598 107 (by decide)
              have e63 : M4 598 107 = v62 := ((w4_4 107 (by decide) (by decide) (by decide)).trans e62)
              have e64 : M5 598 107 = v62 := ((w5_5 107 (by decide) (by decide) (by decide)).trans e63)
              have e65 : M14 598 107 = v62 := ((w14_6 107 (by decide) (by decide) (by decide) (by decide) (by decide) (by decide) (by decide)).trans e64)
              refine jr_v rfl rfl (Or.inl rfl) rfl rfl (by decide) rfl ⟨rfl, Nat.le_of_ble_eq_true rfl, Nat.le_of_ble_eq_true rfl⟩ rfl (jc.deep (r_open e55 (by omega) e58 (by omega) (by omega) (fun op59 ho59 => ?_)) (by decide))
              have y61 : M14 598 100 = v12 := e60
              have y66 : M14 598 107 = v62 := e65
              have hE := ES.opn hE e55 e58 v2 (-1) op59 0 (strn_and (by omega)) ho59 (by rw [w14_5 664 _ (by decide), w5_4 664 _ (by decide)]; omega) (by omega) (by omega) (by omega)
              refine jr.goto rfl rfl ?_
              refine jr.iconst rfl ?_
              have e67 : M14 598 72 = v16 := ((w14_6 72 (by decide) (by decide) (by decide) (by decide) (by decide) (by decide) (by decide)).trans e18)
              have y68 : (ju (ju (ju (ju (ju (ju (ju (ju M14 664 sg v2) 666 sg (-1)) 667 sg 1) 598 102 (sg + 1)) 665 (sg + 1 - 1) v56) 659 v56 op59) 660 v56 0) 598 90 (v56 + 1)) 598 72 = v16 := ((ju_i _ _ (by decide)).trans ((ju_c _ _ (by decide)).trans ((ju_c _ _ (by decide)).trans ((ju_c _ _ (by decide)).trans ((ju_i _ _ (by decide)).trans ((ju_c _ _ (by decide)).trans ((ju_c _ _ (by decide)).trans ((ju_c _ _ (by decide)).trans e67))))))))
              obtain ⟨v69, e69⟩ : ∃ z, M14 598 73 = z := ⟨_, rfl⟩
              have b69 : 0 ≤ v69 ∧ v69 ≤ 1600 := by rw [← e69]; exact hI_M14 598 73 (by decide)
              have y70 : (ju (ju (ju (ju (ju (ju (ju (ju M14 664 sg v2) 666 sg (-1)) 667 sg 1) 598 102 (sg + 1)) 665 (sg + 1 - 1) v56) 659 v56 op59) 660 v56 0) 598 90 (v56 + 1)) 598 73 = v69 := ((ju_i _ _ (by decide)).trans ((ju_c _ _ (by decide)).trans ((ju_c _ _ (by decide)).trans ((ju_c _ _ (by decide)).trans ((ju_i _ _ (by decide)).trans ((ju_c _ _ (by decide)).trans ((ju_c _ _ (by decide)).trans ((ju_c _ _ (by decide)).trans e69))))))))
              obtain ⟨v71, e71⟩ : ∃ z, M14 598 74 = z := ⟨_, rfl⟩
              have b71 : 0 ≤ v71 ∧ v71 ≤ 4 := by rw [← e71]; exact hI_M14 598 74 (by decide)
              have y72 : (ju (ju (ju (ju (ju (ju (ju (ju M14 664 sg v2) 666 sg (-1)) 667 sg 1) 598 102 (sg + 1)) 665 (sg + 1 - 1) v56) 659 v56 op59) 660 v56 0) 598 90 (v56 + 1)) 598 74 = v71 := ((ju_i _ _ (by decide)).trans ((ju_c _ _ (by decide)).trans ((ju_c _ _ (by decide)).trans ((ju_c _ _ (by decide)).trans ((ju_i _ _ (by decide)).trans ((ju_c _ _ (by decide)).trans ((ju_c _ _ (by decide)).trans ((ju_c _ _ (by decide)).trans e71))))))))
              obtain ⟨v73, e73⟩ : ∃ z, M14 598 79 = z := ⟨_, rfl⟩
              have b73 : 0 ≤ v73 ∧ v73 ≤ 255 := by rw [← e73]; exact hI_M14 598 79 (by decide)
              have y74 : (ju (ju (ju (ju (ju (ju (ju (ju M14 664 sg v2) 666 sg (-1)) 667 sg 1) 598 102 (sg + 1)) 665 (sg + 1 - 1) v56) 659 v56 op59) 660 v56 0) 598 90 (v56 + 1)) 598 79 = v73 := ((ju_i _ _ (by decide)).trans ((ju_c _ _ (by decide)).trans ((ju_c _ _ (by decide)).trans ((ju_c _ _ (by decide)).trans ((ju_i _ _ (by decide)).trans ((ju_c _ _ (by decide)).trans ((ju_c _ _ (by decide)).trans ((ju_c _ _ (by decide)).trans e73))))))))
              obtain ⟨v75, e75⟩ : ∃ z, M5 598 80 = z := ⟨_, rfl⟩
              have b75 : 0 ≤ v75 ∧ v75 ≤ 7 := by rw [← e75]; exact hI_M5 598 80 (by decide)
              have e76 : M14 598 80 = v75 := ((w14_6 80 (by decide) (by decide) (by decide) (by decide) (by decide) (by decide) (by decide)).trans e75)
              have y77 : (ju (ju (ju (ju (ju (ju (ju (ju M14 664 sg v2) 666 sg (-1)) 667 sg 1) 598 102 (sg + 1)) 665 (sg + 1 - 1) v56) 659 v56 op59) 660 v56 0) 598 90 (v56 + 1)) 598 80 = v75 := ((ju_i _ _ (by decide)).trans ((ju_c _ _ (by decide)).trans ((ju_c _ _ (by decide)).trans ((ju_c _ _ (by decide)).trans ((ju_i _ _ (by decide)).trans ((ju_c _ _ (by decide)).trans ((ju_c _ _ (by decide)).trans ((ju_c _ _ (by decide)).trans e76))))))))
              have e78 : M14 598 89 = v23 := ((w14_6 89 (by decide) (by decide) (by decide) (by decide) (by decide) (by decide) (by decide)).trans e23)
              have y79 : (ju (ju (ju (ju (ju (ju (ju (ju M14 664 sg v2) 666 sg (-1)) 667 sg 1) 598 102 (sg + 1)) 665 (sg + 1 - 1) v56) 659 v56 op59) 660 v56 0) 598 90 (v56 + 1)) 598 89 = v23 := ((ju_i _ _ (by decide)).trans ((ju_c _ _ (by decide)).trans ((ju_c _ _ (by decide)).trans ((ju_c _ _ (by decide)).trans ((ju_i _ _ (by decide)).trans ((ju_c _ _ (by decide)).trans ((ju_c _ _ (by decide)).trans ((ju_c _ _ (by decide)).trans e78))))))))
              have y80 : (ju (ju (ju (ju (ju (ju (ju (ju M14 664 sg v2) 666 sg (-1)) 667 sg 1) 598 102 (sg + 1)) 665 (sg + 1 - 1) v56) 659 v56 op59) 660 v56 0) 598 90 (v56 + 1)) 598 90 = v56 + 1 := (ju_same _ _ _ _)
              have y81 : (ju (ju (ju (ju (ju (ju (ju (ju M14 664 sg v2) 666 sg (-1)) 667 sg 1) 598 102 (sg + 1)) 665 (sg + 1 - 1) v56) 659 v56 op59) 660 v56 0) 598 90 (v56 + 1)) 598 100 = v12 := ((ju_i _ _ (by decide)).trans ((ju_c _ _ (by decide)).trans ((ju_c _ _ (by decide)).trans ((ju_c _ _ (by decide)).trans ((ju_i _ _ (by decide)).trans ((ju_c _ _ (by decide)).trans ((ju_c _ _ (by decide)).trans ((ju_c _ _ (by decide)).trans e60))))))))
              have y82 : (ju (ju (ju (ju (ju (ju (ju (ju M14 664 sg v2) 666 sg (-1)) 667 sg 1) 598 102 (sg + 1)) 665 (sg + 1 - 1) v56) 659 v56 op59) 660 v56 0) 598 90 (v56 + 1)) 598 107 = v62 := ((ju_i _ _ (by decide)).trans ((ju_c _ _ (by decide)).trans ((ju_c _ _ (by decide)).trans ((ju_c _ _ (by decide)).trans ((ju_i _ _ (by decide)).trans ((ju_c _ _ (by decide)).trans ((ju_c _ _ (by decide)).trans ((ju_c _ _ (by decide)).trans e65))))))))
              have y83 : TK (ju (ju (ju (ju (ju (ju (ju (ju M14 664 sg v2) 666 sg (-1)) 667 sg 1) 598 102 (sg + 1)) 665 (sg + 1 - 1) v56) 659 v56 op59) 660 v56 0) 598 90 (v56 + 1)) = TK M14 := ((TK.o (Or.inr ⟨by decide, by decide⟩)).trans ((TK.o (Or.inl (by decide))).trans ((TK.o (Or.inl (by decide))).trans ((TK.o (Or.inl (by decide))).trans ((TK.o (Or.inr ⟨by decide, by decide⟩)).trans ((TK.o (Or.inl (by decide))).trans ((TK.o (Or.inl (by decide))).trans ((TK.o (Or.inl (by decide))).trans rfl))))))))
              exact jr.ireturn rfl rfl rfl (q _ _ (RI.u (RI.u (RI.u (RI.u (RI.u (RI.u (RI.u (RI.u hI_M14 (a := 664) (i := sg) (by rw [xri_row rfl rfl]; show (0 : Int) ≤ _ ∧ _ ≤ (255 : Int); omega)) (a := 666) (i := sg) (by rw [xri_row rfl rfl]; show (-1 : Int) ≤ _ ∧ _ ≤ (68 : Int); omega)) (a := 667) (i := sg) (by rw [xri_row rfl rfl]; show (0 : Int) ≤ _ ∧ _ ≤ (4 : Int); omega)) (a := 598) (i := 102) (show (0 : Int) ≤ _ ∧ _ ≤ (400 : Int) from by omega)) (a := 665) (i := (sg + 1 - 1)) (by rw [xri_row rfl rfl]; show (0 : Int) ≤ _ ∧ _ ≤ (2200 : Int); omega)) (a := 659) (i := v56) (by rw [xri_row rfl rfl]; show (0 : Int) ≤ _ ∧ _ ≤ (1000 : Int); omega)) (a := 660) (i := v56) (by rw [xri_row rfl rfl]; show (-9223372036854775808 : Int) ≤ _ ∧ _ ≤ (9223372036854775807 : Int); omega)) (a := 598) (i := 90) (show (0 : Int) ≤ _ ∧ _ ≤ (2200 : Int) from by omega)) (RH.o (RH.o (RH.o (RH.o (RH.o (RH.o (RH.o (RH.o hH_M14 (by decide) (by decide) (by decide)) (by decide) (by decide) (by decide)) (by decide) (by decide) (by decide)) (by decide) (by decide) (by decide)) (by decide) (by decide) (by decide)) (by decide) (by decide) (by decide)) (by decide) (by decide) (by decide)) (by decide) (by decide) (by decide)) (RF.o (RF.o (RF.o (RF.o (RF.o (RF.o (RF.o (RF.o hS_M14 (by decide) (by decide)) (by decide) (by decide)) (by decide) (by decide)) (by decide) (by decide)) (by decide) (by decide)) (by decide) (by decide)) (by decide) (by decide)) (by decide) (by decide))  (by omega) (Or.inr ⟨rfl, by by_cases hf : v75 = 0; (first | (exfalso; omega) | (exact Or.inr ⟨⟨by omega, ES.adj hE (k' := 0) (z' := 0) (by omega) (by omega) (by omega), by omega, by omega, by omega, by omega⟩, by omega⟩)); (exact Or.inl ⟨by omega, by omega⟩)⟩) (by omega) (by omega) (by omega) (fun a i f598 f659 f660 f664 f665 f666 f667 => ((ju_c _ _ f598).trans ((ju_c _ _ f660).trans ((ju_c _ _ f659).trans ((ju_c _ _ f665).trans ((ju_c _ _ f598).trans ((ju_c _ _ f667).trans ((ju_c _ _ f666).trans ((ju_c _ _ f664).trans ((w14_5 a i f598).trans ((w5_4 a i f598).trans ((w4_3 a i f598 f659 f660).trans rfl)))))))))))) (fun i g73 g74 g75 g76 g77 g78 g79 g80 g81 g89 g90 g100 g102 => ((ju_i _ _ g90).trans ((ju_c _ _ (by decide)).trans ((ju_c _ _ (by decide)).trans ((ju_c _ _ (by decide)).trans ((ju_i _ _ g102).trans ((ju_c _ _ (by decide)).trans ((ju_c _ _ (by decide)).trans ((ju_c _ _ (by decide)).trans ((w14_6 i g73 g74 g75 g76 g77 g78 g79).trans ((w5_5 i g80 g81 g89).trans ((w4_4 i g90 g100 g102).trans rfl)))))))))))))
          · refine jr.if_ne rfl rfl (by omega) (fun h => absurd h (by decide)) (fun _ => ?_)
            refine jr.iconst rfl ?_
            obtain ⟨v84, e84⟩ : ∃ z, M 598 72 = z := ⟨_, rfl⟩
            have b84 : 0 ≤ v84 ∧ v84 ≤ 1600 := by rw [← e84]; exact hI_M 598 72 (by decide)
            have e85 : M4 598 72 = v84 := ((w4_4 72 (by decide) (by decide) (by decide)).trans e84)
            have e86 : M5 598 72 = v84 := ((w5_5 72 (by decide) (by decide) (by decide)).trans e85)
            have y87 : M5 598 72 = v84 := e86
            have e88 : M5 598 73 = v8 := ((w5_5 73 (by decide) (by decide) (by decide)).trans e9)
            have y89 : M5 598 73 = v8 := e88
            have e90 : M4 598 74 = v1 := ((w4_4 74 (by decide) (by decide) (by decide)).trans e1)
            have e91 : M5 598 74 = v1 := ((w5_5 74 (by decide) (by decide) (by decide)).trans e90)
            have y92 : M5 598 74 = v1 := e91
            have e93 : M4 598 79 = v2 := ((w4_4 79 (by decide) (by decide) (by decide)).trans e2)
            have e94 : M5 598 79 = v2 := ((w5_5 79 (by decide) (by decide) (by decide)).trans e93)
            have y95 : M5 598 79 = v2 := e94
            obtain ⟨v96, e96⟩ : ∃ z, M5 598 80 = z := ⟨_, rfl⟩
            have b96 : 0 ≤ v96 ∧ v96 ≤ 7 := by rw [← e96]; exact hI_M5 598 80 (by decide)
            have y97 : M5 598 80 = v96 := e96
            obtain ⟨v98, e98⟩ : ∃ z, M5 598 89 = z := ⟨_, rfl⟩
            have b98 : 0 ≤ v98 ∧ v98 ≤ 301 := by rw [← e98]; exact hI_M5 598 89 (by decide)
            have y99 : M5 598 89 = v98 := e98
            obtain ⟨v100, e100⟩ : ∃ z, M4 598 90 = z := ⟨_, rfl⟩
            have b100 : 0 ≤ v100 ∧ v100 ≤ 2200 := by rw [← e100]; exact hI_M4 598 90 (by decide)
            have e101 : M5 598 90 = v100 := ((w5_5 90 (by decide) (by decide) (by decide)).trans e100)
            have y102 : M5 598 90 = v100 := e101
            have e103 : M5 598 100 = v12 := ((w5_5 100 (by decide) (by decide) (by decide)).trans e12)
            have y104 : M5 598 100 = v12 := e103
            obtain ⟨v105, e105⟩ : ∃ z, M 598 107 = z := ⟨_, rfl⟩
            have b105 : 0 ≤ v105 ∧ v105 ≤ 16 := by rw [← e105]; exact hI_M 598 107 (by decide)
            have e106 : M4 598 107 = v105 := ((w4_4 107 (by decide) (by decide) (by decide)).trans e105)
            have e107 : M5 598 107 = v105 := ((w5_5 107 (by decide) (by decide) (by decide)).trans e106)
            have y108 : M5 598 107 = v105 := e107
            exact jr.ireturn rfl rfl rfl (q _ _ hI_M5 hH_M5 hS_M5  (by omega) (Or.inr ⟨rfl, by by_cases hf : v96 = 0; (first | (exfalso; omega) | (exact Or.inr ⟨⟨by omega, ES.adj hE (k' := 0) (z' := 0) (by omega) (by omega) (by omega), by omega, by omega, by omega, by omega⟩, by omega⟩)); (exact Or.inl ⟨by omega, by omega⟩)⟩) (by omega) (by omega) (by omega) (fun a i f598 f659 f660 f664 f665 f666 f667 => ((w5_4 a i f598).trans ((w4_3 a i f598 f659 f660).trans rfl))) (fun i g73 g74 g75 g76 g77 g78 g79 g80 g81 g89 g90 g100 g102 => ((w5_5 i g80 g81 g89).trans ((w4_4 i g90 g100 g102).trans rfl))))
        · refine jr.aload_n rfl rfl ?_
          refine jr_v rfl rfl (Or.inl rfl) rfl rfl (by decide) rfl ⟨rfl, Nat.le_of_ble_eq_true rfl, Nat.le_of_ble_eq_true rfl⟩ rfl (jc.deep (r_isCompareOnTop hI_M4 hH_M4 hS_M4 (Kp.rfl _)   (fun r109 z109 w109_0 => ?_)) (by decide))
          rw [hsg] at w109_0
          refine jr.if_eq rfl rfl (by omega) (fun h54 => ?_) (fun h54 => ?_)
          · refine jr.aload_n rfl rfl ?_
            obtain ⟨v111, e111⟩ : ∃ z, M 598 89 = z := ⟨_, rfl⟩
            have b111 : 0 ≤ v111 ∧ v111 ≤ 301 := by rw [← e111]; exact hI_M 598 89 (by decide)
            have e112 : M4 598 89 = v111 := ((w4_4 89 (by decide) (by decide) (by decide)).trans e111)
            obtain ⟨v113, e113⟩ : ∃ z, M 598 73 = z := ⟨_, rfl⟩
            have b113 : 0 ≤ v113 ∧ v113 ≤ 1600 := by rw [← e113]; exact hI_M 598 73 (by decide)
            have e114 : M4 598 73 = v113 := ((w4_4 73 (by decide) (by decide) (by decide)).trans e113)
            obtain ⟨v117, e117⟩ : ∃ z, M4 598 100 = z := ⟨_, rfl⟩
            have b117 : 0 ≤ v117 ∧ v117 ≤ 13 := by rw [← e117]; exact hI_M4 598 100 (by decide)
            refine jr_v rfl rfl (Or.inl rfl) rfl rfl (by decide) rfl ⟨rfl, Nat.le_of_ble_eq_true rfl, Nat.le_of_ble_eq_true rfl⟩ rfl (jc.deep (r_node hI_M4 hH_M4 hS_M4   (by rw [e112]; omega) (fun M110 hI_M110 hH_M110 hS_M110  w110_0 w110_1 w110_2 w110_3 w110_4 w110_5 => ?_)) (by decide))
            have tk110 : TK M110 = TK M4 := TK.fr (w110_5 73 (by decide) (by decide) (by decide)) (w110_5 74 (by decide) (by decide) (by decide))
            have y115 : M4 598 73 = v113 := e114
            have y116 : M4 598 89 = v111 := e112
            have y118 : M4 598 100 = v117 := e117
            have x110_73 := w110_5 73 (by decide) (by decide) (by decide)
            have x110_100 := w110_5 100 (by decide) (by decide) (by decide)
            have hE := ES.fr2 hE w110_4 (w110_5 88 (by decide) (by decide) (by decide)) (w110_5 90 (by decide) (by decide) (by decide)) (w110_5 101 (by decide) (by decide) (by decide)) (w110_5 102 (by decide) (by decide) (by decide)) (w110_5 107 (by decide) (by decide) (by decide)) (k' := 4) (d' := 0) (z' := 0) (by omega) (by omega) (by omega) (by omega)
            refine jr.aload_n rfl rfl ?_
            refine jr_v rfl rfl (Or.inl rfl) rfl rfl (by decide) rfl ⟨rfl, Nat.le_of_ble_eq_true rfl, Nat.le_of_ble_eq_true rfl⟩ rfl (jc.deep (c_good hI_M110  (fun t68_0 => ?_) (fun f68_0 => ?_)) (by decide))
            · refine jr.if_ne rfl rfl (by omega) (fun _ => ?_) (fun h => absurd (by decide) h)
              refine jr.aload_n rfl rfl ?_
              have e120 : M110 598 73 = v113 := ((w110_5 73 (by decide) (by decide) (by decide)).trans e114)
              obtain ⟨v121, e121⟩ : ∃ z, M 598 72 = z := ⟨_, rfl⟩
              have b121 : 0 ≤ v121 ∧ v121 ≤ 1600 := by rw [← e121]; exact hI_M 598 72 (by decide)
              have e122 : M4 598 72 = v121 := ((w4_4 72 (by decide) (by decide) (by decide)).trans e121)
              have e123 : M110 598 72 = v121 := ((w110_5 72 (by decide) (by decide) (by decide)).trans e122)
              have e124 : M4 598 74 = v1 := ((w4_4 74 (by decide) (by decide) (by decide)).trans e1)
              have e125 : M110 598 74 = v1 := ((w110_5 74 (by decide) (by decide) (by decide)).trans e124)
              obtain ⟨v128, e128⟩ : ∃ z, M110 598 89 = z := ⟨_, rfl⟩
              have b128 : 0 ≤ v128 ∧ v128 ≤ 301 := by rw [← e128]; exact hI_M110 598 89 (by decide)
              have e130 : M110 598 100 = v117 := ((w110_5 100 (by decide) (by decide) (by decide)).trans e117)
              refine jr_v rfl rfl (Or.inl rfl) rfl rfl (by decide) rfl ⟨rfl, Nat.le_of_ble_eq_true rfl, Nat.le_of_ble_eq_true rfl⟩ rfl (jc.deep (r_next hI_M110 hH_M110 hS_M110   (by rw [e120, e123]; omega) (fun M119 hI_M119 hH_M119 hS_M119  w119_0 w119_1 w119_2 w119_3 w119_4 w119_5 w119_6 => ?_)) (by decide))
              have y126 : M110 598 74 = v1 := e125
              have y127 : M110 598 73 = v113 := e120
              have y129 : M110 598 89 = v128 := e128
              have y131 : M110 598 100 = v117 := e130
              have x119_89 := w119_6 89 (by decide) (by decide) (by decide) (by decide) (by decide) (by decide) (by decide)
              have x119_100 := w119_6 100 (by decide) (by decide) (by decide) (by decide) (by decide) (by decide) (by decide)
              have hE := ES.fr2 hE w119_5 (w119_6 88 (by decide) (by decide) (by decide) (by decide) (by decide) (by decide) (by decide)) (w119_6 90 (by decide) (by decide) (by decide) (by decide) (by decide) (by decide) (by decide)) (w119_6 101 (by decide) (by decide) (by decide) (by decide) (by decide) (by decide) (by decide)) (w119_6 102 (by decide) (by decide) (by decide) (by decide) (by decide) (by decide) (by decide)) (w119_6 107 (by decide) (by decide) (by decide) (by decide) (by decide) (by decide) (by decide)) (k' := 4) (d' := 0) (z' := 0) (by omega) (by omega) (by omega) (by omega)
              refine jr.iload_n rfl rfl ?_
              refine jr.iconst rfl ?_
              refine jr.icmp_ge rfl rfl (by omega) (by omega) (fun h82 => ?_) (fun h82 => ?_)
              · refine jr.aload_n rfl rfl ?_
                refine jr.iload_n rfl rfl ?_
                refine jr.iconst rfl ?_
                have e132 : M110 598 102 = sg := ((w110_5 102 (by decide) (by decide) (by decide)).trans hsg)
                have e133 : M119 598 102 = sg := ((w119_6 102 (by decide) (by decide) (by decide) (by decide) (by decide) (by decide) (by decide)).trans e132)
                refine jr_v rfl rfl (Or.inl rfl) rfl rfl (by decide) rfl ⟨rfl, Nat.le_of_ble_eq_true rfl, Nat.le_of_ble_eq_true rfl⟩ rfl (jc.deep (r_push e133 (by omega) (by omega) (by omega) ?_) (by decide))
                have hE := ES.two hE e133 v2 (-1) 2 (by omega) (by rw [w119_5 664 _ (by decide), w110_4 664 _ (by decide)]; omega) (by omega) (by omega)
                refine jr.iconst rfl ?_
                have e134 : M119 598 72 = v121 := ((w119_6 72 (by decide) (by decide) (by decide) (by decide) (by decide) (by decide) (by decide)).trans e123)
                have y135 : (ju (ju (ju (ju M119 664 sg v2) 666 sg (-1)) 667 sg 1) 598 102 (sg + 1)) 598 72 = v121 := ((ju_i _ _ (by decide)).trans ((ju_c _ _ (by decide)).trans ((ju_c _ _ (by decide)).trans ((ju_c _ _ (by decide)).trans e134))))
                obtain ⟨v136, e136⟩ : ∃ z, M119 598 73 = z := ⟨_, rfl⟩
                have b136 : 0 ≤ v136 ∧ v136 ≤ 1600 := by rw [← e136]; exact hI_M119 598 73 (by decide)
                have y137 : (ju (ju (ju (ju M119 664 sg v2) 666 sg (-1)) 667 sg 1) 598 102 (sg + 1)) 598 73 = v136 := ((ju_i _ _ (by decide)).trans ((ju_c _ _ (by decide)).trans ((ju_c _ _ (by decide)).trans ((ju_c _ _ (by decide)).trans e136))))
                obtain ⟨v138, e138⟩ : ∃ z, M119 598 74 = z := ⟨_, rfl⟩
                have b138 : 0 ≤ v138 ∧ v138 ≤ 4 := by rw [← e138]; exact hI_M119 598 74 (by decide)
                have y139 : (ju (ju (ju (ju M119 664 sg v2) 666 sg (-1)) 667 sg 1) 598 102 (sg + 1)) 598 74 = v138 := ((ju_i _ _ (by decide)).trans ((ju_c _ _ (by decide)).trans ((ju_c _ _ (by decide)).trans ((ju_c _ _ (by decide)).trans e138))))
                obtain ⟨v140, e140⟩ : ∃ z, M119 598 79 = z := ⟨_, rfl⟩
                have b140 : 0 ≤ v140 ∧ v140 ≤ 255 := by rw [← e140]; exact hI_M119 598 79 (by decide)
                have y141 : (ju (ju (ju (ju M119 664 sg v2) 666 sg (-1)) 667 sg 1) 598 102 (sg + 1)) 598 79 = v140 := ((ju_i _ _ (by decide)).trans ((ju_c _ _ (by decide)).trans ((ju_c _ _ (by decide)).trans ((ju_c _ _ (by decide)).trans e140))))
                obtain ⟨v142, e142⟩ : ∃ z, M110 598 80 = z := ⟨_, rfl⟩
                have b142 : 0 ≤ v142 ∧ v142 ≤ 7 := by rw [← e142]; exact hI_M110 598 80 (by decide)
                have e143 : M119 598 80 = v142 := ((w119_6 80 (by decide) (by decide) (by decide) (by decide) (by decide) (by decide) (by decide)).trans e142)
                have y144 : (ju (ju (ju (ju M119 664 sg v2) 666 sg (-1)) 667 sg 1) 598 102 (sg + 1)) 598 80 = v142 := ((ju_i _ _ (by decide)).trans ((ju_c _ _ (by decide)).trans ((ju_c _ _ (by decide)).trans ((ju_c _ _ (by decide)).trans e143))))
                have e145 : M119 598 89 = v128 := ((w119_6 89 (by decide) (by decide) (by decide) (by decide) (by decide) (by decide) (by decide)).trans e128)
                have y146 : (ju (ju (ju (ju M119 664 sg v2) 666 sg (-1)) 667 sg 1) 598 102 (sg + 1)) 598 89 = v128 := ((ju_i _ _ (by decide)).trans ((ju_c _ _ (by decide)).trans ((ju_c _ _ (by decide)).trans ((ju_c _ _ (by decide)).trans e145))))
                obtain ⟨v147, e147⟩ : ∃ z, M4 598 90 = z := ⟨_, rfl⟩
                have b147 : 0 ≤ v147 ∧ v147 ≤ 2200 := by rw [← e147]; exact hI_M4 598 90 (by decide)
                have e148 : M110 598 90 = v147 := ((w110_5 90 (by decide) (by decide) (by decide)).trans e147)
                have e149 : M119 598 90 = v147 := ((w119_6 90 (by decide) (by decide) (by decide) (by decide) (by decide) (by decide) (by decide)).trans e148)
                have y150 : (ju (ju (ju (ju M119 664 sg v2) 666 sg (-1)) 667 sg 1) 598 102 (sg + 1)) 598 90 = v147 := ((ju_i _ _ (by decide)).trans ((ju_c _ _ (by decide)).trans ((ju_c _ _ (by decide)).trans ((ju_c _ _ (by decide)).trans e149))))
                have e151 : M119 598 100 = v117 := ((w119_6 100 (by decide) (by decide) (by decide) (by decide) (by decide) (by decide) (by decide)).trans e130)
                have y152 : (ju (ju (ju (ju M119 664 sg v2) 666 sg (-1)) 667 sg 1) 598 102 (sg + 1)) 598 100 = v117 := ((ju_i _ _ (by decide)).trans ((ju_c _ _ (by decide)).trans ((ju_c _ _ (by decide)).trans ((ju_c _ _ (by decide)).trans e151))))
                obtain ⟨v153, e153⟩ : ∃ z, M 598 107 = z := ⟨_, rfl⟩
                have b153 : 0 ≤ v153 ∧ v153 ≤ 16 := by rw [← e153]; exact hI_M 598 107 (by decide)
                have e154 : M4 598 107 = v153 := ((w4_4 107 (by decide) (by decide) (by decide)).trans e153)
                have e155 : M110 598 107 = v153 := ((w110_5 107 (by decide) (by decide) (by decide)).trans e154)
                have e156 : M119 598 107 = v153 := ((w119_6 107 (by decide) (by decide) (by decide) (by decide) (by decide) (by decide) (by decide)).trans e155)
                have y157 : (ju (ju (ju (ju M119 664 sg v2) 666 sg (-1)) 667 sg 1) 598 102 (sg + 1)) 598 107 = v153 := ((ju_i _ _ (by decide)).trans ((ju_c _ _ (by decide)).trans ((ju_c _ _ (by decide)).trans ((ju_c _ _ (by decide)).trans e156))))
                have y158 : TK (ju (ju (ju (ju M119 664 sg v2) 666 sg (-1)) 667 sg 1) 598 102 (sg + 1)) = TK M119 := ((TK.o (Or.inr ⟨by decide, by decide⟩)).trans ((TK.o (Or.inl (by decide))).trans ((TK.o (Or.inl (by decide))).trans ((TK.o (Or.inl (by decide))).trans rfl))))
                exact jr.ireturn rfl rfl rfl (q _ _ (RI.u (RI.u (RI.u (RI.u hI_M119 (a := 664) (i := sg) (by rw [xri_row rfl rfl]; show (0 : Int) ≤ _ ∧ _ ≤ (255 : Int); omega)) (a := 666) (i := sg) (by rw [xri_row rfl rfl]; show (-1 : Int) ≤ _ ∧ _ ≤ (68 : Int); omega)) (a := 667) (i := sg) (by rw [xri_row rfl rfl]; show (0 : Int) ≤ _ ∧ _ ≤ (4 : Int); omega)) (a := 598) (i := 102) (show (0 : Int) ≤ _ ∧ _ ≤ (400 : Int) from by omega)) (RH.o (RH.o (RH.o (RH.o hH_M119 (by decide) (by decide) (by decide)) (by decide) (by decide) (by decide)) (by decide) (by decide) (by decide)) (by decide) (by decide) (by decide)) (RF.o (RF.o (RF.o (RF.o hS_M119 (by decide) (by decide)) (by decide) (by decide)) (by decide) (by decide)) (by decide) (by decide))  (by omega) (Or.inr ⟨rfl, by by_cases hf : v142 = 0; (first | (exfalso; omega) | (exact Or.inr ⟨⟨by omega, ES.adj hE (k' := 0) (z' := 0) (by omega) (by omega) (by omega), by omega, by omega, by omega, by omega⟩, by omega⟩)); (exact Or.inl ⟨by omega, by omega⟩)⟩) (by omega) (by omega) (by omega) (fun a i f598 f659 f660 f664 f665 f666 f667 => ((ju_c _ _ f598).trans ((ju_c _ _ f667).trans ((ju_c _ _ f666).trans ((ju_c _ _ f664).trans ((w119_5 a i f598).trans ((w110_4 a i f598).trans ((w4_3 a i f598 f659 f660).trans rfl)))))))) (fun i g73 g74 g75 g76 g77 g78 g79 g80 g81 g89 g90 g100 g102 => ((ju_i _ _ g102).trans ((ju_c _ _ (by decide)).trans ((ju_c _ _ (by decide)).trans ((ju_c _ _ (by decide)).trans ((w119_6 i g73 g74 g75 g76 g77 g78 g79).trans ((w110_5 i g80 g81 g89).trans ((w4_4 i g90 g100 g102).trans rfl)))))))))
              · exact absurd (by omega) h82
            · refine jr.if_ne rfl rfl (by omega) (fun h => absurd h (by decide)) (fun _ => ?_)
              refine jr.iconst rfl ?_
              obtain ⟨v159, e159⟩ : ∃ z, M 598 72 = z := ⟨_, rfl⟩
              have b159 : 0 ≤ v159 ∧ v159 ≤ 1600 := by rw [← e159]; exact hI_M 598 72 (by decide)
              have e160 : M4 598 72 = v159 := ((w4_4 72 (by decide) (by decide) (by decide)).trans e159)
              have e161 : M110 598 72 = v159 := ((w110_5 72 (by decide) (by decide) (by decide)).trans e160)
              have y162 : M110 598 72 = v159 := e161
              have e163 : M110 598 73 = v113 := ((w110_5 73 (by decide) (by decide) (by decide)).trans e114)
              have y164 : M110 598 73 = v113 := e163
              have e165 : M4 598 74 = v1 := ((w4_4 74 (by decide) (by decide) (by decide)).trans e1)
              have e166 : M110 598 74 = v1 := ((w110_5 74 (by decide) (by decide) (by decide)).trans e165)
              have y167 : M110 598 74 = v1 := e166
              have e168 : M4 598 79 = v2 := ((w4_4 79 (by decide) (by decide) (by decide)).trans e2)
              have e169 : M110 598 79 = v2 := ((w110_5 79 (by decide) (by decide) (by decide)).trans e168)
              have y170 : M110 598 79 = v2 := e169
              obtain ⟨v171, e171⟩ : ∃ z, M110 598 80 = z := ⟨_, rfl⟩
              have b171 : 0 ≤ v171 ∧ v171 ≤ 7 := by rw [← e171]; exact hI_M110 598 80 (by decide)
              have y172 : M110 598 80 = v171 := e171
              obtain ⟨v173, e173⟩ : ∃ z, M110 598 89 = z := ⟨_, rfl⟩
              have b173 : 0 ≤ v173 ∧ v173 ≤ 301 := by rw [← e173]; exact hI_M110 598 89 (by decide)
              have y174 : M110 598 89 = v173 := e173
              obtain ⟨v175, e175⟩ : ∃ z, M4 598 90 = z := ⟨_, rfl⟩
              have b175 : 0 ≤ v175 ∧ v175 ≤ 2200 := by rw [← e175]; exact hI_M4 598 90 (by decide)
              have e176 : M110 598 90 = v175 := ((w110_5 90 (by decide) (by decide) (by decide)).trans e175)
              have y177 : M110 598 90 = v175 := e176
              have e178 : M110 598 100 = v117 := ((w110_5 100 (by decide) (by decide) (by decide)).trans e117)
              have y179 : M110 598 100 = v117 := e178
              obtain ⟨v180, e180⟩ : ∃ z, M 598 107 = z := ⟨_, rfl⟩
              have b180 : 0 ≤ v180 ∧ v180 ≤ 16 := by rw [← e180]; exact hI_M 598 107 (by decide)
              have e181 : M4 598 107 = v180 := ((w4_4 107 (by decide) (by decide) (by decide)).trans e180)
              have e182 : M110 598 107 = v180 := ((w110_5 107 (by decide) (by decide) (by decide)).trans e181)
              have y183 : M110 598 107 = v180 := e182
              exact jr.ireturn rfl rfl rfl (q _ _ hI_M110 hH_M110 hS_M110  (by omega) (Or.inr ⟨rfl, by by_cases hf : v171 = 0; (first | (exfalso; omega) | (exact Or.inr ⟨⟨by omega, ES.adj hE (k' := 0) (z' := 0) (by omega) (by omega) (by omega), by omega, by omega, by omega, by omega⟩, by omega⟩)); (exact Or.inl ⟨by omega, by omega⟩)⟩) (by omega) (by omega) (by omega) (fun a i f598 f659 f660 f664 f665 f666 f667 => ((w110_4 a i f598).trans ((w4_3 a i f598 f659 f660).trans rfl))) (fun i g73 g74 g75 g76 g77 g78 g79 g80 g81 g89 g90 g100 g102 => ((w110_5 i g80 g81 g89).trans ((w4_4 i g90 g100 g102).trans rfl))))
          · refine jr.aload_n rfl rfl ?_
            refine jr_v rfl rfl (Or.inl rfl) rfl rfl (by decide) rfl ⟨rfl, Nat.le_of_ble_eq_true rfl, Nat.le_of_ble_eq_true rfl⟩ rfl (jc.deep (r_wrongToken hI_M4 hH_M4 hS_M4    (fun M184 hI_M184 hH_M184 hS_M184  w184_0 w184_1 w184_2 => ?_)) (by decide))
            have tk184 : TK M184 = TK M4 := TK.fr (w184_2 73 (by decide) (by decide)) (w184_2 74 (by decide) (by decide))
            refine jr.iconst rfl ?_
            obtain ⟨v185, e185⟩ : ∃ z, M 598 72 = z := ⟨_, rfl⟩
            have b185 : 0 ≤ v185 ∧ v185 ≤ 1600 := by rw [← e185]; exact hI_M 598 72 (by decide)
            have e186 : M4 598 72 = v185 := ((w4_4 72 (by decide) (by decide) (by decide)).trans e185)
            have e187 : M184 598 72 = v185 := ((w184_2 72 (by decide) (by decide)).trans e186)
            have y188 : M184 598 72 = v185 := e187
            obtain ⟨v189, e189⟩ : ∃ z, M 598 73 = z := ⟨_, rfl⟩
            have b189 : 0 ≤ v189 ∧ v189 ≤ 1600 := by rw [← e189]; exact hI_M 598 73 (by decide)
            have e190 : M4 598 73 = v189 := ((w4_4 73 (by decide) (by decide) (by decide)).trans e189)
            have e191 : M184 598 73 = v189 := ((w184_2 73 (by decide) (by decide)).trans e190)
            have y192 : M184 598 73 = v189 := e191
            have e193 : M4 598 74 = v1 := ((w4_4 74 (by decide) (by decide) (by decide)).trans e1)
            have e194 : M184 598 74 = v1 := ((w184_2 74 (by decide) (by decide)).trans e193)
            have y195 : M184 598 74 = v1 := e194
            have e196 : M4 598 79 = v2 := ((w4_4 79 (by decide) (by decide) (by decide)).trans e2)
            have e197 : M184 598 79 = v2 := ((w184_2 79 (by decide) (by decide)).trans e196)
            have y198 : M184 598 79 = v2 := e197
            obtain ⟨v199, e199⟩ : ∃ z, M184 598 80 = z := ⟨_, rfl⟩
            have b199 : 0 ≤ v199 ∧ v199 ≤ 7 := by rw [← e199]; exact hI_M184 598 80 (by decide)
            have y200 : M184 598 80 = v199 := e199
            obtain ⟨v201, e201⟩ : ∃ z, M 598 89 = z := ⟨_, rfl⟩
            have b201 : 0 ≤ v201 ∧ v201 ≤ 301 := by rw [← e201]; exact hI_M 598 89 (by decide)
            have e202 : M4 598 89 = v201 := ((w4_4 89 (by decide) (by decide) (by decide)).trans e201)
            have e203 : M184 598 89 = v201 := ((w184_2 89 (by decide) (by decide)).trans e202)
            have y204 : M184 598 89 = v201 := e203
            obtain ⟨v205, e205⟩ : ∃ z, M4 598 90 = z := ⟨_, rfl⟩
            have b205 : 0 ≤ v205 ∧ v205 ≤ 2200 := by rw [← e205]; exact hI_M4 598 90 (by decide)
            have e206 : M184 598 90 = v205 := ((w184_2 90 (by decide) (by decide)).trans e205)
            have y207 : M184 598 90 = v205 := e206
            obtain ⟨v208, e208⟩ : ∃ z, M4 598 100 = z := ⟨_, rfl⟩
            have b208 : 0 ≤ v208 ∧ v208 ≤ 13 := by rw [← e208]; exact hI_M4 598 100 (by decide)
            have e209 : M184 598 100 = v208 := ((w184_2 100 (by decide) (by decide)).trans e208)
            have y210 : M184 598 100 = v208 := e209
            obtain ⟨v211, e211⟩ : ∃ z, M 598 107 = z := ⟨_, rfl⟩
            have b211 : 0 ≤ v211 ∧ v211 ≤ 16 := by rw [← e211]; exact hI_M 598 107 (by decide)
            have e212 : M4 598 107 = v211 := ((w4_4 107 (by decide) (by decide) (by decide)).trans e211)
            have e213 : M184 598 107 = v211 := ((w184_2 107 (by decide) (by decide)).trans e212)
            have y214 : M184 598 107 = v211 := e213
            exact jr.ireturn rfl rfl rfl (q _ _ hI_M184 hH_M184 hS_M184  (by omega) (Or.inr ⟨rfl, by by_cases hf : v199 = 0; (first | (exfalso; omega) | (exact Or.inr ⟨⟨by omega, ES.adj hE (k' := 0) (z' := 0) (by omega) (by omega) (by omega), by omega, by omega, by omega, by omega⟩, by omega⟩)); (exact Or.inl ⟨by omega, by omega⟩)⟩) (by omega) (by omega) (by omega) (fun a i f598 f659 f660 f664 f665 f666 f667 => ((w184_1 a i f598).trans ((w4_3 a i f598 f659 f660).trans rfl))) (fun i g73 g74 g75 g76 g77 g78 g79 g80 g81 g89 g90 g100 g102 => ((w184_2 i g80 g81).trans ((w4_4 i g90 g100 g102).trans rfl))))
      · refine jr.iconst rfl ?_
        refine jr.goto rfl rfl ?_
        refine jr_v rfl rfl (Or.inl rfl) rfl rfl (by decide) rfl ⟨rfl, Nat.le_of_ble_eq_true rfl, Nat.le_of_ble_eq_true rfl⟩ rfl (jc.deep (r_reduce hI_M hH_M hS_M  (by omega) p0 (fun M215 hI_M215 hH_M215 hS_M215  w215_0 w215_1 w215_2 w215_3 w215_4 => ?_)) (by decide))
        obtain ⟨gs1, gs2, gs3, gs4, gs5, gs6⟩ := id w215_0
        have hE := gs2
        have sl := ES.sgle gs2
        have bM215_107 : (0 : Int) ≤ M215 598 107 ∧ M215 598 107 ≤ 16 := hI_M215 598 107 (by decide)
        have bM215_73 : (0 : Int) ≤ M215 598 73 ∧ M215 598 73 ≤ 1600 := hI_M215 598 73 (by decide)
        have bM215_88 : (0 : Int) ≤ M215 598 88 ∧ M215 598 88 ≤ 16 := hI_M215 598 88 (by decide)
        have bM215_100 : (0 : Int) ≤ M215 598 100 ∧ M215 598 100 ≤ 13 := hI_M215 598 100 (by decide)
        obtain ⟨sg, hsg⟩ : ∃ z, M215 598 102 = z := ⟨_, rfl⟩
        rw [hsg] at w215_1
        have bsg : (0 : Int) ≤ sg ∧ sg ≤ 400 := by rw [← hsg]; exact hI_M215 598 102 (by decide)
        refine jr.iload_n rfl rfl ?_
        refine jr.iconst rfl ?_
        refine jr.icmp_ne rfl rfl (by omega) (by omega) (fun h47 => ?_) (fun h47 => ?_)
        · exact absurd h47 (by omega)
        · refine jr.aload_n rfl rfl ?_
          refine jr_v rfl rfl (Or.inl rfl) rfl rfl (by decide) rfl ⟨rfl, Nat.le_of_ble_eq_true rfl, Nat.le_of_ble_eq_true rfl⟩ rfl (jc.deep (r_isCompareOnTop hI_M215 hH_M215 hS_M215 (Kp.rfl _)   (fun r216 z216 w216_0 => ?_)) (by decide))
          rw [hsg] at w216_0
          refine jr.if_eq rfl rfl (by omega) (fun h54 => ?_) (fun h54 => ?_)
          · refine jr.aload_n rfl rfl ?_
            obtain ⟨v218, e218⟩ : ∃ z, M 598 89 = z := ⟨_, rfl⟩
            have b218 : 0 ≤ v218 ∧ v218 ≤ 301 := by rw [← e218]; exact hI_M 598 89 (by decide)
            have e219 : M215 598 89 = v218 := ((w215_4 89 (by decide) (by decide) (by decide)).trans e218)
            obtain ⟨v220, e220⟩ : ∃ z, M 598 73 = z := ⟨_, rfl⟩
            have b220 : 0 ≤ v220 ∧ v220 ≤ 1600 := by rw [← e220]; exact hI_M 598 73 (by decide)
            have e221 : M215 598 73 = v220 := ((w215_4 73 (by decide) (by decide) (by decide)).trans e220)
            obtain ⟨v224, e224⟩ : ∃ z, M215 598 100 = z := ⟨_, rfl⟩
            have b224 : 0 ≤ v224 ∧ v224 ≤ 13 := by rw [← e224]; exact hI_M215 598 100 (by decide)
            refine jr_v rfl rfl (Or.inl rfl) rfl rfl (by decide) rfl ⟨rfl, Nat.le_of_ble_eq_true rfl, Nat.le_of_ble_eq_true rfl⟩ rfl (jc.deep (r_node hI_M215 hH_M215 hS_M215   (by rw [e219]; omega) (fun M217 hI_M217 hH_M217 hS_M217  w217_0 w217_1 w217_2 w217_3 w217_4 w217_5 => ?_)) (by decide))
            have tk217 : TK M217 = TK M215 := TK.fr (w217_5 73 (by decide) (by decide) (by decide)) (w217_5 74 (by decide) (by decide) (by decide))
            have y222 : M215 598 73 = v220 := e221
            have y223 : M215 598 89 = v218 := e219
            have y225 : M215 598 100 = v224 := e224
            have x217_73 := w217_5 73 (by decide) (by decide) (by decide)
            have x217_100 := w217_5 100 (by decide) (by decide) (by decide)
            have hE := ES.fr2 hE w217_4 (w217_5 88 (by decide) (by decide) (by decide)) (w217_5 90 (by decide) (by decide) (by decide)) (w217_5 101 (by decide) (by decide) (by decide)) (w217_5 102 (by decide) (by decide) (by decide)) (w217_5 107 (by decide) (by decide) (by decide)) (k' := 4) (d' := 0) (z' := 0) (by omega) (by omega) (by omega) (by omega)
            refine jr.aload_n rfl rfl ?_
            refine jr_v rfl rfl (Or.inl rfl) rfl rfl (by decide) rfl ⟨rfl, Nat.le_of_ble_eq_true rfl, Nat.le_of_ble_eq_true rfl⟩ rfl (jc.deep (c_good hI_M217  (fun t68_0 => ?_) (fun f68_0 => ?_)) (by decide))
            · refine jr.if_ne rfl rfl (by omega) (fun _ => ?_) (fun h => absurd (by decide) h)
              refine jr.aload_n rfl rfl ?_
              have e227 : M217 598 73 = v220 := ((w217_5 73 (by decide) (by decide) (by decide)).trans e221)
              obtain ⟨v228, e228⟩ : ∃ z, M 598 72 = z := ⟨_, rfl⟩
              have b228 : 0 ≤ v228 ∧ v228 ≤ 1600 := by rw [← e228]; exact hI_M 598 72 (by decide)
              have e229 : M215 598 72 = v228 := ((w215_4 72 (by decide) (by decide) (by decide)).trans e228)
              have e230 : M217 598 72 = v228 := ((w217_5 72 (by decide) (by decide) (by decide)).trans e229)
              have e231 : M215 598 74 = v1 := ((w215_4 74 (by decide) (by decide) (by decide)).trans e1)
              have e232 : M217 598 74 = v1 := ((w217_5 74 (by decide) (by decide) (by decide)).trans e231)
              obtain ⟨v235, e235⟩ : ∃ z, M217 598 89 = z := ⟨_, rfl⟩
              have b235 : 0 ≤ v235 ∧ v235 ≤ 301 := by rw [← e235]; exact hI_M217 598 89 (by decide)
              have e237 : M217 598 100 = v224 := ((w217_5 100 (by decide) (by decide) (by decide)).trans e224)
              refine jr_v rfl rfl (Or.inl rfl) rfl rfl (by decide) rfl ⟨rfl, Nat.le_of_ble_eq_true rfl, Nat.le_of_ble_eq_true rfl⟩ rfl (jc.deep (r_next hI_M217 hH_M217 hS_M217   (by rw [e227, e230]; omega) (fun M226 hI_M226 hH_M226 hS_M226  w226_0 w226_1 w226_2 w226_3 w226_4 w226_5 w226_6 => ?_)) (by decide))
              have y233 : M217 598 74 = v1 := e232
              have y234 : M217 598 73 = v220 := e227
              have y236 : M217 598 89 = v235 := e235
              have y238 : M217 598 100 = v224 := e237
              have x226_89 := w226_6 89 (by decide) (by decide) (by decide) (by decide) (by decide) (by decide) (by decide)
              have x226_100 := w226_6 100 (by decide) (by decide) (by decide) (by decide) (by decide) (by decide) (by decide)
              have hE := ES.fr2 hE w226_5 (w226_6 88 (by decide) (by decide) (by decide) (by decide) (by decide) (by decide) (by decide)) (w226_6 90 (by decide) (by decide) (by decide) (by decide) (by decide) (by decide) (by decide)) (w226_6 101 (by decide) (by decide) (by decide) (by decide) (by decide) (by decide) (by decide)) (w226_6 102 (by decide) (by decide) (by decide) (by decide) (by decide) (by decide) (by decide)) (w226_6 107 (by decide) (by decide) (by decide) (by decide) (by decide) (by decide) (by decide)) (k' := 4) (d' := 0) (z' := 0) (by omega) (by omega) (by omega) (by omega)
              refine jr.iload_n rfl rfl ?_
              refine jr.iconst rfl ?_
              refine jr.icmp_ge rfl rfl (by omega) (by omega) (fun h82 => ?_) (fun h82 => ?_)
              · refine jr.aload_n rfl rfl ?_
                refine jr.iload_n rfl rfl ?_
                refine jr.iconst rfl ?_
                have e239 : M217 598 102 = sg := ((w217_5 102 (by decide) (by decide) (by decide)).trans hsg)
                have e240 : M226 598 102 = sg := ((w226_6 102 (by decide) (by decide) (by decide) (by decide) (by decide) (by decide) (by decide)).trans e239)
                refine jr_v rfl rfl (Or.inl rfl) rfl rfl (by decide) rfl ⟨rfl, Nat.le_of_ble_eq_true rfl, Nat.le_of_ble_eq_true rfl⟩ rfl (jc.deep (r_push e240 (by omega) (by omega) (by omega) ?_) (by decide))
                have hE := ES.two hE e240 v2 (-1) 2 (by omega) (by rw [w226_5 664 _ (by decide), w217_4 664 _ (by decide)]; omega) (by omega) (by omega)
                refine jr.iconst rfl ?_
                have e241 : M226 598 72 = v228 := ((w226_6 72 (by decide) (by decide) (by decide) (by decide) (by decide) (by decide) (by decide)).trans e230)
                have y242 : (ju (ju (ju (ju M226 664 sg v2) 666 sg (-1)) 667 sg 1) 598 102 (sg + 1)) 598 72 = v228 := ((ju_i _ _ (by decide)).trans ((ju_c _ _ (by decide)).trans ((ju_c _ _ (by decide)).trans ((ju_c _ _ (by decide)).trans e241))))
                obtain ⟨v243, e243⟩ : ∃ z, M226 598 73 = z := ⟨_, rfl⟩
                have b243 : 0 ≤ v243 ∧ v243 ≤ 1600 := by rw [← e243]; exact hI_M226 598 73 (by decide)
                have y244 : (ju (ju (ju (ju M226 664 sg v2) 666 sg (-1)) 667 sg 1) 598 102 (sg + 1)) 598 73 = v243 := ((ju_i _ _ (by decide)).trans ((ju_c _ _ (by decide)).trans ((ju_c _ _ (by decide)).trans ((ju_c _ _ (by decide)).trans e243))))
                obtain ⟨v245, e245⟩ : ∃ z, M226 598 74 = z := ⟨_, rfl⟩
                have b245 : 0 ≤ v245 ∧ v245 ≤ 4 := by rw [← e245]; exact hI_M226 598 74 (by decide)
                have y246 : (ju (ju (ju (ju M226 664 sg v2) 666 sg (-1)) 667 sg 1) 598 102 (sg + 1)) 598 74 = v245 := ((ju_i _ _ (by decide)).trans ((ju_c _ _ (by decide)).trans ((ju_c _ _ (by decide)).trans ((ju_c _ _ (by decide)).trans e245))))
                obtain ⟨v247, e247⟩ : ∃ z, M226 598 79 = z := ⟨_, rfl⟩
                have b247 : 0 ≤ v247 ∧ v247 ≤ 255 := by rw [← e247]; exact hI_M226 598 79 (by decide)
                have y248 : (ju (ju (ju (ju M226 664 sg v2) 666 sg (-1)) 667 sg 1) 598 102 (sg + 1)) 598 79 = v247 := ((ju_i _ _ (by decide)).trans ((ju_c _ _ (by decide)).trans ((ju_c _ _ (by decide)).trans ((ju_c _ _ (by decide)).trans e247))))
                obtain ⟨v249, e249⟩ : ∃ z, M217 598 80 = z := ⟨_, rfl⟩
                have b249 : 0 ≤ v249 ∧ v249 ≤ 7 := by rw [← e249]; exact hI_M217 598 80 (by decide)
                have e250 : M226 598 80 = v249 := ((w226_6 80 (by decide) (by decide) (by decide) (by decide) (by decide) (by decide) (by decide)).trans e249)
                have y251 : (ju (ju (ju (ju M226 664 sg v2) 666 sg (-1)) 667 sg 1) 598 102 (sg + 1)) 598 80 = v249 := ((ju_i _ _ (by decide)).trans ((ju_c _ _ (by decide)).trans ((ju_c _ _ (by decide)).trans ((ju_c _ _ (by decide)).trans e250))))
                have e252 : M226 598 89 = v235 := ((w226_6 89 (by decide) (by decide) (by decide) (by decide) (by decide) (by decide) (by decide)).trans e235)
                have y253 : (ju (ju (ju (ju M226 664 sg v2) 666 sg (-1)) 667 sg 1) 598 102 (sg + 1)) 598 89 = v235 := ((ju_i _ _ (by decide)).trans ((ju_c _ _ (by decide)).trans ((ju_c _ _ (by decide)).trans ((ju_c _ _ (by decide)).trans e252))))
                obtain ⟨v254, e254⟩ : ∃ z, M215 598 90 = z := ⟨_, rfl⟩
                have b254 : 0 ≤ v254 ∧ v254 ≤ 2200 := by rw [← e254]; exact hI_M215 598 90 (by decide)
                have e255 : M217 598 90 = v254 := ((w217_5 90 (by decide) (by decide) (by decide)).trans e254)
                have e256 : M226 598 90 = v254 := ((w226_6 90 (by decide) (by decide) (by decide) (by decide) (by decide) (by decide) (by decide)).trans e255)
                have y257 : (ju (ju (ju (ju M226 664 sg v2) 666 sg (-1)) 667 sg 1) 598 102 (sg + 1)) 598 90 = v254 := ((ju_i _ _ (by decide)).trans ((ju_c _ _ (by decide)).trans ((ju_c _ _ (by decide)).trans ((ju_c _ _ (by decide)).trans e256))))
                have e258 : M226 598 100 = v224 := ((w226_6 100 (by decide) (by decide) (by decide) (by decide) (by decide) (by decide) (by decide)).trans e237)
                have y259 : (ju (ju (ju (ju M226 664 sg v2) 666 sg (-1)) 667 sg 1) 598 102 (sg + 1)) 598 100 = v224 := ((ju_i _ _ (by decide)).trans ((ju_c _ _ (by decide)).trans ((ju_c _ _ (by decide)).trans ((ju_c _ _ (by decide)).trans e258))))
                obtain ⟨v260, e260⟩ : ∃ z, M 598 107 = z := ⟨_, rfl⟩
                have b260 : 0 ≤ v260 ∧ v260 ≤ 16 := by rw [← e260]; exact hI_M 598 107 (by decide)
                have e261 : M215 598 107 = v260 := ((w215_4 107 (by decide) (by decide) (by decide)).trans e260)
                have e262 : M217 598 107 = v260 := ((w217_5 107 (by decide) (by decide) (by decide)).trans e261)
                have e263 : M226 598 107 = v260 := ((w226_6 107 (by decide) (by decide) (by decide) (by decide) (by decide) (by decide) (by decide)).trans e262)
                have y264 : (ju (ju (ju (ju M226 664 sg v2) 666 sg (-1)) 667 sg 1) 598 102 (sg + 1)) 598 107 = v260 := ((ju_i _ _ (by decide)).trans ((ju_c _ _ (by decide)).trans ((ju_c _ _ (by decide)).trans ((ju_c _ _ (by decide)).trans e263))))
                have y265 : TK (ju (ju (ju (ju M226 664 sg v2) 666 sg (-1)) 667 sg 1) 598 102 (sg + 1)) = TK M226 := ((TK.o (Or.inr ⟨by decide, by decide⟩)).trans ((TK.o (Or.inl (by decide))).trans ((TK.o (Or.inl (by decide))).trans ((TK.o (Or.inl (by decide))).trans rfl))))
                exact jr.ireturn rfl rfl rfl (q _ _ (RI.u (RI.u (RI.u (RI.u hI_M226 (a := 664) (i := sg) (by rw [xri_row rfl rfl]; show (0 : Int) ≤ _ ∧ _ ≤ (255 : Int); omega)) (a := 666) (i := sg) (by rw [xri_row rfl rfl]; show (-1 : Int) ≤ _ ∧ _ ≤ (68 : Int); omega)) (a := 667) (i := sg) (by rw [xri_row rfl rfl]; show (0 : Int) ≤ _ ∧ _ ≤ (4 : Int); omega)) (a := 598) (i := 102) (show (0 : Int) ≤ _ ∧ _ ≤ (400 : Int) from by omega)) (RH.o (RH.o (RH.o (RH.o hH_M226 (by decide) (by decide) (by decide)) (by decide) (by decide) (by decide)) (by decide) (by decide) (by decide)) (by decide) (by decide) (by decide)) (RF.o (RF.o (RF.o (RF.o hS_M226 (by decide) (by decide)) (by decide) (by decide)) (by decide) (by decide)) (by decide) (by decide))  (by omega) (Or.inr ⟨rfl, by by_cases hf : v249 = 0; (first | (exfalso; omega) | (exact Or.inr ⟨⟨by omega, ES.adj hE (k' := 0) (z' := 0) (by omega) (by omega) (by omega), by omega, by omega, by omega, by omega⟩, by omega⟩)); (exact Or.inl ⟨by omega, by omega⟩)⟩) (by omega) (by omega) (by omega) (fun a i f598 f659 f660 f664 f665 f666 f667 => ((ju_c _ _ f598).trans ((ju_c _ _ f667).trans ((ju_c _ _ f666).trans ((ju_c _ _ f664).trans ((w226_5 a i f598).trans ((w217_4 a i f598).trans ((w215_3 a i f598 f659 f660).trans rfl)))))))) (fun i g73 g74 g75 g76 g77 g78 g79 g80 g81 g89 g90 g100 g102 => ((ju_i _ _ g102).trans ((ju_c _ _ (by decide)).trans ((ju_c _ _ (by decide)).trans ((ju_c _ _ (by decide)).trans ((w226_6 i g73 g74 g75 g76 g77 g78 g79).trans ((w217_5 i g80 g81 g89).trans ((w215_4 i g90 g100 g102).trans rfl)))))))))
              · exact absurd (by omega) h82
            · refine jr.if_ne rfl rfl (by omega) (fun h => absurd h (by decide)) (fun _ => ?_)
              refine jr.iconst rfl ?_
              obtain ⟨v266, e266⟩ : ∃ z, M 598 72 = z := ⟨_, rfl⟩
              have b266 : 0 ≤ v266 ∧ v266 ≤ 1600 := by rw [← e266]; exact hI_M 598 72 (by decide)
              have e267 : M215 598 72 = v266 := ((w215_4 72 (by decide) (by decide) (by decide)).trans e266)
              have e268 : M217 598 72 = v266 := ((w217_5 72 (by decide) (by decide) (by decide)).trans e267)
              have y269 : M217 598 72 = v266 := e268
              have e270 : M217 598 73 = v220 := ((w217_5 73 (by decide) (by decide) (by decide)).trans e221)
              have y271 : M217 598 73 = v220 := e270
              have e272 : M215 598 74 = v1 := ((w215_4 74 (by decide) (by decide) (by decide)).trans e1)
              have e273 : M217 598 74 = v1 := ((w217_5 74 (by decide) (by decide) (by decide)).trans e272)
              have y274 : M217 598 74 = v1 := e273
              have e275 : M215 598 79 = v2 := ((w215_4 79 (by decide) (by decide) (by decide)).trans e2)
              have e276 : M217 598 79 = v2 := ((w217_5 79 (by decide) (by decide) (by decide)).trans e275)
              have y277 : M217 598 79 = v2 := e276
              obtain ⟨v278, e278⟩ : ∃ z, M217 598 80 = z := ⟨_, rfl⟩
              have b278 : 0 ≤ v278 ∧ v278 ≤ 7 := by rw [← e278]; exact hI_M217 598 80 (by decide)
              have y279 : M217 598 80 = v278 := e278
              obtain ⟨v280, e280⟩ : ∃ z, M217 598 89 = z := ⟨_, rfl⟩
              have b280 : 0 ≤ v280 ∧ v280 ≤ 301 := by rw [← e280]; exact hI_M217 598 89 (by decide)
              have y281 : M217 598 89 = v280 := e280
              obtain ⟨v282, e282⟩ : ∃ z, M215 598 90 = z := ⟨_, rfl⟩
              have b282 : 0 ≤ v282 ∧ v282 ≤ 2200 := by rw [← e282]; exact hI_M215 598 90 (by decide)
              have e283 : M217 598 90 = v282 := ((w217_5 90 (by decide) (by decide) (by decide)).trans e282)
              have y284 : M217 598 90 = v282 := e283
              have e285 : M217 598 100 = v224 := ((w217_5 100 (by decide) (by decide) (by decide)).trans e224)
              have y286 : M217 598 100 = v224 := e285
              obtain ⟨v287, e287⟩ : ∃ z, M 598 107 = z := ⟨_, rfl⟩
              have b287 : 0 ≤ v287 ∧ v287 ≤ 16 := by rw [← e287]; exact hI_M 598 107 (by decide)
              have e288 : M215 598 107 = v287 := ((w215_4 107 (by decide) (by decide) (by decide)).trans e287)
              have e289 : M217 598 107 = v287 := ((w217_5 107 (by decide) (by decide) (by decide)).trans e288)
              have y290 : M217 598 107 = v287 := e289
              exact jr.ireturn rfl rfl rfl (q _ _ hI_M217 hH_M217 hS_M217  (by omega) (Or.inr ⟨rfl, by by_cases hf : v278 = 0; (first | (exfalso; omega) | (exact Or.inr ⟨⟨by omega, ES.adj hE (k' := 0) (z' := 0) (by omega) (by omega) (by omega), by omega, by omega, by omega, by omega⟩, by omega⟩)); (exact Or.inl ⟨by omega, by omega⟩)⟩) (by omega) (by omega) (by omega) (fun a i f598 f659 f660 f664 f665 f666 f667 => ((w217_4 a i f598).trans ((w215_3 a i f598 f659 f660).trans rfl))) (fun i g73 g74 g75 g76 g77 g78 g79 g80 g81 g89 g90 g100 g102 => ((w217_5 i g80 g81 g89).trans ((w215_4 i g90 g100 g102).trans rfl))))
          · refine jr.aload_n rfl rfl ?_
            refine jr_v rfl rfl (Or.inl rfl) rfl rfl (by decide) rfl ⟨rfl, Nat.le_of_ble_eq_true rfl, Nat.le_of_ble_eq_true rfl⟩ rfl (jc.deep (r_wrongToken hI_M215 hH_M215 hS_M215    (fun M291 hI_M291 hH_M291 hS_M291  w291_0 w291_1 w291_2 => ?_)) (by decide))
            have tk291 : TK M291 = TK M215 := TK.fr (w291_2 73 (by decide) (by decide)) (w291_2 74 (by decide) (by decide))
            refine jr.iconst rfl ?_
            obtain ⟨v292, e292⟩ : ∃ z, M 598 72 = z := ⟨_, rfl⟩
            have b292 : 0 ≤ v292 ∧ v292 ≤ 1600 := by rw [← e292]; exact hI_M 598 72 (by decide)
            have e293 : M215 598 72 = v292 := ((w215_4 72 (by decide) (by decide) (by decide)).trans e292)
            have e294 : M291 598 72 = v292 := ((w291_2 72 (by decide) (by decide)).trans e293)
            have y295 : M291 598 72 = v292 := e294
            obtain ⟨v296, e296⟩ : ∃ z, M 598 73 = z := ⟨_, rfl⟩
            have b296 : 0 ≤ v296 ∧ v296 ≤ 1600 := by rw [← e296]; exact hI_M 598 73 (by decide)
            have e297 : M215 598 73 = v296 := ((w215_4 73 (by decide) (by decide) (by decide)).trans e296)
            have e298 : M291 598 73 = v296 := ((w291_2 73 (by decide) (by decide)).trans e297)
            have y299 : M291 598 73 = v296 := e298
            have e300 : M215 598 74 = v1 := ((w215_4 74 (by decide) (by decide) (by decide)).trans e1)
            have e301 : M291 598 74 = v1 := ((w291_2 74 (by decide) (by decide)).trans e300)
            have y302 : M291 598 74 = v1 := e301
            have e303 : M215 598 79 = v2 := ((w215_4 79 (by decide) (by decide) (by decide)).trans e2)
            have e304 : M291 598 79 = v2 := ((w291_2 79 (by decide) (by decide)).trans e303)
            have y305 : M291 598 79 = v2 := e304
            obtain ⟨v306, e306⟩ : ∃ z, M291 598 80 = z := ⟨_, rfl⟩
            have b306 : 0 ≤ v306 ∧ v306 ≤ 7 := by rw [← e306]; exact hI_M291 598 80 (by decide)
            have y307 : M291 598 80 = v306 := e306
            obtain ⟨v308, e308⟩ : ∃ z, M 598 89 = z := ⟨_, rfl⟩
            have b308 : 0 ≤ v308 ∧ v308 ≤ 301 := by rw [← e308]; exact hI_M 598 89 (by decide)
            have e309 : M215 598 89 = v308 := ((w215_4 89 (by decide) (by decide) (by decide)).trans e308)
            have e310 : M291 598 89 = v308 := ((w291_2 89 (by decide) (by decide)).trans e309)
            have y311 : M291 598 89 = v308 := e310
            obtain ⟨v312, e312⟩ : ∃ z, M215 598 90 = z := ⟨_, rfl⟩
            have b312 : 0 ≤ v312 ∧ v312 ≤ 2200 := by rw [← e312]; exact hI_M215 598 90 (by decide)
            have e313 : M291 598 90 = v312 := ((w291_2 90 (by decide) (by decide)).trans e312)
            have y314 : M291 598 90 = v312 := e313
            obtain ⟨v315, e315⟩ : ∃ z, M215 598 100 = z := ⟨_, rfl⟩
            have b315 : 0 ≤ v315 ∧ v315 ≤ 13 := by rw [← e315]; exact hI_M215 598 100 (by decide)
            have e316 : M291 598 100 = v315 := ((w291_2 100 (by decide) (by decide)).trans e315)
            have y317 : M291 598 100 = v315 := e316
            obtain ⟨v318, e318⟩ : ∃ z, M 598 107 = z := ⟨_, rfl⟩
            have b318 : 0 ≤ v318 ∧ v318 ≤ 16 := by rw [← e318]; exact hI_M 598 107 (by decide)
            have e319 : M215 598 107 = v318 := ((w215_4 107 (by decide) (by decide) (by decide)).trans e318)
            have e320 : M291 598 107 = v318 := ((w291_2 107 (by decide) (by decide)).trans e319)
            have y321 : M291 598 107 = v318 := e320
            exact jr.ireturn rfl rfl rfl (q _ _ hI_M291 hH_M291 hS_M291  (by omega) (Or.inr ⟨rfl, by by_cases hf : v306 = 0; (first | (exfalso; omega) | (exact Or.inr ⟨⟨by omega, ES.adj hE (k' := 0) (z' := 0) (by omega) (by omega) (by omega), by omega, by omega, by omega, by omega⟩, by omega⟩)); (exact Or.inl ⟨by omega, by omega⟩)⟩) (by omega) (by omega) (by omega) (fun a i f598 f659 f660 f664 f665 f666 f667 => ((w291_1 a i f598).trans ((w215_3 a i f598 f659 f660).trans rfl))) (fun i g73 g74 g75 g76 g77 g78 g79 g80 g81 g89 g90 g100 g102 => ((w291_2 i g80 g81).trans ((w215_4 i g90 g100 g102).trans rfl))))
    · refine jr.iconst rfl ?_
      exact jr.ireturn rfl rfl rfl (q _ _ hI_M hH_M hS_M  (by omega) (Or.inl ⟨rfl, p0⟩) (by omega) (by omega) (by omega) (fun a i f598 f659 f660 f664 f665 f666 f667 => rfl) (fun i g73 g74 g75 g76 g77 g78 g79 g80 g81 g89 g90 g100 g102 => rfl))
theorem TK.ge {M : jm} (h : M 598 73 ≤ 1600) (h2 : 0 ≤ M 598 74) : 0 ≤ TK M := by
  unfold TK
  omega
theorem ES.top40 {M : jm} {b o k d z x : Int} (h : ES M b o k d z x) (h0 : 0 < M 598 102) (hs : strn (M 664 (M 598 102 - 1)) < 1) : M 664 (M 598 102 - 1) = 40 ∧ (M 666 (M 598 102 - 1) = -1 ∨ (25 ≤ M 666 (M 598 102 - 1) ∧ M 666 (M 598 102 - 1) ≤ 30 ∧ M 667 (M 598 102 - 1) ≤ argn (M 666 (M 598 102 - 1)))) := by
  rcases ES.top h h0 with q | q | q | q | q | q
  · exact q
  · rw [q] at hs
    exact absurd hs (by decide)
  · rw [q] at hs
    exact absurd hs (by decide)
  · rw [q] at hs
    exact absurd hs (by decide)
  · rw [q] at hs
    exact absurd hs (by decide)
  · omega
def kcO (w : Int) : Int := if w = -1 then 1 else argn w
def kcK (w : Int) : Int := if w = -1 then 0 else 2
theorem ES.clo1 {M : jm} {b d z c p w : Int} (h : ES M b 1 0 d z (-1)) (e : M 598 102 = c) (e3 : M 598 100 = p) (e4 : M 664 (c - 1) = 40) (e5 : M 666 (c - 1) = w) (h0 : 0 < c) (hw : w = -1 ∨ M 667 (c - 1) = argn w) : ES (ju (ju M 598 102 (c - 1)) 598 100 (p - 1)) b (kcO w) (kcK w) d z (-1) := by
  rcases ES.clo h e e3 e4 e5 h0 hw with ⟨q1, q2⟩ | ⟨q1, q2, q3⟩
  · unfold kcO kcK
    rw [if_pos q1, if_pos q1]
    exact q2
  · unfold kcO kcK
    rw [if_neg (by omega), if_neg (by omega)]
    exact q3
theorem r_exp_L11 {A : Nat → Option (Nat × (Nat → Int32))} {Q : Option Value → jm → Prop} {b : Int} {M0 : jm} (q : ∀ (M' : jm), RI M' → RH M' → RF M' → (BS M' ∨ (SS M' (b + 1) ∧ TK M' < TK M0)) → TK M' ≤ TK M0 → M' 598 73 ≤ M' 598 72 → (M' 598 80 ≠ 0 ∨ TK M' < TK M0) → (∀ (a : Nat) (i : Int), a ≠ 598 → a ≠ 659 → a ≠ 660 → a ≠ 664 → a ≠ 665 → a ≠ 666 → a ≠ 667 → M' a i = M0 a i) → (∀ (i : Int), i ≠ 73 → i ≠ 74 → i ≠ 75 → i ≠ 76 → i ≠ 77 → i ≠ 78 → i ≠ 79 → i ≠ 80 → i ≠ 81 → i ≠ 89 → i ≠ 90 → i ≠ 100 → i ≠ 102 → M' 598 i = M0 598 i) → Q none M') : ∀ (nM : Nat) (M : jm) (o : Int) (m : Int), RI M → RH M → RF M → (∀ (a : Nat) (i : Int), a ≠ 598 → a ≠ 659 → a ≠ 660 → a ≠ 664 → a ≠ 665 → a ≠ 666 → a ≠ 667 → M a i = M0 a i) → (∀ (i : Int), i ≠ 73 → i ≠ 74 → i ≠ 75 → i ≠ 76 → i ≠ 77 → i ≠ 78 → i ≠ 79 → i ≠ 80 → i ≠ 81 → i ≠ 89 → i ≠ 90 → i ≠ 100 → i ≠ 102 → M 598 i = M0 598 i) → 0 ≤ o ∧ o ≤ 1 → 390 ≤ m ∧ m ≤ 390 → (BS M ∨ GS M b (1 - o)) → (TK M < TK M0 ∨ o = 1) → TK M ≤ TK M0 → M 598 73 ≤ M 598 72 → 0 ≤ b ∧ b ≤ 4 → TK M + 1 - min 1 (M 598 80) ≤ nM → jr A 6 xm_364 11 [(2, .int (Int32.ofInt (o))), (1, .int (Int32.ofInt (m))), (0, .ref (598))] [] M Q := by
  intro nM
  induction nM using Nat.strongRecOn with
  | ind nM ih =>
    intro M o m hI_M hH_M hS_M hF_M hG_M h_o h_m hy0 hy1 hy2 hy3 hy4 hm
    refine jr.aload_n rfl rfl ?_
    refine jr_v rfl rfl (Or.inl rfl) rfl rfl (by decide) rfl ⟨rfl, Nat.le_of_ble_eq_true rfl, Nat.le_of_ble_eq_true rfl⟩ rfl (jc.deep (c_good hI_M  (fun t12_0 => ?_) (fun f12_0 => ?_)) (by decide))
    · have gs := hy0.resolve_left (fun z => z.1 t12_0)
      obtain ⟨gs1, gs2, gs3, gs4, gs5, gs6⟩ := id gs
      have hE := gs2
      have sl := ES.sgle gs2
      have bM_107 : (0 : Int) ≤ M 598 107 ∧ M 598 107 ≤ 16 := hI_M 598 107 (by decide)
      have bM_73 : (0 : Int) ≤ M 598 73 ∧ M 598 73 ≤ 1600 := hI_M 598 73 (by decide)
      have bM_88 : (0 : Int) ≤ M 598 88 ∧ M 598 88 ≤ 16 := hI_M 598 88 (by decide)
      have bM_100 : (0 : Int) ≤ M 598 100 ∧ M 598 100 ≤ 13 := hI_M 598 100 (by decide)
      have b74 : (0 : Int) ≤ M 598 74 ∧ M 598 74 ≤ 4 := hI_M 598 74 (by decide)
      have tg := TK.ge (M := M) (by omega) (by omega)
      refine jr.if_eq rfl rfl (by omega) (fun h => absurd h (by decide)) (fun _ => ?_)
      refine jr.aload_n rfl rfl ?_
      obtain ⟨v1, e1⟩ : ∃ z, M 598 102 = z := ⟨_, rfl⟩
      have b1 : 0 ≤ v1 ∧ v1 ≤ 400 := by rw [← e1]; exact hI_M 598 102 (by decide)
      refine jr.getf (i := 102) (x := v1) (v := .int (Int32.ofInt (v1))) rfl rfl (by decide) rfl (by decide) rfl rfl e1 rfl ?_
      refine jr.iload_n rfl rfl ?_
      refine jr.icmp_ge rfl rfl (by omega) (by omega) (fun h => absurd h (by omega)) (fun h23 => ?_)
      refine jr.iload_n rfl rfl ?_
      refine jr.if_eq rfl rfl (by omega) (fun h27 => ?_) (fun h27 => ?_)
      · refine jr.aload_n rfl rfl ?_
        refine jr.bipush rfl (by decide) ?_
        refine jr_v rfl rfl (Or.inl rfl) rfl rfl (by decide) rfl ⟨rfl, Nat.le_of_ble_eq_true rfl, Nat.le_of_ble_eq_true rfl⟩ rfl (jc.deep (r_reduce hI_M hH_M hS_M  (by omega) (GS.cast gs (by omega)) (fun M2 hI_M2 hH_M2 hS_M2  w2_0 w2_1 w2_2 w2_3 w2_4 => ?_)) (by decide))
        refine jr.aload_n rfl rfl ?_
        refine jr_v rfl rfl (Or.inl rfl) rfl rfl (by decide) rfl ⟨rfl, Nat.le_of_ble_eq_true rfl, Nat.le_of_ble_eq_true rfl⟩ rfl (jc.deep (r_takeSign hI_M2 hH_M2 hS_M2   w2_0 (fun r3 M3 hI_M3 hH_M3 hS_M3  z3 w3_0 w3_1 w3_2 w3_3 w3_4 w3_5 => ?_)) (by decide))
        refine jr.if_eq rfl rfl (by omega) (fun h56 => ?_) (fun h56 => ?_)
        · refine jr.aload_n rfl rfl ?_
          refine jr.iconst rfl ?_
          refine jr_v rfl rfl (Or.inl rfl) rfl rfl (by decide) rfl ⟨rfl, Nat.le_of_ble_eq_true rfl, Nat.le_of_ble_eq_true rfl⟩ rfl (jc.deep (r_reduce hI_M3 hH_M3 hS_M3  (by omega) (by rcases w3_0 with z | z; (exact z.2); (exfalso; omega)) (fun M4 hI_M4 hH_M4 hS_M4  w4_0 w4_1 w4_2 w4_3 w4_4 => ?_)) (by decide))
          obtain ⟨gs1, gs2, gs3, gs4, gs5, gs6⟩ := id w4_0
          have hE := gs2
          have sl := ES.sgle gs2
          have bM4_107 : (0 : Int) ≤ M4 598 107 ∧ M4 598 107 ≤ 16 := hI_M4 598 107 (by decide)
          have bM4_73 : (0 : Int) ≤ M4 598 73 ∧ M4 598 73 ≤ 1600 := hI_M4 598 73 (by decide)
          have bM4_88 : (0 : Int) ≤ M4 598 88 ∧ M4 598 88 ≤ 16 := hI_M4 598 88 (by decide)
          have bM4_100 : (0 : Int) ≤ M4 598 100 ∧ M4 598 100 ≤ 13 := hI_M4 598 100 (by decide)
          obtain ⟨sg, hsg⟩ : ∃ z, M4 598 102 = z := ⟨_, rfl⟩
          rw [hsg] at w4_1
          have bsg : (0 : Int) ≤ sg ∧ sg ≤ 400 := by rw [← hsg]; exact hI_M4 598 102 (by decide)
          refine jr.aload_n rfl rfl ?_
          refine jr.getf (i := 102) (x := sg) (v := .int (Int32.ofInt (sg))) rfl rfl (by decide) rfl (by decide) rfl rfl hsg rfl ?_
          refine jr.if_ne rfl rfl (by omega) (fun h73 => ?_) (fun h73 => ?_)
          · refine jr.aload_n rfl rfl ?_
            refine jr.getf (i := 105) (v := .ref 666) rfl rfl (by decide) rfl (by decide) rfl rfl rfl rfl ?_
            refine jr.aload_n rfl rfl ?_
            refine jr.getf (i := 102) (x := sg) (v := .int (Int32.ofInt (sg))) rfl rfl (by decide) rfl (by decide) rfl rfl hsg rfl ?_
            refine jr.iconst rfl ?_
            refine jr.isub rfl ?_
            obtain ⟨v5, e5⟩ : ∃ z, M3 666 (sg - 1) = z := ⟨_, rfl⟩
            have b5 : (-1) ≤ v5 ∧ v5 ≤ 68 := by rw [← e5]; exact (by have q := hI_M3 666 (sg - 1) (by decide); rw [xri_row rfl rfl] at q; exact q)
            have e6 : M4 666 (sg - 1) = v5 := ((w4_3 666 (sg - 1) (by decide) (by decide) (by decide)).trans e5)
            refine jr.iald (i := (sg - 1)) (x := v5) rfl (by decide) rfl (by decide) (by omega) (by omega) e6 ?_
            refine jr.istore_n rfl (by decide) rfl ?_
            refine jr.iload_n rfl rfl ?_
            refine jr.iconst rfl ?_
            refine jr.icmp_eq rfl rfl (by omega) (by omega) (fun h91 => ?_) (fun h91 => ?_)
            · refine jr.iconst rfl ?_
              refine jr.goto rfl rfl ?_
              refine jr.istore rfl (by decide) rfl ?_
              refine jr.aload_n rfl rfl ?_
              refine jr.bipush rfl (by decide) ?_
              refine jr_v rfl rfl (Or.inl rfl) rfl rfl (by decide) rfl ⟨rfl, Nat.le_of_ble_eq_true rfl, Nat.le_of_ble_eq_true rfl⟩ rfl (jc.deep (c_isSign hI_M4 (by omega) (fun t122_0 t122_1 => ?_) (fun f122_0 => ?_)) (by decide))
              · have tq := ES.top40 gs2 (by omega) (by rw [hsg]; omega)
                rw [hsg, e6] at tq
                have dp1 := ES.dpos gs2 (by omega)
                rw [hsg] at dp1
                have dp2 := dp1 (Or.inl tq.1)
                refine jr.if_eq rfl rfl (by omega) (fun h => absurd h (by decide)) (fun _ => ?_)
                refine jr.iload rfl rfl ?_
                refine jr.if_ne rfl rfl (by omega) (fun _ => ?_) (fun h => absurd (by decide) h)
                refine jr.aload_n rfl rfl ?_
                refine jr.bipush rfl (by decide) ?_
                refine jr_v rfl rfl (Or.inl rfl) rfl rfl (by decide) rfl ⟨rfl, Nat.le_of_ble_eq_true rfl, Nat.le_of_ble_eq_true rfl⟩ rfl (jc.deep (c_isSign hI_M4 (by omega) (fun t160_0 t160_1 => ?_) (fun f160_0 => ?_)) (by decide))
                · refine jr.if_eq rfl rfl (by omega) (fun h => absurd h (by decide)) (fun _ => ?_)
                  refine jr.iload rfl rfl ?_
                  refine jr.if_eq rfl rfl (by omega) (fun h => absurd h (by decide)) (fun _ => ?_)
                  refine jr.aload_n rfl rfl ?_
                  refine jr.dup rfl rfl ?_
                  refine jr.getf (i := 102) (x := sg) (v := .int (Int32.ofInt (sg))) rfl rfl (by decide) rfl (by decide) rfl rfl hsg rfl ?_
                  refine jr.iconst rfl ?_
                  refine jr.isub rfl ?_
                  refine jr.putf (i := 102) (x := (sg - 1)) rfl rfl (by decide) rfl (by decide) rfl rfl rfl rfl rfl ?_
                  refine jr.aload_n rfl rfl ?_
                  refine jr.dup rfl rfl ?_
                  obtain ⟨v7, e7⟩ : ∃ z, M4 598 100 = z := ⟨_, rfl⟩
                  have b7 : 0 ≤ v7 ∧ v7 ≤ 13 := by rw [← e7]; exact hI_M4 598 100 (by decide)
                  refine jr.getf (i := 100) (x := v7) (v := .int (Int32.ofInt (v7))) rfl rfl (by decide) rfl (by decide) rfl rfl ((ju_i _ _ (by decide)).trans e7) rfl ?_
                  refine jr.iconst rfl ?_
                  refine jr.isub rfl ?_
                  refine jr.putf (i := 100) (x := (v7 - 1)) rfl rfl (by decide) rfl (by decide) rfl rfl rfl rfl rfl ?_
                  refine jr.aload_n rfl rfl ?_
                  obtain ⟨v9, e9⟩ : ∃ z, M3 598 73 = z := ⟨_, rfl⟩
                  have b9 : 0 ≤ v9 ∧ v9 ≤ 1600 := by rw [← e9]; exact hI_M3 598 73 (by decide)
                  have e10 : M4 598 73 = v9 := ((w4_4 73 (by decide) (by decide) (by decide)).trans e9)
                  obtain ⟨v11, e11⟩ : ∃ z, M 598 72 = z := ⟨_, rfl⟩
                  have b11 : 0 ≤ v11 ∧ v11 ≤ 1600 := by rw [← e11]; exact hI_M 598 72 (by decide)
                  have e12 : M2 598 72 = v11 := ((w2_4 72 (by decide) (by decide) (by decide)).trans e11)
                  have e13 : M3 598 72 = v11 := ((w3_5 72 (by decide) (by decide) (by decide) (by decide) (by decide) (by decide) (by decide) (by decide) (by decide) (by decide) (by decide) (by decide) (by decide)).trans e12)
                  have e14 : M4 598 72 = v11 := ((w4_4 72 (by decide) (by decide) (by decide)).trans e13)
                  obtain ⟨v16, e16⟩ : ∃ z, M3 598 89 = z := ⟨_, rfl⟩
                  have b16 : 0 ≤ v16 ∧ v16 ≤ 301 := by rw [← e16]; exact hI_M3 598 89 (by decide)
                  have e17 : M4 598 89 = v16 := ((w4_4 89 (by decide) (by decide) (by decide)).trans e16)
                  obtain ⟨v21, e21⟩ : ∃ z, M3 598 74 = z := ⟨_, rfl⟩
                  have b21 : 0 ≤ v21 ∧ v21 ≤ 4 := by rw [← e21]; exact hI_M3 598 74 (by decide)
                  have e22 : M4 598 74 = v21 := ((w4_4 74 (by decide) (by decide) (by decide)).trans e21)
                  refine jr_v rfl rfl (Or.inl rfl) rfl rfl (by decide) rfl ⟨rfl, Nat.le_of_ble_eq_true rfl, Nat.le_of_ble_eq_true rfl⟩ rfl (jc.deep (r_next (RI.u (RI.u hI_M4 (a := 598) (i := 102) (show (0 : Int) ≤ _ ∧ _ ≤ (400 : Int) from by omega)) (a := 598) (i := 100) (show (0 : Int) ≤ _ ∧ _ ≤ (13 : Int) from by omega)) (RH.o (RH.o hH_M4 (by decide) (by decide) (by decide)) (by decide) (by decide) (by decide)) (RF.o (RF.o hS_M4 (by decide) (by decide)) (by decide) (by decide))   (by rw [((ju_i _ _ (by decide)).trans ((ju_i _ _ (by decide)).trans e10)), ((ju_i _ _ (by decide)).trans ((ju_i _ _ (by decide)).trans e14))]; omega) (fun M8 hI_M8 hH_M8 hS_M8  w8_0 w8_1 w8_2 w8_3 w8_4 w8_5 w8_6 => ?_)) (by decide))
                  have y20 : (ju (ju M4 598 102 (sg - 1)) 598 100 (v7 - 1)) 598 73 = v9 := ((ju_i _ _ (by decide)).trans ((ju_i _ _ (by decide)).trans e10))
                  have y23 : (ju (ju M4 598 102 (sg - 1)) 598 100 (v7 - 1)) 598 74 = v21 := ((ju_i _ _ (by decide)).trans ((ju_i _ _ (by decide)).trans e22))
                  have tb8 : TK (ju (ju M4 598 102 (sg - 1)) 598 100 (v7 - 1)) = TK M4 := ((TK.o (Or.inr ⟨by decide, by decide⟩)).trans ((TK.o (Or.inr ⟨by decide, by decide⟩)).trans rfl))
                  have hE := ES.clo1 gs2 hsg e7 tq.1 e6 (by omega) (by omega)
                  have ck : 0 ≤ kcK v5 := by unfold kcK; split <;> omega
                  have y15 : (ju (ju M4 598 102 (sg - 1)) 598 100 (v7 - 1)) 598 73 = v9 := ((ju_i _ _ (by decide)).trans ((ju_i _ _ (by decide)).trans e10))
                  have y18 : (ju (ju M4 598 102 (sg - 1)) 598 100 (v7 - 1)) 598 89 = v16 := ((ju_i _ _ (by decide)).trans ((ju_i _ _ (by decide)).trans e17))
                  have y19 : (ju (ju M4 598 102 (sg - 1)) 598 100 (v7 - 1)) 598 100 = v7 - 1 := (ju_same _ _ _ _)
                  have x8_89 := w8_6 89 (by decide) (by decide) (by decide) (by decide) (by decide) (by decide) (by decide)
                  have x8_100 := w8_6 100 (by decide) (by decide) (by decide) (by decide) (by decide) (by decide) (by decide)
                  have hE := ES.fr2 hE w8_5 (w8_6 88 (by decide) (by decide) (by decide) (by decide) (by decide) (by decide) (by decide)) (w8_6 90 (by decide) (by decide) (by decide) (by decide) (by decide) (by decide) (by decide)) (w8_6 101 (by decide) (by decide) (by decide) (by decide) (by decide) (by decide) (by decide)) (w8_6 102 (by decide) (by decide) (by decide) (by decide) (by decide) (by decide) (by decide)) (w8_6 107 (by decide) (by decide) (by decide) (by decide) (by decide) (by decide) (by decide)) (k' := (kcK v5)) (d' := 0) (z' := 0) (by omega) (by omega) (by omega) (by omega)
                  have co1 : v5 = -1 → kcO v5 = 1 := fun z => by unfold kcO; rw [if_pos z]
                  refine jr.iload_n rfl rfl ?_
                  refine jr.iconst rfl ?_
                  refine jr.icmp_eq rfl rfl (by omega) (by omega) (fun h197 => ?_) (fun h197 => ?_)
                  · refine jr.goto rfl rfl ?_
                    have e24 : M8 598 72 = v11 := ((w8_6 72 (by decide) (by decide) (by decide) (by decide) (by decide) (by decide) (by decide)).trans ((ju_i _ _ (by decide)).trans ((ju_i _ _ (by decide)).trans e14)))
                    have y25 : M8 598 72 = v11 := e24
                    obtain ⟨v26, e26⟩ : ∃ z, M8 598 73 = z := ⟨_, rfl⟩
                    have b26 : 0 ≤ v26 ∧ v26 ≤ 1600 := by rw [← e26]; exact hI_M8 598 73 (by decide)
                    have y27 : M8 598 73 = v26 := e26
                    obtain ⟨v28, e28⟩ : ∃ z, M8 598 74 = z := ⟨_, rfl⟩
                    have b28 : 0 ≤ v28 ∧ v28 ≤ 4 := by rw [← e28]; exact hI_M8 598 74 (by decide)
                    have y29 : M8 598 74 = v28 := e28
                    obtain ⟨v30, e30⟩ : ∃ z, M8 598 79 = z := ⟨_, rfl⟩
                    have b30 : 0 ≤ v30 ∧ v30 ≤ 255 := by rw [← e30]; exact hI_M8 598 79 (by decide)
                    have y31 : M8 598 79 = v30 := e30
                    obtain ⟨v32, e32⟩ : ∃ z, M3 598 80 = z := ⟨_, rfl⟩
                    have b32 : 0 ≤ v32 ∧ v32 ≤ 7 := by rw [← e32]; exact hI_M3 598 80 (by decide)
                    have e33 : M4 598 80 = v32 := ((w4_4 80 (by decide) (by decide) (by decide)).trans e32)
                    have e34 : M8 598 80 = v32 := ((w8_6 80 (by decide) (by decide) (by decide) (by decide) (by decide) (by decide) (by decide)).trans ((ju_i _ _ (by decide)).trans ((ju_i _ _ (by decide)).trans e33)))
                    have y35 : M8 598 80 = v32 := e34
                    have e36 : M8 598 89 = v16 := ((w8_6 89 (by decide) (by decide) (by decide) (by decide) (by decide) (by decide) (by decide)).trans ((ju_i _ _ (by decide)).trans ((ju_i _ _ (by decide)).trans e17)))
                    have y37 : M8 598 89 = v16 := e36
                    obtain ⟨v38, e38⟩ : ∃ z, M4 598 90 = z := ⟨_, rfl⟩
                    have b38 : 0 ≤ v38 ∧ v38 ≤ 2200 := by rw [← e38]; exact hI_M4 598 90 (by decide)
                    have e39 : M8 598 90 = v38 := ((w8_6 90 (by decide) (by decide) (by decide) (by decide) (by decide) (by decide) (by decide)).trans ((ju_i _ _ (by decide)).trans ((ju_i _ _ (by decide)).trans e38)))
                    have y40 : M8 598 90 = v38 := e39
                    have e41 : M8 598 100 = v7 - 1 := ((w8_6 100 (by decide) (by decide) (by decide) (by decide) (by decide) (by decide) (by decide)).trans (ju_same _ _ _ _))
                    have y42 : M8 598 100 = v7 - 1 := e41
                    obtain ⟨v43, e43⟩ : ∃ z, M 598 107 = z := ⟨_, rfl⟩
                    have b43 : 0 ≤ v43 ∧ v43 ≤ 16 := by rw [← e43]; exact hI_M 598 107 (by decide)
                    have e44 : M2 598 107 = v43 := ((w2_4 107 (by decide) (by decide) (by decide)).trans e43)
                    have e45 : M3 598 107 = v43 := ((w3_5 107 (by decide) (by decide) (by decide) (by decide) (by decide) (by decide) (by decide) (by decide) (by decide) (by decide) (by decide) (by decide) (by decide)).trans e44)
                    have e46 : M4 598 107 = v43 := ((w4_4 107 (by decide) (by decide) (by decide)).trans e45)
                    have e47 : M8 598 107 = v43 := ((w8_6 107 (by decide) (by decide) (by decide) (by decide) (by decide) (by decide) (by decide)).trans ((ju_i _ _ (by decide)).trans ((ju_i _ _ (by decide)).trans e46)))
                    have y48 : M8 598 107 = v43 := e47
                    refine jr.pick [2, 3, 4] rfl rfl ?_
                    have y49 : M8 598 80 = v32 := e34
                    exact ih (nM - 1) (by omega) M8 o m hI_M8 hH_M8 hS_M8  (fun a i f598 f659 f660 f664 f665 f666 f667 => ((w8_5 a i f598).trans ((ju_c _ _ f598).trans ((ju_c _ _ f598).trans ((w4_3 a i f598 f659 f660).trans ((w3_4 a i f598 f659 f660 f664 f665 f666 f667).trans ((w2_3 a i f598 f659 f660).trans (hF_M a i f598 f659 f660 f664 f665 f666 f667)))))))) (fun i g73 g74 g75 g76 g77 g78 g79 g80 g81 g89 g90 g100 g102 => ((w8_6 i g73 g74 g75 g76 g77 g78 g79).trans ((ju_i _ _ g100).trans ((ju_i _ _ g102).trans ((w4_4 i g90 g100 g102).trans ((w3_5 i g73 g74 g75 g76 g77 g78 g79 g80 g81 g89 g90 g100 g102).trans ((w2_4 i g90 g100 g102).trans (hG_M i g73 g74 g75 g76 g77 g78 g79 g80 g81 g89 g90 g100 g102)))))))) (by omega) (by omega) (by by_cases hf : v32 = 0; (first | (exfalso; omega) | (exact Or.inr (GS.cast (o := kcO v5) ⟨by omega, ES.adj hE (k' := 0) (z' := 0) (by omega) (by omega) (by omega), by omega, by omega, by omega, by omega⟩ (by omega)))); (exact Or.inl ⟨by omega, by omega⟩)) (by omega) (by omega) (by rw [e26, e24] <;> omega) (by omega) (by omega)
                  · exact absurd (by omega) h197
                · refine jr.if_eq rfl rfl (by omega) (fun _ => ?_) (fun h => absurd (by decide) h)
                  refine jr.aload_n rfl rfl ?_
                  refine jr_v rfl rfl (Or.inl rfl) rfl rfl (by decide) rfl ⟨rfl, Nat.le_of_ble_eq_true rfl, Nat.le_of_ble_eq_true rfl⟩ rfl (jc.deep (r_wrongToken hI_M4 hH_M4 hS_M4    (fun M50 hI_M50 hH_M50 hS_M50  w50_0 w50_1 w50_2 => ?_)) (by decide))
                  have tk50 : TK M50 = TK M4 := TK.fr (w50_2 73 (by decide) (by decide)) (w50_2 74 (by decide) (by decide))
                  refine jr.goto rfl rfl ?_
                  obtain ⟨v51, e51⟩ : ∃ z, M 598 72 = z := ⟨_, rfl⟩
                  have b51 : 0 ≤ v51 ∧ v51 ≤ 1600 := by rw [← e51]; exact hI_M 598 72 (by decide)
                  have e52 : M2 598 72 = v51 := ((w2_4 72 (by decide) (by decide) (by decide)).trans e51)
                  have e53 : M3 598 72 = v51 := ((w3_5 72 (by decide) (by decide) (by decide) (by decide) (by decide) (by decide) (by decide) (by decide) (by decide) (by decide) (by decide) (by decide) (by decide)).trans e52)
                  have e54 : M4 598 72 = v51 := ((w4_4 72 (by decide) (by decide) (by decide)).trans e53)
                  have e55 : M50 598 72 = v51 := ((w50_2 72 (by decide) (by decide)).trans e54)
                  have y56 : M50 598 72 = v51 := e55
                  obtain ⟨v57, e57⟩ : ∃ z, M3 598 73 = z := ⟨_, rfl⟩
                  have b57 : 0 ≤ v57 ∧ v57 ≤ 1600 := by rw [← e57]; exact hI_M3 598 73 (by decide)
                  have e58 : M4 598 73 = v57 := ((w4_4 73 (by decide) (by decide) (by decide)).trans e57)
                  have e59 : M50 598 73 = v57 := ((w50_2 73 (by decide) (by decide)).trans e58)
                  have y60 : M50 598 73 = v57 := e59
                  obtain ⟨v61, e61⟩ : ∃ z, M3 598 74 = z := ⟨_, rfl⟩
                  have b61 : 0 ≤ v61 ∧ v61 ≤ 4 := by rw [← e61]; exact hI_M3 598 74 (by decide)
                  have e62 : M4 598 74 = v61 := ((w4_4 74 (by decide) (by decide) (by decide)).trans e61)
                  have e63 : M50 598 74 = v61 := ((w50_2 74 (by decide) (by decide)).trans e62)
                  have y64 : M50 598 74 = v61 := e63
                  obtain ⟨v65, e65⟩ : ∃ z, M3 598 79 = z := ⟨_, rfl⟩
                  have b65 : 0 ≤ v65 ∧ v65 ≤ 255 := by rw [← e65]; exact hI_M3 598 79 (by decide)
                  have e66 : M4 598 79 = v65 := ((w4_4 79 (by decide) (by decide) (by decide)).trans e65)
                  have e67 : M50 598 79 = v65 := ((w50_2 79 (by decide) (by decide)).trans e66)
                  have y68 : M50 598 79 = v65 := e67
                  obtain ⟨v69, e69⟩ : ∃ z, M50 598 80 = z := ⟨_, rfl⟩
                  have b69 : 0 ≤ v69 ∧ v69 ≤ 7 := by rw [← e69]; exact hI_M50 598 80 (by decide)
                  have y70 : M50 598 80 = v69 := e69
                  obtain ⟨v71, e71⟩ : ∃ z, M3 598 89 = z := ⟨_, rfl⟩
                  have b71 : 0 ≤ v71 ∧ v71 ≤ 301 := by rw [← e71]; exact hI_M3 598 89 (by decide)
                  have e72 : M4 598 89 = v71 := ((w4_4 89 (by decide) (by decide) (by decide)).trans e71)
                  have e73 : M50 598 89 = v71 := ((w50_2 89 (by decide) (by decide)).trans e72)
                  have y74 : M50 598 89 = v71 := e73
                  obtain ⟨v75, e75⟩ : ∃ z, M4 598 90 = z := ⟨_, rfl⟩
                  have b75 : 0 ≤ v75 ∧ v75 ≤ 2200 := by rw [← e75]; exact hI_M4 598 90 (by decide)
                  have e76 : M50 598 90 = v75 := ((w50_2 90 (by decide) (by decide)).trans e75)
                  have y77 : M50 598 90 = v75 := e76
                  obtain ⟨v78, e78⟩ : ∃ z, M4 598 100 = z := ⟨_, rfl⟩
                  have b78 : 0 ≤ v78 ∧ v78 ≤ 13 := by rw [← e78]; exact hI_M4 598 100 (by decide)
                  have e79 : M50 598 100 = v78 := ((w50_2 100 (by decide) (by decide)).trans e78)
                  have y80 : M50 598 100 = v78 := e79
                  obtain ⟨v81, e81⟩ : ∃ z, M 598 107 = z := ⟨_, rfl⟩
                  have b81 : 0 ≤ v81 ∧ v81 ≤ 16 := by rw [← e81]; exact hI_M 598 107 (by decide)
                  have e82 : M2 598 107 = v81 := ((w2_4 107 (by decide) (by decide) (by decide)).trans e81)
                  have e83 : M3 598 107 = v81 := ((w3_5 107 (by decide) (by decide) (by decide) (by decide) (by decide) (by decide) (by decide) (by decide) (by decide) (by decide) (by decide) (by decide) (by decide)).trans e82)
                  have e84 : M4 598 107 = v81 := ((w4_4 107 (by decide) (by decide) (by decide)).trans e83)
                  have e85 : M50 598 107 = v81 := ((w50_2 107 (by decide) (by decide)).trans e84)
                  have y86 : M50 598 107 = v81 := e85
                  refine jr.pick [2, 3, 4] rfl rfl ?_
                  have y87 : M50 598 80 = v69 := e69
                  exact ih (nM - 1) (by omega) M50 o m hI_M50 hH_M50 hS_M50  (fun a i f598 f659 f660 f664 f665 f666 f667 => ((w50_1 a i f598).trans ((w4_3 a i f598 f659 f660).trans ((w3_4 a i f598 f659 f660 f664 f665 f666 f667).trans ((w2_3 a i f598 f659 f660).trans (hF_M a i f598 f659 f660 f664 f665 f666 f667)))))) (fun i g73 g74 g75 g76 g77 g78 g79 g80 g81 g89 g90 g100 g102 => ((w50_2 i g80 g81).trans ((w4_4 i g90 g100 g102).trans ((w3_5 i g73 g74 g75 g76 g77 g78 g79 g80 g81 g89 g90 g100 g102).trans ((w2_4 i g90 g100 g102).trans (hG_M i g73 g74 g75 g76 g77 g78 g79 g80 g81 g89 g90 g100 g102)))))) (by omega) (by omega) (by by_cases hf : v69 = 0; (first | (exfalso; omega) | (exact Or.inr (GS.cast (o := 0) ⟨by omega, ES.adj hE (k' := 0) (z' := 0) (by omega) (by omega) (by omega), by omega, by omega, by omega, by omega⟩ (by omega)))); (exact Or.inl ⟨by omega, by omega⟩)) (by omega) (by omega) (by rw [e59, e55] <;> omega) (by omega) (by omega)
              · have tq := ES.top40 gs2 (by omega) (by rw [hsg]; omega)
                rw [hsg, e6] at tq
                have dp1 := ES.dpos gs2 (by omega)
                rw [hsg] at dp1
                have dp2 := dp1 (Or.inl tq.1)
                refine jr.if_eq rfl rfl (by omega) (fun _ => ?_) (fun h => absurd (by decide) h)
                refine jr.aload_n rfl rfl ?_
                refine jr.bipush rfl (by decide) ?_
                refine jr_v rfl rfl (Or.inl rfl) rfl rfl (by decide) rfl ⟨rfl, Nat.le_of_ble_eq_true rfl, Nat.le_of_ble_eq_true rfl⟩ rfl (jc.deep (c_isSign hI_M4 (by omega) (fun t160_0 t160_1 => ?_) (fun f160_0 => ?_)) (by decide))
                · refine jr.if_eq rfl rfl (by omega) (fun h => absurd h (by decide)) (fun _ => ?_)
                  refine jr.iload rfl rfl ?_
                  refine jr.if_eq rfl rfl (by omega) (fun h => absurd h (by decide)) (fun _ => ?_)
                  refine jr.aload_n rfl rfl ?_
                  refine jr.dup rfl rfl ?_
                  refine jr.getf (i := 102) (x := sg) (v := .int (Int32.ofInt (sg))) rfl rfl (by decide) rfl (by decide) rfl rfl hsg rfl ?_
                  refine jr.iconst rfl ?_
                  refine jr.isub rfl ?_
                  refine jr.putf (i := 102) (x := (sg - 1)) rfl rfl (by decide) rfl (by decide) rfl rfl rfl rfl rfl ?_
                  refine jr.aload_n rfl rfl ?_
                  refine jr.dup rfl rfl ?_
                  obtain ⟨v88, e88⟩ : ∃ z, M4 598 100 = z := ⟨_, rfl⟩
                  have b88 : 0 ≤ v88 ∧ v88 ≤ 13 := by rw [← e88]; exact hI_M4 598 100 (by decide)
                  refine jr.getf (i := 100) (x := v88) (v := .int (Int32.ofInt (v88))) rfl rfl (by decide) rfl (by decide) rfl rfl ((ju_i _ _ (by decide)).trans e88) rfl ?_
                  refine jr.iconst rfl ?_
                  refine jr.isub rfl ?_
                  refine jr.putf (i := 100) (x := (v88 - 1)) rfl rfl (by decide) rfl (by decide) rfl rfl rfl rfl rfl ?_
                  refine jr.aload_n rfl rfl ?_
                  obtain ⟨v90, e90⟩ : ∃ z, M3 598 73 = z := ⟨_, rfl⟩
                  have b90 : 0 ≤ v90 ∧ v90 ≤ 1600 := by rw [← e90]; exact hI_M3 598 73 (by decide)
                  have e91 : M4 598 73 = v90 := ((w4_4 73 (by decide) (by decide) (by decide)).trans e90)
                  obtain ⟨v92, e92⟩ : ∃ z, M 598 72 = z := ⟨_, rfl⟩
                  have b92 : 0 ≤ v92 ∧ v92 ≤ 1600 := by rw [← e92]; exact hI_M 598 72 (by decide)
                  have e93 : M2 598 72 = v92 := ((w2_4 72 (by decide) (by decide) (by decide)).trans e92)
                  have e94 : M3 598 72 = v92 := ((w3_5 72 (by decide) (by decide) (by decide) (by decide) (by decide) (by decide) (by decide) (by decide) (by decide) (by decide) (by decide) (by decide) (by decide)).trans e93)
                  have e95 : M4 598 72 = v92 := ((w4_4 72 (by decide) (by decide) (by decide)).trans e94)
                  obtain ⟨v97, e97⟩ : ∃ z, M3 598 89 = z := ⟨_, rfl⟩
                  have b97 : 0 ≤ v97 ∧ v97 ≤ 301 := by rw [← e97]; exact hI_M3 598 89 (by decide)
                  have e98 : M4 598 89 = v97 := ((w4_4 89 (by decide) (by decide) (by decide)).trans e97)
                  obtain ⟨v102, e102⟩ : ∃ z, M3 598 74 = z := ⟨_, rfl⟩
                  have b102 : 0 ≤ v102 ∧ v102 ≤ 4 := by rw [← e102]; exact hI_M3 598 74 (by decide)
                  have e103 : M4 598 74 = v102 := ((w4_4 74 (by decide) (by decide) (by decide)).trans e102)
                  refine jr_v rfl rfl (Or.inl rfl) rfl rfl (by decide) rfl ⟨rfl, Nat.le_of_ble_eq_true rfl, Nat.le_of_ble_eq_true rfl⟩ rfl (jc.deep (r_next (RI.u (RI.u hI_M4 (a := 598) (i := 102) (show (0 : Int) ≤ _ ∧ _ ≤ (400 : Int) from by omega)) (a := 598) (i := 100) (show (0 : Int) ≤ _ ∧ _ ≤ (13 : Int) from by omega)) (RH.o (RH.o hH_M4 (by decide) (by decide) (by decide)) (by decide) (by decide) (by decide)) (RF.o (RF.o hS_M4 (by decide) (by decide)) (by decide) (by decide))   (by rw [((ju_i _ _ (by decide)).trans ((ju_i _ _ (by decide)).trans e91)), ((ju_i _ _ (by decide)).trans ((ju_i _ _ (by decide)).trans e95))]; omega) (fun M89 hI_M89 hH_M89 hS_M89  w89_0 w89_1 w89_2 w89_3 w89_4 w89_5 w89_6 => ?_)) (by decide))
                  have y101 : (ju (ju M4 598 102 (sg - 1)) 598 100 (v88 - 1)) 598 73 = v90 := ((ju_i _ _ (by decide)).trans ((ju_i _ _ (by decide)).trans e91))
                  have y104 : (ju (ju M4 598 102 (sg - 1)) 598 100 (v88 - 1)) 598 74 = v102 := ((ju_i _ _ (by decide)).trans ((ju_i _ _ (by decide)).trans e103))
                  have tb89 : TK (ju (ju M4 598 102 (sg - 1)) 598 100 (v88 - 1)) = TK M4 := ((TK.o (Or.inr ⟨by decide, by decide⟩)).trans ((TK.o (Or.inr ⟨by decide, by decide⟩)).trans rfl))
                  have hE := ES.clo1 gs2 hsg e88 tq.1 e6 (by omega) (by omega)
                  have ck : 0 ≤ kcK v5 := by unfold kcK; split <;> omega
                  have y96 : (ju (ju M4 598 102 (sg - 1)) 598 100 (v88 - 1)) 598 73 = v90 := ((ju_i _ _ (by decide)).trans ((ju_i _ _ (by decide)).trans e91))
                  have y99 : (ju (ju M4 598 102 (sg - 1)) 598 100 (v88 - 1)) 598 89 = v97 := ((ju_i _ _ (by decide)).trans ((ju_i _ _ (by decide)).trans e98))
                  have y100 : (ju (ju M4 598 102 (sg - 1)) 598 100 (v88 - 1)) 598 100 = v88 - 1 := (ju_same _ _ _ _)
                  have x89_89 := w89_6 89 (by decide) (by decide) (by decide) (by decide) (by decide) (by decide) (by decide)
                  have x89_100 := w89_6 100 (by decide) (by decide) (by decide) (by decide) (by decide) (by decide) (by decide)
                  have hE := ES.fr2 hE w89_5 (w89_6 88 (by decide) (by decide) (by decide) (by decide) (by decide) (by decide) (by decide)) (w89_6 90 (by decide) (by decide) (by decide) (by decide) (by decide) (by decide) (by decide)) (w89_6 101 (by decide) (by decide) (by decide) (by decide) (by decide) (by decide) (by decide)) (w89_6 102 (by decide) (by decide) (by decide) (by decide) (by decide) (by decide) (by decide)) (w89_6 107 (by decide) (by decide) (by decide) (by decide) (by decide) (by decide) (by decide)) (k' := (kcK v5)) (d' := 0) (z' := 0) (by omega) (by omega) (by omega) (by omega)
                  have co1 : v5 = -1 → kcO v5 = 1 := fun z => by unfold kcO; rw [if_pos z]
                  refine jr.iload_n rfl rfl ?_
                  refine jr.iconst rfl ?_
                  refine jr.icmp_eq rfl rfl (by omega) (by omega) (fun h197 => ?_) (fun h197 => ?_)
                  · refine jr.goto rfl rfl ?_
                    have e105 : M89 598 72 = v92 := ((w89_6 72 (by decide) (by decide) (by decide) (by decide) (by decide) (by decide) (by decide)).trans ((ju_i _ _ (by decide)).trans ((ju_i _ _ (by decide)).trans e95)))
                    have y106 : M89 598 72 = v92 := e105
                    obtain ⟨v107, e107⟩ : ∃ z, M89 598 73 = z := ⟨_, rfl⟩
                    have b107 : 0 ≤ v107 ∧ v107 ≤ 1600 := by rw [← e107]; exact hI_M89 598 73 (by decide)
                    have y108 : M89 598 73 = v107 := e107
                    obtain ⟨v109, e109⟩ : ∃ z, M89 598 74 = z := ⟨_, rfl⟩
                    have b109 : 0 ≤ v109 ∧ v109 ≤ 4 := by rw [← e109]; exact hI_M89 598 74 (by decide)
                    have y110 : M89 598 74 = v109 := e109
                    obtain ⟨v111, e111⟩ : ∃ z, M89 598 79 = z := ⟨_, rfl⟩
                    have b111 : 0 ≤ v111 ∧ v111 ≤ 255 := by rw [← e111]; exact hI_M89 598 79 (by decide)
                    have y112 : M89 598 79 = v111 := e111
                    obtain ⟨v113, e113⟩ : ∃ z, M3 598 80 = z := ⟨_, rfl⟩
                    have b113 : 0 ≤ v113 ∧ v113 ≤ 7 := by rw [← e113]; exact hI_M3 598 80 (by decide)
                    have e114 : M4 598 80 = v113 := ((w4_4 80 (by decide) (by decide) (by decide)).trans e113)
                    have e115 : M89 598 80 = v113 := ((w89_6 80 (by decide) (by decide) (by decide) (by decide) (by decide) (by decide) (by decide)).trans ((ju_i _ _ (by decide)).trans ((ju_i _ _ (by decide)).trans e114)))
                    have y116 : M89 598 80 = v113 := e115
                    have e117 : M89 598 89 = v97 := ((w89_6 89 (by decide) (by decide) (by decide) (by decide) (by decide) (by decide) (by decide)).trans ((ju_i _ _ (by decide)).trans ((ju_i _ _ (by decide)).trans e98)))
                    have y118 : M89 598 89 = v97 := e117
                    obtain ⟨v119, e119⟩ : ∃ z, M4 598 90 = z := ⟨_, rfl⟩
                    have b119 : 0 ≤ v119 ∧ v119 ≤ 2200 := by rw [← e119]; exact hI_M4 598 90 (by decide)
                    have e120 : M89 598 90 = v119 := ((w89_6 90 (by decide) (by decide) (by decide) (by decide) (by decide) (by decide) (by decide)).trans ((ju_i _ _ (by decide)).trans ((ju_i _ _ (by decide)).trans e119)))
                    have y121 : M89 598 90 = v119 := e120
                    have e122 : M89 598 100 = v88 - 1 := ((w89_6 100 (by decide) (by decide) (by decide) (by decide) (by decide) (by decide) (by decide)).trans (ju_same _ _ _ _))
                    have y123 : M89 598 100 = v88 - 1 := e122
                    obtain ⟨v124, e124⟩ : ∃ z, M 598 107 = z := ⟨_, rfl⟩
                    have b124 : 0 ≤ v124 ∧ v124 ≤ 16 := by rw [← e124]; exact hI_M 598 107 (by decide)
                    have e125 : M2 598 107 = v124 := ((w2_4 107 (by decide) (by decide) (by decide)).trans e124)
                    have e126 : M3 598 107 = v124 := ((w3_5 107 (by decide) (by decide) (by decide) (by decide) (by decide) (by decide) (by decide) (by decide) (by decide) (by decide) (by decide) (by decide) (by decide)).trans e125)
                    have e127 : M4 598 107 = v124 := ((w4_4 107 (by decide) (by decide) (by decide)).trans e126)
                    have e128 : M89 598 107 = v124 := ((w89_6 107 (by decide) (by decide) (by decide) (by decide) (by decide) (by decide) (by decide)).trans ((ju_i _ _ (by decide)).trans ((ju_i _ _ (by decide)).trans e127)))
                    have y129 : M89 598 107 = v124 := e128
                    refine jr.pick [2, 3, 4] rfl rfl ?_
                    have y130 : M89 598 80 = v113 := e115
                    exact ih (nM - 1) (by omega) M89 o m hI_M89 hH_M89 hS_M89  (fun a i f598 f659 f660 f664 f665 f666 f667 => ((w89_5 a i f598).trans ((ju_c _ _ f598).trans ((ju_c _ _ f598).trans ((w4_3 a i f598 f659 f660).trans ((w3_4 a i f598 f659 f660 f664 f665 f666 f667).trans ((w2_3 a i f598 f659 f660).trans (hF_M a i f598 f659 f660 f664 f665 f666 f667)))))))) (fun i g73 g74 g75 g76 g77 g78 g79 g80 g81 g89 g90 g100 g102 => ((w89_6 i g73 g74 g75 g76 g77 g78 g79).trans ((ju_i _ _ g100).trans ((ju_i _ _ g102).trans ((w4_4 i g90 g100 g102).trans ((w3_5 i g73 g74 g75 g76 g77 g78 g79 g80 g81 g89 g90 g100 g102).trans ((w2_4 i g90 g100 g102).trans (hG_M i g73 g74 g75 g76 g77 g78 g79 g80 g81 g89 g90 g100 g102)))))))) (by omega) (by omega) (by by_cases hf : v113 = 0; (first | (exfalso; omega) | (exact Or.inr (GS.cast (o := kcO v5) ⟨by omega, ES.adj hE (k' := 0) (z' := 0) (by omega) (by omega) (by omega), by omega, by omega, by omega, by omega⟩ (by omega)))); (exact Or.inl ⟨by omega, by omega⟩)) (by omega) (by omega) (by rw [e107, e105] <;> omega) (by omega) (by omega)
                  · exact absurd (by omega) h197
                · refine jr.if_eq rfl rfl (by omega) (fun _ => ?_) (fun h => absurd (by decide) h)
                  refine jr.aload_n rfl rfl ?_
                  refine jr_v rfl rfl (Or.inl rfl) rfl rfl (by decide) rfl ⟨rfl, Nat.le_of_ble_eq_true rfl, Nat.le_of_ble_eq_true rfl⟩ rfl (jc.deep (r_wrongToken hI_M4 hH_M4 hS_M4    (fun M131 hI_M131 hH_M131 hS_M131  w131_0 w131_1 w131_2 => ?_)) (by decide))
                  have tk131 : TK M131 = TK M4 := TK.fr (w131_2 73 (by decide) (by decide)) (w131_2 74 (by decide) (by decide))
                  refine jr.goto rfl rfl ?_
                  obtain ⟨v132, e132⟩ : ∃ z, M 598 72 = z := ⟨_, rfl⟩
                  have b132 : 0 ≤ v132 ∧ v132 ≤ 1600 := by rw [← e132]; exact hI_M 598 72 (by decide)
                  have e133 : M2 598 72 = v132 := ((w2_4 72 (by decide) (by decide) (by decide)).trans e132)
                  have e134 : M3 598 72 = v132 := ((w3_5 72 (by decide) (by decide) (by decide) (by decide) (by decide) (by decide) (by decide) (by decide) (by decide) (by decide) (by decide) (by decide) (by decide)).trans e133)
                  have e135 : M4 598 72 = v132 := ((w4_4 72 (by decide) (by decide) (by decide)).trans e134)
                  have e136 : M131 598 72 = v132 := ((w131_2 72 (by decide) (by decide)).trans e135)
                  have y137 : M131 598 72 = v132 := e136
                  obtain ⟨v138, e138⟩ : ∃ z, M3 598 73 = z := ⟨_, rfl⟩
                  have b138 : 0 ≤ v138 ∧ v138 ≤ 1600 := by rw [← e138]; exact hI_M3 598 73 (by decide)
                  have e139 : M4 598 73 = v138 := ((w4_4 73 (by decide) (by decide) (by decide)).trans e138)
                  have e140 : M131 598 73 = v138 := ((w131_2 73 (by decide) (by decide)).trans e139)
                  have y141 : M131 598 73 = v138 := e140
                  obtain ⟨v142, e142⟩ : ∃ z, M3 598 74 = z := ⟨_, rfl⟩
                  have b142 : 0 ≤ v142 ∧ v142 ≤ 4 := by rw [← e142]; exact hI_M3 598 74 (by decide)
                  have e143 : M4 598 74 = v142 := ((w4_4 74 (by decide) (by decide) (by decide)).trans e142)
                  have e144 : M131 598 74 = v142 := ((w131_2 74 (by decide) (by decide)).trans e143)
                  have y145 : M131 598 74 = v142 := e144
                  obtain ⟨v146, e146⟩ : ∃ z, M3 598 79 = z := ⟨_, rfl⟩
                  have b146 : 0 ≤ v146 ∧ v146 ≤ 255 := by rw [← e146]; exact hI_M3 598 79 (by decide)
                  have e147 : M4 598 79 = v146 := ((w4_4 79 (by decide) (by decide) (by decide)).trans e146)
                  have e148 : M131 598 79 = v146 := ((w131_2 79 (by decide) (by decide)).trans e147)
                  have y149 : M131 598 79 = v146 := e148
                  obtain ⟨v150, e150⟩ : ∃ z, M131 598 80 = z := ⟨_, rfl⟩
                  have b150 : 0 ≤ v150 ∧ v150 ≤ 7 := by rw [← e150]; exact hI_M131 598 80 (by decide)
                  have y151 : M131 598 80 = v150 := e150
                  obtain ⟨v152, e152⟩ : ∃ z, M3 598 89 = z := ⟨_, rfl⟩
                  have b152 : 0 ≤ v152 ∧ v152 ≤ 301 := by rw [← e152]; exact hI_M3 598 89 (by decide)
                  have e153 : M4 598 89 = v152 := ((w4_4 89 (by decide) (by decide) (by decide)).trans e152)
                  have e154 : M131 598 89 = v152 := ((w131_2 89 (by decide) (by decide)).trans e153)
                  have y155 : M131 598 89 = v152 := e154
                  obtain ⟨v156, e156⟩ : ∃ z, M4 598 90 = z := ⟨_, rfl⟩
                  have b156 : 0 ≤ v156 ∧ v156 ≤ 2200 := by rw [← e156]; exact hI_M4 598 90 (by decide)
                  have e157 : M131 598 90 = v156 := ((w131_2 90 (by decide) (by decide)).trans e156)
                  have y158 : M131 598 90 = v156 := e157
                  obtain ⟨v159, e159⟩ : ∃ z, M4 598 100 = z := ⟨_, rfl⟩
                  have b159 : 0 ≤ v159 ∧ v159 ≤ 13 := by rw [← e159]; exact hI_M4 598 100 (by decide)
                  have e160 : M131 598 100 = v159 := ((w131_2 100 (by decide) (by decide)).trans e159)
                  have y161 : M131 598 100 = v159 := e160
                  obtain ⟨v162, e162⟩ : ∃ z, M 598 107 = z := ⟨_, rfl⟩
                  have b162 : 0 ≤ v162 ∧ v162 ≤ 16 := by rw [← e162]; exact hI_M 598 107 (by decide)
                  have e163 : M2 598 107 = v162 := ((w2_4 107 (by decide) (by decide) (by decide)).trans e162)
                  have e164 : M3 598 107 = v162 := ((w3_5 107 (by decide) (by decide) (by decide) (by decide) (by decide) (by decide) (by decide) (by decide) (by decide) (by decide) (by decide) (by decide) (by decide)).trans e163)
                  have e165 : M4 598 107 = v162 := ((w4_4 107 (by decide) (by decide) (by decide)).trans e164)
                  have e166 : M131 598 107 = v162 := ((w131_2 107 (by decide) (by decide)).trans e165)
                  have y167 : M131 598 107 = v162 := e166
                  refine jr.pick [2, 3, 4] rfl rfl ?_
                  have y168 : M131 598 80 = v150 := e150
                  exact ih (nM - 1) (by omega) M131 o m hI_M131 hH_M131 hS_M131  (fun a i f598 f659 f660 f664 f665 f666 f667 => ((w131_1 a i f598).trans ((w4_3 a i f598 f659 f660).trans ((w3_4 a i f598 f659 f660 f664 f665 f666 f667).trans ((w2_3 a i f598 f659 f660).trans (hF_M a i f598 f659 f660 f664 f665 f666 f667)))))) (fun i g73 g74 g75 g76 g77 g78 g79 g80 g81 g89 g90 g100 g102 => ((w131_2 i g80 g81).trans ((w4_4 i g90 g100 g102).trans ((w3_5 i g73 g74 g75 g76 g77 g78 g79 g80 g81 g89 g90 g100 g102).trans ((w2_4 i g90 g100 g102).trans (hG_M i g73 g74 g75 g76 g77 g78 g79 g80 g81 g89 g90 g100 g102)))))) (by omega) (by omega) (by by_cases hf : v150 = 0; (first | (exfalso; omega) | (exact Or.inr (GS.cast (o := 0) ⟨by omega, ES.adj hE (k' := 0) (z' := 0) (by omega) (by omega) (by omega), by omega, by omega, by omega, by omega⟩ (by omega)))); (exact Or.inl ⟨by omega, by omega⟩)) (by omega) (by omega) (by rw [e140, e136] <;> omega) (by omega) (by omega)
            · refine jr.aload_n rfl rfl ?_
              refine jr.getf (i := 106) (v := .ref 667) rfl rfl (by decide) rfl (by decide) rfl rfl rfl rfl ?_
              refine jr.aload_n rfl rfl ?_
              refine jr.getf (i := 102) (x := sg) (v := .int (Int32.ofInt (sg))) rfl rfl (by decide) rfl (by decide) rfl rfl hsg rfl ?_
              refine jr.iconst rfl ?_
              refine jr.isub rfl ?_
              obtain ⟨v169, e169⟩ : ∃ z, M3 667 (sg - 1) = z := ⟨_, rfl⟩
              have b169 : 0 ≤ v169 ∧ v169 ≤ 4 := by rw [← e169]; exact (by have q := hI_M3 667 (sg - 1) (by decide); rw [xri_row rfl rfl] at q; exact q)
              have e170 : M4 667 (sg - 1) = v169 := ((w4_3 667 (sg - 1) (by decide) (by decide) (by decide)).trans e169)
              refine jr.iald (i := (sg - 1)) (x := v169) rfl (by decide) rfl (by decide) (by omega) (by omega) e170 ?_
              refine jr.iload_n rfl rfl ?_
              refine jr_s rfl rfl (Or.inl rfl) ⟨Nat.le_of_ble_eq_true rfl, Nat.le_of_ble_eq_true rfl⟩ rfl rfl (jc.deep (r_argsOf hI_M4 hH_M4 hS_M4 (Kp.rfl _) (by omega)  (fun r171 z171 w171_0 => ?_)) (by decide))
              refine jr.icmp_ne rfl rfl (by omega) (by omega) (fun h109 => ?_) (fun h109 => ?_)
              · refine jr.iconst rfl ?_
                refine jr.istore rfl (by decide) rfl ?_
                refine jr.aload_n rfl rfl ?_
                refine jr.bipush rfl (by decide) ?_
                refine jr_v rfl rfl (Or.inl rfl) rfl rfl (by decide) rfl ⟨rfl, Nat.le_of_ble_eq_true rfl, Nat.le_of_ble_eq_true rfl⟩ rfl (jc.deep (c_isSign hI_M4 (by omega) (fun t122_0 t122_1 => ?_) (fun f122_0 => ?_)) (by decide))
                · have tq := ES.top40 gs2 (by omega) (by rw [hsg]; omega)
                  rw [hsg, e6] at tq
                  have dp1 := ES.dpos gs2 (by omega)
                  rw [hsg] at dp1
                  have dp2 := dp1 (Or.inl tq.1)
                  refine jr.if_eq rfl rfl (by omega) (fun h => absurd h (by decide)) (fun _ => ?_)
                  refine jr.iload rfl rfl ?_
                  refine jr.if_ne rfl rfl (by omega) (fun h => absurd h (by decide)) (fun _ => ?_)
                  refine jr.aload_n rfl rfl ?_
                  refine jr.getf (i := 106) (v := .ref 667) rfl rfl (by decide) rfl (by decide) rfl rfl rfl rfl ?_
                  refine jr.aload_n rfl rfl ?_
                  refine jr.getf (i := 102) (x := sg) (v := .int (Int32.ofInt (sg))) rfl rfl (by decide) rfl (by decide) rfl rfl hsg rfl ?_
                  refine jr.iconst rfl ?_
                  refine jr.isub rfl ?_
                  refine jr.dup2 rfl ⟨rfl, rfl⟩ ?_
                  refine jr.iald (i := (sg - 1)) (x := v169) rfl (by decide) rfl (by decide) (by omega) (by omega) e170 ?_
                  refine jr.iconst rfl ?_
                  refine jr.iadd rfl ?_
                  refine jr.iast (i := (sg - 1)) (x := (v169 + 1)) rfl (by decide) rfl (by decide) (by omega) (by omega) ?_
                  refine jr.aload_n rfl rfl ?_
                  obtain ⟨v173, e173⟩ : ∃ z, M3 598 73 = z := ⟨_, rfl⟩
                  have b173 : 0 ≤ v173 ∧ v173 ≤ 1600 := by rw [← e173]; exact hI_M3 598 73 (by decide)
                  have e174 : M4 598 73 = v173 := ((w4_4 73 (by decide) (by decide) (by decide)).trans e173)
                  obtain ⟨v175, e175⟩ : ∃ z, M 598 72 = z := ⟨_, rfl⟩
                  have b175 : 0 ≤ v175 ∧ v175 ≤ 1600 := by rw [← e175]; exact hI_M 598 72 (by decide)
                  have e176 : M2 598 72 = v175 := ((w2_4 72 (by decide) (by decide) (by decide)).trans e175)
                  have e177 : M3 598 72 = v175 := ((w3_5 72 (by decide) (by decide) (by decide) (by decide) (by decide) (by decide) (by decide) (by decide) (by decide) (by decide) (by decide) (by decide) (by decide)).trans e176)
                  have e178 : M4 598 72 = v175 := ((w4_4 72 (by decide) (by decide) (by decide)).trans e177)
                  obtain ⟨v180, e180⟩ : ∃ z, M3 598 89 = z := ⟨_, rfl⟩
                  have b180 : 0 ≤ v180 ∧ v180 ≤ 301 := by rw [← e180]; exact hI_M3 598 89 (by decide)
                  have e181 : M4 598 89 = v180 := ((w4_4 89 (by decide) (by decide) (by decide)).trans e180)
                  obtain ⟨v183, e183⟩ : ∃ z, M4 598 100 = z := ⟨_, rfl⟩
                  have b183 : 0 ≤ v183 ∧ v183 ≤ 13 := by rw [← e183]; exact hI_M4 598 100 (by decide)
                  obtain ⟨v186, e186⟩ : ∃ z, M3 598 74 = z := ⟨_, rfl⟩
                  have b186 : 0 ≤ v186 ∧ v186 ≤ 4 := by rw [← e186]; exact hI_M3 598 74 (by decide)
                  have e187 : M4 598 74 = v186 := ((w4_4 74 (by decide) (by decide) (by decide)).trans e186)
                  refine jr_v rfl rfl (Or.inl rfl) rfl rfl (by decide) rfl ⟨rfl, Nat.le_of_ble_eq_true rfl, Nat.le_of_ble_eq_true rfl⟩ rfl (jc.deep (r_next (RI.u hI_M4 (a := 667) (i := (sg - 1)) (by rw [xri_row rfl rfl]; show (0 : Int) ≤ _ ∧ _ ≤ (4 : Int); omega)) (RH.o hH_M4 (by decide) (by decide) (by decide)) (RF.o hS_M4 (by decide) (by decide))   (by rw [((ju_c _ _ (by decide)).trans e174), ((ju_c _ _ (by decide)).trans e178)]; omega) (fun M172 hI_M172 hH_M172 hS_M172  w172_0 w172_1 w172_2 w172_3 w172_4 w172_5 w172_6 => ?_)) (by decide))
                  have y185 : (ju M4 667 (sg - 1) (v169 + 1)) 598 73 = v173 := ((ju_c _ _ (by decide)).trans e174)
                  have y188 : (ju M4 667 (sg - 1) (v169 + 1)) 598 74 = v186 := ((ju_c _ _ (by decide)).trans e187)
                  have tb172 : TK (ju M4 667 (sg - 1) (v169 + 1)) = TK M4 := ((TK.o (Or.inl (by decide))).trans rfl)
                  have hE := ES.inc gs2 hsg e170 (by omega) tq.1 (by rw [e6]; omega) (by rw [e6]; omega)
                  have y179 : (ju M4 667 (sg - 1) (v169 + 1)) 598 73 = v173 := ((ju_c _ _ (by decide)).trans e174)
                  have y182 : (ju M4 667 (sg - 1) (v169 + 1)) 598 89 = v180 := ((ju_c _ _ (by decide)).trans e181)
                  have y184 : (ju M4 667 (sg - 1) (v169 + 1)) 598 100 = v183 := ((ju_c _ _ (by decide)).trans e183)
                  have x172_89 := w172_6 89 (by decide) (by decide) (by decide) (by decide) (by decide) (by decide) (by decide)
                  have x172_100 := w172_6 100 (by decide) (by decide) (by decide) (by decide) (by decide) (by decide) (by decide)
                  have hE := ES.fr2 hE w172_5 (w172_6 88 (by decide) (by decide) (by decide) (by decide) (by decide) (by decide) (by decide)) (w172_6 90 (by decide) (by decide) (by decide) (by decide) (by decide) (by decide) (by decide)) (w172_6 101 (by decide) (by decide) (by decide) (by decide) (by decide) (by decide) (by decide)) (w172_6 102 (by decide) (by decide) (by decide) (by decide) (by decide) (by decide) (by decide)) (w172_6 107 (by decide) (by decide) (by decide) (by decide) (by decide) (by decide) (by decide)) (k' := 0) (d' := 0) (z' := 0) (by omega) (by omega) (by omega) (by omega)
                  refine jr.iconst rfl ?_
                  refine jr.istore_n rfl (by decide) rfl ?_
                  refine jr.goto rfl rfl ?_
                  refine jr.goto rfl rfl ?_
                  have e189 : M172 598 72 = v175 := ((w172_6 72 (by decide) (by decide) (by decide) (by decide) (by decide) (by decide) (by decide)).trans ((ju_c _ _ (by decide)).trans e178))
                  have y190 : M172 598 72 = v175 := e189
                  obtain ⟨v191, e191⟩ : ∃ z, M172 598 73 = z := ⟨_, rfl⟩
                  have b191 : 0 ≤ v191 ∧ v191 ≤ 1600 := by rw [← e191]; exact hI_M172 598 73 (by decide)
                  have y192 : M172 598 73 = v191 := e191
                  obtain ⟨v193, e193⟩ : ∃ z, M172 598 74 = z := ⟨_, rfl⟩
                  have b193 : 0 ≤ v193 ∧ v193 ≤ 4 := by rw [← e193]; exact hI_M172 598 74 (by decide)
                  have y194 : M172 598 74 = v193 := e193
                  obtain ⟨v195, e195⟩ : ∃ z, M172 598 79 = z := ⟨_, rfl⟩
                  have b195 : 0 ≤ v195 ∧ v195 ≤ 255 := by rw [← e195]; exact hI_M172 598 79 (by decide)
                  have y196 : M172 598 79 = v195 := e195
                  obtain ⟨v197, e197⟩ : ∃ z, M3 598 80 = z := ⟨_, rfl⟩
                  have b197 : 0 ≤ v197 ∧ v197 ≤ 7 := by rw [← e197]; exact hI_M3 598 80 (by decide)
                  have e198 : M4 598 80 = v197 := ((w4_4 80 (by decide) (by decide) (by decide)).trans e197)
                  have e199 : M172 598 80 = v197 := ((w172_6 80 (by decide) (by decide) (by decide) (by decide) (by decide) (by decide) (by decide)).trans ((ju_c _ _ (by decide)).trans e198))
                  have y200 : M172 598 80 = v197 := e199
                  have e201 : M172 598 89 = v180 := ((w172_6 89 (by decide) (by decide) (by decide) (by decide) (by decide) (by decide) (by decide)).trans ((ju_c _ _ (by decide)).trans e181))
                  have y202 : M172 598 89 = v180 := e201
                  obtain ⟨v203, e203⟩ : ∃ z, M4 598 90 = z := ⟨_, rfl⟩
                  have b203 : 0 ≤ v203 ∧ v203 ≤ 2200 := by rw [← e203]; exact hI_M4 598 90 (by decide)
                  have e204 : M172 598 90 = v203 := ((w172_6 90 (by decide) (by decide) (by decide) (by decide) (by decide) (by decide) (by decide)).trans ((ju_c _ _ (by decide)).trans e203))
                  have y205 : M172 598 90 = v203 := e204
                  have e206 : M172 598 100 = v183 := ((w172_6 100 (by decide) (by decide) (by decide) (by decide) (by decide) (by decide) (by decide)).trans ((ju_c _ _ (by decide)).trans e183))
                  have y207 : M172 598 100 = v183 := e206
                  obtain ⟨v208, e208⟩ : ∃ z, M 598 107 = z := ⟨_, rfl⟩
                  have b208 : 0 ≤ v208 ∧ v208 ≤ 16 := by rw [← e208]; exact hI_M 598 107 (by decide)
                  have e209 : M2 598 107 = v208 := ((w2_4 107 (by decide) (by decide) (by decide)).trans e208)
                  have e210 : M3 598 107 = v208 := ((w3_5 107 (by decide) (by decide) (by decide) (by decide) (by decide) (by decide) (by decide) (by decide) (by decide) (by decide) (by decide) (by decide) (by decide)).trans e209)
                  have e211 : M4 598 107 = v208 := ((w4_4 107 (by decide) (by decide) (by decide)).trans e210)
                  have e212 : M172 598 107 = v208 := ((w172_6 107 (by decide) (by decide) (by decide) (by decide) (by decide) (by decide) (by decide)).trans ((ju_c _ _ (by decide)).trans e211))
                  have y213 : M172 598 107 = v208 := e212
                  refine jr.pick [0, 3, 4] rfl rfl ?_
                  have y214 : M172 598 80 = v197 := e199
                  exact ih (nM - 1) (by omega) M172 1 m hI_M172 hH_M172 hS_M172  (fun a i f598 f659 f660 f664 f665 f666 f667 => ((w172_5 a i f598).trans ((ju_c _ _ f667).trans ((w4_3 a i f598 f659 f660).trans ((w3_4 a i f598 f659 f660 f664 f665 f666 f667).trans ((w2_3 a i f598 f659 f660).trans (hF_M a i f598 f659 f660 f664 f665 f666 f667))))))) (fun i g73 g74 g75 g76 g77 g78 g79 g80 g81 g89 g90 g100 g102 => ((w172_6 i g73 g74 g75 g76 g77 g78 g79).trans ((ju_c _ _ (by decide)).trans ((w4_4 i g90 g100 g102).trans ((w3_5 i g73 g74 g75 g76 g77 g78 g79 g80 g81 g89 g90 g100 g102).trans ((w2_4 i g90 g100 g102).trans (hG_M i g73 g74 g75 g76 g77 g78 g79 g80 g81 g89 g90 g100 g102))))))) (by omega) (by omega) (by by_cases hf : v197 = 0; (first | (exfalso; omega) | (exact Or.inr (GS.cast (o := 0) ⟨by omega, ES.adj hE (k' := 0) (z' := 0) (by omega) (by omega) (by omega), by omega, by omega, by omega, by omega⟩ (by omega)))); (exact Or.inl ⟨by omega, by omega⟩)) (by omega) (by omega) (by rw [e191, e189] <;> omega) (by omega) (by omega)
                · have tq := ES.top40 gs2 (by omega) (by rw [hsg]; omega)
                  rw [hsg, e6] at tq
                  have dp1 := ES.dpos gs2 (by omega)
                  rw [hsg] at dp1
                  have dp2 := dp1 (Or.inl tq.1)
                  refine jr.if_eq rfl rfl (by omega) (fun _ => ?_) (fun h => absurd (by decide) h)
                  refine jr.aload_n rfl rfl ?_
                  refine jr.bipush rfl (by decide) ?_
                  refine jr_v rfl rfl (Or.inl rfl) rfl rfl (by decide) rfl ⟨rfl, Nat.le_of_ble_eq_true rfl, Nat.le_of_ble_eq_true rfl⟩ rfl (jc.deep (c_isSign hI_M4 (by omega) (fun t160_0 t160_1 => ?_) (fun f160_0 => ?_)) (by decide))
                  · refine jr.if_eq rfl rfl (by omega) (fun h => absurd h (by decide)) (fun _ => ?_)
                    refine jr.iload rfl rfl ?_
                    refine jr.if_eq rfl rfl (by omega) (fun _ => ?_) (fun h => absurd (by decide) h)
                    refine jr.aload_n rfl rfl ?_
                    refine jr_v rfl rfl (Or.inl rfl) rfl rfl (by decide) rfl ⟨rfl, Nat.le_of_ble_eq_true rfl, Nat.le_of_ble_eq_true rfl⟩ rfl (jc.deep (r_wrongToken hI_M4 hH_M4 hS_M4    (fun M215 hI_M215 hH_M215 hS_M215  w215_0 w215_1 w215_2 => ?_)) (by decide))
                    have tk215 : TK M215 = TK M4 := TK.fr (w215_2 73 (by decide) (by decide)) (w215_2 74 (by decide) (by decide))
                    refine jr.goto rfl rfl ?_
                    obtain ⟨v216, e216⟩ : ∃ z, M 598 72 = z := ⟨_, rfl⟩
                    have b216 : 0 ≤ v216 ∧ v216 ≤ 1600 := by rw [← e216]; exact hI_M 598 72 (by decide)
                    have e217 : M2 598 72 = v216 := ((w2_4 72 (by decide) (by decide) (by decide)).trans e216)
                    have e218 : M3 598 72 = v216 := ((w3_5 72 (by decide) (by decide) (by decide) (by decide) (by decide) (by decide) (by decide) (by decide) (by decide) (by decide) (by decide) (by decide) (by decide)).trans e217)
                    have e219 : M4 598 72 = v216 := ((w4_4 72 (by decide) (by decide) (by decide)).trans e218)
                    have e220 : M215 598 72 = v216 := ((w215_2 72 (by decide) (by decide)).trans e219)
                    have y221 : M215 598 72 = v216 := e220
                    obtain ⟨v222, e222⟩ : ∃ z, M3 598 73 = z := ⟨_, rfl⟩
                    have b222 : 0 ≤ v222 ∧ v222 ≤ 1600 := by rw [← e222]; exact hI_M3 598 73 (by decide)
                    have e223 : M4 598 73 = v222 := ((w4_4 73 (by decide) (by decide) (by decide)).trans e222)
                    have e224 : M215 598 73 = v222 := ((w215_2 73 (by decide) (by decide)).trans e223)
                    have y225 : M215 598 73 = v222 := e224
                    obtain ⟨v226, e226⟩ : ∃ z, M3 598 74 = z := ⟨_, rfl⟩
                    have b226 : 0 ≤ v226 ∧ v226 ≤ 4 := by rw [← e226]; exact hI_M3 598 74 (by decide)
                    have e227 : M4 598 74 = v226 := ((w4_4 74 (by decide) (by decide) (by decide)).trans e226)
                    have e228 : M215 598 74 = v226 := ((w215_2 74 (by decide) (by decide)).trans e227)
                    have y229 : M215 598 74 = v226 := e228
                    obtain ⟨v230, e230⟩ : ∃ z, M3 598 79 = z := ⟨_, rfl⟩
                    have b230 : 0 ≤ v230 ∧ v230 ≤ 255 := by rw [← e230]; exact hI_M3 598 79 (by decide)
                    have e231 : M4 598 79 = v230 := ((w4_4 79 (by decide) (by decide) (by decide)).trans e230)
                    have e232 : M215 598 79 = v230 := ((w215_2 79 (by decide) (by decide)).trans e231)
                    have y233 : M215 598 79 = v230 := e232
                    obtain ⟨v234, e234⟩ : ∃ z, M215 598 80 = z := ⟨_, rfl⟩
                    have b234 : 0 ≤ v234 ∧ v234 ≤ 7 := by rw [← e234]; exact hI_M215 598 80 (by decide)
                    have y235 : M215 598 80 = v234 := e234
                    obtain ⟨v236, e236⟩ : ∃ z, M3 598 89 = z := ⟨_, rfl⟩
                    have b236 : 0 ≤ v236 ∧ v236 ≤ 301 := by rw [← e236]; exact hI_M3 598 89 (by decide)
                    have e237 : M4 598 89 = v236 := ((w4_4 89 (by decide) (by decide) (by decide)).trans e236)
                    have e238 : M215 598 89 = v236 := ((w215_2 89 (by decide) (by decide)).trans e237)
                    have y239 : M215 598 89 = v236 := e238
                    obtain ⟨v240, e240⟩ : ∃ z, M4 598 90 = z := ⟨_, rfl⟩
                    have b240 : 0 ≤ v240 ∧ v240 ≤ 2200 := by rw [← e240]; exact hI_M4 598 90 (by decide)
                    have e241 : M215 598 90 = v240 := ((w215_2 90 (by decide) (by decide)).trans e240)
                    have y242 : M215 598 90 = v240 := e241
                    obtain ⟨v243, e243⟩ : ∃ z, M4 598 100 = z := ⟨_, rfl⟩
                    have b243 : 0 ≤ v243 ∧ v243 ≤ 13 := by rw [← e243]; exact hI_M4 598 100 (by decide)
                    have e244 : M215 598 100 = v243 := ((w215_2 100 (by decide) (by decide)).trans e243)
                    have y245 : M215 598 100 = v243 := e244
                    obtain ⟨v246, e246⟩ : ∃ z, M 598 107 = z := ⟨_, rfl⟩
                    have b246 : 0 ≤ v246 ∧ v246 ≤ 16 := by rw [← e246]; exact hI_M 598 107 (by decide)
                    have e247 : M2 598 107 = v246 := ((w2_4 107 (by decide) (by decide) (by decide)).trans e246)
                    have e248 : M3 598 107 = v246 := ((w3_5 107 (by decide) (by decide) (by decide) (by decide) (by decide) (by decide) (by decide) (by decide) (by decide) (by decide) (by decide) (by decide) (by decide)).trans e247)
                    have e249 : M4 598 107 = v246 := ((w4_4 107 (by decide) (by decide) (by decide)).trans e248)
                    have e250 : M215 598 107 = v246 := ((w215_2 107 (by decide) (by decide)).trans e249)
                    have y251 : M215 598 107 = v246 := e250
                    refine jr.pick [2, 3, 4] rfl rfl ?_
                    have y252 : M215 598 80 = v234 := e234
                    exact ih (nM - 1) (by omega) M215 o m hI_M215 hH_M215 hS_M215  (fun a i f598 f659 f660 f664 f665 f666 f667 => ((w215_1 a i f598).trans ((w4_3 a i f598 f659 f660).trans ((w3_4 a i f598 f659 f660 f664 f665 f666 f667).trans ((w2_3 a i f598 f659 f660).trans (hF_M a i f598 f659 f660 f664 f665 f666 f667)))))) (fun i g73 g74 g75 g76 g77 g78 g79 g80 g81 g89 g90 g100 g102 => ((w215_2 i g80 g81).trans ((w4_4 i g90 g100 g102).trans ((w3_5 i g73 g74 g75 g76 g77 g78 g79 g80 g81 g89 g90 g100 g102).trans ((w2_4 i g90 g100 g102).trans (hG_M i g73 g74 g75 g76 g77 g78 g79 g80 g81 g89 g90 g100 g102)))))) (by omega) (by omega) (by by_cases hf : v234 = 0; (first | (exfalso; omega) | (exact Or.inr (GS.cast (o := 0) ⟨by omega, ES.adj hE (k' := 0) (z' := 0) (by omega) (by omega) (by omega), by omega, by omega, by omega, by omega⟩ (by omega)))); (exact Or.inl ⟨by omega, by omega⟩)) (by omega) (by omega) (by rw [e224, e220] <;> omega) (by omega) (by omega)
                  · refine jr.if_eq rfl rfl (by omega) (fun _ => ?_) (fun h => absurd (by decide) h)
                    refine jr.aload_n rfl rfl ?_
                    refine jr_v rfl rfl (Or.inl rfl) rfl rfl (by decide) rfl ⟨rfl, Nat.le_of_ble_eq_true rfl, Nat.le_of_ble_eq_true rfl⟩ rfl (jc.deep (r_wrongToken hI_M4 hH_M4 hS_M4    (fun M253 hI_M253 hH_M253 hS_M253  w253_0 w253_1 w253_2 => ?_)) (by decide))
                    have tk253 : TK M253 = TK M4 := TK.fr (w253_2 73 (by decide) (by decide)) (w253_2 74 (by decide) (by decide))
                    refine jr.goto rfl rfl ?_
                    obtain ⟨v254, e254⟩ : ∃ z, M 598 72 = z := ⟨_, rfl⟩
                    have b254 : 0 ≤ v254 ∧ v254 ≤ 1600 := by rw [← e254]; exact hI_M 598 72 (by decide)
                    have e255 : M2 598 72 = v254 := ((w2_4 72 (by decide) (by decide) (by decide)).trans e254)
                    have e256 : M3 598 72 = v254 := ((w3_5 72 (by decide) (by decide) (by decide) (by decide) (by decide) (by decide) (by decide) (by decide) (by decide) (by decide) (by decide) (by decide) (by decide)).trans e255)
                    have e257 : M4 598 72 = v254 := ((w4_4 72 (by decide) (by decide) (by decide)).trans e256)
                    have e258 : M253 598 72 = v254 := ((w253_2 72 (by decide) (by decide)).trans e257)
                    have y259 : M253 598 72 = v254 := e258
                    obtain ⟨v260, e260⟩ : ∃ z, M3 598 73 = z := ⟨_, rfl⟩
                    have b260 : 0 ≤ v260 ∧ v260 ≤ 1600 := by rw [← e260]; exact hI_M3 598 73 (by decide)
                    have e261 : M4 598 73 = v260 := ((w4_4 73 (by decide) (by decide) (by decide)).trans e260)
                    have e262 : M253 598 73 = v260 := ((w253_2 73 (by decide) (by decide)).trans e261)
                    have y263 : M253 598 73 = v260 := e262
                    obtain ⟨v264, e264⟩ : ∃ z, M3 598 74 = z := ⟨_, rfl⟩
                    have b264 : 0 ≤ v264 ∧ v264 ≤ 4 := by rw [← e264]; exact hI_M3 598 74 (by decide)
                    have e265 : M4 598 74 = v264 := ((w4_4 74 (by decide) (by decide) (by decide)).trans e264)
                    have e266 : M253 598 74 = v264 := ((w253_2 74 (by decide) (by decide)).trans e265)
                    have y267 : M253 598 74 = v264 := e266
                    obtain ⟨v268, e268⟩ : ∃ z, M3 598 79 = z := ⟨_, rfl⟩
                    have b268 : 0 ≤ v268 ∧ v268 ≤ 255 := by rw [← e268]; exact hI_M3 598 79 (by decide)
                    have e269 : M4 598 79 = v268 := ((w4_4 79 (by decide) (by decide) (by decide)).trans e268)
                    have e270 : M253 598 79 = v268 := ((w253_2 79 (by decide) (by decide)).trans e269)
                    have y271 : M253 598 79 = v268 := e270
                    obtain ⟨v272, e272⟩ : ∃ z, M253 598 80 = z := ⟨_, rfl⟩
                    have b272 : 0 ≤ v272 ∧ v272 ≤ 7 := by rw [← e272]; exact hI_M253 598 80 (by decide)
                    have y273 : M253 598 80 = v272 := e272
                    obtain ⟨v274, e274⟩ : ∃ z, M3 598 89 = z := ⟨_, rfl⟩
                    have b274 : 0 ≤ v274 ∧ v274 ≤ 301 := by rw [← e274]; exact hI_M3 598 89 (by decide)
                    have e275 : M4 598 89 = v274 := ((w4_4 89 (by decide) (by decide) (by decide)).trans e274)
                    have e276 : M253 598 89 = v274 := ((w253_2 89 (by decide) (by decide)).trans e275)
                    have y277 : M253 598 89 = v274 := e276
                    obtain ⟨v278, e278⟩ : ∃ z, M4 598 90 = z := ⟨_, rfl⟩
                    have b278 : 0 ≤ v278 ∧ v278 ≤ 2200 := by rw [← e278]; exact hI_M4 598 90 (by decide)
                    have e279 : M253 598 90 = v278 := ((w253_2 90 (by decide) (by decide)).trans e278)
                    have y280 : M253 598 90 = v278 := e279
                    obtain ⟨v281, e281⟩ : ∃ z, M4 598 100 = z := ⟨_, rfl⟩
                    have b281 : 0 ≤ v281 ∧ v281 ≤ 13 := by rw [← e281]; exact hI_M4 598 100 (by decide)
                    have e282 : M253 598 100 = v281 := ((w253_2 100 (by decide) (by decide)).trans e281)
                    have y283 : M253 598 100 = v281 := e282
                    obtain ⟨v284, e284⟩ : ∃ z, M 598 107 = z := ⟨_, rfl⟩
                    have b284 : 0 ≤ v284 ∧ v284 ≤ 16 := by rw [← e284]; exact hI_M 598 107 (by decide)
                    have e285 : M2 598 107 = v284 := ((w2_4 107 (by decide) (by decide) (by decide)).trans e284)
                    have e286 : M3 598 107 = v284 := ((w3_5 107 (by decide) (by decide) (by decide) (by decide) (by decide) (by decide) (by decide) (by decide) (by decide) (by decide) (by decide) (by decide) (by decide)).trans e285)
                    have e287 : M4 598 107 = v284 := ((w4_4 107 (by decide) (by decide) (by decide)).trans e286)
                    have e288 : M253 598 107 = v284 := ((w253_2 107 (by decide) (by decide)).trans e287)
                    have y289 : M253 598 107 = v284 := e288
                    refine jr.pick [2, 3, 4] rfl rfl ?_
                    have y290 : M253 598 80 = v272 := e272
                    exact ih (nM - 1) (by omega) M253 o m hI_M253 hH_M253 hS_M253  (fun a i f598 f659 f660 f664 f665 f666 f667 => ((w253_1 a i f598).trans ((w4_3 a i f598 f659 f660).trans ((w3_4 a i f598 f659 f660 f664 f665 f666 f667).trans ((w2_3 a i f598 f659 f660).trans (hF_M a i f598 f659 f660 f664 f665 f666 f667)))))) (fun i g73 g74 g75 g76 g77 g78 g79 g80 g81 g89 g90 g100 g102 => ((w253_2 i g80 g81).trans ((w4_4 i g90 g100 g102).trans ((w3_5 i g73 g74 g75 g76 g77 g78 g79 g80 g81 g89 g90 g100 g102).trans ((w2_4 i g90 g100 g102).trans (hG_M i g73 g74 g75 g76 g77 g78 g79 g80 g81 g89 g90 g100 g102)))))) (by omega) (by omega) (by by_cases hf : v272 = 0; (first | (exfalso; omega) | (exact Or.inr (GS.cast (o := 0) ⟨by omega, ES.adj hE (k' := 0) (z' := 0) (by omega) (by omega) (by omega), by omega, by omega, by omega, by omega⟩ (by omega)))); (exact Or.inl ⟨by omega, by omega⟩)) (by omega) (by omega) (by rw [e262, e258] <;> omega) (by omega) (by omega)
              · refine jr.iconst rfl ?_
                refine jr.goto rfl rfl ?_
                refine jr.istore rfl (by decide) rfl ?_
                refine jr.aload_n rfl rfl ?_
                refine jr.bipush rfl (by decide) ?_
                refine jr_v rfl rfl (Or.inl rfl) rfl rfl (by decide) rfl ⟨rfl, Nat.le_of_ble_eq_true rfl, Nat.le_of_ble_eq_true rfl⟩ rfl (jc.deep (c_isSign hI_M4 (by omega) (fun t122_0 t122_1 => ?_) (fun f122_0 => ?_)) (by decide))
                · have tq := ES.top40 gs2 (by omega) (by rw [hsg]; omega)
                  rw [hsg, e6] at tq
                  have dp1 := ES.dpos gs2 (by omega)
                  rw [hsg] at dp1
                  have dp2 := dp1 (Or.inl tq.1)
                  refine jr.if_eq rfl rfl (by omega) (fun h => absurd h (by decide)) (fun _ => ?_)
                  refine jr.iload rfl rfl ?_
                  refine jr.if_ne rfl rfl (by omega) (fun _ => ?_) (fun h => absurd (by decide) h)
                  refine jr.aload_n rfl rfl ?_
                  refine jr.bipush rfl (by decide) ?_
                  refine jr_v rfl rfl (Or.inl rfl) rfl rfl (by decide) rfl ⟨rfl, Nat.le_of_ble_eq_true rfl, Nat.le_of_ble_eq_true rfl⟩ rfl (jc.deep (c_isSign hI_M4 (by omega) (fun t160_0 t160_1 => ?_) (fun f160_0 => ?_)) (by decide))
                  · refine jr.if_eq rfl rfl (by omega) (fun h => absurd h (by decide)) (fun _ => ?_)
                    refine jr.iload rfl rfl ?_
                    refine jr.if_eq rfl rfl (by omega) (fun h => absurd h (by decide)) (fun _ => ?_)
                    refine jr.aload_n rfl rfl ?_
                    refine jr.dup rfl rfl ?_
                    refine jr.getf (i := 102) (x := sg) (v := .int (Int32.ofInt (sg))) rfl rfl (by decide) rfl (by decide) rfl rfl hsg rfl ?_
                    refine jr.iconst rfl ?_
                    refine jr.isub rfl ?_
                    refine jr.putf (i := 102) (x := (sg - 1)) rfl rfl (by decide) rfl (by decide) rfl rfl rfl rfl rfl ?_
                    refine jr.aload_n rfl rfl ?_
                    refine jr.dup rfl rfl ?_
                    obtain ⟨v291, e291⟩ : ∃ z, M4 598 100 = z := ⟨_, rfl⟩
                    have b291 : 0 ≤ v291 ∧ v291 ≤ 13 := by rw [← e291]; exact hI_M4 598 100 (by decide)
                    refine jr.getf (i := 100) (x := v291) (v := .int (Int32.ofInt (v291))) rfl rfl (by decide) rfl (by decide) rfl rfl ((ju_i _ _ (by decide)).trans e291) rfl ?_
                    refine jr.iconst rfl ?_
                    refine jr.isub rfl ?_
                    refine jr.putf (i := 100) (x := (v291 - 1)) rfl rfl (by decide) rfl (by decide) rfl rfl rfl rfl rfl ?_
                    refine jr.aload_n rfl rfl ?_
                    obtain ⟨v293, e293⟩ : ∃ z, M3 598 73 = z := ⟨_, rfl⟩
                    have b293 : 0 ≤ v293 ∧ v293 ≤ 1600 := by rw [← e293]; exact hI_M3 598 73 (by decide)
                    have e294 : M4 598 73 = v293 := ((w4_4 73 (by decide) (by decide) (by decide)).trans e293)
                    obtain ⟨v295, e295⟩ : ∃ z, M 598 72 = z := ⟨_, rfl⟩
                    have b295 : 0 ≤ v295 ∧ v295 ≤ 1600 := by rw [← e295]; exact hI_M 598 72 (by decide)
                    have e296 : M2 598 72 = v295 := ((w2_4 72 (by decide) (by decide) (by decide)).trans e295)
                    have e297 : M3 598 72 = v295 := ((w3_5 72 (by decide) (by decide) (by decide) (by decide) (by decide) (by decide) (by decide) (by decide) (by decide) (by decide) (by decide) (by decide) (by decide)).trans e296)
                    have e298 : M4 598 72 = v295 := ((w4_4 72 (by decide) (by decide) (by decide)).trans e297)
                    obtain ⟨v300, e300⟩ : ∃ z, M3 598 89 = z := ⟨_, rfl⟩
                    have b300 : 0 ≤ v300 ∧ v300 ≤ 301 := by rw [← e300]; exact hI_M3 598 89 (by decide)
                    have e301 : M4 598 89 = v300 := ((w4_4 89 (by decide) (by decide) (by decide)).trans e300)
                    obtain ⟨v305, e305⟩ : ∃ z, M3 598 74 = z := ⟨_, rfl⟩
                    have b305 : 0 ≤ v305 ∧ v305 ≤ 4 := by rw [← e305]; exact hI_M3 598 74 (by decide)
                    have e306 : M4 598 74 = v305 := ((w4_4 74 (by decide) (by decide) (by decide)).trans e305)
                    refine jr_v rfl rfl (Or.inl rfl) rfl rfl (by decide) rfl ⟨rfl, Nat.le_of_ble_eq_true rfl, Nat.le_of_ble_eq_true rfl⟩ rfl (jc.deep (r_next (RI.u (RI.u hI_M4 (a := 598) (i := 102) (show (0 : Int) ≤ _ ∧ _ ≤ (400 : Int) from by omega)) (a := 598) (i := 100) (show (0 : Int) ≤ _ ∧ _ ≤ (13 : Int) from by omega)) (RH.o (RH.o hH_M4 (by decide) (by decide) (by decide)) (by decide) (by decide) (by decide)) (RF.o (RF.o hS_M4 (by decide) (by decide)) (by decide) (by decide))   (by rw [((ju_i _ _ (by decide)).trans ((ju_i _ _ (by decide)).trans e294)), ((ju_i _ _ (by decide)).trans ((ju_i _ _ (by decide)).trans e298))]; omega) (fun M292 hI_M292 hH_M292 hS_M292  w292_0 w292_1 w292_2 w292_3 w292_4 w292_5 w292_6 => ?_)) (by decide))
                    have y304 : (ju (ju M4 598 102 (sg - 1)) 598 100 (v291 - 1)) 598 73 = v293 := ((ju_i _ _ (by decide)).trans ((ju_i _ _ (by decide)).trans e294))
                    have y307 : (ju (ju M4 598 102 (sg - 1)) 598 100 (v291 - 1)) 598 74 = v305 := ((ju_i _ _ (by decide)).trans ((ju_i _ _ (by decide)).trans e306))
                    have tb292 : TK (ju (ju M4 598 102 (sg - 1)) 598 100 (v291 - 1)) = TK M4 := ((TK.o (Or.inr ⟨by decide, by decide⟩)).trans ((TK.o (Or.inr ⟨by decide, by decide⟩)).trans rfl))
                    have hE := ES.clo1 gs2 hsg e291 tq.1 e6 (by omega) (by omega)
                    have ck : 0 ≤ kcK v5 := by unfold kcK; split <;> omega
                    have y299 : (ju (ju M4 598 102 (sg - 1)) 598 100 (v291 - 1)) 598 73 = v293 := ((ju_i _ _ (by decide)).trans ((ju_i _ _ (by decide)).trans e294))
                    have y302 : (ju (ju M4 598 102 (sg - 1)) 598 100 (v291 - 1)) 598 89 = v300 := ((ju_i _ _ (by decide)).trans ((ju_i _ _ (by decide)).trans e301))
                    have y303 : (ju (ju M4 598 102 (sg - 1)) 598 100 (v291 - 1)) 598 100 = v291 - 1 := (ju_same _ _ _ _)
                    have x292_89 := w292_6 89 (by decide) (by decide) (by decide) (by decide) (by decide) (by decide) (by decide)
                    have x292_100 := w292_6 100 (by decide) (by decide) (by decide) (by decide) (by decide) (by decide) (by decide)
                    have hE := ES.fr2 hE w292_5 (w292_6 88 (by decide) (by decide) (by decide) (by decide) (by decide) (by decide) (by decide)) (w292_6 90 (by decide) (by decide) (by decide) (by decide) (by decide) (by decide) (by decide)) (w292_6 101 (by decide) (by decide) (by decide) (by decide) (by decide) (by decide) (by decide)) (w292_6 102 (by decide) (by decide) (by decide) (by decide) (by decide) (by decide) (by decide)) (w292_6 107 (by decide) (by decide) (by decide) (by decide) (by decide) (by decide) (by decide)) (k' := (kcK v5)) (d' := 0) (z' := 0) (by omega) (by omega) (by omega) (by omega)
                    have co1 : v5 = -1 → kcO v5 = 1 := fun z => by unfold kcO; rw [if_pos z]
                    refine jr.iload_n rfl rfl ?_
                    refine jr.iconst rfl ?_
                    refine jr.icmp_eq rfl rfl (by omega) (by omega) (fun h197 => ?_) (fun h197 => ?_)
                    · exact absurd h197 (by omega)
                    · refine jr.aload_n rfl rfl ?_
                      refine jr.sipush rfl (by decide) ?_
                      refine jr.iload_n rfl rfl ?_
                      refine jr.iadd rfl ?_
                      refine jr.lconst (x := 0) rfl (by decide) ?_
                      obtain ⟨v308, e308⟩ : ∃ z, M4 598 90 = z := ⟨_, rfl⟩
                      have b308 : 0 ≤ v308 ∧ v308 ≤ 2200 := by rw [← e308]; exact hI_M4 598 90 (by decide)
                      have e309 : M292 598 90 = v308 := ((w292_6 90 (by decide) (by decide) (by decide) (by decide) (by decide) (by decide) (by decide)).trans ((ju_i _ _ (by decide)).trans ((ju_i _ _ (by decide)).trans e308)))
                      have e310 : M292 598 100 = v291 - 1 := ((w292_6 100 (by decide) (by decide) (by decide) (by decide) (by decide) (by decide) (by decide)).trans (ju_same _ _ _ _))
                      obtain ⟨v312, e312⟩ : ∃ z, M 598 107 = z := ⟨_, rfl⟩
                      have b312 : 0 ≤ v312 ∧ v312 ≤ 16 := by rw [← e312]; exact hI_M 598 107 (by decide)
                      have e313 : M2 598 107 = v312 := ((w2_4 107 (by decide) (by decide) (by decide)).trans e312)
                      have e314 : M3 598 107 = v312 := ((w3_5 107 (by decide) (by decide) (by decide) (by decide) (by decide) (by decide) (by decide) (by decide) (by decide) (by decide) (by decide) (by decide) (by decide)).trans e313)
                      have e315 : M4 598 107 = v312 := ((w4_4 107 (by decide) (by decide) (by decide)).trans e314)
                      have e316 : M292 598 107 = v312 := ((w292_6 107 (by decide) (by decide) (by decide) (by decide) (by decide) (by decide) (by decide)).trans ((ju_i _ _ (by decide)).trans ((ju_i _ _ (by decide)).trans e315)))
                      refine jr_v rfl rfl (Or.inl rfl) rfl rfl (by decide) rfl ⟨rfl, Nat.le_of_ble_eq_true rfl, Nat.le_of_ble_eq_true rfl⟩ rfl (jc.deep (r_emit e309 (by omega) (by omega) (by omega) ?_) (by decide))
                      have y311 : M292 598 100 = v291 - 1 := e310
                      have y317 : M292 598 107 = v312 := e316
                      have al := argn_le v5
                      have co : kcO v5 = argn v5 := by unfold kcO; rw [if_neg (by omega)]
                      have ck2 : kcK v5 = 2 := by unfold kcK; rw [if_neg (by omega)]
                      have nd : ndo (340 + v5) = argn v5 := (by rcases (show v5 = 25 ∨ v5 = 26 ∨ v5 = 27 ∨ v5 = 28 ∨ v5 = 29 ∨ v5 = 30 by omega) with r | r | r | r | r | r <;> rw [r] <;> decide)
                      have dl : dlo (340 + v5) = 1 - argn v5 := (by rcases (show v5 = 25 ∨ v5 = 26 ∨ v5 = 27 ∨ v5 = 28 ∨ v5 = 29 ∨ v5 = 30 by omega) with r | r | r | r | r | r <;> rw [r] <;> decide)
                      have hE := ES.emit hE e309 (340 + v5) 0 0 (by unfold vop; omega) (by omega) (by unfold exo; omega) (by unfold jpo; omega) (by omega) (by omega) (by omega) (by omega) (by omega) (by omega)
                      refine jr.goto rfl rfl ?_
                      refine jr.goto rfl rfl ?_
                      have e318 : M292 598 72 = v295 := ((w292_6 72 (by decide) (by decide) (by decide) (by decide) (by decide) (by decide) (by decide)).trans ((ju_i _ _ (by decide)).trans ((ju_i _ _ (by decide)).trans e298)))
                      have y319 : (ju (ju (ju M292 659 v308 (340 + v5)) 660 v308 0) 598 90 (v308 + 1)) 598 72 = v295 := ((ju_i _ _ (by decide)).trans ((ju_c _ _ (by decide)).trans ((ju_c _ _ (by decide)).trans e318)))
                      obtain ⟨v320, e320⟩ : ∃ z, M292 598 73 = z := ⟨_, rfl⟩
                      have b320 : 0 ≤ v320 ∧ v320 ≤ 1600 := by rw [← e320]; exact hI_M292 598 73 (by decide)
                      have y321 : (ju (ju (ju M292 659 v308 (340 + v5)) 660 v308 0) 598 90 (v308 + 1)) 598 73 = v320 := ((ju_i _ _ (by decide)).trans ((ju_c _ _ (by decide)).trans ((ju_c _ _ (by decide)).trans e320)))
                      obtain ⟨v322, e322⟩ : ∃ z, M292 598 74 = z := ⟨_, rfl⟩
                      have b322 : 0 ≤ v322 ∧ v322 ≤ 4 := by rw [← e322]; exact hI_M292 598 74 (by decide)
                      have y323 : (ju (ju (ju M292 659 v308 (340 + v5)) 660 v308 0) 598 90 (v308 + 1)) 598 74 = v322 := ((ju_i _ _ (by decide)).trans ((ju_c _ _ (by decide)).trans ((ju_c _ _ (by decide)).trans e322)))
                      obtain ⟨v324, e324⟩ : ∃ z, M292 598 79 = z := ⟨_, rfl⟩
                      have b324 : 0 ≤ v324 ∧ v324 ≤ 255 := by rw [← e324]; exact hI_M292 598 79 (by decide)
                      have y325 : (ju (ju (ju M292 659 v308 (340 + v5)) 660 v308 0) 598 90 (v308 + 1)) 598 79 = v324 := ((ju_i _ _ (by decide)).trans ((ju_c _ _ (by decide)).trans ((ju_c _ _ (by decide)).trans e324)))
                      obtain ⟨v326, e326⟩ : ∃ z, M3 598 80 = z := ⟨_, rfl⟩
                      have b326 : 0 ≤ v326 ∧ v326 ≤ 7 := by rw [← e326]; exact hI_M3 598 80 (by decide)
                      have e327 : M4 598 80 = v326 := ((w4_4 80 (by decide) (by decide) (by decide)).trans e326)
                      have e328 : M292 598 80 = v326 := ((w292_6 80 (by decide) (by decide) (by decide) (by decide) (by decide) (by decide) (by decide)).trans ((ju_i _ _ (by decide)).trans ((ju_i _ _ (by decide)).trans e327)))
                      have y329 : (ju (ju (ju M292 659 v308 (340 + v5)) 660 v308 0) 598 90 (v308 + 1)) 598 80 = v326 := ((ju_i _ _ (by decide)).trans ((ju_c _ _ (by decide)).trans ((ju_c _ _ (by decide)).trans e328)))
                      have e330 : M292 598 89 = v300 := ((w292_6 89 (by decide) (by decide) (by decide) (by decide) (by decide) (by decide) (by decide)).trans ((ju_i _ _ (by decide)).trans ((ju_i _ _ (by decide)).trans e301)))
                      have y331 : (ju (ju (ju M292 659 v308 (340 + v5)) 660 v308 0) 598 90 (v308 + 1)) 598 89 = v300 := ((ju_i _ _ (by decide)).trans ((ju_c _ _ (by decide)).trans ((ju_c _ _ (by decide)).trans e330)))
                      have y332 : (ju (ju (ju M292 659 v308 (340 + v5)) 660 v308 0) 598 90 (v308 + 1)) 598 90 = v308 + 1 := (ju_same _ _ _ _)
                      have y333 : (ju (ju (ju M292 659 v308 (340 + v5)) 660 v308 0) 598 90 (v308 + 1)) 598 100 = v291 - 1 := ((ju_i _ _ (by decide)).trans ((ju_c _ _ (by decide)).trans ((ju_c _ _ (by decide)).trans e310)))
                      have y334 : (ju (ju (ju M292 659 v308 (340 + v5)) 660 v308 0) 598 90 (v308 + 1)) 598 107 = v312 := ((ju_i _ _ (by decide)).trans ((ju_c _ _ (by decide)).trans ((ju_c _ _ (by decide)).trans e316)))
                      have y335 : TK (ju (ju (ju M292 659 v308 (340 + v5)) 660 v308 0) 598 90 (v308 + 1)) = TK M292 := ((TK.o (Or.inr ⟨by decide, by decide⟩)).trans ((TK.o (Or.inl (by decide))).trans ((TK.o (Or.inl (by decide))).trans rfl)))
                      refine jr.pick [2, 3, 4] rfl rfl ?_
                      have y336 : (ju (ju (ju M292 659 v308 (340 + v5)) 660 v308 0) 598 90 (v308 + 1)) 598 80 = v326 := ((ju_i _ _ (by decide)).trans ((ju_c _ _ (by decide)).trans ((ju_c _ _ (by decide)).trans e328)))
                      have y337 : TK (ju (ju (ju M292 659 v308 (340 + v5)) 660 v308 0) 598 90 (v308 + 1)) = TK M292 := ((TK.o (Or.inr ⟨by decide, by decide⟩)).trans ((TK.o (Or.inl (by decide))).trans ((TK.o (Or.inl (by decide))).trans rfl)))
                      exact ih (nM - 1) (by omega) (ju (ju (ju M292 659 v308 (340 + v5)) 660 v308 0) 598 90 (v308 + 1)) o m (RI.u (RI.u (RI.u hI_M292 (a := 659) (i := v308) (by rw [xri_row rfl rfl]; show (0 : Int) ≤ _ ∧ _ ≤ (1000 : Int); omega)) (a := 660) (i := v308) (by rw [xri_row rfl rfl]; show (-9223372036854775808 : Int) ≤ _ ∧ _ ≤ (9223372036854775807 : Int); omega)) (a := 598) (i := 90) (show (0 : Int) ≤ _ ∧ _ ≤ (2200 : Int) from by omega)) (RH.o (RH.o (RH.o hH_M292 (by decide) (by decide) (by decide)) (by decide) (by decide) (by decide)) (by decide) (by decide) (by decide)) (RF.o (RF.o (RF.o hS_M292 (by decide) (by decide)) (by decide) (by decide)) (by decide) (by decide))  (fun a i f598 f659 f660 f664 f665 f666 f667 => ((ju_c _ _ f598).trans ((ju_c _ _ f660).trans ((ju_c _ _ f659).trans ((w292_5 a i f598).trans ((ju_c _ _ f598).trans ((ju_c _ _ f598).trans ((w4_3 a i f598 f659 f660).trans ((w3_4 a i f598 f659 f660 f664 f665 f666 f667).trans ((w2_3 a i f598 f659 f660).trans (hF_M a i f598 f659 f660 f664 f665 f666 f667))))))))))) (fun i g73 g74 g75 g76 g77 g78 g79 g80 g81 g89 g90 g100 g102 => ((ju_i _ _ g90).trans ((ju_c _ _ (by decide)).trans ((ju_c _ _ (by decide)).trans ((w292_6 i g73 g74 g75 g76 g77 g78 g79).trans ((ju_i _ _ g100).trans ((ju_i _ _ g102).trans ((w4_4 i g90 g100 g102).trans ((w3_5 i g73 g74 g75 g76 g77 g78 g79 g80 g81 g89 g90 g100 g102).trans ((w2_4 i g90 g100 g102).trans (hG_M i g73 g74 g75 g76 g77 g78 g79 g80 g81 g89 g90 g100 g102))))))))))) (by omega) (by omega) (by by_cases hf : v326 = 0; (first | (exfalso; omega) | (exact Or.inr (GS.cast (o := kcO v5 + dlo (340 + v5)) ⟨by omega, ES.adj hE (k' := 0) (z' := 0) (by omega) (by omega) (by omega), by omega, by omega, by omega, by omega⟩ (by omega)))); (exact Or.inl ⟨by omega, by omega⟩)) (by omega) (by omega) (by rw [((ju_i _ _ (by decide)).trans ((ju_c _ _ (by decide)).trans ((ju_c _ _ (by decide)).trans e320))), ((ju_i _ _ (by decide)).trans ((ju_c _ _ (by decide)).trans ((ju_c _ _ (by decide)).trans e318)))] <;> omega) (by omega) (by omega)
                  · refine jr.if_eq rfl rfl (by omega) (fun _ => ?_) (fun h => absurd (by decide) h)
                    refine jr.aload_n rfl rfl ?_
                    refine jr_v rfl rfl (Or.inl rfl) rfl rfl (by decide) rfl ⟨rfl, Nat.le_of_ble_eq_true rfl, Nat.le_of_ble_eq_true rfl⟩ rfl (jc.deep (r_wrongToken hI_M4 hH_M4 hS_M4    (fun M338 hI_M338 hH_M338 hS_M338  w338_0 w338_1 w338_2 => ?_)) (by decide))
                    have tk338 : TK M338 = TK M4 := TK.fr (w338_2 73 (by decide) (by decide)) (w338_2 74 (by decide) (by decide))
                    refine jr.goto rfl rfl ?_
                    obtain ⟨v339, e339⟩ : ∃ z, M 598 72 = z := ⟨_, rfl⟩
                    have b339 : 0 ≤ v339 ∧ v339 ≤ 1600 := by rw [← e339]; exact hI_M 598 72 (by decide)
                    have e340 : M2 598 72 = v339 := ((w2_4 72 (by decide) (by decide) (by decide)).trans e339)
                    have e341 : M3 598 72 = v339 := ((w3_5 72 (by decide) (by decide) (by decide) (by decide) (by decide) (by decide) (by decide) (by decide) (by decide) (by decide) (by decide) (by decide) (by decide)).trans e340)
                    have e342 : M4 598 72 = v339 := ((w4_4 72 (by decide) (by decide) (by decide)).trans e341)
                    have e343 : M338 598 72 = v339 := ((w338_2 72 (by decide) (by decide)).trans e342)
                    have y344 : M338 598 72 = v339 := e343
                    obtain ⟨v345, e345⟩ : ∃ z, M3 598 73 = z := ⟨_, rfl⟩
                    have b345 : 0 ≤ v345 ∧ v345 ≤ 1600 := by rw [← e345]; exact hI_M3 598 73 (by decide)
                    have e346 : M4 598 73 = v345 := ((w4_4 73 (by decide) (by decide) (by decide)).trans e345)
                    have e347 : M338 598 73 = v345 := ((w338_2 73 (by decide) (by decide)).trans e346)
                    have y348 : M338 598 73 = v345 := e347
                    obtain ⟨v349, e349⟩ : ∃ z, M3 598 74 = z := ⟨_, rfl⟩
                    have b349 : 0 ≤ v349 ∧ v349 ≤ 4 := by rw [← e349]; exact hI_M3 598 74 (by decide)
                    have e350 : M4 598 74 = v349 := ((w4_4 74 (by decide) (by decide) (by decide)).trans e349)
                    have e351 : M338 598 74 = v349 := ((w338_2 74 (by decide) (by decide)).trans e350)
                    have y352 : M338 598 74 = v349 := e351
                    obtain ⟨v353, e353⟩ : ∃ z, M3 598 79 = z := ⟨_, rfl⟩
                    have b353 : 0 ≤ v353 ∧ v353 ≤ 255 := by rw [← e353]; exact hI_M3 598 79 (by decide)
                    have e354 : M4 598 79 = v353 := ((w4_4 79 (by decide) (by decide) (by decide)).trans e353)
                    have e355 : M338 598 79 = v353 := ((w338_2 79 (by decide) (by decide)).trans e354)
                    have y356 : M338 598 79 = v353 := e355
                    obtain ⟨v357, e357⟩ : ∃ z, M338 598 80 = z := ⟨_, rfl⟩
                    have b357 : 0 ≤ v357 ∧ v357 ≤ 7 := by rw [← e357]; exact hI_M338 598 80 (by decide)
                    have y358 : M338 598 80 = v357 := e357
                    obtain ⟨v359, e359⟩ : ∃ z, M3 598 89 = z := ⟨_, rfl⟩
                    have b359 : 0 ≤ v359 ∧ v359 ≤ 301 := by rw [← e359]; exact hI_M3 598 89 (by decide)
                    have e360 : M4 598 89 = v359 := ((w4_4 89 (by decide) (by decide) (by decide)).trans e359)
                    have e361 : M338 598 89 = v359 := ((w338_2 89 (by decide) (by decide)).trans e360)
                    have y362 : M338 598 89 = v359 := e361
                    obtain ⟨v363, e363⟩ : ∃ z, M4 598 90 = z := ⟨_, rfl⟩
                    have b363 : 0 ≤ v363 ∧ v363 ≤ 2200 := by rw [← e363]; exact hI_M4 598 90 (by decide)
                    have e364 : M338 598 90 = v363 := ((w338_2 90 (by decide) (by decide)).trans e363)
                    have y365 : M338 598 90 = v363 := e364
                    obtain ⟨v366, e366⟩ : ∃ z, M4 598 100 = z := ⟨_, rfl⟩
                    have b366 : 0 ≤ v366 ∧ v366 ≤ 13 := by rw [← e366]; exact hI_M4 598 100 (by decide)
                    have e367 : M338 598 100 = v366 := ((w338_2 100 (by decide) (by decide)).trans e366)
                    have y368 : M338 598 100 = v366 := e367
                    obtain ⟨v369, e369⟩ : ∃ z, M 598 107 = z := ⟨_, rfl⟩
                    have b369 : 0 ≤ v369 ∧ v369 ≤ 16 := by rw [← e369]; exact hI_M 598 107 (by decide)
                    have e370 : M2 598 107 = v369 := ((w2_4 107 (by decide) (by decide) (by decide)).trans e369)
                    have e371 : M3 598 107 = v369 := ((w3_5 107 (by decide) (by decide) (by decide) (by decide) (by decide) (by decide) (by decide) (by decide) (by decide) (by decide) (by decide) (by decide) (by decide)).trans e370)
                    have e372 : M4 598 107 = v369 := ((w4_4 107 (by decide) (by decide) (by decide)).trans e371)
                    have e373 : M338 598 107 = v369 := ((w338_2 107 (by decide) (by decide)).trans e372)
                    have y374 : M338 598 107 = v369 := e373
                    refine jr.pick [2, 3, 4] rfl rfl ?_
                    have y375 : M338 598 80 = v357 := e357
                    exact ih (nM - 1) (by omega) M338 o m hI_M338 hH_M338 hS_M338  (fun a i f598 f659 f660 f664 f665 f666 f667 => ((w338_1 a i f598).trans ((w4_3 a i f598 f659 f660).trans ((w3_4 a i f598 f659 f660 f664 f665 f666 f667).trans ((w2_3 a i f598 f659 f660).trans (hF_M a i f598 f659 f660 f664 f665 f666 f667)))))) (fun i g73 g74 g75 g76 g77 g78 g79 g80 g81 g89 g90 g100 g102 => ((w338_2 i g80 g81).trans ((w4_4 i g90 g100 g102).trans ((w3_5 i g73 g74 g75 g76 g77 g78 g79 g80 g81 g89 g90 g100 g102).trans ((w2_4 i g90 g100 g102).trans (hG_M i g73 g74 g75 g76 g77 g78 g79 g80 g81 g89 g90 g100 g102)))))) (by omega) (by omega) (by by_cases hf : v357 = 0; (first | (exfalso; omega) | (exact Or.inr (GS.cast (o := 0) ⟨by omega, ES.adj hE (k' := 0) (z' := 0) (by omega) (by omega) (by omega), by omega, by omega, by omega, by omega⟩ (by omega)))); (exact Or.inl ⟨by omega, by omega⟩)) (by omega) (by omega) (by rw [e347, e343] <;> omega) (by omega) (by omega)
                · have tq := ES.top40 gs2 (by omega) (by rw [hsg]; omega)
                  rw [hsg, e6] at tq
                  have dp1 := ES.dpos gs2 (by omega)
                  rw [hsg] at dp1
                  have dp2 := dp1 (Or.inl tq.1)
                  refine jr.if_eq rfl rfl (by omega) (fun _ => ?_) (fun h => absurd (by decide) h)
                  refine jr.aload_n rfl rfl ?_
                  refine jr.bipush rfl (by decide) ?_
                  refine jr_v rfl rfl (Or.inl rfl) rfl rfl (by decide) rfl ⟨rfl, Nat.le_of_ble_eq_true rfl, Nat.le_of_ble_eq_true rfl⟩ rfl (jc.deep (c_isSign hI_M4 (by omega) (fun t160_0 t160_1 => ?_) (fun f160_0 => ?_)) (by decide))
                  · refine jr.if_eq rfl rfl (by omega) (fun h => absurd h (by decide)) (fun _ => ?_)
                    refine jr.iload rfl rfl ?_
                    refine jr.if_eq rfl rfl (by omega) (fun h => absurd h (by decide)) (fun _ => ?_)
                    refine jr.aload_n rfl rfl ?_
                    refine jr.dup rfl rfl ?_
                    refine jr.getf (i := 102) (x := sg) (v := .int (Int32.ofInt (sg))) rfl rfl (by decide) rfl (by decide) rfl rfl hsg rfl ?_
                    refine jr.iconst rfl ?_
                    refine jr.isub rfl ?_
                    refine jr.putf (i := 102) (x := (sg - 1)) rfl rfl (by decide) rfl (by decide) rfl rfl rfl rfl rfl ?_
                    refine jr.aload_n rfl rfl ?_
                    refine jr.dup rfl rfl ?_
                    obtain ⟨v376, e376⟩ : ∃ z, M4 598 100 = z := ⟨_, rfl⟩
                    have b376 : 0 ≤ v376 ∧ v376 ≤ 13 := by rw [← e376]; exact hI_M4 598 100 (by decide)
                    refine jr.getf (i := 100) (x := v376) (v := .int (Int32.ofInt (v376))) rfl rfl (by decide) rfl (by decide) rfl rfl ((ju_i _ _ (by decide)).trans e376) rfl ?_
                    refine jr.iconst rfl ?_
                    refine jr.isub rfl ?_
                    refine jr.putf (i := 100) (x := (v376 - 1)) rfl rfl (by decide) rfl (by decide) rfl rfl rfl rfl rfl ?_
                    refine jr.aload_n rfl rfl ?_
                    obtain ⟨v378, e378⟩ : ∃ z, M3 598 73 = z := ⟨_, rfl⟩
                    have b378 : 0 ≤ v378 ∧ v378 ≤ 1600 := by rw [← e378]; exact hI_M3 598 73 (by decide)
                    have e379 : M4 598 73 = v378 := ((w4_4 73 (by decide) (by decide) (by decide)).trans e378)
                    obtain ⟨v380, e380⟩ : ∃ z, M 598 72 = z := ⟨_, rfl⟩
                    have b380 : 0 ≤ v380 ∧ v380 ≤ 1600 := by rw [← e380]; exact hI_M 598 72 (by decide)
                    have e381 : M2 598 72 = v380 := ((w2_4 72 (by decide) (by decide) (by decide)).trans e380)
                    have e382 : M3 598 72 = v380 := ((w3_5 72 (by decide) (by decide) (by decide) (by decide) (by decide) (by decide) (by decide) (by decide) (by decide) (by decide) (by decide) (by decide) (by decide)).trans e381)
                    have e383 : M4 598 72 = v380 := ((w4_4 72 (by decide) (by decide) (by decide)).trans e382)
                    obtain ⟨v385, e385⟩ : ∃ z, M3 598 89 = z := ⟨_, rfl⟩
                    have b385 : 0 ≤ v385 ∧ v385 ≤ 301 := by rw [← e385]; exact hI_M3 598 89 (by decide)
                    have e386 : M4 598 89 = v385 := ((w4_4 89 (by decide) (by decide) (by decide)).trans e385)
                    obtain ⟨v390, e390⟩ : ∃ z, M3 598 74 = z := ⟨_, rfl⟩
                    have b390 : 0 ≤ v390 ∧ v390 ≤ 4 := by rw [← e390]; exact hI_M3 598 74 (by decide)
                    have e391 : M4 598 74 = v390 := ((w4_4 74 (by decide) (by decide) (by decide)).trans e390)
                    refine jr_v rfl rfl (Or.inl rfl) rfl rfl (by decide) rfl ⟨rfl, Nat.le_of_ble_eq_true rfl, Nat.le_of_ble_eq_true rfl⟩ rfl (jc.deep (r_next (RI.u (RI.u hI_M4 (a := 598) (i := 102) (show (0 : Int) ≤ _ ∧ _ ≤ (400 : Int) from by omega)) (a := 598) (i := 100) (show (0 : Int) ≤ _ ∧ _ ≤ (13 : Int) from by omega)) (RH.o (RH.o hH_M4 (by decide) (by decide) (by decide)) (by decide) (by decide) (by decide)) (RF.o (RF.o hS_M4 (by decide) (by decide)) (by decide) (by decide))   (by rw [((ju_i _ _ (by decide)).trans ((ju_i _ _ (by decide)).trans e379)), ((ju_i _ _ (by decide)).trans ((ju_i _ _ (by decide)).trans e383))]; omega) (fun M377 hI_M377 hH_M377 hS_M377  w377_0 w377_1 w377_2 w377_3 w377_4 w377_5 w377_6 => ?_)) (by decide))
                    have y389 : (ju (ju M4 598 102 (sg - 1)) 598 100 (v376 - 1)) 598 73 = v378 := ((ju_i _ _ (by decide)).trans ((ju_i _ _ (by decide)).trans e379))
                    have y392 : (ju (ju M4 598 102 (sg - 1)) 598 100 (v376 - 1)) 598 74 = v390 := ((ju_i _ _ (by decide)).trans ((ju_i _ _ (by decide)).trans e391))
                    have tb377 : TK (ju (ju M4 598 102 (sg - 1)) 598 100 (v376 - 1)) = TK M4 := ((TK.o (Or.inr ⟨by decide, by decide⟩)).trans ((TK.o (Or.inr ⟨by decide, by decide⟩)).trans rfl))
                    have hE := ES.clo1 gs2 hsg e376 tq.1 e6 (by omega) (by omega)
                    have ck : 0 ≤ kcK v5 := by unfold kcK; split <;> omega
                    have y384 : (ju (ju M4 598 102 (sg - 1)) 598 100 (v376 - 1)) 598 73 = v378 := ((ju_i _ _ (by decide)).trans ((ju_i _ _ (by decide)).trans e379))
                    have y387 : (ju (ju M4 598 102 (sg - 1)) 598 100 (v376 - 1)) 598 89 = v385 := ((ju_i _ _ (by decide)).trans ((ju_i _ _ (by decide)).trans e386))
                    have y388 : (ju (ju M4 598 102 (sg - 1)) 598 100 (v376 - 1)) 598 100 = v376 - 1 := (ju_same _ _ _ _)
                    have x377_89 := w377_6 89 (by decide) (by decide) (by decide) (by decide) (by decide) (by decide) (by decide)
                    have x377_100 := w377_6 100 (by decide) (by decide) (by decide) (by decide) (by decide) (by decide) (by decide)
                    have hE := ES.fr2 hE w377_5 (w377_6 88 (by decide) (by decide) (by decide) (by decide) (by decide) (by decide) (by decide)) (w377_6 90 (by decide) (by decide) (by decide) (by decide) (by decide) (by decide) (by decide)) (w377_6 101 (by decide) (by decide) (by decide) (by decide) (by decide) (by decide) (by decide)) (w377_6 102 (by decide) (by decide) (by decide) (by decide) (by decide) (by decide) (by decide)) (w377_6 107 (by decide) (by decide) (by decide) (by decide) (by decide) (by decide) (by decide)) (k' := (kcK v5)) (d' := 0) (z' := 0) (by omega) (by omega) (by omega) (by omega)
                    have co1 : v5 = -1 → kcO v5 = 1 := fun z => by unfold kcO; rw [if_pos z]
                    refine jr.iload_n rfl rfl ?_
                    refine jr.iconst rfl ?_
                    refine jr.icmp_eq rfl rfl (by omega) (by omega) (fun h197 => ?_) (fun h197 => ?_)
                    · exact absurd h197 (by omega)
                    · refine jr.aload_n rfl rfl ?_
                      refine jr.sipush rfl (by decide) ?_
                      refine jr.iload_n rfl rfl ?_
                      refine jr.iadd rfl ?_
                      refine jr.lconst (x := 0) rfl (by decide) ?_
                      obtain ⟨v393, e393⟩ : ∃ z, M4 598 90 = z := ⟨_, rfl⟩
                      have b393 : 0 ≤ v393 ∧ v393 ≤ 2200 := by rw [← e393]; exact hI_M4 598 90 (by decide)
                      have e394 : M377 598 90 = v393 := ((w377_6 90 (by decide) (by decide) (by decide) (by decide) (by decide) (by decide) (by decide)).trans ((ju_i _ _ (by decide)).trans ((ju_i _ _ (by decide)).trans e393)))
                      have e395 : M377 598 100 = v376 - 1 := ((w377_6 100 (by decide) (by decide) (by decide) (by decide) (by decide) (by decide) (by decide)).trans (ju_same _ _ _ _))
                      obtain ⟨v397, e397⟩ : ∃ z, M 598 107 = z := ⟨_, rfl⟩
                      have b397 : 0 ≤ v397 ∧ v397 ≤ 16 := by rw [← e397]; exact hI_M 598 107 (by decide)
                      have e398 : M2 598 107 = v397 := ((w2_4 107 (by decide) (by decide) (by decide)).trans e397)
                      have e399 : M3 598 107 = v397 := ((w3_5 107 (by decide) (by decide) (by decide) (by decide) (by decide) (by decide) (by decide) (by decide) (by decide) (by decide) (by decide) (by decide) (by decide)).trans e398)
                      have e400 : M4 598 107 = v397 := ((w4_4 107 (by decide) (by decide) (by decide)).trans e399)
                      have e401 : M377 598 107 = v397 := ((w377_6 107 (by decide) (by decide) (by decide) (by decide) (by decide) (by decide) (by decide)).trans ((ju_i _ _ (by decide)).trans ((ju_i _ _ (by decide)).trans e400)))
                      refine jr_v rfl rfl (Or.inl rfl) rfl rfl (by decide) rfl ⟨rfl, Nat.le_of_ble_eq_true rfl, Nat.le_of_ble_eq_true rfl⟩ rfl (jc.deep (r_emit e394 (by omega) (by omega) (by omega) ?_) (by decide))
                      have y396 : M377 598 100 = v376 - 1 := e395
                      have y402 : M377 598 107 = v397 := e401
                      have al := argn_le v5
                      have co : kcO v5 = argn v5 := by unfold kcO; rw [if_neg (by omega)]
                      have ck2 : kcK v5 = 2 := by unfold kcK; rw [if_neg (by omega)]
                      have nd : ndo (340 + v5) = argn v5 := (by rcases (show v5 = 25 ∨ v5 = 26 ∨ v5 = 27 ∨ v5 = 28 ∨ v5 = 29 ∨ v5 = 30 by omega) with r | r | r | r | r | r <;> rw [r] <;> decide)
                      have dl : dlo (340 + v5) = 1 - argn v5 := (by rcases (show v5 = 25 ∨ v5 = 26 ∨ v5 = 27 ∨ v5 = 28 ∨ v5 = 29 ∨ v5 = 30 by omega) with r | r | r | r | r | r <;> rw [r] <;> decide)
                      have hE := ES.emit hE e394 (340 + v5) 0 0 (by unfold vop; omega) (by omega) (by unfold exo; omega) (by unfold jpo; omega) (by omega) (by omega) (by omega) (by omega) (by omega) (by omega)
                      refine jr.goto rfl rfl ?_
                      refine jr.goto rfl rfl ?_
                      have e403 : M377 598 72 = v380 := ((w377_6 72 (by decide) (by decide) (by decide) (by decide) (by decide) (by decide) (by decide)).trans ((ju_i _ _ (by decide)).trans ((ju_i _ _ (by decide)).trans e383)))
                      have y404 : (ju (ju (ju M377 659 v393 (340 + v5)) 660 v393 0) 598 90 (v393 + 1)) 598 72 = v380 := ((ju_i _ _ (by decide)).trans ((ju_c _ _ (by decide)).trans ((ju_c _ _ (by decide)).trans e403)))
                      obtain ⟨v405, e405⟩ : ∃ z, M377 598 73 = z := ⟨_, rfl⟩
                      have b405 : 0 ≤ v405 ∧ v405 ≤ 1600 := by rw [← e405]; exact hI_M377 598 73 (by decide)
                      have y406 : (ju (ju (ju M377 659 v393 (340 + v5)) 660 v393 0) 598 90 (v393 + 1)) 598 73 = v405 := ((ju_i _ _ (by decide)).trans ((ju_c _ _ (by decide)).trans ((ju_c _ _ (by decide)).trans e405)))
                      obtain ⟨v407, e407⟩ : ∃ z, M377 598 74 = z := ⟨_, rfl⟩
                      have b407 : 0 ≤ v407 ∧ v407 ≤ 4 := by rw [← e407]; exact hI_M377 598 74 (by decide)
                      have y408 : (ju (ju (ju M377 659 v393 (340 + v5)) 660 v393 0) 598 90 (v393 + 1)) 598 74 = v407 := ((ju_i _ _ (by decide)).trans ((ju_c _ _ (by decide)).trans ((ju_c _ _ (by decide)).trans e407)))
                      obtain ⟨v409, e409⟩ : ∃ z, M377 598 79 = z := ⟨_, rfl⟩
                      have b409 : 0 ≤ v409 ∧ v409 ≤ 255 := by rw [← e409]; exact hI_M377 598 79 (by decide)
                      have y410 : (ju (ju (ju M377 659 v393 (340 + v5)) 660 v393 0) 598 90 (v393 + 1)) 598 79 = v409 := ((ju_i _ _ (by decide)).trans ((ju_c _ _ (by decide)).trans ((ju_c _ _ (by decide)).trans e409)))
                      obtain ⟨v411, e411⟩ : ∃ z, M3 598 80 = z := ⟨_, rfl⟩
                      have b411 : 0 ≤ v411 ∧ v411 ≤ 7 := by rw [← e411]; exact hI_M3 598 80 (by decide)
                      have e412 : M4 598 80 = v411 := ((w4_4 80 (by decide) (by decide) (by decide)).trans e411)
                      have e413 : M377 598 80 = v411 := ((w377_6 80 (by decide) (by decide) (by decide) (by decide) (by decide) (by decide) (by decide)).trans ((ju_i _ _ (by decide)).trans ((ju_i _ _ (by decide)).trans e412)))
                      have y414 : (ju (ju (ju M377 659 v393 (340 + v5)) 660 v393 0) 598 90 (v393 + 1)) 598 80 = v411 := ((ju_i _ _ (by decide)).trans ((ju_c _ _ (by decide)).trans ((ju_c _ _ (by decide)).trans e413)))
                      have e415 : M377 598 89 = v385 := ((w377_6 89 (by decide) (by decide) (by decide) (by decide) (by decide) (by decide) (by decide)).trans ((ju_i _ _ (by decide)).trans ((ju_i _ _ (by decide)).trans e386)))
                      have y416 : (ju (ju (ju M377 659 v393 (340 + v5)) 660 v393 0) 598 90 (v393 + 1)) 598 89 = v385 := ((ju_i _ _ (by decide)).trans ((ju_c _ _ (by decide)).trans ((ju_c _ _ (by decide)).trans e415)))
                      have y417 : (ju (ju (ju M377 659 v393 (340 + v5)) 660 v393 0) 598 90 (v393 + 1)) 598 90 = v393 + 1 := (ju_same _ _ _ _)
                      have y418 : (ju (ju (ju M377 659 v393 (340 + v5)) 660 v393 0) 598 90 (v393 + 1)) 598 100 = v376 - 1 := ((ju_i _ _ (by decide)).trans ((ju_c _ _ (by decide)).trans ((ju_c _ _ (by decide)).trans e395)))
                      have y419 : (ju (ju (ju M377 659 v393 (340 + v5)) 660 v393 0) 598 90 (v393 + 1)) 598 107 = v397 := ((ju_i _ _ (by decide)).trans ((ju_c _ _ (by decide)).trans ((ju_c _ _ (by decide)).trans e401)))
                      have y420 : TK (ju (ju (ju M377 659 v393 (340 + v5)) 660 v393 0) 598 90 (v393 + 1)) = TK M377 := ((TK.o (Or.inr ⟨by decide, by decide⟩)).trans ((TK.o (Or.inl (by decide))).trans ((TK.o (Or.inl (by decide))).trans rfl)))
                      refine jr.pick [2, 3, 4] rfl rfl ?_
                      have y421 : (ju (ju (ju M377 659 v393 (340 + v5)) 660 v393 0) 598 90 (v393 + 1)) 598 80 = v411 := ((ju_i _ _ (by decide)).trans ((ju_c _ _ (by decide)).trans ((ju_c _ _ (by decide)).trans e413)))
                      have y422 : TK (ju (ju (ju M377 659 v393 (340 + v5)) 660 v393 0) 598 90 (v393 + 1)) = TK M377 := ((TK.o (Or.inr ⟨by decide, by decide⟩)).trans ((TK.o (Or.inl (by decide))).trans ((TK.o (Or.inl (by decide))).trans rfl)))
                      exact ih (nM - 1) (by omega) (ju (ju (ju M377 659 v393 (340 + v5)) 660 v393 0) 598 90 (v393 + 1)) o m (RI.u (RI.u (RI.u hI_M377 (a := 659) (i := v393) (by rw [xri_row rfl rfl]; show (0 : Int) ≤ _ ∧ _ ≤ (1000 : Int); omega)) (a := 660) (i := v393) (by rw [xri_row rfl rfl]; show (-9223372036854775808 : Int) ≤ _ ∧ _ ≤ (9223372036854775807 : Int); omega)) (a := 598) (i := 90) (show (0 : Int) ≤ _ ∧ _ ≤ (2200 : Int) from by omega)) (RH.o (RH.o (RH.o hH_M377 (by decide) (by decide) (by decide)) (by decide) (by decide) (by decide)) (by decide) (by decide) (by decide)) (RF.o (RF.o (RF.o hS_M377 (by decide) (by decide)) (by decide) (by decide)) (by decide) (by decide))  (fun a i f598 f659 f660 f664 f665 f666 f667 => ((ju_c _ _ f598).trans ((ju_c _ _ f660).trans ((ju_c _ _ f659).trans ((w377_5 a i f598).trans ((ju_c _ _ f598).trans ((ju_c _ _ f598).trans ((w4_3 a i f598 f659 f660).trans ((w3_4 a i f598 f659 f660 f664 f665 f666 f667).trans ((w2_3 a i f598 f659 f660).trans (hF_M a i f598 f659 f660 f664 f665 f666 f667))))))))))) (fun i g73 g74 g75 g76 g77 g78 g79 g80 g81 g89 g90 g100 g102 => ((ju_i _ _ g90).trans ((ju_c _ _ (by decide)).trans ((ju_c _ _ (by decide)).trans ((w377_6 i g73 g74 g75 g76 g77 g78 g79).trans ((ju_i _ _ g100).trans ((ju_i _ _ g102).trans ((w4_4 i g90 g100 g102).trans ((w3_5 i g73 g74 g75 g76 g77 g78 g79 g80 g81 g89 g90 g100 g102).trans ((w2_4 i g90 g100 g102).trans (hG_M i g73 g74 g75 g76 g77 g78 g79 g80 g81 g89 g90 g100 g102))))))))))) (by omega) (by omega) (by by_cases hf : v411 = 0; (first | (exfalso; omega) | (exact Or.inr (GS.cast (o := kcO v5 + dlo (340 + v5)) ⟨by omega, ES.adj hE (k' := 0) (z' := 0) (by omega) (by omega) (by omega), by omega, by omega, by omega, by omega⟩ (by omega)))); (exact Or.inl ⟨by omega, by omega⟩)) (by omega) (by omega) (by rw [((ju_i _ _ (by decide)).trans ((ju_c _ _ (by decide)).trans ((ju_c _ _ (by decide)).trans e405))), ((ju_i _ _ (by decide)).trans ((ju_c _ _ (by decide)).trans ((ju_c _ _ (by decide)).trans e403)))] <;> omega) (by omega) (by omega)
                  · refine jr.if_eq rfl rfl (by omega) (fun _ => ?_) (fun h => absurd (by decide) h)
                    refine jr.aload_n rfl rfl ?_
                    refine jr_v rfl rfl (Or.inl rfl) rfl rfl (by decide) rfl ⟨rfl, Nat.le_of_ble_eq_true rfl, Nat.le_of_ble_eq_true rfl⟩ rfl (jc.deep (r_wrongToken hI_M4 hH_M4 hS_M4    (fun M423 hI_M423 hH_M423 hS_M423  w423_0 w423_1 w423_2 => ?_)) (by decide))
                    have tk423 : TK M423 = TK M4 := TK.fr (w423_2 73 (by decide) (by decide)) (w423_2 74 (by decide) (by decide))
                    refine jr.goto rfl rfl ?_
                    obtain ⟨v424, e424⟩ : ∃ z, M 598 72 = z := ⟨_, rfl⟩
                    have b424 : 0 ≤ v424 ∧ v424 ≤ 1600 := by rw [← e424]; exact hI_M 598 72 (by decide)
                    have e425 : M2 598 72 = v424 := ((w2_4 72 (by decide) (by decide) (by decide)).trans e424)
                    have e426 : M3 598 72 = v424 := ((w3_5 72 (by decide) (by decide) (by decide) (by decide) (by decide) (by decide) (by decide) (by decide) (by decide) (by decide) (by decide) (by decide) (by decide)).trans e425)
                    have e427 : M4 598 72 = v424 := ((w4_4 72 (by decide) (by decide) (by decide)).trans e426)
                    have e428 : M423 598 72 = v424 := ((w423_2 72 (by decide) (by decide)).trans e427)
                    have y429 : M423 598 72 = v424 := e428
                    obtain ⟨v430, e430⟩ : ∃ z, M3 598 73 = z := ⟨_, rfl⟩
                    have b430 : 0 ≤ v430 ∧ v430 ≤ 1600 := by rw [← e430]; exact hI_M3 598 73 (by decide)
                    have e431 : M4 598 73 = v430 := ((w4_4 73 (by decide) (by decide) (by decide)).trans e430)
                    have e432 : M423 598 73 = v430 := ((w423_2 73 (by decide) (by decide)).trans e431)
                    have y433 : M423 598 73 = v430 := e432
                    obtain ⟨v434, e434⟩ : ∃ z, M3 598 74 = z := ⟨_, rfl⟩
                    have b434 : 0 ≤ v434 ∧ v434 ≤ 4 := by rw [← e434]; exact hI_M3 598 74 (by decide)
                    have e435 : M4 598 74 = v434 := ((w4_4 74 (by decide) (by decide) (by decide)).trans e434)
                    have e436 : M423 598 74 = v434 := ((w423_2 74 (by decide) (by decide)).trans e435)
                    have y437 : M423 598 74 = v434 := e436
                    obtain ⟨v438, e438⟩ : ∃ z, M3 598 79 = z := ⟨_, rfl⟩
                    have b438 : 0 ≤ v438 ∧ v438 ≤ 255 := by rw [← e438]; exact hI_M3 598 79 (by decide)
                    have e439 : M4 598 79 = v438 := ((w4_4 79 (by decide) (by decide) (by decide)).trans e438)
                    have e440 : M423 598 79 = v438 := ((w423_2 79 (by decide) (by decide)).trans e439)
                    have y441 : M423 598 79 = v438 := e440
                    obtain ⟨v442, e442⟩ : ∃ z, M423 598 80 = z := ⟨_, rfl⟩
                    have b442 : 0 ≤ v442 ∧ v442 ≤ 7 := by rw [← e442]; exact hI_M423 598 80 (by decide)
                    have y443 : M423 598 80 = v442 := e442
                    obtain ⟨v444, e444⟩ : ∃ z, M3 598 89 = z := ⟨_, rfl⟩
                    have b444 : 0 ≤ v444 ∧ v444 ≤ 301 := by rw [← e444]; exact hI_M3 598 89 (by decide)
                    have e445 : M4 598 89 = v444 := ((w4_4 89 (by decide) (by decide) (by decide)).trans e444)
                    have e446 : M423 598 89 = v444 := ((w423_2 89 (by decide) (by decide)).trans e445)
                    have y447 : M423 598 89 = v444 := e446
                    obtain ⟨v448, e448⟩ : ∃ z, M4 598 90 = z := ⟨_, rfl⟩
                    have b448 : 0 ≤ v448 ∧ v448 ≤ 2200 := by rw [← e448]; exact hI_M4 598 90 (by decide)
                    have e449 : M423 598 90 = v448 := ((w423_2 90 (by decide) (by decide)).trans e448)
                    have y450 : M423 598 90 = v448 := e449
                    obtain ⟨v451, e451⟩ : ∃ z, M4 598 100 = z := ⟨_, rfl⟩
                    have b451 : 0 ≤ v451 ∧ v451 ≤ 13 := by rw [← e451]; exact hI_M4 598 100 (by decide)
                    have e452 : M423 598 100 = v451 := ((w423_2 100 (by decide) (by decide)).trans e451)
                    have y453 : M423 598 100 = v451 := e452
                    obtain ⟨v454, e454⟩ : ∃ z, M 598 107 = z := ⟨_, rfl⟩
                    have b454 : 0 ≤ v454 ∧ v454 ≤ 16 := by rw [← e454]; exact hI_M 598 107 (by decide)
                    have e455 : M2 598 107 = v454 := ((w2_4 107 (by decide) (by decide) (by decide)).trans e454)
                    have e456 : M3 598 107 = v454 := ((w3_5 107 (by decide) (by decide) (by decide) (by decide) (by decide) (by decide) (by decide) (by decide) (by decide) (by decide) (by decide) (by decide) (by decide)).trans e455)
                    have e457 : M4 598 107 = v454 := ((w4_4 107 (by decide) (by decide) (by decide)).trans e456)
                    have e458 : M423 598 107 = v454 := ((w423_2 107 (by decide) (by decide)).trans e457)
                    have y459 : M423 598 107 = v454 := e458
                    refine jr.pick [2, 3, 4] rfl rfl ?_
                    have y460 : M423 598 80 = v442 := e442
                    exact ih (nM - 1) (by omega) M423 o m hI_M423 hH_M423 hS_M423  (fun a i f598 f659 f660 f664 f665 f666 f667 => ((w423_1 a i f598).trans ((w4_3 a i f598 f659 f660).trans ((w3_4 a i f598 f659 f660 f664 f665 f666 f667).trans ((w2_3 a i f598 f659 f660).trans (hF_M a i f598 f659 f660 f664 f665 f666 f667)))))) (fun i g73 g74 g75 g76 g77 g78 g79 g80 g81 g89 g90 g100 g102 => ((w423_2 i g80 g81).trans ((w4_4 i g90 g100 g102).trans ((w3_5 i g73 g74 g75 g76 g77 g78 g79 g80 g81 g89 g90 g100 g102).trans ((w2_4 i g90 g100 g102).trans (hG_M i g73 g74 g75 g76 g77 g78 g79 g80 g81 g89 g90 g100 g102)))))) (by omega) (by omega) (by by_cases hf : v442 = 0; (first | (exfalso; omega) | (exact Or.inr (GS.cast (o := 0) ⟨by omega, ES.adj hE (k' := 0) (z' := 0) (by omega) (by omega) (by omega), by omega, by omega, by omega, by omega⟩ (by omega)))); (exact Or.inl ⟨by omega, by omega⟩)) (by omega) (by omega) (by rw [e432, e428] <;> omega) (by omega) (by omega)
          · exact jr.vreturn rfl rfl (q _ hI_M4 hH_M4 hS_M4  (Or.inr ⟨⟨gs1, ES.xs gs2 (by omega) (by omega), gs3, gs4, gs5, gs6⟩, by omega⟩) (by omega) (by omega) (by omega) (fun a i f598 f659 f660 f664 f665 f666 f667 => ((w4_3 a i f598 f659 f660).trans ((w3_4 a i f598 f659 f660 f664 f665 f666 f667).trans ((w2_3 a i f598 f659 f660).trans (hF_M a i f598 f659 f660 f664 f665 f666 f667))))) (fun i g73 g74 g75 g76 g77 g78 g79 g80 g81 g89 g90 g100 g102 => ((w4_4 i g90 g100 g102).trans ((w3_5 i g73 g74 g75 g76 g77 g78 g79 g80 g81 g89 g90 g100 g102).trans ((w2_4 i g90 g100 g102).trans (hG_M i g73 g74 g75 g76 g77 g78 g79 g80 g81 g89 g90 g100 g102))))))
        · refine jr.iconst rfl ?_
          refine jr.istore_n rfl (by decide) rfl ?_
          refine jr.goto rfl rfl ?_
          obtain ⟨v461, e461⟩ : ∃ z, M3 598 73 = z := ⟨_, rfl⟩
          have b461 : 0 ≤ v461 ∧ v461 ≤ 1600 := by rw [← e461]; exact hI_M3 598 73 (by decide)
          obtain ⟨v462, e462⟩ : ∃ z, M 598 72 = z := ⟨_, rfl⟩
          have b462 : 0 ≤ v462 ∧ v462 ≤ 1600 := by rw [← e462]; exact hI_M 598 72 (by decide)
          have e463 : M2 598 72 = v462 := ((w2_4 72 (by decide) (by decide) (by decide)).trans e462)
          have e464 : M3 598 72 = v462 := ((w3_5 72 (by decide) (by decide) (by decide) (by decide) (by decide) (by decide) (by decide) (by decide) (by decide) (by decide) (by decide) (by decide) (by decide)).trans e463)
          refine jr.pick [0, 1, 2] rfl rfl ?_
          obtain ⟨v465, e465⟩ : ∃ z, M3 598 80 = z := ⟨_, rfl⟩
          have b465 : 0 ≤ v465 ∧ v465 ≤ 7 := by rw [← e465]; exact hI_M3 598 80 (by decide)
          have y466 : M3 598 80 = v465 := e465
          exact ih (nM - 1) (by omega) M3 1 m hI_M3 hH_M3 hS_M3  (fun a i f598 f659 f660 f664 f665 f666 f667 => ((w3_4 a i f598 f659 f660 f664 f665 f666 f667).trans ((w2_3 a i f598 f659 f660).trans (hF_M a i f598 f659 f660 f664 f665 f666 f667)))) (fun i g73 g74 g75 g76 g77 g78 g79 g80 g81 g89 g90 g100 g102 => ((w3_5 i g73 g74 g75 g76 g77 g78 g79 g80 g81 g89 g90 g100 g102).trans ((w2_4 i g90 g100 g102).trans (hG_M i g73 g74 g75 g76 g77 g78 g79 g80 g81 g89 g90 g100 g102)))) (by omega) (by omega) (by rcases w3_0 with z | z; (exfalso; omega); exact z.2.imp id (fun y => GS.cast y.1 (by omega))) (by omega) (by omega) (by rw [e461, e464] <;> omega) (by omega) (by omega)
      · refine jr.aload_n rfl rfl ?_
        refine jr_v rfl rfl (Or.inl rfl) rfl rfl (by decide) rfl ⟨rfl, Nat.le_of_ble_eq_true rfl, Nat.le_of_ble_eq_true rfl⟩ rfl (jc.deep (r_takeOperand hI_M hH_M hS_M   (GS.cast gs (by omega)) (fun r467 M467 hI_M467 hH_M467 hS_M467  z467 w467_0 w467_1 w467_2 w467_3 w467_4 w467_5 => ?_)) (by decide))
        refine jr.if_ne rfl rfl (by omega) (fun h34 => ?_) (fun h34 => ?_)
        · refine jr.iconst rfl ?_
          refine jr.istore_n rfl (by decide) rfl ?_
          refine jr.goto rfl rfl ?_
          obtain ⟨v468, e468⟩ : ∃ z, M467 598 73 = z := ⟨_, rfl⟩
          have b468 : 0 ≤ v468 ∧ v468 ≤ 1600 := by rw [← e468]; exact hI_M467 598 73 (by decide)
          obtain ⟨v469, e469⟩ : ∃ z, M 598 72 = z := ⟨_, rfl⟩
          have b469 : 0 ≤ v469 ∧ v469 ≤ 1600 := by rw [← e469]; exact hI_M 598 72 (by decide)
          have e470 : M467 598 72 = v469 := ((w467_5 72 (by decide) (by decide) (by decide) (by decide) (by decide) (by decide) (by decide) (by decide) (by decide) (by decide) (by decide) (by decide) (by decide)).trans e469)
          refine jr.pick [0, 1, 2] rfl rfl ?_
          obtain ⟨v471, e471⟩ : ∃ z, M467 598 80 = z := ⟨_, rfl⟩
          have b471 : 0 ≤ v471 ∧ v471 ≤ 7 := by rw [← e471]; exact hI_M467 598 80 (by decide)
          have y472 : M467 598 80 = v471 := e471
          exact ih (nM - 1) (by omega) M467 0 m hI_M467 hH_M467 hS_M467  (fun a i f598 f659 f660 f664 f665 f666 f667 => ((w467_4 a i f598 f659 f660 f664 f666 f667).trans (hF_M a i f598 f659 f660 f664 f665 f666 f667))) (fun i g73 g74 g75 g76 g77 g78 g79 g80 g81 g89 g90 g100 g102 => ((w467_5 i g73 g74 g75 g76 g77 g78 g79 g80 g81 g89 g90 g100 g102).trans (hG_M i g73 g74 g75 g76 g77 g78 g79 g80 g81 g89 g90 g100 g102))) (by omega) (by omega) (w467_0.imp id (fun z => GS.cast z.1 (by omega))) (by omega) (by omega) (by rw [e468, e470] <;> omega) (by omega) (by omega)
        · refine jr.iconst rfl ?_
          refine jr.goto rfl rfl ?_
          refine jr.istore_n rfl (by decide) rfl ?_
          refine jr.goto rfl rfl ?_
          obtain ⟨v473, e473⟩ : ∃ z, M467 598 73 = z := ⟨_, rfl⟩
          have b473 : 0 ≤ v473 ∧ v473 ≤ 1600 := by rw [← e473]; exact hI_M467 598 73 (by decide)
          obtain ⟨v474, e474⟩ : ∃ z, M 598 72 = z := ⟨_, rfl⟩
          have b474 : 0 ≤ v474 ∧ v474 ≤ 1600 := by rw [← e474]; exact hI_M 598 72 (by decide)
          have e475 : M467 598 72 = v474 := ((w467_5 72 (by decide) (by decide) (by decide) (by decide) (by decide) (by decide) (by decide) (by decide) (by decide) (by decide) (by decide) (by decide) (by decide)).trans e474)
          refine jr.pick [0, 1, 2] rfl rfl ?_
          obtain ⟨v476, e476⟩ : ∃ z, M467 598 80 = z := ⟨_, rfl⟩
          have b476 : 0 ≤ v476 ∧ v476 ≤ 7 := by rw [← e476]; exact hI_M467 598 80 (by decide)
          have y477 : M467 598 80 = v476 := e476
          exact ih (nM - 1) (by omega) M467 1 m hI_M467 hH_M467 hS_M467  (fun a i f598 f659 f660 f664 f665 f666 f667 => ((w467_4 a i f598 f659 f660 f664 f666 f667).trans (hF_M a i f598 f659 f660 f664 f665 f666 f667))) (fun i g73 g74 g75 g76 g77 g78 g79 g80 g81 g89 g90 g100 g102 => ((w467_5 i g73 g74 g75 g76 g77 g78 g79 g80 g81 g89 g90 g100 g102).trans (hG_M i g73 g74 g75 g76 g77 g78 g79 g80 g81 g89 g90 g100 g102))) (by omega) (by omega) (w467_0.imp id (fun z => GS.cast z.1 (by omega))) (by omega) (by omega) (by rw [e473, e475] <;> omega) (by omega) (by omega)
    · refine jr.if_eq rfl rfl (by omega) (fun _ => ?_) (fun h => absurd (by decide) h)
      exact jr.vreturn rfl rfl (q _ hI_M hH_M hS_M  (Or.inl (hy0.resolve_right (fun z => f12_0 z.1))) (by omega) (by omega) (by omega) (fun a i f598 f659 f660 f664 f665 f666 f667 => (hF_M a i f598 f659 f660 f664 f665 f666 f667)) (fun i g73 g74 g75 g76 g77 g78 g79 g80 g81 g89 g90 g100 g102 => (hG_M i g73 g74 g75 g76 g77 g78 g79 g80 g81 g89 g90 g100 g102)))
theorem r_exp {A : Nat → Option (Nat × (Nat → Int32))} {Q : Option Value → jm → Prop} {b : Int} {M : jm} (hI_M : RI M) (hH_M : RH M) (hS_M : RF M) (p0 : SS M b) (p1 : 0 ≤ b ∧ b ≤ 4) (q : ∀ (M' : jm), RI M' → RH M' → RF M' → (BS M' ∨ (SS M' (b + 1) ∧ TK M' < TK M)) → TK M' ≤ TK M → M' 598 73 ≤ M' 598 72 → (M' 598 80 ≠ 0 ∨ TK M' < TK M) → (∀ (a : Nat) (i : Int), a ≠ 598 → a ≠ 659 → a ≠ 660 → a ≠ 664 → a ≠ 665 → a ≠ 666 → a ≠ 667 → M' a i = M a i) → (∀ (i : Int), i ≠ 73 → i ≠ 74 → i ≠ 75 → i ≠ 76 → i ≠ 77 → i ≠ 78 → i ≠ 79 → i ≠ 80 → i ≠ 81 → i ≠ 89 → i ≠ 90 → i ≠ 100 → i ≠ 102 → M' 598 i = M 598 i) → Q none M') : jc A 7 364 [.ref (598)] M Q := by
  obtain ⟨ss1, ss2, ss3, ss4, ss5, ss6⟩ := id p0
  have b73 : (0 : Int) ≤ M 598 73 ∧ M 598 73 ≤ 1600 := hI_M 598 73 (by decide)
  have sl := XS.sgle ss2
  have b88 : (0 : Int) ≤ M 598 88 ∧ M 598 88 ≤ 16 := hI_M 598 88 (by decide)
  refine jc_of (m := xm_364) rfl (Nat.le_of_ble_eq_true rfl) rfl ?_
  refine jr.sipush rfl (by decide) ?_
  refine jr.istore_n rfl (by decide) rfl ?_
  refine jr.aload_n rfl rfl ?_
  refine jr.iconst rfl ?_
  refine jr.putf (i := 102) (x := 0) rfl rfl (by decide) rfl (by decide) rfl rfl rfl rfl rfl ?_
  refine jr.iconst rfl ?_
  refine jr.istore_n rfl (by decide) rfl ?_
  obtain ⟨v1, e1⟩ : ∃ z, M 598 72 = z := ⟨_, rfl⟩
  have b1 : 0 ≤ v1 ∧ v1 ≤ 1600 := by rw [← e1]; exact hI_M 598 72 (by decide)
  have y2 : (ju M 598 102 0) 598 72 = v1 := ((ju_i _ _ (by decide)).trans e1)
  obtain ⟨v3, e3⟩ : ∃ z, M 598 73 = z := ⟨_, rfl⟩
  have b3 : 0 ≤ v3 ∧ v3 ≤ 1600 := by rw [← e3]; exact hI_M 598 73 (by decide)
  have y4 : (ju M 598 102 0) 598 73 = v3 := ((ju_i _ _ (by decide)).trans e3)
  obtain ⟨v5, e5⟩ : ∃ z, M 598 74 = z := ⟨_, rfl⟩
  have b5 : 0 ≤ v5 ∧ v5 ≤ 4 := by rw [← e5]; exact hI_M 598 74 (by decide)
  have y6 : (ju M 598 102 0) 598 74 = v5 := ((ju_i _ _ (by decide)).trans e5)
  obtain ⟨v7, e7⟩ : ∃ z, M 598 79 = z := ⟨_, rfl⟩
  have b7 : 0 ≤ v7 ∧ v7 ≤ 255 := by rw [← e7]; exact hI_M 598 79 (by decide)
  have y8 : (ju M 598 102 0) 598 79 = v7 := ((ju_i _ _ (by decide)).trans e7)
  obtain ⟨v9, e9⟩ : ∃ z, M 598 80 = z := ⟨_, rfl⟩
  have b9 : 0 ≤ v9 ∧ v9 ≤ 7 := by rw [← e9]; exact hI_M 598 80 (by decide)
  have y10 : (ju M 598 102 0) 598 80 = v9 := ((ju_i _ _ (by decide)).trans e9)
  obtain ⟨v11, e11⟩ : ∃ z, M 598 89 = z := ⟨_, rfl⟩
  have b11 : 0 ≤ v11 ∧ v11 ≤ 301 := by rw [← e11]; exact hI_M 598 89 (by decide)
  have y12 : (ju M 598 102 0) 598 89 = v11 := ((ju_i _ _ (by decide)).trans e11)
  obtain ⟨v13, e13⟩ : ∃ z, M 598 90 = z := ⟨_, rfl⟩
  have b13 : 0 ≤ v13 ∧ v13 ≤ 2200 := by rw [← e13]; exact hI_M 598 90 (by decide)
  have y14 : (ju M 598 102 0) 598 90 = v13 := ((ju_i _ _ (by decide)).trans e13)
  obtain ⟨v15, e15⟩ : ∃ z, M 598 100 = z := ⟨_, rfl⟩
  have b15 : 0 ≤ v15 ∧ v15 ≤ 13 := by rw [← e15]; exact hI_M 598 100 (by decide)
  have y16 : (ju M 598 102 0) 598 100 = v15 := ((ju_i _ _ (by decide)).trans e15)
  obtain ⟨v17, e17⟩ : ∃ z, M 598 107 = z := ⟨_, rfl⟩
  have b17 : 0 ≤ v17 ∧ v17 ≤ 16 := by rw [← e17]; exact hI_M 598 107 (by decide)
  have y18 : (ju M 598 102 0) 598 107 = v17 := ((ju_i _ _ (by decide)).trans e17)
  have y19 : TK (ju M 598 102 0) = TK M := ((TK.o (Or.inr ⟨by decide, by decide⟩)).trans rfl)
  refine jr.pick [0, 1, 2] rfl rfl ?_
  exact r_exp_L11 q 3203 (ju M 598 102 0) 1 390 (RI.u hI_M (a := 598) (i := 102) (show (0 : Int) ≤ _ ∧ _ ≤ (400 : Int) from by omega)) (RH.o hH_M (by decide) (by decide) (by decide)) (RF.o hS_M (by decide) (by decide))  (fun a i f598 f659 f660 f664 f665 f666 f667 => ((ju_c _ _ f598).trans rfl)) (fun i g73 g74 g75 g76 g77 g78 g79 g80 g81 g89 g90 g100 g102 => ((ju_i _ _ g102).trans rfl)) (by omega) (by omega) (Or.inr (GS.cast (o := 0) ⟨by omega, ss2, by omega, by omega, by omega, by omega⟩ (by omega))) (by omega) (by omega) (by rw [((ju_i _ _ (by decide)).trans e3), ((ju_i _ _ (by decide)).trans e1)] <;> omega) (by omega) (by have t := TK.le (M := ju M 598 102 0) (by rw [ju_i _ _ (by decide)]; omega); omega)
