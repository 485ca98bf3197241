/-! ===== the reference: contracts, 35.pc ===== -/
theorem r_isCompareOnTop {A : Nat → Option (Nat × (Nat → Int32))} {Q : Option Value → jm → Prop} {T : jm} {M : jm} (hI_M : RI M) (hH_M : RH M) (hS_M : RF M) (ht_M : Kp T M) (q : ∀ (r : Int), 0 ≤ r ∧ r ≤ 1 → (r = 0 → (M 598 102 = 0 ∨ strn (M 664 (M 598 102 - 1)) ≠ 3)) → Q (some (.int (Int32.ofInt r))) M) : jc A 2 362 [.ref (598)] M Q := by
  refine jc_of (m := xm_362) rfl (Nat.le_of_ble_eq_true rfl) rfl ?_
  refine jr.aload_n rfl rfl ?_
  obtain ⟨v1, e1⟩ : ∃ z, M 598 102 = z := ⟨_, rfl⟩
  have b1 : 0 ≤ v1 ∧ v1 ≤ 400 := by rw [← e1]; exact hI_M 598 102 (by decide)
  refine jr.getf (i := 102) (x := v1) (v := .int (Int32.ofInt (v1))) rfl rfl (by decide) rfl (by decide) rfl rfl e1 rfl ?_
  refine jr.if_le rfl rfl (by omega) (fun h4 => ?_) (fun h4 => ?_)
  · refine jr.iconst rfl ?_
    exact jr.ireturn rfl rfl rfl (q _ (by omega) (fun q => by omega))
  · refine jr.aload_n rfl rfl ?_
    refine jr.getf (i := 103) (v := .ref 664) rfl rfl (by decide) rfl (by decide) rfl rfl rfl rfl ?_
    refine jr.aload_n rfl rfl ?_
    refine jr.getf (i := 102) (x := v1) (v := .int (Int32.ofInt (v1))) rfl rfl (by decide) rfl (by decide) rfl rfl e1 rfl ?_
    refine jr.iconst rfl ?_
    refine jr.isub rfl ?_
    obtain ⟨v2, e2⟩ : ∃ z, M 664 (v1 - 1) = z := ⟨_, rfl⟩
    have b2 : 0 ≤ v2 ∧ v2 ≤ 255 := by rw [← e2]; exact (by have q := hI_M 664 (v1 - 1) (by decide); rw [xri_row rfl rfl] at q; exact q)
    refine jr.iald (i := (v1 - 1)) (x := v2) rfl (by decide) rfl (by decide) (by omega) (by omega) e2 ?_
    refine jr_s rfl rfl (Or.inl rfl) ⟨Nat.le_of_ble_eq_true rfl, Nat.le_of_ble_eq_true rfl⟩ rfl rfl (jc.deep (r_strength hI_M hH_M hS_M ht_M (by omega)  (fun r3 z3 w3_0 => ?_)) (by decide))
    refine jr.iconst rfl ?_
    refine jr.icmp_ne rfl rfl (by omega) (by omega) (fun h22 => ?_) (fun h22 => ?_)
    · refine jr.iconst rfl ?_
      exact jr.ireturn rfl rfl rfl (q _ (by omega) (fun q => by first | omega | (rw [e1]; exact Or.inr (by rw [e2]; omega))))
    · refine jr.iconst rfl ?_
      refine jr.goto rfl rfl ?_
      exact jr.ireturn rfl rfl rfl (q _ (by omega) (fun q => by first | omega | (rw [e1]; exact Or.inr (by rw [e2]; omega))))
theorem r_takeSign {A : Nat → Option (Nat × (Nat → Int32))} {Q : Option Value → jm → Prop} {b kk : Int} {M : jm} (hI_M : RI M) (hH_M : RH M) (hS_M : RF M) (p0 : GS M b 1 kk) (q : ∀ (r : Int) (M' : jm), RI M' → RH M' → RF M' → 0 ≤ r ∧ r ≤ 1 → ((r = 0 ∧ GS M' b 1 kk) ∨ (r = 1 ∧ (BS M' ∨ (GS M' b 0 kk ∧ TK M' < TK M)))) → TK M' ≤ TK M → M' 598 73 ≤ M' 598 72 → (r = 0 ∨ M' 598 80 ≠ 0 ∨ TK M' < TK M) → CP M M' → M 598 89 ≤ M' 598 89 → (∀ (a : Nat) (i : Int), a ≠ 598 → a ≠ 659 → a ≠ 660 → a ≠ 664 → a ≠ 665 → a ≠ 666 → a ≠ 667 → M' a i = M a i) → (∀ (i : Int), i ≠ 73 → i ≠ 74 → i ≠ 75 → i ≠ 76 → i ≠ 77 → i ≠ 78 → i ≠ 79 → i ≠ 80 → i ≠ 81 → i ≠ 89 → i ≠ 90 → i ≠ 100 → i ≠ 102 → M' 598 i = M 598 i) → Q (some (.int (Int32.ofInt r))) M') : jc A 3 363 [.ref (598)] M Q := by
  obtain ⟨gs1, gs2, gs3, gs4, gs5, gs6⟩ := id p0
  have hE := gs2
  have sl := ES.sgle gs2
  have bb := ES.bb gs2
  have kb := ES.kz gs2
  have b107 : (0 : Int) ≤ M 598 107 ∧ M 598 107 ≤ 16 := hI_M 598 107 (by decide)
  have b73 : (0 : Int) ≤ M 598 73 ∧ M 598 73 ≤ 1600 := hI_M 598 73 (by decide)
  have b88 : (0 : Int) ≤ M 598 88 ∧ M 598 88 ≤ 16 := hI_M 598 88 (by decide)
  have b100 : (0 : Int) ≤ M 598 100 ∧ M 598 100 ≤ 13 := hI_M 598 100 (by decide)
  refine jc_of (m := xm_363) rfl (Nat.le_of_ble_eq_true rfl) rfl ?_
  refine jr.aload_n rfl rfl ?_
  obtain ⟨v1, e1⟩ : ∃ z, M 598 74 = z := ⟨_, rfl⟩
  have b1 : 0 ≤ v1 ∧ v1 ≤ 4 := by rw [← e1]; exact hI_M 598 74 (by decide)
  refine jr.getf (i := 74) (x := v1) (v := .int (Int32.ofInt (v1))) rfl rfl (by decide) rfl (by decide) rfl rfl e1 rfl ?_
  refine jr.iconst rfl ?_
  refine jr.icmp_ne rfl rfl (by omega) (by omega) (fun h5 => ?_) (fun h5 => ?_)
  · refine jr.iconst rfl ?_
    refine jr.istore_n (ls' := [_, _]) rfl (by decide) rfl ?_
    refine jr.iload_n rfl rfl ?_
    refine jr.if_ne rfl rfl (by omega) (fun h => absurd h (by decide)) (fun _ => ?_)
    refine jr.iconst rfl ?_
    exact jr.ireturn rfl rfl rfl (q _ _ hI_M hH_M hS_M  (by omega) (Or.inl ⟨rfl, p0⟩) (by omega) (by omega) (by omega) (CP.rfl _) (by omega) (fun a i f598 f659 f660 f664 f665 f666 f667 => rfl) (fun i g73 g74 g75 g76 g77 g78 g79 g80 g81 g89 g90 g100 g102 => rfl))
  · refine jr.aload_n rfl rfl ?_
    obtain ⟨v2, e2⟩ : ∃ z, M 598 79 = z := ⟨_, rfl⟩
    have b2 : 0 ≤ v2 ∧ v2 ≤ 255 := by rw [← e2]; exact hI_M 598 79 (by decide)
    refine jr.getf (i := 79) (x := v2) (v := .int (Int32.ofInt (v2))) rfl rfl (by decide) rfl (by decide) rfl rfl e2 rfl ?_
    refine jr_s rfl rfl (Or.inl rfl) ⟨Nat.le_of_ble_eq_true rfl, Nat.le_of_ble_eq_true rfl⟩ rfl rfl (jc.deep (r_strength hI_M hH_M hS_M (Kp.rfl _) (by omega)  (fun r3 z3 w3_0 => ?_)) (by decide))
    have n6 : ¬ r3 = 6 := fun z => by
      have z1 := strn_un (show strn v2 = 6 by omega)
      omega
    refine jr.goto rfl rfl ?_
    refine jr.istore_n (ls' := [_, _]) rfl (by decide) rfl ?_
    refine jr.iload_n rfl rfl ?_
    refine jr.if_ne rfl rfl (by omega) (fun h21 => ?_) (fun h21 => ?_)
    · have sx21 : (1 : Int) ≤ r3 := by omega
      clear h21
      refine jr.aload_n rfl rfl ?_
      refine jr.getf (i := 79) (x := v2) (v := .int (Int32.ofInt (v2))) rfl rfl (by decide) rfl (by decide) rfl rfl e2 rfl ?_
      refine jr.istore_n (ls' := [_, _, _]) rfl (by decide) rfl ?_
      refine jr.aload_n rfl rfl ?_
      refine jr.iload_n rfl rfl ?_
      refine jr.iconst rfl ?_
      refine jr.icmp_ne rfl rfl (by omega) (by omega) (fun h34 => ?_) (fun h34 => ?_)
      · refine jr.iload_n rfl rfl ?_
        refine jr_v rfl rfl (Or.inl rfl) rfl rfl (by decide) rfl ⟨rfl, Nat.le_of_ble_eq_true rfl, Nat.le_of_ble_eq_true rfl⟩ rfl (jc.deep (r_reduce hI_M hH_M hS_M  (by omega) p0 (fun M4 hI_M4 hH_M4 hS_M4  w4_0 w4_1 w4_2 w4_3 w4_4 w4_5 => ?_)) (by decide))
        have tk4 : TK M4 = TK M := TK.fr (w4_5 73 (by decide) (by decide) (by decide)) (w4_5 74 (by decide) (by decide) (by decide))
        obtain ⟨gs1, gs2, gs3, gs4, gs5, gs6⟩ := id w4_0
        have hE := gs2
        have sl := ES.sgle gs2
        have bb := ES.bb gs2
        have kb := ES.kz gs2
        have bM4_107 : (0 : Int) ≤ M4 598 107 ∧ M4 598 107 ≤ 16 := hI_M4 598 107 (by decide)
        have bM4_73 : (0 : Int) ≤ M4 598 73 ∧ M4 598 73 ≤ 1600 := hI_M4 598 73 (by decide)
        have bM4_88 : (0 : Int) ≤ M4 598 88 ∧ M4 598 88 ≤ 16 := hI_M4 598 88 (by decide)
        have bM4_100 : (0 : Int) ≤ M4 598 100 ∧ M4 598 100 ≤ 13 := hI_M4 598 100 (by decide)
        obtain ⟨sg, hsg⟩ : ∃ z, M4 598 102 = z := ⟨_, rfl⟩
        rw [hsg] at w4_1
        have bsg : (0 : Int) ≤ sg ∧ sg ≤ 400 := by rw [← hsg]; exact hI_M4 598 102 (by decide)
        refine jr.iload_n rfl rfl ?_
        refine jr.iconst rfl ?_
        refine jr.icmp_ne rfl rfl (by omega) (by omega) (fun h47 => ?_) (fun h47 => ?_)
        · refine jr.aload_n rfl rfl ?_
          obtain ⟨v6, e6⟩ : ∃ z, M 598 89 = z := ⟨_, rfl⟩
          have b6 : 0 ≤ v6 ∧ v6 ≤ 301 := by rw [← e6]; exact hI_M 598 89 (by decide)
          have e7 : M4 598 89 = v6 := ((w4_5 89 (by decide) (by decide) (by decide)).trans e6)
          obtain ⟨v8, e8⟩ : ∃ z, M 598 73 = z := ⟨_, rfl⟩
          have b8 : 0 ≤ v8 ∧ v8 ≤ 1600 := by rw [← e8]; exact hI_M 598 73 (by decide)
          have e9 : M4 598 73 = v8 := ((w4_5 73 (by decide) (by decide) (by decide)).trans e8)
          obtain ⟨v12, e12⟩ : ∃ z, M4 598 100 = z := ⟨_, rfl⟩
          have b12 : 0 ≤ v12 ∧ v12 ≤ 13 := by rw [← e12]; exact hI_M4 598 100 (by decide)
          refine jr_v rfl rfl (Or.inl rfl) rfl rfl (by decide) rfl ⟨rfl, Nat.le_of_ble_eq_true rfl, Nat.le_of_ble_eq_true rfl⟩ rfl (jc.deep (r_node hI_M4 hH_M4 hS_M4   (by rw [e7]; omega) (fun M5 hI_M5 hH_M5 hS_M5  w5_0 w5_1 w5_2 w5_3 w5_4 w5_5 => ?_)) (by decide))
          have tk5 : TK M5 = TK M4 := TK.fr (w5_5 73 (by decide) (by decide) (by decide)) (w5_5 74 (by decide) (by decide) (by decide))
          have y10 : M4 598 73 = v8 := e9
          have y11 : M4 598 89 = v6 := e7
          have y13 : M4 598 100 = v12 := e12
          have x5_73 := w5_5 73 (by decide) (by decide) (by decide)
          have x5_100 := w5_5 100 (by decide) (by decide) (by decide)
          have hE := ES.fr2 hE w5_4 (w5_5 88 (by decide) (by decide) (by decide)) (w5_5 90 (by decide) (by decide) (by decide)) (w5_5 101 (by decide) (by decide) (by decide)) (w5_5 102 (by decide) (by decide) (by decide)) (w5_5 107 (by decide) (by decide) (by decide)) (k' := kk + 4) (d' := 0) (z' := 0) (by omega) (by omega) (by omega) (by omega)
          refine jr.aload_n rfl rfl ?_
          refine jr_v rfl rfl (Or.inl rfl) rfl rfl (by decide) rfl ⟨rfl, Nat.le_of_ble_eq_true rfl, Nat.le_of_ble_eq_true rfl⟩ rfl (jc.deep (c_good hI_M5  (fun t68_0 => ?_) (fun f68_0 => ?_)) (by decide))
          · have w5_1r := Classical.byContradiction (fun z => w5_1 z t68_0)
            have w5_2r := w5_2 t68_0
            clear w5_1 w5_2 w5_3
            refine jr.if_ne rfl rfl (by omega) (fun _ => ?_) (fun h => absurd (by decide) h)
            refine jr.aload_n rfl rfl ?_
            have e15 : M5 598 73 = v8 := ((w5_5 73 (by decide) (by decide) (by decide)).trans e9)
            obtain ⟨v16, e16⟩ : ∃ z, M 598 72 = z := ⟨_, rfl⟩
            have b16 : 0 ≤ v16 ∧ v16 ≤ 1600 := by rw [← e16]; exact hI_M 598 72 (by decide)
            have e17 : M4 598 72 = v16 := ((w4_5 72 (by decide) (by decide) (by decide)).trans e16)
            have e18 : M5 598 72 = v16 := ((w5_5 72 (by decide) (by decide) (by decide)).trans e17)
            have e19 : M4 598 74 = v1 := ((w4_5 74 (by decide) (by decide) (by decide)).trans e1)
            have e20 : M5 598 74 = v1 := ((w5_5 74 (by decide) (by decide) (by decide)).trans e19)
            obtain ⟨v23, e23⟩ : ∃ z, M5 598 89 = z := ⟨_, rfl⟩
            have b23 : 0 ≤ v23 ∧ v23 ≤ 301 := by rw [← e23]; exact hI_M5 598 89 (by decide)
            have e25 : M5 598 100 = v12 := ((w5_5 100 (by decide) (by decide) (by decide)).trans e12)
            refine jr_v rfl rfl (Or.inl rfl) rfl rfl (by decide) rfl ⟨rfl, Nat.le_of_ble_eq_true rfl, Nat.le_of_ble_eq_true rfl⟩ rfl (jc.deep (r_next hI_M5 hH_M5 hS_M5   (by rw [e15, e18]; omega) (fun M14 hI_M14 hH_M14 hS_M14  w14_0 w14_1 w14_2 w14_3 w14_4 w14_5 w14_6 => ?_)) (by decide))
            have y21 : M5 598 74 = v1 := e20
            have y22 : M5 598 73 = v8 := e15
            have y24 : M5 598 89 = v23 := e23
            have y26 : M5 598 100 = v12 := e25
            have x14_89 := w14_6 89 (by decide) (by decide) (by decide) (by decide) (by decide) (by decide) (by decide)
            have x14_100 := w14_6 100 (by decide) (by decide) (by decide) (by decide) (by decide) (by decide) (by decide)
            have hE := ES.fr2 hE w14_5 (w14_6 88 (by decide) (by decide) (by decide) (by decide) (by decide) (by decide) (by decide)) (w14_6 90 (by decide) (by decide) (by decide) (by decide) (by decide) (by decide) (by decide)) (w14_6 101 (by decide) (by decide) (by decide) (by decide) (by decide) (by decide) (by decide)) (w14_6 102 (by decide) (by decide) (by decide) (by decide) (by decide) (by decide) (by decide)) (w14_6 107 (by decide) (by decide) (by decide) (by decide) (by decide) (by decide) (by decide)) (k' := kk + 4) (d' := 0) (z' := 0) (by omega) (by omega) (by omega) (by omega)
            refine jr.iload_n rfl rfl ?_
            refine jr.iconst rfl ?_
            refine jr.icmp_ge rfl rfl (by omega) (by omega) (fun h82 => ?_) (fun h82 => ?_)
            · refine jr.aload_n rfl rfl ?_
              refine jr.iload_n rfl rfl ?_
              refine jr.iconst rfl ?_
              have e27 : M5 598 102 = sg := ((w5_5 102 (by decide) (by decide) (by decide)).trans hsg)
              have e28 : M14 598 102 = sg := ((w14_6 102 (by decide) (by decide) (by decide) (by decide) (by decide) (by decide) (by decide)).trans e27)
              refine jr_v rfl rfl (Or.inl rfl) rfl rfl (by decide) rfl ⟨rfl, Nat.le_of_ble_eq_true rfl, Nat.le_of_ble_eq_true rfl⟩ rfl (jc.deep (r_push e28 (by omega) (by omega) (by omega) ?_) (by decide))
              have hE := ES.two hE e28 v2 (-1) (kk + 2) (by omega) (by rw [w14_5 664 _ (by decide), w5_4 664 _ (by decide)]; omega) (by omega) (by omega)
              refine jr.iconst rfl ?_
              have e29 : M14 598 72 = v16 := ((w14_6 72 (by decide) (by decide) (by decide) (by decide) (by decide) (by decide) (by decide)).trans e18)
              have y30 : (ju (ju (ju (ju M14 664 sg v2) 666 sg (-1)) 667 sg 1) 598 102 (sg + 1)) 598 72 = v16 := ((ju_i _ _ (by decide)).trans ((ju_c _ _ (by decide)).trans ((ju_c _ _ (by decide)).trans ((ju_c _ _ (by decide)).trans e29))))
              obtain ⟨v31, e31⟩ : ∃ z, M14 598 73 = z := ⟨_, rfl⟩
              have b31 : 0 ≤ v31 ∧ v31 ≤ 1600 := by rw [← e31]; exact hI_M14 598 73 (by decide)
              have y32 : (ju (ju (ju (ju M14 664 sg v2) 666 sg (-1)) 667 sg 1) 598 102 (sg + 1)) 598 73 = v31 := ((ju_i _ _ (by decide)).trans ((ju_c _ _ (by decide)).trans ((ju_c _ _ (by decide)).trans ((ju_c _ _ (by decide)).trans e31))))
              obtain ⟨v33, e33⟩ : ∃ z, M14 598 74 = z := ⟨_, rfl⟩
              have b33 : 0 ≤ v33 ∧ v33 ≤ 4 := by rw [← e33]; exact hI_M14 598 74 (by decide)
              have y34 : (ju (ju (ju (ju M14 664 sg v2) 666 sg (-1)) 667 sg 1) 598 102 (sg + 1)) 598 74 = v33 := ((ju_i _ _ (by decide)).trans ((ju_c _ _ (by decide)).trans ((ju_c _ _ (by decide)).trans ((ju_c _ _ (by decide)).trans e33))))
              obtain ⟨v35, e35⟩ : ∃ z, M14 598 79 = z := ⟨_, rfl⟩
              have b35 : 0 ≤ v35 ∧ v35 ≤ 255 := by rw [← e35]; exact hI_M14 598 79 (by decide)
              have y36 : (ju (ju (ju (ju M14 664 sg v2) 666 sg (-1)) 667 sg 1) 598 102 (sg + 1)) 598 79 = v35 := ((ju_i _ _ (by decide)).trans ((ju_c _ _ (by decide)).trans ((ju_c _ _ (by decide)).trans ((ju_c _ _ (by decide)).trans e35))))
              obtain ⟨v37, e37⟩ : ∃ z, M5 598 80 = z := ⟨_, rfl⟩
              have b37 : 0 ≤ v37 ∧ v37 ≤ 7 := by rw [← e37]; exact hI_M5 598 80 (by decide)
              have e38 : M14 598 80 = v37 := ((w14_6 80 (by decide) (by decide) (by decide) (by decide) (by decide) (by decide) (by decide)).trans e37)
              have y39 : (ju (ju (ju (ju M14 664 sg v2) 666 sg (-1)) 667 sg 1) 598 102 (sg + 1)) 598 80 = v37 := ((ju_i _ _ (by decide)).trans ((ju_c _ _ (by decide)).trans ((ju_c _ _ (by decide)).trans ((ju_c _ _ (by decide)).trans e38))))
              have e40 : M14 598 89 = v23 := ((w14_6 89 (by decide) (by decide) (by decide) (by decide) (by decide) (by decide) (by decide)).trans e23)
              have y41 : (ju (ju (ju (ju M14 664 sg v2) 666 sg (-1)) 667 sg 1) 598 102 (sg + 1)) 598 89 = v23 := ((ju_i _ _ (by decide)).trans ((ju_c _ _ (by decide)).trans ((ju_c _ _ (by decide)).trans ((ju_c _ _ (by decide)).trans e40))))
              obtain ⟨v42, e42⟩ : ∃ z, M4 598 90 = z := ⟨_, rfl⟩
              have b42 : 0 ≤ v42 ∧ v42 ≤ 2200 := by rw [← e42]; exact hI_M4 598 90 (by decide)
              have e43 : M5 598 90 = v42 := ((w5_5 90 (by decide) (by decide) (by decide)).trans e42)
              have e44 : M14 598 90 = v42 := ((w14_6 90 (by decide) (by decide) (by decide) (by decide) (by decide) (by decide) (by decide)).trans e43)
              have y45 : (ju (ju (ju (ju M14 664 sg v2) 666 sg (-1)) 667 sg 1) 598 102 (sg + 1)) 598 90 = v42 := ((ju_i _ _ (by decide)).trans ((ju_c _ _ (by decide)).trans ((ju_c _ _ (by decide)).trans ((ju_c _ _ (by decide)).trans e44))))
              have e46 : M14 598 100 = v12 := ((w14_6 100 (by decide) (by decide) (by decide) (by decide) (by decide) (by decide) (by decide)).trans e25)
              have y47 : (ju (ju (ju (ju M14 664 sg v2) 666 sg (-1)) 667 sg 1) 598 102 (sg + 1)) 598 100 = v12 := ((ju_i _ _ (by decide)).trans ((ju_c _ _ (by decide)).trans ((ju_c _ _ (by decide)).trans ((ju_c _ _ (by decide)).trans e46))))
              obtain ⟨v48, e48⟩ : ∃ z, M 598 107 = z := ⟨_, rfl⟩
              have b48 : 0 ≤ v48 ∧ v48 ≤ 16 := by rw [← e48]; exact hI_M 598 107 (by decide)
              have e49 : M4 598 107 = v48 := ((w4_5 107 (by decide) (by decide) (by decide)).trans e48)
              have e50 : M5 598 107 = v48 := ((w5_5 107 (by decide) (by decide) (by decide)).trans e49)
              have e51 : M14 598 107 = v48 := ((w14_6 107 (by decide) (by decide) (by decide) (by decide) (by decide) (by decide) (by decide)).trans e50)
              have y52 : (ju (ju (ju (ju M14 664 sg v2) 666 sg (-1)) 667 sg 1) 598 102 (sg + 1)) 598 107 = v48 := ((ju_i _ _ (by decide)).trans ((ju_c _ _ (by decide)).trans ((ju_c _ _ (by decide)).trans ((ju_c _ _ (by decide)).trans e51))))
              have y53 : TK (ju (ju (ju (ju M14 664 sg v2) 666 sg (-1)) 667 sg 1) 598 102 (sg + 1)) = TK M14 := ((TK.o (Or.inr ⟨by decide, by decide⟩)).trans ((TK.o (Or.inl (by decide))).trans ((TK.o (Or.inl (by decide))).trans ((TK.o (Or.inl (by decide))).trans rfl))))
              exact jr.ireturn rfl rfl rfl (q _ _ (RI.u (RI.u (RI.u (RI.u hI_M14 (a := 664) (i := sg) (by rw [xri_row rfl rfl]; show (0 : Int) ≤ _ ∧ _ ≤ (255 : Int); omega)) (a := 666) (i := sg) (by rw [xri_row rfl rfl]; show (-1 : Int) ≤ _ ∧ _ ≤ (68 : Int); omega)) (a := 667) (i := sg) (by rw [xri_row rfl rfl]; show (0 : Int) ≤ _ ∧ _ ≤ (4 : Int); omega)) (a := 598) (i := 102) (show (0 : Int) ≤ _ ∧ _ ≤ (400 : Int) from by omega)) (RH.o (RH.o (RH.o (RH.o hH_M14 (by decide) (by decide) (by decide)) (by decide) (by decide) (by decide)) (by decide) (by decide) (by decide)) (by decide) (by decide) (by decide)) (RF.o (RF.o (RF.o (RF.o hS_M14 (by decide) (by decide)) (by decide) (by decide)) (by decide) (by decide)) (by decide) (by decide))  (by omega) (Or.inr ⟨rfl, by by_cases hf : v37 = 0; (first | (exact Or.inr ⟨⟨by omega, ES.adj hE (k' := kk) (z' := 0) (by omega) (by omega) (by omega), by omega, by omega, by omega, by omega⟩, by omega⟩) | (exfalso; omega)); (exact Or.inl ⟨by omega, by omega⟩)⟩) (by omega) (by omega) (by omega) (CP.o (CP.o (CP.o (CP.o (CP.f (CP.f (CP.trans (CP.rfl _) w4_3) (fun i => w5_4 659 i (by decide)) (w5_5 90 (by decide) (by decide) (by decide))) (fun i => w14_5 659 i (by decide)) (w14_6 90 (by decide) (by decide) (by decide) (by decide) (by decide) (by decide) (by decide))) (by decide) (Or.inl (by decide))) (by decide) (Or.inl (by decide))) (by decide) (Or.inl (by decide))) (by decide) (Or.inr (by decide))) (by omega) (fun a i f598 f659 f660 f664 f665 f666 f667 => ((ju_c _ _ f598).trans ((ju_c _ _ f667).trans ((ju_c _ _ f666).trans ((ju_c _ _ f664).trans ((w14_5 a i f598).trans ((w5_4 a i f598).trans ((w4_4 a i f598 f659 f660).trans rfl)))))))) (fun i g73 g74 g75 g76 g77 g78 g79 g80 g81 g89 g90 g100 g102 => ((ju_i _ _ g102).trans ((ju_c _ _ (by decide)).trans ((ju_c _ _ (by decide)).trans ((ju_c _ _ (by decide)).trans ((w14_6 i g73 g74 g75 g76 g77 g78 g79).trans ((w5_5 i g80 g81 g89).trans ((w4_5 i g90 g100 g102).trans rfl)))))))))
            · refine jr.aload_n rfl rfl ?_
              refine jr.iload_n rfl rfl ?_
              have e54 : M5 598 102 = sg := ((w5_5 102 (by decide) (by decide) (by decide)).trans hsg)
              have e55 : M14 598 102 = sg := ((w14_6 102 (by decide) (by decide) (by decide) (by decide) (by decide) (by decide) (by decide)).trans e54)
              obtain ⟨v56, e56⟩ : ∃ z, M4 598 90 = z := ⟨_, rfl⟩
              have b56 : 0 ≤ v56 ∧ v56 ≤ 2200 := by rw [← e56]; exact hI_M4 598 90 (by decide)
              have e57 : M5 598 90 = v56 := ((w5_5 90 (by decide) (by decide) (by decide)).trans e56)
              have e58 : M14 598 90 = v56 := ((w14_6 90 (by decide) (by decide) (by decide) (by decide) (by decide) (by decide) (by decide)).trans e57)
              have e60 : M14 598 100 = v12 := ((w14_6 100 (by decide) (by decide) (by decide) (by decide) (by decide) (by decide) (by decide)).trans e25)
              obtain ⟨v62, e62⟩ : ∃ z, M 598 107 = z := ⟨_, rfl⟩
              have b62 : 0 ≤ v62 ∧ v62 ≤ 16 := by rw [← e62]; exact hI_M 598 107 (by decide)
              have e63 : M4 598 107 = v62 := ((w4_5 107 (by decide) (by decide) (by decide)).trans e62)
              have e64 : M5 598 107 = v62 := ((w5_5 107 (by decide) (by decide) (by decide)).trans e63)
              have e65 : M14 598 107 = v62 := ((w14_6 107 (by decide) (by decide) (by decide) (by decide) (by decide) (by decide) (by decide)).trans e64)
              refine jr_v rfl rfl (Or.inl rfl) rfl rfl (by decide) rfl ⟨rfl, Nat.le_of_ble_eq_true rfl, Nat.le_of_ble_eq_true rfl⟩ rfl (jc.deep (r_open e55 (by omega) e58 (by omega) (by omega) (fun op59 ho59 => ?_)) (by decide))
              have y61 : M14 598 100 = v12 := e60
              have y66 : M14 598 107 = v62 := e65
              have hE := ES.opn hE e55 e58 v2 (-1) op59 kk (strn_and (by omega)) ho59 (by rw [w14_5 664 _ (by decide), w5_4 664 _ (by decide)]; omega) (by omega) (by omega) (by omega)
              refine jr.goto rfl rfl ?_
              refine jr.iconst rfl ?_
              have e67 : M14 598 72 = v16 := ((w14_6 72 (by decide) (by decide) (by decide) (by decide) (by decide) (by decide) (by decide)).trans e18)
              have y68 : (ju (ju (ju (ju (ju (ju (ju (ju M14 664 sg v2) 666 sg (-1)) 667 sg 1) 598 102 (sg + 1)) 665 (sg + 1 - 1) v56) 659 v56 op59) 660 v56 0) 598 90 (v56 + 1)) 598 72 = v16 := ((ju_i _ _ (by decide)).trans ((ju_c _ _ (by decide)).trans ((ju_c _ _ (by decide)).trans ((ju_c _ _ (by decide)).trans ((ju_i _ _ (by decide)).trans ((ju_c _ _ (by decide)).trans ((ju_c _ _ (by decide)).trans ((ju_c _ _ (by decide)).trans e67))))))))
              obtain ⟨v69, e69⟩ : ∃ z, M14 598 73 = z := ⟨_, rfl⟩
              have b69 : 0 ≤ v69 ∧ v69 ≤ 1600 := by rw [← e69]; exact hI_M14 598 73 (by decide)
              have y70 : (ju (ju (ju (ju (ju (ju (ju (ju M14 664 sg v2) 666 sg (-1)) 667 sg 1) 598 102 (sg + 1)) 665 (sg + 1 - 1) v56) 659 v56 op59) 660 v56 0) 598 90 (v56 + 1)) 598 73 = v69 := ((ju_i _ _ (by decide)).trans ((ju_c _ _ (by decide)).trans ((ju_c _ _ (by decide)).trans ((ju_c _ _ (by decide)).trans ((ju_i _ _ (by decide)).trans ((ju_c _ _ (by decide)).trans ((ju_c _ _ (by decide)).trans ((ju_c _ _ (by decide)).trans e69))))))))
              obtain ⟨v71, e71⟩ : ∃ z, M14 598 74 = z := ⟨_, rfl⟩
              have b71 : 0 ≤ v71 ∧ v71 ≤ 4 := by rw [← e71]; exact hI_M14 598 74 (by decide)
              have y72 : (ju (ju (ju (ju (ju (ju (ju (ju M14 664 sg v2) 666 sg (-1)) 667 sg 1) 598 102 (sg + 1)) 665 (sg + 1 - 1) v56) 659 v56 op59) 660 v56 0) 598 90 (v56 + 1)) 598 74 = v71 := ((ju_i _ _ (by decide)).trans ((ju_c _ _ (by decide)).trans ((ju_c _ _ (by decide)).trans ((ju_c _ _ (by decide)).trans ((ju_i _ _ (by decide)).trans ((ju_c _ _ (by decide)).trans ((ju_c _ _ (by decide)).trans ((ju_c _ _ (by decide)).trans e71))))))))
              obtain ⟨v73, e73⟩ : ∃ z, M14 598 79 = z := ⟨_, rfl⟩
              have b73 : 0 ≤ v73 ∧ v73 ≤ 255 := by rw [← e73]; exact hI_M14 598 79 (by decide)
              have y74 : (ju (ju (ju (ju (ju (ju (ju (ju M14 664 sg v2) 666 sg (-1)) 667 sg 1) 598 102 (sg + 1)) 665 (sg + 1 - 1) v56) 659 v56 op59) 660 v56 0) 598 90 (v56 + 1)) 598 79 = v73 := ((ju_i _ _ (by decide)).trans ((ju_c _ _ (by decide)).trans ((ju_c _ _ (by decide)).trans ((ju_c _ _ (by decide)).trans ((ju_i _ _ (by decide)).trans ((ju_c _ _ (by decide)).trans ((ju_c _ _ (by decide)).trans ((ju_c _ _ (by decide)).trans e73))))))))
              obtain ⟨v75, e75⟩ : ∃ z, M5 598 80 = z := ⟨_, rfl⟩
              have b75 : 0 ≤ v75 ∧ v75 ≤ 7 := by rw [← e75]; exact hI_M5 598 80 (by decide)
              have e76 : M14 598 80 = v75 := ((w14_6 80 (by decide) (by decide) (by decide) (by decide) (by decide) (by decide) (by decide)).trans e75)
              have y77 : (ju (ju (ju (ju (ju (ju (ju (ju M14 664 sg v2) 666 sg (-1)) 667 sg 1) 598 102 (sg + 1)) 665 (sg + 1 - 1) v56) 659 v56 op59) 660 v56 0) 598 90 (v56 + 1)) 598 80 = v75 := ((ju_i _ _ (by decide)).trans ((ju_c _ _ (by decide)).trans ((ju_c _ _ (by decide)).trans ((ju_c _ _ (by decide)).trans ((ju_i _ _ (by decide)).trans ((ju_c _ _ (by decide)).trans ((ju_c _ _ (by decide)).trans ((ju_c _ _ (by decide)).trans e76))))))))
              have e78 : M14 598 89 = v23 := ((w14_6 89 (by decide) (by decide) (by decide) (by decide) (by decide) (by decide) (by decide)).trans e23)
              have y79 : (ju (ju (ju (ju (ju (ju (ju (ju M14 664 sg v2) 666 sg (-1)) 667 sg 1) 598 102 (sg + 1)) 665 (sg + 1 - 1) v56) 659 v56 op59) 660 v56 0) 598 90 (v56 + 1)) 598 89 = v23 := ((ju_i _ _ (by decide)).trans ((ju_c _ _ (by decide)).trans ((ju_c _ _ (by decide)).trans ((ju_c _ _ (by decide)).trans ((ju_i _ _ (by decide)).trans ((ju_c _ _ (by decide)).trans ((ju_c _ _ (by decide)).trans ((ju_c _ _ (by decide)).trans e78))))))))
              have y80 : (ju (ju (ju (ju (ju (ju (ju (ju M14 664 sg v2) 666 sg (-1)) 667 sg 1) 598 102 (sg + 1)) 665 (sg + 1 - 1) v56) 659 v56 op59) 660 v56 0) 598 90 (v56 + 1)) 598 90 = v56 + 1 := (ju_same _ _ _ _)
              have y81 : (ju (ju (ju (ju (ju (ju (ju (ju M14 664 sg v2) 666 sg (-1)) 667 sg 1) 598 102 (sg + 1)) 665 (sg + 1 - 1) v56) 659 v56 op59) 660 v56 0) 598 90 (v56 + 1)) 598 100 = v12 := ((ju_i _ _ (by decide)).trans ((ju_c _ _ (by decide)).trans ((ju_c _ _ (by decide)).trans ((ju_c _ _ (by decide)).trans ((ju_i _ _ (by decide)).trans ((ju_c _ _ (by decide)).trans ((ju_c _ _ (by decide)).trans ((ju_c _ _ (by decide)).trans e60))))))))
              have y82 : (ju (ju (ju (ju (ju (ju (ju (ju M14 664 sg v2) 666 sg (-1)) 667 sg 1) 598 102 (sg + 1)) 665 (sg + 1 - 1) v56) 659 v56 op59) 660 v56 0) 598 90 (v56 + 1)) 598 107 = v62 := ((ju_i _ _ (by decide)).trans ((ju_c _ _ (by decide)).trans ((ju_c _ _ (by decide)).trans ((ju_c _ _ (by decide)).trans ((ju_i _ _ (by decide)).trans ((ju_c _ _ (by decide)).trans ((ju_c _ _ (by decide)).trans ((ju_c _ _ (by decide)).trans e65))))))))
              have y83 : TK (ju (ju (ju (ju (ju (ju (ju (ju M14 664 sg v2) 666 sg (-1)) 667 sg 1) 598 102 (sg + 1)) 665 (sg + 1 - 1) v56) 659 v56 op59) 660 v56 0) 598 90 (v56 + 1)) = TK M14 := ((TK.o (Or.inr ⟨by decide, by decide⟩)).trans ((TK.o (Or.inl (by decide))).trans ((TK.o (Or.inl (by decide))).trans ((TK.o (Or.inl (by decide))).trans ((TK.o (Or.inr ⟨by decide, by decide⟩)).trans ((TK.o (Or.inl (by decide))).trans ((TK.o (Or.inl (by decide))).trans ((TK.o (Or.inl (by decide))).trans rfl))))))))
              exact jr.ireturn rfl rfl rfl (q _ _ (RI.u (RI.u (RI.u (RI.u (RI.u (RI.u (RI.u (RI.u hI_M14 (a := 664) (i := sg) (by rw [xri_row rfl rfl]; show (0 : Int) ≤ _ ∧ _ ≤ (255 : Int); omega)) (a := 666) (i := sg) (by rw [xri_row rfl rfl]; show (-1 : Int) ≤ _ ∧ _ ≤ (68 : Int); omega)) (a := 667) (i := sg) (by rw [xri_row rfl rfl]; show (0 : Int) ≤ _ ∧ _ ≤ (4 : Int); omega)) (a := 598) (i := 102) (show (0 : Int) ≤ _ ∧ _ ≤ (400 : Int) from by omega)) (a := 665) (i := (sg + 1 - 1)) (by rw [xri_row rfl rfl]; show (0 : Int) ≤ _ ∧ _ ≤ (2200 : Int); omega)) (a := 659) (i := v56) (by rw [xri_row rfl rfl]; show (0 : Int) ≤ _ ∧ _ ≤ (1000 : Int); omega)) (a := 660) (i := v56) (by rw [xri_row rfl rfl]; show (-9223372036854775808 : Int) ≤ _ ∧ _ ≤ (9223372036854775807 : Int); omega)) (a := 598) (i := 90) (show (0 : Int) ≤ _ ∧ _ ≤ (2200 : Int) from by omega)) (RH.o (RH.o (RH.o (RH.o (RH.o (RH.o (RH.o (RH.o hH_M14 (by decide) (by decide) (by decide)) (by decide) (by decide) (by decide)) (by decide) (by decide) (by decide)) (by decide) (by decide) (by decide)) (by decide) (by decide) (by decide)) (by decide) (by decide) (by decide)) (by decide) (by decide) (by decide)) (by decide) (by decide) (by decide)) (RF.o (RF.o (RF.o (RF.o (RF.o (RF.o (RF.o (RF.o hS_M14 (by decide) (by decide)) (by decide) (by decide)) (by decide) (by decide)) (by decide) (by decide)) (by decide) (by decide)) (by decide) (by decide)) (by decide) (by decide)) (by decide) (by decide))  (by omega) (Or.inr ⟨rfl, by by_cases hf : v75 = 0; (first | (exact Or.inr ⟨⟨by omega, ES.adj hE (k' := kk) (z' := 0) (by omega) (by omega) (by omega), by omega, by omega, by omega, by omega⟩, by omega⟩) | (exfalso; omega)); (exact Or.inl ⟨by omega, by omega⟩)⟩) (by omega) (by omega) (by omega) (CP.emit (CP.o (CP.o (CP.o (CP.o (CP.o (CP.f (CP.f (CP.trans (CP.rfl _) w4_3) (fun i => w5_4 659 i (by decide)) (w5_5 90 (by decide) (by decide) (by decide))) (fun i => w14_5 659 i (by decide)) (w14_6 90 (by decide) (by decide) (by decide) (by decide) (by decide) (by decide) (by decide))) (by decide) (Or.inl (by decide))) (by decide) (Or.inl (by decide))) (by decide) (Or.inl (by decide))) (by decide) (Or.inr (by decide))) (by decide) (Or.inl (by decide))) ((ju_c _ _ (by decide)).trans ((ju_i _ _ (by decide)).trans ((ju_c _ _ (by decide)).trans ((ju_c _ _ (by decide)).trans ((ju_c _ _ (by decide)).trans e58)))))) (by omega) (fun a i f598 f659 f660 f664 f665 f666 f667 => ((ju_c _ _ f598).trans ((ju_c _ _ f660).trans ((ju_c _ _ f659).trans ((ju_c _ _ f665).trans ((ju_c _ _ f598).trans ((ju_c _ _ f667).trans ((ju_c _ _ f666).trans ((ju_c _ _ f664).trans ((w14_5 a i f598).trans ((w5_4 a i f598).trans ((w4_4 a i f598 f659 f660).trans rfl)))))))))))) (fun i g73 g74 g75 g76 g77 g78 g79 g80 g81 g89 g90 g100 g102 => ((ju_i _ _ g90).trans ((ju_c _ _ (by decide)).trans ((ju_c _ _ (by decide)).trans ((ju_c _ _ (by decide)).trans ((ju_i _ _ g102).trans ((ju_c _ _ (by decide)).trans ((ju_c _ _ (by decide)).trans ((ju_c _ _ (by decide)).trans ((w14_6 i g73 g74 g75 g76 g77 g78 g79).trans ((w5_5 i g80 g81 g89).trans ((w4_5 i g90 g100 g102).trans rfl)))))))))))))
          · refine jr.if_ne rfl rfl (by omega) (fun h => absurd h (by decide)) (fun _ => ?_)
            refine jr.iconst rfl ?_
            obtain ⟨v84, e84⟩ : ∃ z, M 598 72 = z := ⟨_, rfl⟩
            have b84 : 0 ≤ v84 ∧ v84 ≤ 1600 := by rw [← e84]; exact hI_M 598 72 (by decide)
            have e85 : M4 598 72 = v84 := ((w4_5 72 (by decide) (by decide) (by decide)).trans e84)
            have e86 : M5 598 72 = v84 := ((w5_5 72 (by decide) (by decide) (by decide)).trans e85)
            have y87 : M5 598 72 = v84 := e86
            have e88 : M5 598 73 = v8 := ((w5_5 73 (by decide) (by decide) (by decide)).trans e9)
            have y89 : M5 598 73 = v8 := e88
            have e90 : M4 598 74 = v1 := ((w4_5 74 (by decide) (by decide) (by decide)).trans e1)
            have e91 : M5 598 74 = v1 := ((w5_5 74 (by decide) (by decide) (by decide)).trans e90)
            have y92 : M5 598 74 = v1 := e91
            have e93 : M4 598 79 = v2 := ((w4_5 79 (by decide) (by decide) (by decide)).trans e2)
            have e94 : M5 598 79 = v2 := ((w5_5 79 (by decide) (by decide) (by decide)).trans e93)
            have y95 : M5 598 79 = v2 := e94
            obtain ⟨v96, e96⟩ : ∃ z, M5 598 80 = z := ⟨_, rfl⟩
            have b96 : 0 ≤ v96 ∧ v96 ≤ 7 := by rw [← e96]; exact hI_M5 598 80 (by decide)
            have y97 : M5 598 80 = v96 := e96
            obtain ⟨v98, e98⟩ : ∃ z, M5 598 89 = z := ⟨_, rfl⟩
            have b98 : 0 ≤ v98 ∧ v98 ≤ 301 := by rw [← e98]; exact hI_M5 598 89 (by decide)
            have y99 : M5 598 89 = v98 := e98
            obtain ⟨v100, e100⟩ : ∃ z, M4 598 90 = z := ⟨_, rfl⟩
            have b100 : 0 ≤ v100 ∧ v100 ≤ 2200 := by rw [← e100]; exact hI_M4 598 90 (by decide)
            have e101 : M5 598 90 = v100 := ((w5_5 90 (by decide) (by decide) (by decide)).trans e100)
            have y102 : M5 598 90 = v100 := e101
            have e103 : M5 598 100 = v12 := ((w5_5 100 (by decide) (by decide) (by decide)).trans e12)
            have y104 : M5 598 100 = v12 := e103
            obtain ⟨v105, e105⟩ : ∃ z, M 598 107 = z := ⟨_, rfl⟩
            have b105 : 0 ≤ v105 ∧ v105 ≤ 16 := by rw [← e105]; exact hI_M 598 107 (by decide)
            have e106 : M4 598 107 = v105 := ((w4_5 107 (by decide) (by decide) (by decide)).trans e105)
            have e107 : M5 598 107 = v105 := ((w5_5 107 (by decide) (by decide) (by decide)).trans e106)
            have y108 : M5 598 107 = v105 := e107
            exact jr.ireturn rfl rfl rfl (q _ _ hI_M5 hH_M5 hS_M5  (by omega) (Or.inr ⟨rfl, by by_cases hf : v96 = 0; (first | (exfalso; omega) | (exact Or.inr ⟨⟨by omega, ES.adj hE (k' := kk) (z' := 0) (by omega) (by omega) (by omega), by omega, by omega, by omega, by omega⟩, by omega⟩)); (exact Or.inl ⟨by omega, by omega⟩)⟩) (by omega) (by omega) (by omega) (CP.f (CP.trans (CP.rfl _) w4_3) (fun i => w5_4 659 i (by decide)) (w5_5 90 (by decide) (by decide) (by decide))) (by omega) (fun a i f598 f659 f660 f664 f665 f666 f667 => ((w5_4 a i f598).trans ((w4_4 a i f598 f659 f660).trans rfl))) (fun i g73 g74 g75 g76 g77 g78 g79 g80 g81 g89 g90 g100 g102 => ((w5_5 i g80 g81 g89).trans ((w4_5 i g90 g100 g102).trans rfl))))
        · exact absurd h34 h47
      · refine jr.iconst rfl ?_
        refine jr.goto rfl rfl ?_
        refine jr_v rfl rfl (Or.inl rfl) rfl rfl (by decide) rfl ⟨rfl, Nat.le_of_ble_eq_true rfl, Nat.le_of_ble_eq_true rfl⟩ rfl (jc.deep (r_reduce hI_M hH_M hS_M  (by omega) p0 (fun M215 hI_M215 hH_M215 hS_M215  w215_0 w215_1 w215_2 w215_3 w215_4 w215_5 => ?_)) (by decide))
        have tk215 : TK M215 = TK M := TK.fr (w215_5 73 (by decide) (by decide) (by decide)) (w215_5 74 (by decide) (by decide) (by decide))
        obtain ⟨gs1, gs2, gs3, gs4, gs5, gs6⟩ := id w215_0
        have hE := gs2
        have sl := ES.sgle gs2
        have bb := ES.bb gs2
        have kb := ES.kz gs2
        have bM215_107 : (0 : Int) ≤ M215 598 107 ∧ M215 598 107 ≤ 16 := hI_M215 598 107 (by decide)
        have bM215_73 : (0 : Int) ≤ M215 598 73 ∧ M215 598 73 ≤ 1600 := hI_M215 598 73 (by decide)
        have bM215_88 : (0 : Int) ≤ M215 598 88 ∧ M215 598 88 ≤ 16 := hI_M215 598 88 (by decide)
        have bM215_100 : (0 : Int) ≤ M215 598 100 ∧ M215 598 100 ≤ 13 := hI_M215 598 100 (by decide)
        obtain ⟨sg, hsg⟩ : ∃ z, M215 598 102 = z := ⟨_, rfl⟩
        rw [hsg] at w215_1
        have bsg : (0 : Int) ≤ sg ∧ sg ≤ 400 := by rw [← hsg]; exact hI_M215 598 102 (by decide)
        refine jr.iload_n rfl rfl ?_
        refine jr.iconst rfl ?_
        refine jr.icmp_ne rfl rfl (by omega) (by omega) (fun h47 => ?_) (fun h47 => ?_)
        · exact absurd h47 (by omega)
        · refine jr.aload_n rfl rfl ?_
          refine jr_v rfl rfl (Or.inl rfl) rfl rfl (by decide) rfl ⟨rfl, Nat.le_of_ble_eq_true rfl, Nat.le_of_ble_eq_true rfl⟩ rfl (jc.deep (r_isCompareOnTop hI_M215 hH_M215 hS_M215 (Kp.rfl _)   (fun r216 z216 w216_0 => ?_)) (by decide))
          rw [hsg] at w216_0
          refine jr.if_eq rfl rfl (by omega) (fun h54 => ?_) (fun h54 => ?_)
          · refine jr.aload_n rfl rfl ?_
            obtain ⟨v218, e218⟩ : ∃ z, M 598 89 = z := ⟨_, rfl⟩
            have b218 : 0 ≤ v218 ∧ v218 ≤ 301 := by rw [← e218]; exact hI_M 598 89 (by decide)
            have e219 : M215 598 89 = v218 := ((w215_5 89 (by decide) (by decide) (by decide)).trans e218)
            obtain ⟨v220, e220⟩ : ∃ z, M 598 73 = z := ⟨_, rfl⟩
            have b220 : 0 ≤ v220 ∧ v220 ≤ 1600 := by rw [← e220]; exact hI_M 598 73 (by decide)
            have e221 : M215 598 73 = v220 := ((w215_5 73 (by decide) (by decide) (by decide)).trans e220)
            obtain ⟨v224, e224⟩ : ∃ z, M215 598 100 = z := ⟨_, rfl⟩
            have b224 : 0 ≤ v224 ∧ v224 ≤ 13 := by rw [← e224]; exact hI_M215 598 100 (by decide)
            refine jr_v rfl rfl (Or.inl rfl) rfl rfl (by decide) rfl ⟨rfl, Nat.le_of_ble_eq_true rfl, Nat.le_of_ble_eq_true rfl⟩ rfl (jc.deep (r_node hI_M215 hH_M215 hS_M215   (by rw [e219]; omega) (fun M217 hI_M217 hH_M217 hS_M217  w217_0 w217_1 w217_2 w217_3 w217_4 w217_5 => ?_)) (by decide))
            have tk217 : TK M217 = TK M215 := TK.fr (w217_5 73 (by decide) (by decide) (by decide)) (w217_5 74 (by decide) (by decide) (by decide))
            have y222 : M215 598 73 = v220 := e221
            have y223 : M215 598 89 = v218 := e219
            have y225 : M215 598 100 = v224 := e224
            have x217_73 := w217_5 73 (by decide) (by decide) (by decide)
            have x217_100 := w217_5 100 (by decide) (by decide) (by decide)
            have hE := ES.fr2 hE w217_4 (w217_5 88 (by decide) (by decide) (by decide)) (w217_5 90 (by decide) (by decide) (by decide)) (w217_5 101 (by decide) (by decide) (by decide)) (w217_5 102 (by decide) (by decide) (by decide)) (w217_5 107 (by decide) (by decide) (by decide)) (k' := kk + 4) (d' := 0) (z' := 0) (by omega) (by omega) (by omega) (by omega)
            refine jr.aload_n rfl rfl ?_
            refine jr_v rfl rfl (Or.inl rfl) rfl rfl (by decide) rfl ⟨rfl, Nat.le_of_ble_eq_true rfl, Nat.le_of_ble_eq_true rfl⟩ rfl (jc.deep (c_good hI_M217  (fun t68_0 => ?_) (fun f68_0 => ?_)) (by decide))
            · have w217_1r := Classical.byContradiction (fun z => w217_1 z t68_0)
              have w217_2r := w217_2 t68_0
              clear w217_1 w217_2 w217_3
              refine jr.if_ne rfl rfl (by omega) (fun _ => ?_) (fun h => absurd (by decide) h)
              refine jr.aload_n rfl rfl ?_
              have e227 : M217 598 73 = v220 := ((w217_5 73 (by decide) (by decide) (by decide)).trans e221)
              obtain ⟨v228, e228⟩ : ∃ z, M 598 72 = z := ⟨_, rfl⟩
              have b228 : 0 ≤ v228 ∧ v228 ≤ 1600 := by rw [← e228]; exact hI_M 598 72 (by decide)
              have e229 : M215 598 72 = v228 := ((w215_5 72 (by decide) (by decide) (by decide)).trans e228)
              have e230 : M217 598 72 = v228 := ((w217_5 72 (by decide) (by decide) (by decide)).trans e229)
              have e231 : M215 598 74 = v1 := ((w215_5 74 (by decide) (by decide) (by decide)).trans e1)
              have e232 : M217 598 74 = v1 := ((w217_5 74 (by decide) (by decide) (by decide)).trans e231)
              obtain ⟨v235, e235⟩ : ∃ z, M217 598 89 = z := ⟨_, rfl⟩
              have b235 : 0 ≤ v235 ∧ v235 ≤ 301 := by rw [← e235]; exact hI_M217 598 89 (by decide)
              have e237 : M217 598 100 = v224 := ((w217_5 100 (by decide) (by decide) (by decide)).trans e224)
              refine jr_v rfl rfl (Or.inl rfl) rfl rfl (by decide) rfl ⟨rfl, Nat.le_of_ble_eq_true rfl, Nat.le_of_ble_eq_true rfl⟩ rfl (jc.deep (r_next hI_M217 hH_M217 hS_M217   (by rw [e227, e230]; omega) (fun M226 hI_M226 hH_M226 hS_M226  w226_0 w226_1 w226_2 w226_3 w226_4 w226_5 w226_6 => ?_)) (by decide))
              have y233 : M217 598 74 = v1 := e232
              have y234 : M217 598 73 = v220 := e227
              have y236 : M217 598 89 = v235 := e235
              have y238 : M217 598 100 = v224 := e237
              have x226_89 := w226_6 89 (by decide) (by decide) (by decide) (by decide) (by decide) (by decide) (by decide)
              have x226_100 := w226_6 100 (by decide) (by decide) (by decide) (by decide) (by decide) (by decide) (by decide)
              have hE := ES.fr2 hE w226_5 (w226_6 88 (by decide) (by decide) (by decide) (by decide) (by decide) (by decide) (by decide)) (w226_6 90 (by decide) (by decide) (by decide) (by decide) (by decide) (by decide) (by decide)) (w226_6 101 (by decide) (by decide) (by decide) (by decide) (by decide) (by decide) (by decide)) (w226_6 102 (by decide) (by decide) (by decide) (by decide) (by decide) (by decide) (by decide)) (w226_6 107 (by decide) (by decide) (by decide) (by decide) (by decide) (by decide) (by decide)) (k' := kk + 4) (d' := 0) (z' := 0) (by omega) (by omega) (by omega) (by omega)
              refine jr.iload_n rfl rfl ?_
              refine jr.iconst rfl ?_
              refine jr.icmp_ge rfl rfl (by omega) (by omega) (fun h82 => ?_) (fun h82 => ?_)
              · refine jr.aload_n rfl rfl ?_
                refine jr.iload_n rfl rfl ?_
                refine jr.iconst rfl ?_
                have e239 : M217 598 102 = sg := ((w217_5 102 (by decide) (by decide) (by decide)).trans hsg)
                have e240 : M226 598 102 = sg := ((w226_6 102 (by decide) (by decide) (by decide) (by decide) (by decide) (by decide) (by decide)).trans e239)
                refine jr_v rfl rfl (Or.inl rfl) rfl rfl (by decide) rfl ⟨rfl, Nat.le_of_ble_eq_true rfl, Nat.le_of_ble_eq_true rfl⟩ rfl (jc.deep (r_push e240 (by omega) (by omega) (by omega) ?_) (by decide))
                have hE := ES.two hE e240 v2 (-1) (kk + 2) (by omega) (by rw [w226_5 664 _ (by decide), w217_4 664 _ (by decide)]; omega) (by omega) (by omega)
                refine jr.iconst rfl ?_
                have e241 : M226 598 72 = v228 := ((w226_6 72 (by decide) (by decide) (by decide) (by decide) (by decide) (by decide) (by decide)).trans e230)
                have y242 : (ju (ju (ju (ju M226 664 sg v2) 666 sg (-1)) 667 sg 1) 598 102 (sg + 1)) 598 72 = v228 := ((ju_i _ _ (by decide)).trans ((ju_c _ _ (by decide)).trans ((ju_c _ _ (by decide)).trans ((ju_c _ _ (by decide)).trans e241))))
                obtain ⟨v243, e243⟩ : ∃ z, M226 598 73 = z := ⟨_, rfl⟩
                have b243 : 0 ≤ v243 ∧ v243 ≤ 1600 := by rw [← e243]; exact hI_M226 598 73 (by decide)
                have y244 : (ju (ju (ju (ju M226 664 sg v2) 666 sg (-1)) 667 sg 1) 598 102 (sg + 1)) 598 73 = v243 := ((ju_i _ _ (by decide)).trans ((ju_c _ _ (by decide)).trans ((ju_c _ _ (by decide)).trans ((ju_c _ _ (by decide)).trans e243))))
                obtain ⟨v245, e245⟩ : ∃ z, M226 598 74 = z := ⟨_, rfl⟩
                have b245 : 0 ≤ v245 ∧ v245 ≤ 4 := by rw [← e245]; exact hI_M226 598 74 (by decide)
                have y246 : (ju (ju (ju (ju M226 664 sg v2) 666 sg (-1)) 667 sg 1) 598 102 (sg + 1)) 598 74 = v245 := ((ju_i _ _ (by decide)).trans ((ju_c _ _ (by decide)).trans ((ju_c _ _ (by decide)).trans ((ju_c _ _ (by decide)).trans e245))))
                obtain ⟨v247, e247⟩ : ∃ z, M226 598 79 = z := ⟨_, rfl⟩
                have b247 : 0 ≤ v247 ∧ v247 ≤ 255 := by rw [← e247]; exact hI_M226 598 79 (by decide)
                have y248 : (ju (ju (ju (ju M226 664 sg v2) 666 sg (-1)) 667 sg 1) 598 102 (sg + 1)) 598 79 = v247 := ((ju_i _ _ (by decide)).trans ((ju_c _ _ (by decide)).trans ((ju_c _ _ (by decide)).trans ((ju_c _ _ (by decide)).trans e247))))
                obtain ⟨v249, e249⟩ : ∃ z, M217 598 80 = z := ⟨_, rfl⟩
                have b249 : 0 ≤ v249 ∧ v249 ≤ 7 := by rw [← e249]; exact hI_M217 598 80 (by decide)
                have e250 : M226 598 80 = v249 := ((w226_6 80 (by decide) (by decide) (by decide) (by decide) (by decide) (by decide) (by decide)).trans e249)
                have y251 : (ju (ju (ju (ju M226 664 sg v2) 666 sg (-1)) 667 sg 1) 598 102 (sg + 1)) 598 80 = v249 := ((ju_i _ _ (by decide)).trans ((ju_c _ _ (by decide)).trans ((ju_c _ _ (by decide)).trans ((ju_c _ _ (by decide)).trans e250))))
                have e252 : M226 598 89 = v235 := ((w226_6 89 (by decide) (by decide) (by decide) (by decide) (by decide) (by decide) (by decide)).trans e235)
                have y253 : (ju (ju (ju (ju M226 664 sg v2) 666 sg (-1)) 667 sg 1) 598 102 (sg + 1)) 598 89 = v235 := ((ju_i _ _ (by decide)).trans ((ju_c _ _ (by decide)).trans ((ju_c _ _ (by decide)).trans ((ju_c _ _ (by decide)).trans e252))))
                obtain ⟨v254, e254⟩ : ∃ z, M215 598 90 = z := ⟨_, rfl⟩
                have b254 : 0 ≤ v254 ∧ v254 ≤ 2200 := by rw [← e254]; exact hI_M215 598 90 (by decide)
                have e255 : M217 598 90 = v254 := ((w217_5 90 (by decide) (by decide) (by decide)).trans e254)
                have e256 : M226 598 90 = v254 := ((w226_6 90 (by decide) (by decide) (by decide) (by decide) (by decide) (by decide) (by decide)).trans e255)
                have y257 : (ju (ju (ju (ju M226 664 sg v2) 666 sg (-1)) 667 sg 1) 598 102 (sg + 1)) 598 90 = v254 := ((ju_i _ _ (by decide)).trans ((ju_c _ _ (by decide)).trans ((ju_c _ _ (by decide)).trans ((ju_c _ _ (by decide)).trans e256))))
                have e258 : M226 598 100 = v224 := ((w226_6 100 (by decide) (by decide) (by decide) (by decide) (by decide) (by decide) (by decide)).trans e237)
                have y259 : (ju (ju (ju (ju M226 664 sg v2) 666 sg (-1)) 667 sg 1) 598 102 (sg + 1)) 598 100 = v224 := ((ju_i _ _ (by decide)).trans ((ju_c _ _ (by decide)).trans ((ju_c _ _ (by decide)).trans ((ju_c _ _ (by decide)).trans e258))))
                obtain ⟨v260, e260⟩ : ∃ z, M 598 107 = z := ⟨_, rfl⟩
                have b260 : 0 ≤ v260 ∧ v260 ≤ 16 := by rw [← e260]; exact hI_M 598 107 (by decide)
                have e261 : M215 598 107 = v260 := ((w215_5 107 (by decide) (by decide) (by decide)).trans e260)
                have e262 : M217 598 107 = v260 := ((w217_5 107 (by decide) (by decide) (by decide)).trans e261)
                have e263 : M226 598 107 = v260 := ((w226_6 107 (by decide) (by decide) (by decide) (by decide) (by decide) (by decide) (by decide)).trans e262)
                have y264 : (ju (ju (ju (ju M226 664 sg v2) 666 sg (-1)) 667 sg 1) 598 102 (sg + 1)) 598 107 = v260 := ((ju_i _ _ (by decide)).trans ((ju_c _ _ (by decide)).trans ((ju_c _ _ (by decide)).trans ((ju_c _ _ (by decide)).trans e263))))
                have y265 : TK (ju (ju (ju (ju M226 664 sg v2) 666 sg (-1)) 667 sg 1) 598 102 (sg + 1)) = TK M226 := ((TK.o (Or.inr ⟨by decide, by decide⟩)).trans ((TK.o (Or.inl (by decide))).trans ((TK.o (Or.inl (by decide))).trans ((TK.o (Or.inl (by decide))).trans rfl))))
                exact jr.ireturn rfl rfl rfl (q _ _ (RI.u (RI.u (RI.u (RI.u hI_M226 (a := 664) (i := sg) (by rw [xri_row rfl rfl]; show (0 : Int) ≤ _ ∧ _ ≤ (255 : Int); omega)) (a := 666) (i := sg) (by rw [xri_row rfl rfl]; show (-1 : Int) ≤ _ ∧ _ ≤ (68 : Int); omega)) (a := 667) (i := sg) (by rw [xri_row rfl rfl]; show (0 : Int) ≤ _ ∧ _ ≤ (4 : Int); omega)) (a := 598) (i := 102) (show (0 : Int) ≤ _ ∧ _ ≤ (400 : Int) from by omega)) (RH.o (RH.o (RH.o (RH.o hH_M226 (by decide) (by decide) (by decide)) (by decide) (by decide) (by decide)) (by decide) (by decide) (by decide)) (by decide) (by decide) (by decide)) (RF.o (RF.o (RF.o (RF.o hS_M226 (by decide) (by decide)) (by decide) (by decide)) (by decide) (by decide)) (by decide) (by decide))  (by omega) (Or.inr ⟨rfl, by by_cases hf : v249 = 0; (first | (exact Or.inr ⟨⟨by omega, ES.adj hE (k' := kk) (z' := 0) (by omega) (by omega) (by omega), by omega, by omega, by omega, by omega⟩, by omega⟩) | (exfalso; omega)); (exact Or.inl ⟨by omega, by omega⟩)⟩) (by omega) (by omega) (by omega) (CP.o (CP.o (CP.o (CP.o (CP.f (CP.f (CP.trans (CP.rfl _) w215_3) (fun i => w217_4 659 i (by decide)) (w217_5 90 (by decide) (by decide) (by decide))) (fun i => w226_5 659 i (by decide)) (w226_6 90 (by decide) (by decide) (by decide) (by decide) (by decide) (by decide) (by decide))) (by decide) (Or.inl (by decide))) (by decide) (Or.inl (by decide))) (by decide) (Or.inl (by decide))) (by decide) (Or.inr (by decide))) (by omega) (fun a i f598 f659 f660 f664 f665 f666 f667 => ((ju_c _ _ f598).trans ((ju_c _ _ f667).trans ((ju_c _ _ f666).trans ((ju_c _ _ f664).trans ((w226_5 a i f598).trans ((w217_4 a i f598).trans ((w215_4 a i f598 f659 f660).trans rfl)))))))) (fun i g73 g74 g75 g76 g77 g78 g79 g80 g81 g89 g90 g100 g102 => ((ju_i _ _ g102).trans ((ju_c _ _ (by decide)).trans ((ju_c _ _ (by decide)).trans ((ju_c _ _ (by decide)).trans ((w226_6 i g73 g74 g75 g76 g77 g78 g79).trans ((w217_5 i g80 g81 g89).trans ((w215_5 i g90 g100 g102).trans rfl)))))))))
              · exact absurd (by omega) h82
            · refine jr.if_ne rfl rfl (by omega) (fun h => absurd h (by decide)) (fun _ => ?_)
              refine jr.iconst rfl ?_
              obtain ⟨v266, e266⟩ : ∃ z, M 598 72 = z := ⟨_, rfl⟩
              have b266 : 0 ≤ v266 ∧ v266 ≤ 1600 := by rw [← e266]; exact hI_M 598 72 (by decide)
              have e267 : M215 598 72 = v266 := ((w215_5 72 (by decide) (by decide) (by decide)).trans e266)
              have e268 : M217 598 72 = v266 := ((w217_5 72 (by decide) (by decide) (by decide)).trans e267)
              have y269 : M217 598 72 = v266 := e268
              have e270 : M217 598 73 = v220 := ((w217_5 73 (by decide) (by decide) (by decide)).trans e221)
              have y271 : M217 598 73 = v220 := e270
              have e272 : M215 598 74 = v1 := ((w215_5 74 (by decide) (by decide) (by decide)).trans e1)
              have e273 : M217 598 74 = v1 := ((w217_5 74 (by decide) (by decide) (by decide)).trans e272)
              have y274 : M217 598 74 = v1 := e273
              have e275 : M215 598 79 = v2 := ((w215_5 79 (by decide) (by decide) (by decide)).trans e2)
              have e276 : M217 598 79 = v2 := ((w217_5 79 (by decide) (by decide) (by decide)).trans e275)
              have y277 : M217 598 79 = v2 := e276
              obtain ⟨v278, e278⟩ : ∃ z, M217 598 80 = z := ⟨_, rfl⟩
              have b278 : 0 ≤ v278 ∧ v278 ≤ 7 := by rw [← e278]; exact hI_M217 598 80 (by decide)
              have y279 : M217 598 80 = v278 := e278
              obtain ⟨v280, e280⟩ : ∃ z, M217 598 89 = z := ⟨_, rfl⟩
              have b280 : 0 ≤ v280 ∧ v280 ≤ 301 := by rw [← e280]; exact hI_M217 598 89 (by decide)
              have y281 : M217 598 89 = v280 := e280
              obtain ⟨v282, e282⟩ : ∃ z, M215 598 90 = z := ⟨_, rfl⟩
              have b282 : 0 ≤ v282 ∧ v282 ≤ 2200 := by rw [← e282]; exact hI_M215 598 90 (by decide)
              have e283 : M217 598 90 = v282 := ((w217_5 90 (by decide) (by decide) (by decide)).trans e282)
              have y284 : M217 598 90 = v282 := e283
              have e285 : M217 598 100 = v224 := ((w217_5 100 (by decide) (by decide) (by decide)).trans e224)
              have y286 : M217 598 100 = v224 := e285
              obtain ⟨v287, e287⟩ : ∃ z, M 598 107 = z := ⟨_, rfl⟩
              have b287 : 0 ≤ v287 ∧ v287 ≤ 16 := by rw [← e287]; exact hI_M 598 107 (by decide)
              have e288 : M215 598 107 = v287 := ((w215_5 107 (by decide) (by decide) (by decide)).trans e287)
              have e289 : M217 598 107 = v287 := ((w217_5 107 (by decide) (by decide) (by decide)).trans e288)
              have y290 : M217 598 107 = v287 := e289
              exact jr.ireturn rfl rfl rfl (q _ _ hI_M217 hH_M217 hS_M217  (by omega) (Or.inr ⟨rfl, by by_cases hf : v278 = 0; (first | (exfalso; omega) | (exact Or.inr ⟨⟨by omega, ES.adj hE (k' := kk) (z' := 0) (by omega) (by omega) (by omega), by omega, by omega, by omega, by omega⟩, by omega⟩)); (exact Or.inl ⟨by omega, by omega⟩)⟩) (by omega) (by omega) (by omega) (CP.f (CP.trans (CP.rfl _) w215_3) (fun i => w217_4 659 i (by decide)) (w217_5 90 (by decide) (by decide) (by decide))) (by omega) (fun a i f598 f659 f660 f664 f665 f666 f667 => ((w217_4 a i f598).trans ((w215_4 a i f598 f659 f660).trans rfl))) (fun i g73 g74 g75 g76 g77 g78 g79 g80 g81 g89 g90 g100 g102 => ((w217_5 i g80 g81 g89).trans ((w215_5 i g90 g100 g102).trans rfl))))
          · have sx54 : (1 : Int) ≤ r216 := by omega
            clear h54
            refine jr.aload_n rfl rfl ?_
            refine jr_v rfl rfl (Or.inl rfl) rfl rfl (by decide) rfl ⟨rfl, Nat.le_of_ble_eq_true rfl, Nat.le_of_ble_eq_true rfl⟩ rfl (jc.deep (r_wrongToken hI_M215 hH_M215 hS_M215    (fun M291 hI_M291 hH_M291 hS_M291  w291_0 w291_1 w291_2 => ?_)) (by decide))
            have tk291 : TK M291 = TK M215 := TK.fr (w291_2 73 (by decide) (by decide)) (w291_2 74 (by decide) (by decide))
            refine jr.iconst rfl ?_
            obtain ⟨v292, e292⟩ : ∃ z, M 598 72 = z := ⟨_, rfl⟩
            have b292 : 0 ≤ v292 ∧ v292 ≤ 1600 := by rw [← e292]; exact hI_M 598 72 (by decide)
            have e293 : M215 598 72 = v292 := ((w215_5 72 (by decide) (by decide) (by decide)).trans e292)
            have e294 : M291 598 72 = v292 := ((w291_2 72 (by decide) (by decide)).trans e293)
            have y295 : M291 598 72 = v292 := e294
            obtain ⟨v296, e296⟩ : ∃ z, M 598 73 = z := ⟨_, rfl⟩
            have b296 : 0 ≤ v296 ∧ v296 ≤ 1600 := by rw [← e296]; exact hI_M 598 73 (by decide)
            have e297 : M215 598 73 = v296 := ((w215_5 73 (by decide) (by decide) (by decide)).trans e296)
            have e298 : M291 598 73 = v296 := ((w291_2 73 (by decide) (by decide)).trans e297)
            have y299 : M291 598 73 = v296 := e298
            have e300 : M215 598 74 = v1 := ((w215_5 74 (by decide) (by decide) (by decide)).trans e1)
            have e301 : M291 598 74 = v1 := ((w291_2 74 (by decide) (by decide)).trans e300)
            have y302 : M291 598 74 = v1 := e301
            have e303 : M215 598 79 = v2 := ((w215_5 79 (by decide) (by decide) (by decide)).trans e2)
            have e304 : M291 598 79 = v2 := ((w291_2 79 (by decide) (by decide)).trans e303)
            have y305 : M291 598 79 = v2 := e304
            obtain ⟨v306, e306⟩ : ∃ z, M291 598 80 = z := ⟨_, rfl⟩
            have b306 : 0 ≤ v306 ∧ v306 ≤ 7 := by rw [← e306]; exact hI_M291 598 80 (by decide)
            have y307 : M291 598 80 = v306 := e306
            obtain ⟨v308, e308⟩ : ∃ z, M 598 89 = z := ⟨_, rfl⟩
            have b308 : 0 ≤ v308 ∧ v308 ≤ 301 := by rw [← e308]; exact hI_M 598 89 (by decide)
            have e309 : M215 598 89 = v308 := ((w215_5 89 (by decide) (by decide) (by decide)).trans e308)
            have e310 : M291 598 89 = v308 := ((w291_2 89 (by decide) (by decide)).trans e309)
            have y311 : M291 598 89 = v308 := e310
            obtain ⟨v312, e312⟩ : ∃ z, M215 598 90 = z := ⟨_, rfl⟩
            have b312 : 0 ≤ v312 ∧ v312 ≤ 2200 := by rw [← e312]; exact hI_M215 598 90 (by decide)
            have e313 : M291 598 90 = v312 := ((w291_2 90 (by decide) (by decide)).trans e312)
            have y314 : M291 598 90 = v312 := e313
            obtain ⟨v315, e315⟩ : ∃ z, M215 598 100 = z := ⟨_, rfl⟩
            have b315 : 0 ≤ v315 ∧ v315 ≤ 13 := by rw [← e315]; exact hI_M215 598 100 (by decide)
            have e316 : M291 598 100 = v315 := ((w291_2 100 (by decide) (by decide)).trans e315)
            have y317 : M291 598 100 = v315 := e316
            obtain ⟨v318, e318⟩ : ∃ z, M 598 107 = z := ⟨_, rfl⟩
            have b318 : 0 ≤ v318 ∧ v318 ≤ 16 := by rw [← e318]; exact hI_M 598 107 (by decide)
            have e319 : M215 598 107 = v318 := ((w215_5 107 (by decide) (by decide) (by decide)).trans e318)
            have e320 : M291 598 107 = v318 := ((w291_2 107 (by decide) (by decide)).trans e319)
            have y321 : M291 598 107 = v318 := e320
            exact jr.ireturn rfl rfl rfl (q _ _ hI_M291 hH_M291 hS_M291  (by omega) (Or.inr ⟨rfl, by by_cases hf : v306 = 0; (first | (exfalso; omega) | (exact Or.inr ⟨⟨by omega, ES.adj hE (k' := kk) (z' := 0) (by omega) (by omega) (by omega), by omega, by omega, by omega, by omega⟩, by omega⟩)); (exact Or.inl ⟨by omega, by omega⟩)⟩) (by omega) (by omega) (by omega) (CP.f (CP.trans (CP.rfl _) w215_3) (fun i => w291_1 659 i (by decide)) (w291_2 90 (by decide) (by decide))) (by omega) (fun a i f598 f659 f660 f664 f665 f666 f667 => ((w291_1 a i f598).trans ((w215_4 a i f598 f659 f660).trans rfl))) (fun i g73 g74 g75 g76 g77 g78 g79 g80 g81 g89 g90 g100 g102 => ((w291_2 i g80 g81).trans ((w215_5 i g90 g100 g102).trans rfl))))
    · refine jr.iconst rfl ?_
      exact jr.ireturn rfl rfl rfl (q _ _ hI_M hH_M hS_M  (by omega) (Or.inl ⟨rfl, p0⟩) (by omega) (by omega) (by omega) (CP.rfl _) (by omega) (fun a i f598 f659 f660 f664 f665 f666 f667 => rfl) (fun i g73 g74 g75 g76 g77 g78 g79 g80 g81 g89 g90 g100 g102 => rfl))
