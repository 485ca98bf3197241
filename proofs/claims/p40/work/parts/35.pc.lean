/-! ===== the reference: contracts, 35.pc ===== -/
theorem r_isCompareOnTop {A : Nat → Option (Nat × (Nat → Int32))} {Q : Option Value → jm → Prop} {T : jm} {M : jm} (hI_M : RI M) (hH_M : RH M) (hS_M : RF M) (ht_M : Kp T M) (q : ∀ (r : Int), 0 ≤ r ∧ r ≤ 1 → (r = 0 → (M 598 102 = 0 ∨ strn (M 664 (M 598 102 - 1)) ≠ 3)) → Q (some (.int (Int32.ofInt r))) M) : jc A 2 362 [.ref (598)] M Q := by
  refine jc_of (m := xm_362) rfl (Nat.le_of_ble_eq_true rfl) rfl ?_
  refine jr.aload_n rfl rfl ?_
  obtain ⟨v1, e1⟩ : ∃ z, M 598 102 = z := ⟨_, rfl⟩
  have b1 : 0 ≤ v1 ∧ v1 ≤ 400 := by rw [← e1]; exact hI_M 598 102 (Nat.le_of_ble_eq_true rfl)
  refine jr.getf (i := 102) (x := v1) (v := .int (Int32.ofInt (v1))) rfl rfl (nlt rfl) rfl (nlt rfl) rfl rfl e1 rfl ?_
  refine jr.if_le rfl rfl (by first | (refine rgb (by assumption) ?_; exact rfl) | omega) (fun h4 => ?_) (fun h4 => ?_)
  · refine jr.iconst rfl ?_
    exact jr.ireturn rfl rfl rfl (q _ (by first | exact rgq rfl | omega) (fun q => by omega))
  · refine jr.aload_n rfl rfl ?_
    refine jr.getf (i := 103) (v := .ref 664) rfl rfl (nlt rfl) rfl (nlt rfl) rfl rfl rfl rfl ?_
    refine jr.aload_n rfl rfl ?_
    refine jr.getf (i := 102) (x := v1) (v := .int (Int32.ofInt (v1))) rfl rfl (nlt rfl) rfl (nlt rfl) rfl rfl e1 rfl ?_
    refine jr.iconst rfl ?_
    refine jr.isub rfl ?_
    obtain ⟨v2, e2⟩ : ∃ z, M 664 (v1 - 1) = z := ⟨_, rfl⟩
    have b2 : 0 ≤ v2 ∧ v2 ≤ 255 := by rw [← e2]; exact (by have q := hI_M 664 (v1 - 1) (Nat.le_of_ble_eq_true rfl); rw [xri_row rfl rfl] at q; exact q)
    refine jr.iald (i := (v1 - 1)) (x := v2) rfl (nlt rfl) rfl (Nat.le_of_ble_eq_true rfl) (by omega) (by omega) e2 ?_
    refine jr_s rfl rfl (Or.inl rfl) ⟨Nat.le_of_ble_eq_true rfl, Nat.le_of_ble_eq_true rfl⟩ rfl rfl (jc.deep (r_strength hI_M hH_M hS_M ht_M (by omega)  (fun r3 z3 w3_0 => ?_)) (Nat.le_of_ble_eq_true rfl))
    refine jr.iconst rfl ?_
    refine jr.icmp_ne rfl rfl (by first | (refine rgb (by assumption) ?_; exact rfl) | omega) (rgl rfl) (fun h22 => ?_) (fun h22 => ?_)
    · refine jr.iconst rfl ?_
      exact jr.ireturn rfl rfl rfl (q _ (by first | exact rgq rfl | omega) (fun q => by first | omega | (rw [e1]; exact Or.inr (by rw [e2]; omega))))
    · refine jr.iconst rfl ?_
      refine jr.goto rfl rfl ?_
      exact jr.ireturn rfl rfl rfl (q _ (by first | exact rgq rfl | omega) (fun q => by first | omega | (rw [e1]; exact Or.inr (by rw [e2]; omega))))
theorem r_takeSign {A : Nat → Option (Nat × (Nat → Int32))} {Q : Option Value → jm → Prop} {b kk : Int} {M : jm} (hI_M : RI M) (hH_M : RH M) (hS_M : RF M) (p0 : GS M b 1 kk) (q : ∀ (r : Int) (M' : jm), RI M' → RH M' → RF M' → 0 ≤ r ∧ r ≤ 1 → ((r = 0 ∧ GS M' b 1 kk) ∨ (r = 1 ∧ (BS M' ∨ (GS M' b 0 kk ∧ TK M' < TK M)))) → TK M' ≤ TK M → M' 598 73 ≤ M' 598 72 → (r = 0 ∨ M' 598 80 ≠ 0 ∨ TK M' < TK M) → CP M M' → M 598 89 ≤ M' 598 89 → (∀ (a : Nat) (i : Int), a ≠ 598 → a ≠ 659 → a ≠ 660 → a ≠ 664 → a ≠ 665 → a ≠ 666 → a ≠ 667 → M' a i = M a i) → (∀ (i : Int), i ≠ 73 → i ≠ 74 → i ≠ 75 → i ≠ 76 → i ≠ 77 → i ≠ 78 → i ≠ 79 → i ≠ 80 → i ≠ 81 → i ≠ 89 → i ≠ 90 → i ≠ 100 → i ≠ 102 → M' 598 i = M 598 i) → Q (some (.int (Int32.ofInt r))) M') : jc A 3 363 [.ref (598)] M Q := by
  obtain ⟨gs1, gs2, gs3, gs4, gs5, gs6⟩ := id p0
  have hE := gs2
  have sl := ES.sgle gs2
  have bb := ES.bb gs2
  have kb := ES.kz gs2
  have b107 : (0 : Int) ≤ M 598 107 ∧ M 598 107 ≤ 16 := hI_M 598 107 (Nat.le_of_ble_eq_true rfl)
  have b73 : (0 : Int) ≤ M 598 73 ∧ M 598 73 ≤ 1600 := hI_M 598 73 (Nat.le_of_ble_eq_true rfl)
  have b88 : (0 : Int) ≤ M 598 88 ∧ M 598 88 ≤ 16 := hI_M 598 88 (Nat.le_of_ble_eq_true rfl)
  have b100 : (0 : Int) ≤ M 598 100 ∧ M 598 100 ≤ 13 := hI_M 598 100 (Nat.le_of_ble_eq_true rfl)
  refine jc_of (m := xm_363) rfl (Nat.le_of_ble_eq_true rfl) rfl ?_
  refine jr.aload_n rfl rfl ?_
  obtain ⟨v1, e1⟩ : ∃ z, M 598 74 = z := ⟨_, rfl⟩
  have b1 : 0 ≤ v1 ∧ v1 ≤ 4 := by rw [← e1]; exact hI_M 598 74 (Nat.le_of_ble_eq_true rfl)
  refine jr.getf (i := 74) (x := v1) (v := .int (Int32.ofInt (v1))) rfl rfl (nlt rfl) rfl (nlt rfl) rfl rfl e1 rfl ?_
  refine jr.iconst rfl ?_
  refine jr.icmp_ne rfl rfl (by first | (refine rgb (by assumption) ?_; exact rfl) | omega) (rgl rfl) (fun h5 => ?_) (fun h5 => ?_)
  · refine jr.iconst rfl ?_
    refine jr.istore_n (ls' := [_, _]) rfl (nlt rfl) rfl ?_
    refine jr.iload_n rfl rfl ?_
    refine jr.if_ne rfl rfl (by first | exact rgl rfl | omega) (fun h => absurd h (by decide)) (fun _ => ?_)
    refine jr.iconst rfl ?_
    exact jr.ireturn rfl rfl rfl (q _ _ hI_M hH_M hS_M  (by first | exact rgq rfl | omega) (Or.inl ⟨rfl, p0⟩) (by omega) (by omega) (by omega) (CP.rfl _) (by omega) (fun a i f598 f659 f660 f664 f665 f666 f667 => rfl) (fun i g73 g74 g75 g76 g77 g78 g79 g80 g81 g89 g90 g100 g102 => rfl))
  · refine jr.aload_n rfl rfl ?_
    obtain ⟨v2, e2⟩ : ∃ z, M 598 79 = z := ⟨_, rfl⟩
    have b2 : 0 ≤ v2 ∧ v2 ≤ 255 := by rw [← e2]; exact hI_M 598 79 (Nat.le_of_ble_eq_true rfl)
    refine jr.getf (i := 79) (x := v2) (v := .int (Int32.ofInt (v2))) rfl rfl (nlt rfl) rfl (nlt rfl) rfl rfl e2 rfl ?_
    refine jr_s rfl rfl (Or.inl rfl) ⟨Nat.le_of_ble_eq_true rfl, Nat.le_of_ble_eq_true rfl⟩ rfl rfl (jc.deep (r_strength hI_M hH_M hS_M (Kp.rfl _) (by omega)  (fun r3 z3 w3_0 => ?_)) (Nat.le_of_ble_eq_true rfl))
    have n6 : ¬ r3 = 6 := fun z => by
      have z1 := strn_un (show strn v2 = 6 by omega)
      omega
    refine jr.goto rfl rfl ?_
    refine jr.istore_n (ls' := [_, _]) rfl (nlt rfl) rfl ?_
    refine jr.iload_n rfl rfl ?_
    refine jr.if_ne rfl rfl (by first | (refine rgb (by assumption) ?_; exact rfl) | omega) (fun h21 => ?_) (fun h21 => ?_)
    · have sx21 : (1 : Int) ≤ r3 := by omega
      clear h21
      refine jr.aload_n rfl rfl ?_
      refine jr.getf (i := 79) (x := v2) (v := .int (Int32.ofInt (v2))) rfl rfl (nlt rfl) rfl (nlt rfl) rfl rfl e2 rfl ?_
      refine jr.istore_n (ls' := [_, _, _]) rfl (nlt rfl) rfl ?_
      refine jr.aload_n rfl rfl ?_
      refine jr.iload_n rfl rfl ?_
      refine jr.iconst rfl ?_
      refine jr.icmp_ne rfl rfl (by first | (refine rgb (by assumption) ?_; exact rfl) | omega) (rgl rfl) (fun h34 => ?_) (fun h34 => ?_)
      · refine jr.iload_n rfl rfl ?_
        refine jr_v rfl rfl (Or.inl rfl) rfl rfl (nlt rfl) rfl ⟨rfl, Nat.le_of_ble_eq_true rfl, Nat.le_of_ble_eq_true rfl⟩ rfl (jc.deep (r_reduce hI_M hH_M hS_M  (by omega) p0 (fun M4 hI_M4 hH_M4 hS_M4  w4_0 w4_1 w4_2 w4_3 w4_4 w4_5 => ?_)) (Nat.le_of_ble_eq_true rfl))
        have tk4 : TK M4 = TK M := TK.fr (w4_5 73 (zne rfl) (zne rfl) (zne rfl)) (w4_5 74 (zne rfl) (zne rfl) (zne rfl))
        obtain ⟨gs1, gs2, gs3, gs4, gs5, gs6⟩ := id w4_0
        have hE := gs2
        have sl := ES.sgle gs2
        have bb := ES.bb gs2
        have kb := ES.kz gs2
        have bM4_107 : (0 : Int) ≤ M4 598 107 ∧ M4 598 107 ≤ 16 := hI_M4 598 107 (Nat.le_of_ble_eq_true rfl)
        have bM4_73 : (0 : Int) ≤ M4 598 73 ∧ M4 598 73 ≤ 1600 := hI_M4 598 73 (Nat.le_of_ble_eq_true rfl)
        have bM4_88 : (0 : Int) ≤ M4 598 88 ∧ M4 598 88 ≤ 16 := hI_M4 598 88 (Nat.le_of_ble_eq_true rfl)
        have bM4_100 : (0 : Int) ≤ M4 598 100 ∧ M4 598 100 ≤ 13 := hI_M4 598 100 (Nat.le_of_ble_eq_true rfl)
        obtain ⟨sg, hsg⟩ : ∃ z, M4 598 102 = z := ⟨_, rfl⟩
        rw [hsg] at w4_1
        have bsg : (0 : Int) ≤ sg ∧ sg ≤ 400 := by rw [← hsg]; exact hI_M4 598 102 (Nat.le_of_ble_eq_true rfl)
        refine jr.iload_n rfl rfl ?_
        refine jr.iconst rfl ?_
        refine jr.icmp_ne rfl rfl (by first | (refine rgb (by assumption) ?_; exact rfl) | omega) (rgl rfl) (fun h47 => ?_) (fun h47 => ?_)
        · refine jr.aload_n rfl rfl ?_
          obtain ⟨v6, e6⟩ : ∃ z, M 598 89 = z := ⟨_, rfl⟩
          have b6 : 0 ≤ v6 ∧ v6 ≤ 301 := by rw [← e6]; exact hI_M 598 89 (Nat.le_of_ble_eq_true rfl)
          have e7 : M4 598 89 = v6 := ((w4_5 89 (zne rfl) (zne rfl) (zne rfl)).trans e6)
          obtain ⟨v8, e8⟩ : ∃ z, M 598 73 = z := ⟨_, rfl⟩
          have b8 : 0 ≤ v8 ∧ v8 ≤ 1600 := by rw [← e8]; exact hI_M 598 73 (Nat.le_of_ble_eq_true rfl)
          have e9 : M4 598 73 = v8 := ((w4_5 73 (zne rfl) (zne rfl) (zne rfl)).trans e8)
          obtain ⟨v12, e12⟩ : ∃ z, M4 598 100 = z := ⟨_, rfl⟩
          have b12 : 0 ≤ v12 ∧ v12 ≤ 13 := by rw [← e12]; exact hI_M4 598 100 (Nat.le_of_ble_eq_true rfl)
          refine jr_v rfl rfl (Or.inl rfl) rfl rfl (nlt rfl) rfl ⟨rfl, Nat.le_of_ble_eq_true rfl, Nat.le_of_ble_eq_true rfl⟩ rfl (jc.deep (r_node hI_M4 hH_M4 hS_M4   (by rw [e7]; omega) (fun M5 hI_M5 hH_M5 hS_M5  w5_0 w5_1 w5_2 w5_3 w5_4 w5_5 => ?_)) (Nat.le_of_ble_eq_true rfl))
          have tk5 : TK M5 = TK M4 := TK.fr (w5_5 73 (zne rfl) (zne rfl) (zne rfl)) (w5_5 74 (zne rfl) (zne rfl) (zne rfl))
          have x5_73 := w5_5 73 (zne rfl) (zne rfl) (zne rfl)
          have x5_100 := w5_5 100 (zne rfl) (zne rfl) (zne rfl)
          have hE := ES.fr2 hE w5_4 (w5_5 88 (zne rfl) (zne rfl) (zne rfl)) (w5_5 90 (zne rfl) (zne rfl) (zne rfl)) (w5_5 101 (zne rfl) (zne rfl) (zne rfl)) (w5_5 102 (zne rfl) (zne rfl) (zne rfl)) (w5_5 107 (zne rfl) (zne rfl) (zne rfl)) (k' := kk + 4) (d' := 0) (z' := 0) (by omega) (by omega) (by omega) (by omega)
          refine jr.aload_n rfl rfl ?_
          refine jr_v rfl rfl (Or.inl rfl) rfl rfl (nlt rfl) rfl ⟨rfl, Nat.le_of_ble_eq_true rfl, Nat.le_of_ble_eq_true rfl⟩ rfl (jc.deep (c_good hI_M5  (fun t68_0 => ?_) (fun f68_0 => ?_)) (Nat.le_of_ble_eq_true rfl))
          · have w5_1r := Classical.byContradiction (fun z => w5_1 z t68_0)
            have w5_2r := w5_2 t68_0
            clear w5_1 w5_2 w5_3
            refine jr.if_ne rfl rfl (by first | exact rgl rfl | omega) (fun _ => ?_) (fun h => absurd (by decide) h)
            refine jr.aload_n rfl rfl ?_
            have e15 : M5 598 73 = v8 := ((w5_5 73 (zne rfl) (zne rfl) (zne rfl)).trans e9)
            obtain ⟨v16, e16⟩ : ∃ z, M 598 72 = z := ⟨_, rfl⟩
            have b16 : 0 ≤ v16 ∧ v16 ≤ 1600 := by rw [← e16]; exact hI_M 598 72 (Nat.le_of_ble_eq_true rfl)
            have e17 : M4 598 72 = v16 := ((w4_5 72 (zne rfl) (zne rfl) (zne rfl)).trans e16)
            have e18 : M5 598 72 = v16 := ((w5_5 72 (zne rfl) (zne rfl) (zne rfl)).trans e17)
            have e19 : M4 598 74 = v1 := ((w4_5 74 (zne rfl) (zne rfl) (zne rfl)).trans e1)
            have e20 : M5 598 74 = v1 := ((w5_5 74 (zne rfl) (zne rfl) (zne rfl)).trans e19)
            obtain ⟨v23, e23⟩ : ∃ z, M5 598 89 = z := ⟨_, rfl⟩
            have b23 : 0 ≤ v23 ∧ v23 ≤ 301 := by rw [← e23]; exact hI_M5 598 89 (Nat.le_of_ble_eq_true rfl)
            have e25 : M5 598 100 = v12 := ((w5_5 100 (zne rfl) (zne rfl) (zne rfl)).trans e12)
            refine jr_v rfl rfl (Or.inl rfl) rfl rfl (nlt rfl) rfl ⟨rfl, Nat.le_of_ble_eq_true rfl, Nat.le_of_ble_eq_true rfl⟩ rfl (jc.deep (r_next hI_M5 hH_M5 hS_M5   (by rw [e15, e18]; omega) (fun M14 hI_M14 hH_M14 hS_M14  w14_0 w14_1 w14_2 w14_3 w14_4 w14_5 w14_6 => ?_)) (Nat.le_of_ble_eq_true rfl))
            have x14_89 := w14_6 89 (zne rfl) (zne rfl) (zne rfl) (zne rfl) (zne rfl) (zne rfl) (zne rfl)
            have x14_100 := w14_6 100 (zne rfl) (zne rfl) (zne rfl) (zne rfl) (zne rfl) (zne rfl) (zne rfl)
            have hE := ES.fr2 hE w14_5 (w14_6 88 (zne rfl) (zne rfl) (zne rfl) (zne rfl) (zne rfl) (zne rfl) (zne rfl)) (w14_6 90 (zne rfl) (zne rfl) (zne rfl) (zne rfl) (zne rfl) (zne rfl) (zne rfl)) (w14_6 101 (zne rfl) (zne rfl) (zne rfl) (zne rfl) (zne rfl) (zne rfl) (zne rfl)) (w14_6 102 (zne rfl) (zne rfl) (zne rfl) (zne rfl) (zne rfl) (zne rfl) (zne rfl)) (w14_6 107 (zne rfl) (zne rfl) (zne rfl) (zne rfl) (zne rfl) (zne rfl) (zne rfl)) (k' := kk + 4) (d' := 0) (z' := 0) (by omega) (by omega) (by omega) (by omega)
            refine jr.iload_n rfl rfl ?_
            refine jr.iconst rfl ?_
            refine jr.icmp_ge rfl rfl (by first | (refine rgb (by assumption) ?_; exact rfl) | omega) (rgl rfl) (fun h82 => ?_) (fun h82 => ?_)
            · refine jr.aload_n rfl rfl ?_
              refine jr.iload_n rfl rfl ?_
              refine jr.iconst rfl ?_
              have e27 : M5 598 102 = sg := ((w5_5 102 (zne rfl) (zne rfl) (zne rfl)).trans hsg)
              have e28 : M14 598 102 = sg := ((w14_6 102 (zne rfl) (zne rfl) (zne rfl) (zne rfl) (zne rfl) (zne rfl) (zne rfl)).trans e27)
              refine jr_v rfl rfl (Or.inl rfl) rfl rfl (nlt rfl) rfl ⟨rfl, Nat.le_of_ble_eq_true rfl, Nat.le_of_ble_eq_true rfl⟩ rfl (jc.deep (r_push e28 (by omega) (by omega) (by omega) ?_) (Nat.le_of_ble_eq_true rfl))
              have hE := ES.two hE e28 v2 (-1) (kk + 2) (by omega) (by rw [w14_5 664 _ (nne rfl), w5_4 664 _ (nne rfl)]; omega) (by omega) (by omega)
              refine jr.iconst rfl ?_
              have e29 : M14 598 72 = v16 := ((w14_6 72 (zne rfl) (zne rfl) (zne rfl) (zne rfl) (zne rfl) (zne rfl) (zne rfl)).trans e18)
              have y30 : (ju (ju (ju (ju M14 664 sg v2) 666 sg (-1)) 667 sg 1) 598 102 (sg + 1)) 598 72 = v16 := ((ju_i _ _ (zne (by decide))).trans ((ju_c _ _ (by decide)).trans ((ju_c _ _ (by decide)).trans ((ju_c _ _ (by decide)).trans e29))))
              obtain ⟨v31, e31⟩ : ∃ z, M14 598 73 = z := ⟨_, rfl⟩
              have b31 : 0 ≤ v31 ∧ v31 ≤ 1600 := by rw [← e31]; exact hI_M14 598 73 (Nat.le_of_ble_eq_true rfl)
              have y32 : (ju (ju (ju (ju M14 664 sg v2) 666 sg (-1)) 667 sg 1) 598 102 (sg + 1)) 598 73 = v31 := ((ju_i _ _ (zne (by decide))).trans ((ju_c _ _ (by decide)).trans ((ju_c _ _ (by decide)).trans ((ju_c _ _ (by decide)).trans e31))))
              obtain ⟨v33, e33⟩ : ∃ z, M14 598 74 = z := ⟨_, rfl⟩
              have b33 : 0 ≤ v33 ∧ v33 ≤ 4 := by rw [← e33]; exact hI_M14 598 74 (Nat.le_of_ble_eq_true rfl)
              have y34 : (ju (ju (ju (ju M14 664 sg v2) 666 sg (-1)) 667 sg 1) 598 102 (sg + 1)) 598 74 = v33 := ((ju_i _ _ (zne (by decide))).trans ((ju_c _ _ (by decide)).trans ((ju_c _ _ (by decide)).trans ((ju_c _ _ (by decide)).trans e33))))
              obtain ⟨v35, e35⟩ : ∃ z, M14 598 79 = z := ⟨_, rfl⟩
              have b35 : 0 ≤ v35 ∧ v35 ≤ 255 := by rw [← e35]; exact hI_M14 598 79 (Nat.le_of_ble_eq_true rfl)
              have y36 : (ju (ju (ju (ju M14 664 sg v2) 666 sg (-1)) 667 sg 1) 598 102 (sg + 1)) 598 79 = v35 := ((ju_i _ _ (zne (by decide))).trans ((ju_c _ _ (by decide)).trans ((ju_c _ _ (by decide)).trans ((ju_c _ _ (by decide)).trans e35))))
              obtain ⟨v37, e37⟩ : ∃ z, M5 598 80 = z := ⟨_, rfl⟩
              have b37 : 0 ≤ v37 ∧ v37 ≤ 7 := by rw [← e37]; exact hI_M5 598 80 (Nat.le_of_ble_eq_true rfl)
              have e38 : M14 598 80 = v37 := ((w14_6 80 (zne rfl) (zne rfl) (zne rfl) (zne rfl) (zne rfl) (zne rfl) (zne rfl)).trans e37)
              have y39 : (ju (ju (ju (ju M14 664 sg v2) 666 sg (-1)) 667 sg 1) 598 102 (sg + 1)) 598 80 = v37 := ((ju_i _ _ (zne (by decide))).trans ((ju_c _ _ (by decide)).trans ((ju_c _ _ (by decide)).trans ((ju_c _ _ (by decide)).trans e38))))
              have e40 : M14 598 89 = v23 := ((w14_6 89 (zne rfl) (zne rfl) (zne rfl) (zne rfl) (zne rfl) (zne rfl) (zne rfl)).trans e23)
              have y41 : (ju (ju (ju (ju M14 664 sg v2) 666 sg (-1)) 667 sg 1) 598 102 (sg + 1)) 598 89 = v23 := ((ju_i _ _ (zne (by decide))).trans ((ju_c _ _ (by decide)).trans ((ju_c _ _ (by decide)).trans ((ju_c _ _ (by decide)).trans e40))))
              obtain ⟨v42, e42⟩ : ∃ z, M4 598 90 = z := ⟨_, rfl⟩
              have b42 : 0 ≤ v42 ∧ v42 ≤ 2200 := by rw [← e42]; exact hI_M4 598 90 (Nat.le_of_ble_eq_true rfl)
              have e43 : M5 598 90 = v42 := ((w5_5 90 (zne rfl) (zne rfl) (zne rfl)).trans e42)
              have e44 : M14 598 90 = v42 := ((w14_6 90 (zne rfl) (zne rfl) (zne rfl) (zne rfl) (zne rfl) (zne rfl) (zne rfl)).trans e43)
              have y45 : (ju (ju (ju (ju M14 664 sg v2) 666 sg (-1)) 667 sg 1) 598 102 (sg + 1)) 598 90 = v42 := ((ju_i _ _ (zne (by decide))).trans ((ju_c _ _ (by decide)).trans ((ju_c _ _ (by decide)).trans ((ju_c _ _ (by decide)).trans e44))))
              have e46 : M14 598 100 = v12 := ((w14_6 100 (zne rfl) (zne rfl) (zne rfl) (zne rfl) (zne rfl) (zne rfl) (zne rfl)).trans e25)
              have y47 : (ju (ju (ju (ju M14 664 sg v2) 666 sg (-1)) 667 sg 1) 598 102 (sg + 1)) 598 100 = v12 := ((ju_i _ _ (zne (by decide))).trans ((ju_c _ _ (by decide)).trans ((ju_c _ _ (by decide)).trans ((ju_c _ _ (by decide)).trans e46))))
              obtain ⟨v48, e48⟩ : ∃ z, M 598 107 = z := ⟨_, rfl⟩
              have b48 : 0 ≤ v48 ∧ v48 ≤ 16 := by rw [← e48]; exact hI_M 598 107 (Nat.le_of_ble_eq_true rfl)
              have e49 : M4 598 107 = v48 := ((w4_5 107 (zne rfl) (zne rfl) (zne rfl)).trans e48)
              have e50 : M5 598 107 = v48 := ((w5_5 107 (zne rfl) (zne rfl) (zne rfl)).trans e49)
              have e51 : M14 598 107 = v48 := ((w14_6 107 (zne rfl) (zne rfl) (zne rfl) (zne rfl) (zne rfl) (zne rfl) (zne rfl)).trans e50)
              have y52 : (ju (ju (ju (ju M14 664 sg v2) 666 sg (-1)) 667 sg 1) 598 102 (sg + 1)) 598 107 = v48 := ((ju_i _ _ (zne (by decide))).trans ((ju_c _ _ (by decide)).trans ((ju_c _ _ (by decide)).trans ((ju_c _ _ (by decide)).trans e51))))
              have y53 : TK (ju (ju (ju (ju M14 664 sg v2) 666 sg (-1)) 667 sg 1) 598 102 (sg + 1)) = TK M14 := ((TK.o (Or.inr ⟨by decide, by decide⟩)).trans ((TK.o (Or.inl (by decide))).trans ((TK.o (Or.inl (by decide))).trans ((TK.o (Or.inl (by decide))).trans rfl))))
              exact jr.ireturn rfl rfl rfl (q _ _ (RI.u (RI.u (RI.u (RI.u hI_M14 (a := 664) (i := sg) (by rw [xri_row rfl rfl]; show (0 : Int) ≤ _ ∧ _ ≤ (255 : Int); omega)) (a := 666) (i := sg) (by rw [xri_row rfl rfl]; show (-1 : Int) ≤ _ ∧ _ ≤ (68 : Int); omega)) (a := 667) (i := sg) (by rw [xri_row rfl rfl]; show (0 : Int) ≤ _ ∧ _ ≤ (4 : Int); omega)) (a := 598) (i := 102) (show (0 : Int) ≤ _ ∧ _ ≤ (400 : Int) from by omega)) (RH.o (RH.o (RH.o (RH.o hH_M14 (by decide) (by decide) (by decide)) (by decide) (by decide) (by decide)) (by decide) (by decide) (by decide)) (by decide) (by decide) (by decide)) (RF.o (RF.o (RF.o (RF.o hS_M14 (by decide) (by decide)) (by decide) (by decide)) (by decide) (by decide)) (by decide) (by decide))  (by omega) (Or.inr ⟨rfl, by by_cases hf : v37 = 0; (first | (exact Or.inr ⟨⟨by omega, ES.adj hE (k' := kk) (z' := 0) (by omega) (by omega) (by omega), by omega, by omega, by omega, by omega⟩, by omega⟩) | (exfalso; omega)); (exact Or.inl ⟨by omega, by omega⟩)⟩) (by omega) (by omega) (by omega) (CP.o (CP.o (CP.o (CP.o (CP.f (CP.f (CP.trans (CP.rfl _) w4_3) (fun i => w5_4 659 i (nne rfl)) (w5_5 90 (zne rfl) (zne rfl) (zne rfl))) (fun i => w14_5 659 i (nne rfl)) (w14_6 90 (zne rfl) (zne rfl) (zne rfl) (zne rfl) (zne rfl) (zne rfl) (zne rfl))) (by decide) (Or.inl (by decide))) (by decide) (Or.inl (by decide))) (by decide) (Or.inl (by decide))) (by decide) (Or.inr (by decide))) (by omega) (fun a i f598 f659 f660 f664 f665 f666 f667 => ((ju_c _ _ f598).trans ((ju_c _ _ f667).trans ((ju_c _ _ f666).trans ((ju_c _ _ f664).trans ((w14_5 a i f598).trans ((w5_4 a i f598).trans ((w4_4 a i f598 f659 f660).trans rfl)))))))) (fun i g73 g74 g75 g76 g77 g78 g79 g80 g81 g89 g90 g100 g102 => ((ju_i _ _ g102).trans ((ju_c _ _ (by decide)).trans ((ju_c _ _ (by decide)).trans ((ju_c _ _ (by decide)).trans ((w14_6 i g73 g74 g75 g76 g77 g78 g79).trans ((w5_5 i g80 g81 g89).trans ((w4_5 i g90 g100 g102).trans rfl)))))))))
            · refine jr.aload_n rfl rfl ?_
              refine jr.iload_n rfl rfl ?_
              have e54 : M5 598 102 = sg := ((w5_5 102 (zne rfl) (zne rfl) (zne rfl)).trans hsg)
              have e55 : M14 598 102 = sg := ((w14_6 102 (zne rfl) (zne rfl) (zne rfl) (zne rfl) (zne rfl) (zne rfl) (zne rfl)).trans e54)
              obtain ⟨v56, e56⟩ : ∃ z, M4 598 90 = z := ⟨_, rfl⟩
              have b56 : 0 ≤ v56 ∧ v56 ≤ 2200 := by rw [← e56]; exact hI_M4 598 90 (Nat.le_of_ble_eq_true rfl)
              have e57 : M5 598 90 = v56 := ((w5_5 90 (zne rfl) (zne rfl) (zne rfl)).trans e56)
              have e58 : M14 598 90 = v56 := ((w14_6 90 (zne rfl) (zne rfl) (zne rfl) (zne rfl) (zne rfl) (zne rfl) (zne rfl)).trans e57)
              have e60 : M14 598 100 = v12 := ((w14_6 100 (zne rfl) (zne rfl) (zne rfl) (zne rfl) (zne rfl) (zne rfl) (zne rfl)).trans e25)
              obtain ⟨v62, e62⟩ : ∃ z, M 598 107 = z := ⟨_, rfl⟩
              have b62 : 0 ≤ v62 ∧ v62 ≤ 16 := by rw [← e62]; exact hI_M 598 107 (Nat.le_of_ble_eq_true rfl)
              have e63 : M4 598 107 = v62 := ((w4_5 107 (zne rfl) (zne rfl) (zne rfl)).trans e62)
              have e64 : M5 598 107 = v62 := ((w5_5 107 (zne rfl) (zne rfl) (zne rfl)).trans e63)
              have e65 : M14 598 107 = v62 := ((w14_6 107 (zne rfl) (zne rfl) (zne rfl) (zne rfl) (zne rfl) (zne rfl) (zne rfl)).trans e64)
              refine jr_v rfl rfl (Or.inl rfl) rfl rfl (nlt rfl) rfl ⟨rfl, Nat.le_of_ble_eq_true rfl, Nat.le_of_ble_eq_true rfl⟩ rfl (jc.deep (r_open e55 (by omega) e58 (by omega) (by omega) (fun op59 ho59 => ?_)) (Nat.le_of_ble_eq_true rfl))
              have hE := ES.opn hE e55 e58 v2 (-1) op59 kk (strn_and (by omega)) ho59 (by rw [w14_5 664 _ (nne rfl), w5_4 664 _ (nne rfl)]; omega) (by omega) (by omega) (by omega)
              refine jr.goto rfl rfl ?_
              refine jr.iconst rfl ?_
              have e67 : M14 598 72 = v16 := ((w14_6 72 (zne rfl) (zne rfl) (zne rfl) (zne rfl) (zne rfl) (zne rfl) (zne rfl)).trans e18)
              have y68 : (ju (ju (ju (ju (ju (ju (ju (ju M14 664 sg v2) 666 sg (-1)) 667 sg 1) 598 102 (sg + 1)) 665 (sg + 1 - 1) v56) 659 v56 op59) 660 v56 0) 598 90 (v56 + 1)) 598 72 = v16 := ((ju_i _ _ (zne (by decide))).trans ((ju_c _ _ (by decide)).trans ((ju_c _ _ (by decide)).trans ((ju_c _ _ (by decide)).trans ((ju_i _ _ (zne (by decide))).trans ((ju_c _ _ (by decide)).trans ((ju_c _ _ (by decide)).trans ((ju_c _ _ (by decide)).trans e67))))))))
              obtain ⟨v69, e69⟩ : ∃ z, M14 598 73 = z := ⟨_, rfl⟩
              have b69 : 0 ≤ v69 ∧ v69 ≤ 1600 := by rw [← e69]; exact hI_M14 598 73 (Nat.le_of_ble_eq_true rfl)
              have y70 : (ju (ju (ju (ju (ju (ju (ju (ju M14 664 sg v2) 666 sg (-1)) 667 sg 1) 598 102 (sg + 1)) 665 (sg + 1 - 1) v56) 659 v56 op59) 660 v56 0) 598 90 (v56 + 1)) 598 73 = v69 := ((ju_i _ _ (zne (by decide))).trans ((ju_c _ _ (by decide)).trans ((ju_c _ _ (by decide)).trans ((ju_c _ _ (by decide)).trans ((ju_i _ _ (zne (by decide))).trans ((ju_c _ _ (by decide)).trans ((ju_c _ _ (by decide)).trans ((ju_c _ _ (by decide)).trans e69))))))))
              obtain ⟨v71, e71⟩ : ∃ z, M14 598 74 = z := ⟨_, rfl⟩
              have b71 : 0 ≤ v71 ∧ v71 ≤ 4 := by rw [← e71]; exact hI_M14 598 74 (Nat.le_of_ble_eq_true rfl)
              have y72 : (ju (ju (ju (ju (ju (ju (ju (ju M14 664 sg v2) 666 sg (-1)) 667 sg 1) 598 102 (sg + 1)) 665 (sg + 1 - 1) v56) 659 v56 op59) 660 v56 0) 598 90 (v56 + 1)) 598 74 = v71 := ((ju_i _ _ (zne (by decide))).trans ((ju_c _ _ (by decide)).trans ((ju_c _ _ (by decide)).trans ((ju_c _ _ (by decide)).trans ((ju_i _ _ (zne (by decide))).trans ((ju_c _ _ (by decide)).trans ((ju_c _ _ (by decide)).trans ((ju_c _ _ (by decide)).trans e71))))))))
              obtain ⟨v73, e73⟩ : ∃ z, M14 598 79 = z := ⟨_, rfl⟩
              have b73 : 0 ≤ v73 ∧ v73 ≤ 255 := by rw [← e73]; exact hI_M14 598 79 (Nat.le_of_ble_eq_true rfl)
              have y74 : (ju (ju (ju (ju (ju (ju (ju (ju M14 664 sg v2) 666 sg (-1)) 667 sg 1) 598 102 (sg + 1)) 665 (sg + 1 - 1) v56) 659 v56 op59) 660 v56 0) 598 90 (v56 + 1)) 598 79 = v73 := ((ju_i _ _ (zne (by decide))).trans ((ju_c _ _ (by decide)).trans ((ju_c _ _ (by decide)).trans ((ju_c _ _ (by decide)).trans ((ju_i _ _ (zne (by decide))).trans ((ju_c _ _ (by decide)).trans ((ju_c _ _ (by decide)).trans ((ju_c _ _ (by decide)).trans e73))))))))
              obtain ⟨v75, e75⟩ : ∃ z, M5 598 80 = z := ⟨_, rfl⟩
              have b75 : 0 ≤ v75 ∧ v75 ≤ 7 := by rw [← e75]; exact hI_M5 598 80 (Nat.le_of_ble_eq_true rfl)
              have e76 : M14 598 80 = v75 := ((w14_6 80 (zne rfl) (zne rfl) (zne rfl) (zne rfl) (zne rfl) (zne rfl) (zne rfl)).trans e75)
              have y77 : (ju (ju (ju (ju (ju (ju (ju (ju M14 664 sg v2) 666 sg (-1)) 667 sg 1) 598 102 (sg + 1)) 665 (sg + 1 - 1) v56) 659 v56 op59) 660 v56 0) 598 90 (v56 + 1)) 598 80 = v75 := ((ju_i _ _ (zne (by decide))).trans ((ju_c _ _ (by decide)).trans ((ju_c _ _ (by decide)).trans ((ju_c _ _ (by decide)).trans ((ju_i _ _ (zne (by decide))).trans ((ju_c _ _ (by decide)).trans ((ju_c _ _ (by decide)).trans ((ju_c _ _ (by decide)).trans e76))))))))
              have e78 : M14 598 89 = v23 := ((w14_6 89 (zne rfl) (zne rfl) (zne rfl) (zne rfl) (zne rfl) (zne rfl) (zne rfl)).trans e23)
              have y79 : (ju (ju (ju (ju (ju (ju (ju (ju M14 664 sg v2) 666 sg (-1)) 667 sg 1) 598 102 (sg + 1)) 665 (sg + 1 - 1) v56) 659 v56 op59) 660 v56 0) 598 90 (v56 + 1)) 598 89 = v23 := ((ju_i _ _ (zne (by decide))).trans ((ju_c _ _ (by decide)).trans ((ju_c _ _ (by decide)).trans ((ju_c _ _ (by decide)).trans ((ju_i _ _ (zne (by decide))).trans ((ju_c _ _ (by decide)).trans ((ju_c _ _ (by decide)).trans ((ju_c _ _ (by decide)).trans e78))))))))
              have y80 : (ju (ju (ju (ju (ju (ju (ju (ju M14 664 sg v2) 666 sg (-1)) 667 sg 1) 598 102 (sg + 1)) 665 (sg + 1 - 1) v56) 659 v56 op59) 660 v56 0) 598 90 (v56 + 1)) 598 90 = v56 + 1 := (ju_same _ _ _ _)
              have y81 : (ju (ju (ju (ju (ju (ju (ju (ju M14 664 sg v2) 666 sg (-1)) 667 sg 1) 598 102 (sg + 1)) 665 (sg + 1 - 1) v56) 659 v56 op59) 660 v56 0) 598 90 (v56 + 1)) 598 100 = v12 := ((ju_i _ _ (zne (by decide))).trans ((ju_c _ _ (by decide)).trans ((ju_c _ _ (by decide)).trans ((ju_c _ _ (by decide)).trans ((ju_i _ _ (zne (by decide))).trans ((ju_c _ _ (by decide)).trans ((ju_c _ _ (by decide)).trans ((ju_c _ _ (by decide)).trans e60))))))))
              have y82 : (ju (ju (ju (ju (ju (ju (ju (ju M14 664 sg v2) 666 sg (-1)) 667 sg 1) 598 102 (sg + 1)) 665 (sg + 1 - 1) v56) 659 v56 op59) 660 v56 0) 598 90 (v56 + 1)) 598 107 = v62 := ((ju_i _ _ (zne (by decide))).trans ((ju_c _ _ (by decide)).trans ((ju_c _ _ (by decide)).trans ((ju_c _ _ (by decide)).trans ((ju_i _ _ (zne (by decide))).trans ((ju_c _ _ (by decide)).trans ((ju_c _ _ (by decide)).trans ((ju_c _ _ (by decide)).trans e65))))))))
              have y83 : TK (ju (ju (ju (ju (ju (ju (ju (ju M14 664 sg v2) 666 sg (-1)) 667 sg 1) 598 102 (sg + 1)) 665 (sg + 1 - 1) v56) 659 v56 op59) 660 v56 0) 598 90 (v56 + 1)) = TK M14 := ((TK.o (Or.inr ⟨by decide, by decide⟩)).trans ((TK.o (Or.inl (by decide))).trans ((TK.o (Or.inl (by decide))).trans ((TK.o (Or.inl (by decide))).trans ((TK.o (Or.inr ⟨by decide, by decide⟩)).trans ((TK.o (Or.inl (by decide))).trans ((TK.o (Or.inl (by decide))).trans ((TK.o (Or.inl (by decide))).trans rfl))))))))
              exact jr.ireturn rfl rfl rfl (q _ _ (RI.u (RI.u (RI.u (RI.u (RI.u (RI.u (RI.u (RI.u hI_M14 (a := 664) (i := sg) (by rw [xri_row rfl rfl]; show (0 : Int) ≤ _ ∧ _ ≤ (255 : Int); omega)) (a := 666) (i := sg) (by rw [xri_row rfl rfl]; show (-1 : Int) ≤ _ ∧ _ ≤ (68 : Int); omega)) (a := 667) (i := sg) (by rw [xri_row rfl rfl]; show (0 : Int) ≤ _ ∧ _ ≤ (4 : Int); omega)) (a := 598) (i := 102) (show (0 : Int) ≤ _ ∧ _ ≤ (400 : Int) from by omega)) (a := 665) (i := (sg + 1 - 1)) (by rw [xri_row rfl rfl]; show (0 : Int) ≤ _ ∧ _ ≤ (2200 : Int); omega)) (a := 659) (i := v56) (by rw [xri_row rfl rfl]; show (0 : Int) ≤ _ ∧ _ ≤ (1000 : Int); omega)) (a := 660) (i := v56) (by rw [xri_row rfl rfl]; show (-9223372036854775808 : Int) ≤ _ ∧ _ ≤ (9223372036854775807 : Int); omega)) (a := 598) (i := 90) (show (0 : Int) ≤ _ ∧ _ ≤ (2200 : Int) from by omega)) (RH.o (RH.o (RH.o (RH.o (RH.o (RH.o (RH.o (RH.o hH_M14 (by decide) (by decide) (by decide)) (by decide) (by decide) (by decide)) (by decide) (by decide) (by decide)) (by decide) (by decide) (by decide)) (by decide) (by decide) (by decide)) (by decide) (by decide) (by decide)) (by decide) (by decide) (by decide)) (by decide) (by decide) (by decide)) (RF.o (RF.o (RF.o (RF.o (RF.o (RF.o (RF.o (RF.o hS_M14 (by decide) (by decide)) (by decide) (by decide)) (by decide) (by decide)) (by decide) (by decide)) (by decide) (by decide)) (by decide) (by decide)) (by decide) (by decide)) (by decide) (by decide))  (by omega) (Or.inr ⟨rfl, by by_cases hf : v75 = 0; (first | (exact Or.inr ⟨⟨by omega, ES.adj hE (k' := kk) (z' := 0) (by omega) (by omega) (by omega), by omega, by omega, by omega, by omega⟩, by omega⟩) | (exfalso; omega)); (exact Or.inl ⟨by omega, by omega⟩)⟩) (by omega) (by omega) (by omega) (CP.emit (CP.o (CP.o (CP.o (CP.o (CP.o (CP.f (CP.f (CP.trans (CP.rfl _) w4_3) (fun i => w5_4 659 i (nne rfl)) (w5_5 90 (zne rfl) (zne rfl) (zne rfl))) (fun i => w14_5 659 i (nne rfl)) (w14_6 90 (zne rfl) (zne rfl) (zne rfl) (zne rfl) (zne rfl) (zne rfl) (zne rfl))) (by decide) (Or.inl (by decide))) (by decide) (Or.inl (by decide))) (by decide) (Or.inl (by decide))) (by decide) (Or.inr (by decide))) (by decide) (Or.inl (by decide))) ((ju_c _ _ (by decide)).trans ((ju_i _ _ (zne (by decide))).trans ((ju_c _ _ (by decide)).trans ((ju_c _ _ (by decide)).trans ((ju_c _ _ (by decide)).trans e58)))))) (by omega) (fun a i f598 f659 f660 f664 f665 f666 f667 => ((ju_c _ _ f598).trans ((ju_c _ _ f660).trans ((ju_c _ _ f659).trans ((ju_c _ _ f665).trans ((ju_c _ _ f598).trans ((ju_c _ _ f667).trans ((ju_c _ _ f666).trans ((ju_c _ _ f664).trans ((w14_5 a i f598).trans ((w5_4 a i f598).trans ((w4_4 a i f598 f659 f660).trans rfl)))))))))))) (fun i g73 g74 g75 g76 g77 g78 g79 g80 g81 g89 g90 g100 g102 => ((ju_i _ _ g90).trans ((ju_c _ _ (by decide)).trans ((ju_c _ _ (by decide)).trans ((ju_c _ _ (by decide)).trans ((ju_i _ _ g102).trans ((ju_c _ _ (by decide)).trans ((ju_c _ _ (by decide)).trans ((ju_c _ _ (by decide)).trans ((w14_6 i g73 g74 g75 g76 g77 g78 g79).trans ((w5_5 i g80 g81 g89).trans ((w4_5 i g90 g100 g102).trans rfl)))))))))))))
          · refine jr.if_ne rfl rfl (by first | exact rgl rfl | omega) (fun h => absurd h (by decide)) (fun _ => ?_)
            refine jr.iconst rfl ?_
            obtain ⟨v84, e84⟩ : ∃ z, M 598 72 = z := ⟨_, rfl⟩
            have b84 : 0 ≤ v84 ∧ v84 ≤ 1600 := by rw [← e84]; exact hI_M 598 72 (Nat.le_of_ble_eq_true rfl)
            have e85 : M4 598 72 = v84 := ((w4_5 72 (zne rfl) (zne rfl) (zne rfl)).trans e84)
            have e86 : M5 598 72 = v84 := ((w5_5 72 (zne rfl) (zne rfl) (zne rfl)).trans e85)
            have e88 : M5 598 73 = v8 := ((w5_5 73 (zne rfl) (zne rfl) (zne rfl)).trans e9)
            have e90 : M4 598 74 = v1 := ((w4_5 74 (zne rfl) (zne rfl) (zne rfl)).trans e1)
            have e91 : M5 598 74 = v1 := ((w5_5 74 (zne rfl) (zne rfl) (zne rfl)).trans e90)
            have e93 : M4 598 79 = v2 := ((w4_5 79 (zne rfl) (zne rfl) (zne rfl)).trans e2)
            have e94 : M5 598 79 = v2 := ((w5_5 79 (zne rfl) (zne rfl) (zne rfl)).trans e93)
            obtain ⟨v96, e96⟩ : ∃ z, M5 598 80 = z := ⟨_, rfl⟩
            have b96 : 0 ≤ v96 ∧ v96 ≤ 7 := by rw [← e96]; exact hI_M5 598 80 (Nat.le_of_ble_eq_true rfl)
            obtain ⟨v98, e98⟩ : ∃ z, M5 598 89 = z := ⟨_, rfl⟩
            have b98 : 0 ≤ v98 ∧ v98 ≤ 301 := by rw [← e98]; exact hI_M5 598 89 (Nat.le_of_ble_eq_true rfl)
            obtain ⟨v100, e100⟩ : ∃ z, M4 598 90 = z := ⟨_, rfl⟩
            have b100 : 0 ≤ v100 ∧ v100 ≤ 2200 := by rw [← e100]; exact hI_M4 598 90 (Nat.le_of_ble_eq_true rfl)
            have e101 : M5 598 90 = v100 := ((w5_5 90 (zne rfl) (zne rfl) (zne rfl)).trans e100)
            have e103 : M5 598 100 = v12 := ((w5_5 100 (zne rfl) (zne rfl) (zne rfl)).trans e12)
            obtain ⟨v105, e105⟩ : ∃ z, M 598 107 = z := ⟨_, rfl⟩
            have b105 : 0 ≤ v105 ∧ v105 ≤ 16 := by rw [← e105]; exact hI_M 598 107 (Nat.le_of_ble_eq_true rfl)
            have e106 : M4 598 107 = v105 := ((w4_5 107 (zne rfl) (zne rfl) (zne rfl)).trans e105)
            have e107 : M5 598 107 = v105 := ((w5_5 107 (zne rfl) (zne rfl) (zne rfl)).trans e106)
            exact jr.ireturn rfl rfl rfl (q _ _ hI_M5 hH_M5 hS_M5  (by omega) (Or.inr ⟨rfl, by by_cases hf : v96 = 0; (first | (exfalso; omega) | (exact Or.inr ⟨⟨by omega, ES.adj hE (k' := kk) (z' := 0) (by omega) (by omega) (by omega), by omega, by omega, by omega, by omega⟩, by omega⟩)); (exact Or.inl ⟨by omega, by omega⟩)⟩) (by omega) (by omega) (by omega) (CP.f (CP.trans (CP.rfl _) w4_3) (fun i => w5_4 659 i (nne rfl)) (w5_5 90 (zne rfl) (zne rfl) (zne rfl))) (by omega) (fun a i f598 f659 f660 f664 f665 f666 f667 => ((w5_4 a i f598).trans ((w4_4 a i f598 f659 f660).trans rfl))) (fun i g73 g74 g75 g76 g77 g78 g79 g80 g81 g89 g90 g100 g102 => ((w5_5 i g80 g81 g89).trans ((w4_5 i g90 g100 g102).trans rfl))))
        · exact absurd h34 h47
      · refine jr.iconst rfl ?_
        refine jr.goto rfl rfl ?_
        refine jr_v rfl rfl (Or.inl rfl) rfl rfl (nlt rfl) rfl ⟨rfl, Nat.le_of_ble_eq_true rfl, Nat.le_of_ble_eq_true rfl⟩ rfl (jc.deep (r_reduce hI_M hH_M hS_M  (by omega) p0 (fun M215 hI_M215 hH_M215 hS_M215  w215_0 w215_1 w215_2 w215_3 w215_4 w215_5 => ?_)) (Nat.le_of_ble_eq_true rfl))
        have tk215 : TK M215 = TK M := TK.fr (w215_5 73 (zne rfl) (zne rfl) (zne rfl)) (w215_5 74 (zne rfl) (zne rfl) (zne rfl))
        obtain ⟨gs1, gs2, gs3, gs4, gs5, gs6⟩ := id w215_0
        have hE := gs2
        have sl := ES.sgle gs2
        have bb := ES.bb gs2
        have kb := ES.kz gs2
        have bM215_107 : (0 : Int) ≤ M215 598 107 ∧ M215 598 107 ≤ 16 := hI_M215 598 107 (Nat.le_of_ble_eq_true rfl)
        have bM215_73 : (0 : Int) ≤ M215 598 73 ∧ M215 598 73 ≤ 1600 := hI_M215 598 73 (Nat.le_of_ble_eq_true rfl)
        have bM215_88 : (0 : Int) ≤ M215 598 88 ∧ M215 598 88 ≤ 16 := hI_M215 598 88 (Nat.le_of_ble_eq_true rfl)
        have bM215_100 : (0 : Int) ≤ M215 598 100 ∧ M215 598 100 ≤ 13 := hI_M215 598 100 (Nat.le_of_ble_eq_true rfl)
        obtain ⟨sg, hsg⟩ : ∃ z, M215 598 102 = z := ⟨_, rfl⟩
        rw [hsg] at w215_1
        have bsg : (0 : Int) ≤ sg ∧ sg ≤ 400 := by rw [← hsg]; exact hI_M215 598 102 (Nat.le_of_ble_eq_true rfl)
        refine jr.iload_n rfl rfl ?_
        refine jr.iconst rfl ?_
        refine jr.icmp_ne rfl rfl (by first | (refine rgb (by assumption) ?_; exact rfl) | omega) (rgl rfl) (fun h47 => ?_) (fun h47 => ?_)
        · exact absurd h47 (by omega)
        · refine jr.aload_n rfl rfl ?_
          refine jr_v rfl rfl (Or.inl rfl) rfl rfl (nlt rfl) rfl ⟨rfl, Nat.le_of_ble_eq_true rfl, Nat.le_of_ble_eq_true rfl⟩ rfl (jc.deep (r_isCompareOnTop hI_M215 hH_M215 hS_M215 (Kp.rfl _)   (fun r216 z216 w216_0 => ?_)) (Nat.le_of_ble_eq_true rfl))
          rw [hsg] at w216_0
          refine jr.if_eq rfl rfl (by first | (refine rgb (by assumption) ?_; exact rfl) | omega) (fun h54 => ?_) (fun h54 => ?_)
          · refine jr.aload_n rfl rfl ?_
            obtain ⟨v218, e218⟩ : ∃ z, M 598 89 = z := ⟨_, rfl⟩
            have b218 : 0 ≤ v218 ∧ v218 ≤ 301 := by rw [← e218]; exact hI_M 598 89 (Nat.le_of_ble_eq_true rfl)
            have e219 : M215 598 89 = v218 := ((w215_5 89 (zne rfl) (zne rfl) (zne rfl)).trans e218)
            obtain ⟨v220, e220⟩ : ∃ z, M 598 73 = z := ⟨_, rfl⟩
            have b220 : 0 ≤ v220 ∧ v220 ≤ 1600 := by rw [← e220]; exact hI_M 598 73 (Nat.le_of_ble_eq_true rfl)
            have e221 : M215 598 73 = v220 := ((w215_5 73 (zne rfl) (zne rfl) (zne rfl)).trans e220)
            obtain ⟨v224, e224⟩ : ∃ z, M215 598 100 = z := ⟨_, rfl⟩
            have b224 : 0 ≤ v224 ∧ v224 ≤ 13 := by rw [← e224]; exact hI_M215 598 100 (Nat.le_of_ble_eq_true rfl)
            refine jr_v rfl rfl (Or.inl rfl) rfl rfl (nlt rfl) rfl ⟨rfl, Nat.le_of_ble_eq_true rfl, Nat.le_of_ble_eq_true rfl⟩ rfl (jc.deep (r_node hI_M215 hH_M215 hS_M215   (by rw [e219]; omega) (fun M217 hI_M217 hH_M217 hS_M217  w217_0 w217_1 w217_2 w217_3 w217_4 w217_5 => ?_)) (Nat.le_of_ble_eq_true rfl))
            have tk217 : TK M217 = TK M215 := TK.fr (w217_5 73 (zne rfl) (zne rfl) (zne rfl)) (w217_5 74 (zne rfl) (zne rfl) (zne rfl))
            have x217_73 := w217_5 73 (zne rfl) (zne rfl) (zne rfl)
            have x217_100 := w217_5 100 (zne rfl) (zne rfl) (zne rfl)
            have hE := ES.fr2 hE w217_4 (w217_5 88 (zne rfl) (zne rfl) (zne rfl)) (w217_5 90 (zne rfl) (zne rfl) (zne rfl)) (w217_5 101 (zne rfl) (zne rfl) (zne rfl)) (w217_5 102 (zne rfl) (zne rfl) (zne rfl)) (w217_5 107 (zne rfl) (zne rfl) (zne rfl)) (k' := kk + 4) (d' := 0) (z' := 0) (by omega) (by omega) (by omega) (by omega)
            refine jr.aload_n rfl rfl ?_
            refine jr_v rfl rfl (Or.inl rfl) rfl rfl (nlt rfl) rfl ⟨rfl, Nat.le_of_ble_eq_true rfl, Nat.le_of_ble_eq_true rfl⟩ rfl (jc.deep (c_good hI_M217  (fun t68_0 => ?_) (fun f68_0 => ?_)) (Nat.le_of_ble_eq_true rfl))
            · have w217_1r := Classical.byContradiction (fun z => w217_1 z t68_0)
              have w217_2r := w217_2 t68_0
              clear w217_1 w217_2 w217_3
              refine jr.if_ne rfl rfl (by first | exact rgl rfl | omega) (fun _ => ?_) (fun h => absurd (by decide) h)
              refine jr.aload_n rfl rfl ?_
              have e227 : M217 598 73 = v220 := ((w217_5 73 (zne rfl) (zne rfl) (zne rfl)).trans e221)
              obtain ⟨v228, e228⟩ : ∃ z, M 598 72 = z := ⟨_, rfl⟩
              have b228 : 0 ≤ v228 ∧ v228 ≤ 1600 := by rw [← e228]; exact hI_M 598 72 (Nat.le_of_ble_eq_true rfl)
              have e229 : M215 598 72 = v228 := ((w215_5 72 (zne rfl) (zne rfl) (zne rfl)).trans e228)
              have e230 : M217 598 72 = v228 := ((w217_5 72 (zne rfl) (zne rfl) (zne rfl)).trans e229)
              have e231 : M215 598 74 = v1 := ((w215_5 74 (zne rfl) (zne rfl) (zne rfl)).trans e1)
              have e232 : M217 598 74 = v1 := ((w217_5 74 (zne rfl) (zne rfl) (zne rfl)).trans e231)
              obtain ⟨v235, e235⟩ : ∃ z, M217 598 89 = z := ⟨_, rfl⟩
              have b235 : 0 ≤ v235 ∧ v235 ≤ 301 := by rw [← e235]; exact hI_M217 598 89 (Nat.le_of_ble_eq_true rfl)
              have e237 : M217 598 100 = v224 := ((w217_5 100 (zne rfl) (zne rfl) (zne rfl)).trans e224)
              refine jr_v rfl rfl (Or.inl rfl) rfl rfl (nlt rfl) rfl ⟨rfl, Nat.le_of_ble_eq_true rfl, Nat.le_of_ble_eq_true rfl⟩ rfl (jc.deep (r_next hI_M217 hH_M217 hS_M217   (by rw [e227, e230]; omega) (fun M226 hI_M226 hH_M226 hS_M226  w226_0 w226_1 w226_2 w226_3 w226_4 w226_5 w226_6 => ?_)) (Nat.le_of_ble_eq_true rfl))
              have x226_89 := w226_6 89 (zne rfl) (zne rfl) (zne rfl) (zne rfl) (zne rfl) (zne rfl) (zne rfl)
              have x226_100 := w226_6 100 (zne rfl) (zne rfl) (zne rfl) (zne rfl) (zne rfl) (zne rfl) (zne rfl)
              have hE := ES.fr2 hE w226_5 (w226_6 88 (zne rfl) (zne rfl) (zne rfl) (zne rfl) (zne rfl) (zne rfl) (zne rfl)) (w226_6 90 (zne rfl) (zne rfl) (zne rfl) (zne rfl) (zne rfl) (zne rfl) (zne rfl)) (w226_6 101 (zne rfl) (zne rfl) (zne rfl) (zne rfl) (zne rfl) (zne rfl) (zne rfl)) (w226_6 102 (zne rfl) (zne rfl) (zne rfl) (zne rfl) (zne rfl) (zne rfl) (zne rfl)) (w226_6 107 (zne rfl) (zne rfl) (zne rfl) (zne rfl) (zne rfl) (zne rfl) (zne rfl)) (k' := kk + 4) (d' := 0) (z' := 0) (by omega) (by omega) (by omega) (by omega)
              refine jr.iload_n rfl rfl ?_
              refine jr.iconst rfl ?_
              refine jr.icmp_ge rfl rfl (by first | (refine rgb (by assumption) ?_; exact rfl) | omega) (rgl rfl) (fun h82 => ?_) (fun h82 => ?_)
              · refine jr.aload_n rfl rfl ?_
                refine jr.iload_n rfl rfl ?_
                refine jr.iconst rfl ?_
                have e239 : M217 598 102 = sg := ((w217_5 102 (zne rfl) (zne rfl) (zne rfl)).trans hsg)
                have e240 : M226 598 102 = sg := ((w226_6 102 (zne rfl) (zne rfl) (zne rfl) (zne rfl) (zne rfl) (zne rfl) (zne rfl)).trans e239)
                refine jr_v rfl rfl (Or.inl rfl) rfl rfl (nlt rfl) rfl ⟨rfl, Nat.le_of_ble_eq_true rfl, Nat.le_of_ble_eq_true rfl⟩ rfl (jc.deep (r_push e240 (by omega) (by omega) (by omega) ?_) (Nat.le_of_ble_eq_true rfl))
                have hE := ES.two hE e240 v2 (-1) (kk + 2) (by omega) (by rw [w226_5 664 _ (nne rfl), w217_4 664 _ (nne rfl)]; omega) (by omega) (by omega)
                refine jr.iconst rfl ?_
                have e241 : M226 598 72 = v228 := ((w226_6 72 (zne rfl) (zne rfl) (zne rfl) (zne rfl) (zne rfl) (zne rfl) (zne rfl)).trans e230)
                have y242 : (ju (ju (ju (ju M226 664 sg v2) 666 sg (-1)) 667 sg 1) 598 102 (sg + 1)) 598 72 = v228 := ((ju_i _ _ (zne (by decide))).trans ((ju_c _ _ (by decide)).trans ((ju_c _ _ (by decide)).trans ((ju_c _ _ (by decide)).trans e241))))
                obtain ⟨v243, e243⟩ : ∃ z, M226 598 73 = z := ⟨_, rfl⟩
                have b243 : 0 ≤ v243 ∧ v243 ≤ 1600 := by rw [← e243]; exact hI_M226 598 73 (Nat.le_of_ble_eq_true rfl)
                have y244 : (ju (ju (ju (ju M226 664 sg v2) 666 sg (-1)) 667 sg 1) 598 102 (sg + 1)) 598 73 = v243 := ((ju_i _ _ (zne (by decide))).trans ((ju_c _ _ (by decide)).trans ((ju_c _ _ (by decide)).trans ((ju_c _ _ (by decide)).trans e243))))
                obtain ⟨v245, e245⟩ : ∃ z, M226 598 74 = z := ⟨_, rfl⟩
                have b245 : 0 ≤ v245 ∧ v245 ≤ 4 := by rw [← e245]; exact hI_M226 598 74 (Nat.le_of_ble_eq_true rfl)
                have y246 : (ju (ju (ju (ju M226 664 sg v2) 666 sg (-1)) 667 sg 1) 598 102 (sg + 1)) 598 74 = v245 := ((ju_i _ _ (zne (by decide))).trans ((ju_c _ _ (by decide)).trans ((ju_c _ _ (by decide)).trans ((ju_c _ _ (by decide)).trans e245))))
                obtain ⟨v247, e247⟩ : ∃ z, M226 598 79 = z := ⟨_, rfl⟩
                have b247 : 0 ≤ v247 ∧ v247 ≤ 255 := by rw [← e247]; exact hI_M226 598 79 (Nat.le_of_ble_eq_true rfl)
                have y248 : (ju (ju (ju (ju M226 664 sg v2) 666 sg (-1)) 667 sg 1) 598 102 (sg + 1)) 598 79 = v247 := ((ju_i _ _ (zne (by decide))).trans ((ju_c _ _ (by decide)).trans ((ju_c _ _ (by decide)).trans ((ju_c _ _ (by decide)).trans e247))))
                obtain ⟨v249, e249⟩ : ∃ z, M217 598 80 = z := ⟨_, rfl⟩
                have b249 : 0 ≤ v249 ∧ v249 ≤ 7 := by rw [← e249]; exact hI_M217 598 80 (Nat.le_of_ble_eq_true rfl)
                have e250 : M226 598 80 = v249 := ((w226_6 80 (zne rfl) (zne rfl) (zne rfl) (zne rfl) (zne rfl) (zne rfl) (zne rfl)).trans e249)
                have y251 : (ju (ju (ju (ju M226 664 sg v2) 666 sg (-1)) 667 sg 1) 598 102 (sg + 1)) 598 80 = v249 := ((ju_i _ _ (zne (by decide))).trans ((ju_c _ _ (by decide)).trans ((ju_c _ _ (by decide)).trans ((ju_c _ _ (by decide)).trans e250))))
                have e252 : M226 598 89 = v235 := ((w226_6 89 (zne rfl) (zne rfl) (zne rfl) (zne rfl) (zne rfl) (zne rfl) (zne rfl)).trans e235)
                have y253 : (ju (ju (ju (ju M226 664 sg v2) 666 sg (-1)) 667 sg 1) 598 102 (sg + 1)) 598 89 = v235 := ((ju_i _ _ (zne (by decide))).trans ((ju_c _ _ (by decide)).trans ((ju_c _ _ (by decide)).trans ((ju_c _ _ (by decide)).trans e252))))
                obtain ⟨v254, e254⟩ : ∃ z, M215 598 90 = z := ⟨_, rfl⟩
                have b254 : 0 ≤ v254 ∧ v254 ≤ 2200 := by rw [← e254]; exact hI_M215 598 90 (Nat.le_of_ble_eq_true rfl)
                have e255 : M217 598 90 = v254 := ((w217_5 90 (zne rfl) (zne rfl) (zne rfl)).trans e254)
                have e256 : M226 598 90 = v254 := ((w226_6 90 (zne rfl) (zne rfl) (zne rfl) (zne rfl) (zne rfl) (zne rfl) (zne rfl)).trans e255)
                have y257 : (ju (ju (ju (ju M226 664 sg v2) 666 sg (-1)) 667 sg 1) 598 102 (sg + 1)) 598 90 = v254 := ((ju_i _ _ (zne (by decide))).trans ((ju_c _ _ (by decide)).trans ((ju_c _ _ (by decide)).trans ((ju_c _ _ (by decide)).trans e256))))
                have e258 : M226 598 100 = v224 := ((w226_6 100 (zne rfl) (zne rfl) (zne rfl) (zne rfl) (zne rfl) (zne rfl) (zne rfl)).trans e237)
                have y259 : (ju (ju (ju (ju M226 664 sg v2) 666 sg (-1)) 667 sg 1) 598 102 (sg + 1)) 598 100 = v224 := ((ju_i _ _ (zne (by decide))).trans ((ju_c _ _ (by decide)).trans ((ju_c _ _ (by decide)).trans ((ju_c _ _ (by decide)).trans e258))))
                obtain ⟨v260, e260⟩ : ∃ z, M 598 107 = z := ⟨_, rfl⟩
                have b260 : 0 ≤ v260 ∧ v260 ≤ 16 := by rw [← e260]; exact hI_M 598 107 (Nat.le_of_ble_eq_true rfl)
                have e261 : M215 598 107 = v260 := ((w215_5 107 (zne rfl) (zne rfl) (zne rfl)).trans e260)
                have e262 : M217 598 107 = v260 := ((w217_5 107 (zne rfl) (zne rfl) (zne rfl)).trans e261)
                have e263 : M226 598 107 = v260 := ((w226_6 107 (zne rfl) (zne rfl) (zne rfl) (zne rfl) (zne rfl) (zne rfl) (zne rfl)).trans e262)
                have y264 : (ju (ju (ju (ju M226 664 sg v2) 666 sg (-1)) 667 sg 1) 598 102 (sg + 1)) 598 107 = v260 := ((ju_i _ _ (zne (by decide))).trans ((ju_c _ _ (by decide)).trans ((ju_c _ _ (by decide)).trans ((ju_c _ _ (by decide)).trans e263))))
                have y265 : TK (ju (ju (ju (ju M226 664 sg v2) 666 sg (-1)) 667 sg 1) 598 102 (sg + 1)) = TK M226 := ((TK.o (Or.inr ⟨by decide, by decide⟩)).trans ((TK.o (Or.inl (by decide))).trans ((TK.o (Or.inl (by decide))).trans ((TK.o (Or.inl (by decide))).trans rfl))))
                exact jr.ireturn rfl rfl rfl (q _ _ (RI.u (RI.u (RI.u (RI.u hI_M226 (a := 664) (i := sg) (by rw [xri_row rfl rfl]; show (0 : Int) ≤ _ ∧ _ ≤ (255 : Int); omega)) (a := 666) (i := sg) (by rw [xri_row rfl rfl]; show (-1 : Int) ≤ _ ∧ _ ≤ (68 : Int); omega)) (a := 667) (i := sg) (by rw [xri_row rfl rfl]; show (0 : Int) ≤ _ ∧ _ ≤ (4 : Int); omega)) (a := 598) (i := 102) (show (0 : Int) ≤ _ ∧ _ ≤ (400 : Int) from by omega)) (RH.o (RH.o (RH.o (RH.o hH_M226 (by decide) (by decide) (by decide)) (by decide) (by decide) (by decide)) (by decide) (by decide) (by decide)) (by decide) (by decide) (by decide)) (RF.o (RF.o (RF.o (RF.o hS_M226 (by decide) (by decide)) (by decide) (by decide)) (by decide) (by decide)) (by decide) (by decide))  (by omega) (Or.inr ⟨rfl, by by_cases hf : v249 = 0; (first | (exact Or.inr ⟨⟨by omega, ES.adj hE (k' := kk) (z' := 0) (by omega) (by omega) (by omega), by omega, by omega, by omega, by omega⟩, by omega⟩) | (exfalso; omega)); (exact Or.inl ⟨by omega, by omega⟩)⟩) (by omega) (by omega) (by omega) (CP.o (CP.o (CP.o (CP.o (CP.f (CP.f (CP.trans (CP.rfl _) w215_3) (fun i => w217_4 659 i (nne rfl)) (w217_5 90 (zne rfl) (zne rfl) (zne rfl))) (fun i => w226_5 659 i (nne rfl)) (w226_6 90 (zne rfl) (zne rfl) (zne rfl) (zne rfl) (zne rfl) (zne rfl) (zne rfl))) (by decide) (Or.inl (by decide))) (by decide) (Or.inl (by decide))) (by decide) (Or.inl (by decide))) (by decide) (Or.inr (by decide))) (by omega) (fun a i f598 f659 f660 f664 f665 f666 f667 => ((ju_c _ _ f598).trans ((ju_c _ _ f667).trans ((ju_c _ _ f666).trans ((ju_c _ _ f664).trans ((w226_5 a i f598).trans ((w217_4 a i f598).trans ((w215_4 a i f598 f659 f660).trans rfl)))))))) (fun i g73 g74 g75 g76 g77 g78 g79 g80 g81 g89 g90 g100 g102 => ((ju_i _ _ g102).trans ((ju_c _ _ (by decide)).trans ((ju_c _ _ (by decide)).trans ((ju_c _ _ (by decide)).trans ((w226_6 i g73 g74 g75 g76 g77 g78 g79).trans ((w217_5 i g80 g81 g89).trans ((w215_5 i g90 g100 g102).trans rfl)))))))))
              · exact absurd (by omega) h82
            · refine jr.if_ne rfl rfl (by first | exact rgl rfl | omega) (fun h => absurd h (by decide)) (fun _ => ?_)
              refine jr.iconst rfl ?_
              obtain ⟨v266, e266⟩ : ∃ z, M 598 72 = z := ⟨_, rfl⟩
              have b266 : 0 ≤ v266 ∧ v266 ≤ 1600 := by rw [← e266]; exact hI_M 598 72 (Nat.le_of_ble_eq_true rfl)
              have e267 : M215 598 72 = v266 := ((w215_5 72 (zne rfl) (zne rfl) (zne rfl)).trans e266)
              have e268 : M217 598 72 = v266 := ((w217_5 72 (zne rfl) (zne rfl) (zne rfl)).trans e267)
              have e270 : M217 598 73 = v220 := ((w217_5 73 (zne rfl) (zne rfl) (zne rfl)).trans e221)
              have e272 : M215 598 74 = v1 := ((w215_5 74 (zne rfl) (zne rfl) (zne rfl)).trans e1)
              have e273 : M217 598 74 = v1 := ((w217_5 74 (zne rfl) (zne rfl) (zne rfl)).trans e272)
              have e275 : M215 598 79 = v2 := ((w215_5 79 (zne rfl) (zne rfl) (zne rfl)).trans e2)
              have e276 : M217 598 79 = v2 := ((w217_5 79 (zne rfl) (zne rfl) (zne rfl)).trans e275)
              obtain ⟨v278, e278⟩ : ∃ z, M217 598 80 = z := ⟨_, rfl⟩
              have b278 : 0 ≤ v278 ∧ v278 ≤ 7 := by rw [← e278]; exact hI_M217 598 80 (Nat.le_of_ble_eq_true rfl)
              obtain ⟨v280, e280⟩ : ∃ z, M217 598 89 = z := ⟨_, rfl⟩
              have b280 : 0 ≤ v280 ∧ v280 ≤ 301 := by rw [← e280]; exact hI_M217 598 89 (Nat.le_of_ble_eq_true rfl)
              obtain ⟨v282, e282⟩ : ∃ z, M215 598 90 = z := ⟨_, rfl⟩
              have b282 : 0 ≤ v282 ∧ v282 ≤ 2200 := by rw [← e282]; exact hI_M215 598 90 (Nat.le_of_ble_eq_true rfl)
              have e283 : M217 598 90 = v282 := ((w217_5 90 (zne rfl) (zne rfl) (zne rfl)).trans e282)
              have e285 : M217 598 100 = v224 := ((w217_5 100 (zne rfl) (zne rfl) (zne rfl)).trans e224)
              obtain ⟨v287, e287⟩ : ∃ z, M 598 107 = z := ⟨_, rfl⟩
              have b287 : 0 ≤ v287 ∧ v287 ≤ 16 := by rw [← e287]; exact hI_M 598 107 (Nat.le_of_ble_eq_true rfl)
              have e288 : M215 598 107 = v287 := ((w215_5 107 (zne rfl) (zne rfl) (zne rfl)).trans e287)
              have e289 : M217 598 107 = v287 := ((w217_5 107 (zne rfl) (zne rfl) (zne rfl)).trans e288)
              exact jr.ireturn rfl rfl rfl (q _ _ hI_M217 hH_M217 hS_M217  (by omega) (Or.inr ⟨rfl, by by_cases hf : v278 = 0; (first | (exfalso; omega) | (exact Or.inr ⟨⟨by omega, ES.adj hE (k' := kk) (z' := 0) (by omega) (by omega) (by omega), by omega, by omega, by omega, by omega⟩, by omega⟩)); (exact Or.inl ⟨by omega, by omega⟩)⟩) (by omega) (by omega) (by omega) (CP.f (CP.trans (CP.rfl _) w215_3) (fun i => w217_4 659 i (nne rfl)) (w217_5 90 (zne rfl) (zne rfl) (zne rfl))) (by omega) (fun a i f598 f659 f660 f664 f665 f666 f667 => ((w217_4 a i f598).trans ((w215_4 a i f598 f659 f660).trans rfl))) (fun i g73 g74 g75 g76 g77 g78 g79 g80 g81 g89 g90 g100 g102 => ((w217_5 i g80 g81 g89).trans ((w215_5 i g90 g100 g102).trans rfl))))
          · have sx54 : (1 : Int) ≤ r216 := by omega
            clear h54
            refine jr.aload_n rfl rfl ?_
            refine jr_v rfl rfl (Or.inl rfl) rfl rfl (nlt rfl) rfl ⟨rfl, Nat.le_of_ble_eq_true rfl, Nat.le_of_ble_eq_true rfl⟩ rfl (jc.deep (r_wrongToken hI_M215 hH_M215 hS_M215    (fun M291 hI_M291 hH_M291 hS_M291  w291_0 w291_1 w291_2 => ?_)) (Nat.le_of_ble_eq_true rfl))
            have tk291 : TK M291 = TK M215 := TK.fr (w291_2 73 (zne rfl) (zne rfl)) (w291_2 74 (zne rfl) (zne rfl))
            refine jr.iconst rfl ?_
            obtain ⟨v292, e292⟩ : ∃ z, M 598 72 = z := ⟨_, rfl⟩
            have b292 : 0 ≤ v292 ∧ v292 ≤ 1600 := by rw [← e292]; exact hI_M 598 72 (Nat.le_of_ble_eq_true rfl)
            have e293 : M215 598 72 = v292 := ((w215_5 72 (zne rfl) (zne rfl) (zne rfl)).trans e292)
            have e294 : M291 598 72 = v292 := ((w291_2 72 (zne rfl) (zne rfl)).trans e293)
            obtain ⟨v296, e296⟩ : ∃ z, M 598 73 = z := ⟨_, rfl⟩
            have b296 : 0 ≤ v296 ∧ v296 ≤ 1600 := by rw [← e296]; exact hI_M 598 73 (Nat.le_of_ble_eq_true rfl)
            have e297 : M215 598 73 = v296 := ((w215_5 73 (zne rfl) (zne rfl) (zne rfl)).trans e296)
            have e298 : M291 598 73 = v296 := ((w291_2 73 (zne rfl) (zne rfl)).trans e297)
            have e300 : M215 598 74 = v1 := ((w215_5 74 (zne rfl) (zne rfl) (zne rfl)).trans e1)
            have e301 : M291 598 74 = v1 := ((w291_2 74 (zne rfl) (zne rfl)).trans e300)
            have e303 : M215 598 79 = v2 := ((w215_5 79 (zne rfl) (zne rfl) (zne rfl)).trans e2)
            have e304 : M291 598 79 = v2 := ((w291_2 79 (zne rfl) (zne rfl)).trans e303)
            obtain ⟨v306, e306⟩ : ∃ z, M291 598 80 = z := ⟨_, rfl⟩
            have b306 : 0 ≤ v306 ∧ v306 ≤ 7 := by rw [← e306]; exact hI_M291 598 80 (Nat.le_of_ble_eq_true rfl)
            obtain ⟨v308, e308⟩ : ∃ z, M 598 89 = z := ⟨_, rfl⟩
            have b308 : 0 ≤ v308 ∧ v308 ≤ 301 := by rw [← e308]; exact hI_M 598 89 (Nat.le_of_ble_eq_true rfl)
            have e309 : M215 598 89 = v308 := ((w215_5 89 (zne rfl) (zne rfl) (zne rfl)).trans e308)
            have e310 : M291 598 89 = v308 := ((w291_2 89 (zne rfl) (zne rfl)).trans e309)
            obtain ⟨v312, e312⟩ : ∃ z, M215 598 90 = z := ⟨_, rfl⟩
            have b312 : 0 ≤ v312 ∧ v312 ≤ 2200 := by rw [← e312]; exact hI_M215 598 90 (Nat.le_of_ble_eq_true rfl)
            have e313 : M291 598 90 = v312 := ((w291_2 90 (zne rfl) (zne rfl)).trans e312)
            obtain ⟨v315, e315⟩ : ∃ z, M215 598 100 = z := ⟨_, rfl⟩
            have b315 : 0 ≤ v315 ∧ v315 ≤ 13 := by rw [← e315]; exact hI_M215 598 100 (Nat.le_of_ble_eq_true rfl)
            have e316 : M291 598 100 = v315 := ((w291_2 100 (zne rfl) (zne rfl)).trans e315)
            obtain ⟨v318, e318⟩ : ∃ z, M 598 107 = z := ⟨_, rfl⟩
            have b318 : 0 ≤ v318 ∧ v318 ≤ 16 := by rw [← e318]; exact hI_M 598 107 (Nat.le_of_ble_eq_true rfl)
            have e319 : M215 598 107 = v318 := ((w215_5 107 (zne rfl) (zne rfl) (zne rfl)).trans e318)
            have e320 : M291 598 107 = v318 := ((w291_2 107 (zne rfl) (zne rfl)).trans e319)
            exact jr.ireturn rfl rfl rfl (q _ _ hI_M291 hH_M291 hS_M291  (by omega) (Or.inr ⟨rfl, by by_cases hf : v306 = 0; (first | (exfalso; omega) | (exact Or.inr ⟨⟨by omega, ES.adj hE (k' := kk) (z' := 0) (by omega) (by omega) (by omega), by omega, by omega, by omega, by omega⟩, by omega⟩)); (exact Or.inl ⟨by omega, by omega⟩)⟩) (by omega) (by omega) (by omega) (CP.f (CP.trans (CP.rfl _) w215_3) (fun i => w291_1 659 i (nne rfl)) (w291_2 90 (zne rfl) (zne rfl))) (by omega) (fun a i f598 f659 f660 f664 f665 f666 f667 => ((w291_1 a i f598).trans ((w215_4 a i f598 f659 f660).trans rfl))) (fun i g73 g74 g75 g76 g77 g78 g79 g80 g81 g89 g90 g100 g102 => ((w291_2 i g80 g81).trans ((w215_5 i g90 g100 g102).trans rfl))))
    · refine jr.iconst rfl ?_
      exact jr.ireturn rfl rfl rfl (q _ _ hI_M hH_M hS_M  (by first | exact rgq rfl | omega) (Or.inl ⟨rfl, p0⟩) (by omega) (by omega) (by omega) (CP.rfl _) (by omega) (fun a i f598 f659 f660 f664 f665 f666 f667 => rfl) (fun i g73 g74 g75 g76 g77 g78 g79 g80 g81 g89 g90 g100 g102 => rfl))
theorem TK.ge {M : jm} (h : M 598 73 ≤ 1600) (h2 : 0 ≤ M 598 74) : 0 ≤ TK M := by
  unfold TK
  omega
theorem ES.top40 {M : jm} {b o k d z x : Int} (h : ES M b o k d z x) (h0 : 0 < M 598 102) (hs : strn (M 664 (M 598 102 - 1)) < 1) : M 664 (M 598 102 - 1) = 40 ∧ (M 666 (M 598 102 - 1) = -1 ∨ (25 ≤ M 666 (M 598 102 - 1) ∧ M 666 (M 598 102 - 1) ≤ 30 ∧ M 667 (M 598 102 - 1) ≤ argn (M 666 (M 598 102 - 1)))) := by
  rcases ES.top h h0 with q | q | q | q | q | q
  · exact q
  · rw [q] at hs
    exact absurd hs (by decide)
  · rw [q] at hs
    exact absurd hs (by decide)
  · rw [q] at hs
    exact absurd hs (by decide)
  · rw [q] at hs
    exact absurd hs (by decide)
  · omega
noncomputable def kcO (w : Int) : Int := if w = -1 then 1 else argn w
noncomputable def kcK (w : Int) : Int := if w = -1 then 0 else 2
theorem ES.clo1 {M : jm} {b k d z c p w : Int} (h : ES M b 1 k d z (-1)) (e : M 598 102 = c) (e3 : M 598 100 = p) (e4 : M 664 (c - 1) = 40) (e5 : M 666 (c - 1) = w) (h0 : 0 < c) (hw : w = -1 ∨ M 667 (c - 1) = argn w) : ES (ju (ju M 598 102 (c - 1)) 598 100 (p - 1)) b (kcO w) (k + kcK w) d z (-1) := by
  rcases ES.clo h e e3 e4 e5 h0 hw with ⟨q1, q2⟩ | ⟨q1, q2, q3⟩
  · unfold kcO kcK
    rw [if_pos q1, if_pos q1, Int.add_zero]
    exact q2
  · unfold kcO kcK
    rw [if_neg (by omega), if_neg (by omega)]
    exact q3
theorem r_exp_L64 {A : Nat → Option (Nat × (Nat → Int32))} {Q : Option Value → jm → Prop} {b kk : Int} {M0 : jm} (q : ∀ (M' : jm), RI M' → RH M' → RF M' → (BS M' ∨ (SS M' (b + 1) kk ∧ TK M' < TK M0)) → TK M' ≤ TK M0 → M' 598 73 ≤ M' 598 72 → (M' 598 80 ≠ 0 ∨ TK M' < TK M0) → CP M0 M' → M0 598 89 ≤ M' 598 89 → (∀ (a : Nat) (i : Int), a ≠ 598 → a ≠ 659 → a ≠ 660 → a ≠ 664 → a ≠ 665 → a ≠ 666 → a ≠ 667 → M' a i = M0 a i) → (∀ (i : Int), i ≠ 73 → i ≠ 74 → i ≠ 75 → i ≠ 76 → i ≠ 77 → i ≠ 78 → i ≠ 79 → i ≠ 80 → i ≠ 81 → i ≠ 89 → i ≠ 90 → i ≠ 100 → i ≠ 102 → M' 598 i = M0 598 i) → Q none M') (nO : Nat) (ko : ∀ (M : jm) (o : Int) (m : Int), RI M → RH M → RF M → (∀ (a : Nat) (i : Int), a ≠ 598 → a ≠ 659 → a ≠ 660 → a ≠ 664 → a ≠ 665 → a ≠ 666 → a ≠ 667 → M a i = M0 a i) → (∀ (i : Int), i ≠ 73 → i ≠ 74 → i ≠ 75 → i ≠ 76 → i ≠ 77 → i ≠ 78 → i ≠ 79 → i ≠ 80 → i ≠ 81 → i ≠ 89 → i ≠ 90 → i ≠ 100 → i ≠ 102 → M 598 i = M0 598 i) → 0 ≤ o ∧ o ≤ 1 → 390 ≤ m ∧ m ≤ 390 → (BS M ∨ GS M b (1 - o) kk) → (TK M < TK M0 ∨ o = 1 ∨ M 598 80 ≠ 0) → TK M ≤ TK M0 → M 598 73 ≤ M 598 72 → 0 ≤ b ∧ b ≤ 4 → CP M0 M → M0 598 89 ≤ M 598 89 → TK M + 1 - min 1 (M 598 80) ≤ nO → jr A 6 xm_364 11 [(2, .int (Int32.ofInt (o))), (1, .int (Int32.ofInt (m))), (0, .ref (598))] [] M Q) : ∀ (M : jm) (o : Int) (m : Int), RI M → RH M → RF M → (∀ (a : Nat) (i : Int), a ≠ 598 → a ≠ 659 → a ≠ 660 → a ≠ 664 → a ≠ 665 → a ≠ 666 → a ≠ 667 → M a i = M0 a i) → (∀ (i : Int), i ≠ 73 → i ≠ 74 → i ≠ 75 → i ≠ 76 → i ≠ 77 → i ≠ 78 → i ≠ 79 → i ≠ 80 → i ≠ 81 → i ≠ 89 → i ≠ 90 → i ≠ 100 → i ≠ 102 → M 598 i = M0 598 i) → 0 ≤ o ∧ o ≤ 1 → 390 ≤ m ∧ m ≤ 390 → GS M b 1 kk → o = 0 → TK M < TK M0 → TK M ≤ nO → 0 ≤ b ∧ b ≤ 4 → CP M0 M → M0 598 89 ≤ M 598 89 → jr A 6 xm_364 64 [(2, .int (Int32.ofInt (o))), (1, .int (Int32.ofInt (m))), (0, .ref (598))] [] M Q := by
    intro M o m hI_M hH_M hS_M hF_M hG_M h_o h_m hy0 hy1 hy2 hy3 hy4 hy5 hy6
    have hCP := hy5
    refine jr.aload_n rfl rfl ?_
    refine jr.iconst rfl ?_
    refine jr_v rfl rfl (Or.inl rfl) rfl rfl (nlt rfl) rfl ⟨rfl, Nat.le_of_ble_eq_true rfl, Nat.le_of_ble_eq_true rfl⟩ rfl (jc.deep (r_reduce hI_M hH_M hS_M  (by omega) hy0 (fun M1 hI_M1 hH_M1 hS_M1  w1_0 w1_1 w1_2 w1_3 w1_4 w1_5 => ?_)) (Nat.le_of_ble_eq_true rfl))
    have tk1 : TK M1 = TK M := TK.fr (w1_5 73 (zne rfl) (zne rfl) (zne rfl)) (w1_5 74 (zne rfl) (zne rfl) (zne rfl))
    obtain ⟨gs1, gs2, gs3, gs4, gs5, gs6⟩ := id w1_0
    have hE := gs2
    have sl := ES.sgle gs2
    have bb := ES.bb gs2
    have kb := ES.kz gs2
    have bM1_107 : (0 : Int) ≤ M1 598 107 ∧ M1 598 107 ≤ 16 := hI_M1 598 107 (Nat.le_of_ble_eq_true rfl)
    have bM1_73 : (0 : Int) ≤ M1 598 73 ∧ M1 598 73 ≤ 1600 := hI_M1 598 73 (Nat.le_of_ble_eq_true rfl)
    have bM1_88 : (0 : Int) ≤ M1 598 88 ∧ M1 598 88 ≤ 16 := hI_M1 598 88 (Nat.le_of_ble_eq_true rfl)
    have bM1_100 : (0 : Int) ≤ M1 598 100 ∧ M1 598 100 ≤ 13 := hI_M1 598 100 (Nat.le_of_ble_eq_true rfl)
    obtain ⟨sg, hsg⟩ : ∃ z, M1 598 102 = z := ⟨_, rfl⟩
    rw [hsg] at w1_1
    have bsg : (0 : Int) ≤ sg ∧ sg ≤ 400 := by rw [← hsg]; exact hI_M1 598 102 (Nat.le_of_ble_eq_true rfl)
    refine jr.aload_n rfl rfl ?_
    refine jr.getf (i := 102) (x := sg) (v := .int (Int32.ofInt (sg))) rfl rfl (nlt rfl) rfl (nlt rfl) rfl rfl hsg rfl ?_
    refine jr.if_ne rfl rfl (by first | (refine rgb (by assumption) ?_; exact rfl) | omega) (fun h73 => ?_) (fun h73 => ?_)
    · have sx73 : (1 : Int) ≤ sg := by omega
      clear h73
      refine jr.aload_n rfl rfl ?_
      refine jr.getf (i := 105) (v := .ref 666) rfl rfl (nlt rfl) rfl (nlt rfl) rfl rfl rfl rfl ?_
      refine jr.aload_n rfl rfl ?_
      refine jr.getf (i := 102) (x := sg) (v := .int (Int32.ofInt (sg))) rfl rfl (nlt rfl) rfl (nlt rfl) rfl rfl hsg rfl ?_
      refine jr.iconst rfl ?_
      refine jr.isub rfl ?_
      obtain ⟨v2, e2⟩ : ∃ z, M 666 (sg - 1) = z := ⟨_, rfl⟩
      have b2 : (-1) ≤ v2 ∧ v2 ≤ 68 := by rw [← e2]; exact (by have q := hI_M 666 (sg - 1) (Nat.le_of_ble_eq_true rfl); rw [xri_row rfl rfl] at q; exact q)
      have e3 : M1 666 (sg - 1) = v2 := ((w1_4 666 (sg - 1) (nne rfl) (nne rfl) (nne rfl)).trans e2)
      refine jr.iald (i := (sg - 1)) (x := v2) rfl (nlt rfl) rfl (Nat.le_of_ble_eq_true rfl) (by omega) (by omega) e3 ?_
      refine jr.istore_n (ls' := [_, _, _, _]) rfl (nlt rfl) rfl ?_
      refine jr.iload_n rfl rfl ?_
      refine jr.iconst rfl ?_
      refine jr.icmp_eq rfl rfl (by first | (refine rgb (by assumption) ?_; exact rfl) | omega) (rgl rfl) (fun h91 => ?_) (fun h91 => ?_)
      · refine jr.iconst rfl ?_
        refine jr.goto rfl rfl ?_
        refine jr.istore (ls' := [_, _, _, _, _]) rfl (nlt rfl) rfl ?_
        refine jr.aload_n rfl rfl ?_
        refine jr.bipush rfl (jbp _ (nlt rfl)) ?_
        refine jr_v rfl rfl (Or.inl rfl) rfl rfl (nlt rfl) rfl ⟨rfl, Nat.le_of_ble_eq_true rfl, Nat.le_of_ble_eq_true rfl⟩ rfl (jc.deep (c_isSign hI_M1 (by omega) (fun t122_0 t122_1 => ?_) (fun f122_0 => ?_)) (Nat.le_of_ble_eq_true rfl))
        · have tq := ES.top40 gs2 (by omega) (by rw [hsg]; omega)
          rw [hsg, e3] at tq
          have dp1 := ES.dpos gs2 (by omega)
          rw [hsg] at dp1
          have dp2 := dp1 (Or.inl tq.1)
          refine jr.if_eq rfl rfl (by first | exact rgl rfl | omega) (fun h => absurd h (by decide)) (fun _ => ?_)
          refine jr.iload rfl rfl ?_
          refine jr.if_ne rfl rfl (by first | exact rgl rfl | omega) (fun _ => ?_) (fun h => absurd (by decide) h)
          refine jr.aload_n rfl rfl ?_
          refine jr.bipush rfl (jbp _ (nlt rfl)) ?_
          refine jr_v rfl rfl (Or.inl rfl) rfl rfl (nlt rfl) rfl ⟨rfl, Nat.le_of_ble_eq_true rfl, Nat.le_of_ble_eq_true rfl⟩ rfl (jc.deep (c_isSign hI_M1 (by omega) (fun t160_0 t160_1 => ?_) (fun f160_0 => ?_)) (Nat.le_of_ble_eq_true rfl))
          · refine jr.if_eq rfl rfl (by first | exact rgl rfl | omega) (fun h => absurd h (by decide)) (fun _ => ?_)
            refine jr.iload rfl rfl ?_
            refine jr.if_eq rfl rfl (by first | exact rgl rfl | omega) (fun h => absurd h (by decide)) (fun _ => ?_)
            refine jr.aload_n rfl rfl ?_
            refine jr.dup rfl rfl ?_
            refine jr.getf (i := 102) (x := sg) (v := .int (Int32.ofInt (sg))) rfl rfl (nlt rfl) rfl (nlt rfl) rfl rfl hsg rfl ?_
            refine jr.iconst rfl ?_
            refine jr.isub rfl ?_
            refine jr.putf (i := 102) (x := (sg - 1)) rfl rfl (nlt rfl) rfl (nlt rfl) rfl rfl rfl rfl rfl ?_
            refine jr.aload_n rfl rfl ?_
            refine jr.dup rfl rfl ?_
            obtain ⟨v4, e4⟩ : ∃ z, M1 598 100 = z := ⟨_, rfl⟩
            have b4 : 0 ≤ v4 ∧ v4 ≤ 13 := by rw [← e4]; exact hI_M1 598 100 (Nat.le_of_ble_eq_true rfl)
            refine jr.getf (i := 100) (x := v4) (v := .int (Int32.ofInt (v4))) rfl rfl (nlt rfl) rfl (nlt rfl) rfl rfl ((ju_i _ _ (zne (by decide))).trans e4) rfl ?_
            refine jr.iconst rfl ?_
            refine jr.isub rfl ?_
            refine jr.putf (i := 100) (x := (v4 - 1)) rfl rfl (nlt rfl) rfl (nlt rfl) rfl rfl rfl rfl rfl ?_
            refine jr.aload_n rfl rfl ?_
            obtain ⟨v6, e6⟩ : ∃ z, M 598 73 = z := ⟨_, rfl⟩
            have b6 : 0 ≤ v6 ∧ v6 ≤ 1600 := by rw [← e6]; exact hI_M 598 73 (Nat.le_of_ble_eq_true rfl)
            have e7 : M1 598 73 = v6 := ((w1_5 73 (zne rfl) (zne rfl) (zne rfl)).trans e6)
            obtain ⟨v8, e8⟩ : ∃ z, M 598 72 = z := ⟨_, rfl⟩
            have b8 : 0 ≤ v8 ∧ v8 ≤ 1600 := by rw [← e8]; exact hI_M 598 72 (Nat.le_of_ble_eq_true rfl)
            have e9 : M1 598 72 = v8 := ((w1_5 72 (zne rfl) (zne rfl) (zne rfl)).trans e8)
            obtain ⟨v11, e11⟩ : ∃ z, M 598 89 = z := ⟨_, rfl⟩
            have b11 : 0 ≤ v11 ∧ v11 ≤ 301 := by rw [← e11]; exact hI_M 598 89 (Nat.le_of_ble_eq_true rfl)
            have e12 : M1 598 89 = v11 := ((w1_5 89 (zne rfl) (zne rfl) (zne rfl)).trans e11)
            obtain ⟨v16, e16⟩ : ∃ z, M 598 74 = z := ⟨_, rfl⟩
            have b16 : 0 ≤ v16 ∧ v16 ≤ 4 := by rw [← e16]; exact hI_M 598 74 (Nat.le_of_ble_eq_true rfl)
            have e17 : M1 598 74 = v16 := ((w1_5 74 (zne rfl) (zne rfl) (zne rfl)).trans e16)
            refine jr_v rfl rfl (Or.inl rfl) rfl rfl (nlt rfl) rfl ⟨rfl, Nat.le_of_ble_eq_true rfl, Nat.le_of_ble_eq_true rfl⟩ rfl (jc.deep (r_next (RI.u (RI.u hI_M1 (a := 598) (i := 102) (show (0 : Int) ≤ _ ∧ _ ≤ (400 : Int) from by omega)) (a := 598) (i := 100) (show (0 : Int) ≤ _ ∧ _ ≤ (13 : Int) from by omega)) (RH.o (RH.o hH_M1 (by decide) (by decide) (by decide)) (by decide) (by decide) (by decide)) (RF.o (RF.o hS_M1 (by decide) (by decide)) (by decide) (by decide))   (by rw [((ju_i _ _ (zne (by decide))).trans ((ju_i _ _ (zne (by decide))).trans e7)), ((ju_i _ _ (zne (by decide))).trans ((ju_i _ _ (zne (by decide))).trans e9))]; omega) (fun M5 hI_M5 hH_M5 hS_M5  w5_0 w5_1 w5_2 w5_3 w5_4 w5_5 w5_6 => ?_)) (Nat.le_of_ble_eq_true rfl))
            have y15 : (ju (ju M1 598 102 (sg - 1)) 598 100 (v4 - 1)) 598 73 = v6 := ((ju_i _ _ (zne (by decide))).trans ((ju_i _ _ (zne (by decide))).trans e7))
            have y18 : (ju (ju M1 598 102 (sg - 1)) 598 100 (v4 - 1)) 598 74 = v16 := ((ju_i _ _ (zne (by decide))).trans ((ju_i _ _ (zne (by decide))).trans e17))
            have tb5 : TK (ju (ju M1 598 102 (sg - 1)) 598 100 (v4 - 1)) = TK M1 := ((TK.o (Or.inr ⟨by decide, by decide⟩)).trans ((TK.o (Or.inr ⟨by decide, by decide⟩)).trans rfl))
            have hE := ES.clo1 gs2 hsg e4 tq.1 e3 (by omega) (by omega)
            have ck : 0 ≤ kcK v2 := by unfold kcK; split <;> omega
            have y10 : (ju (ju M1 598 102 (sg - 1)) 598 100 (v4 - 1)) 598 73 = v6 := ((ju_i _ _ (zne (by decide))).trans ((ju_i _ _ (zne (by decide))).trans e7))
            have y13 : (ju (ju M1 598 102 (sg - 1)) 598 100 (v4 - 1)) 598 89 = v11 := ((ju_i _ _ (zne (by decide))).trans ((ju_i _ _ (zne (by decide))).trans e12))
            have y14 : (ju (ju M1 598 102 (sg - 1)) 598 100 (v4 - 1)) 598 100 = v4 - 1 := (ju_same _ _ _ _)
            have x5_89 := w5_6 89 (zne rfl) (zne rfl) (zne rfl) (zne rfl) (zne rfl) (zne rfl) (zne rfl)
            have x5_100 := w5_6 100 (zne rfl) (zne rfl) (zne rfl) (zne rfl) (zne rfl) (zne rfl) (zne rfl)
            have hE := ES.fr2 hE w5_5 (w5_6 88 (zne rfl) (zne rfl) (zne rfl) (zne rfl) (zne rfl) (zne rfl) (zne rfl)) (w5_6 90 (zne rfl) (zne rfl) (zne rfl) (zne rfl) (zne rfl) (zne rfl) (zne rfl)) (w5_6 101 (zne rfl) (zne rfl) (zne rfl) (zne rfl) (zne rfl) (zne rfl) (zne rfl)) (w5_6 102 (zne rfl) (zne rfl) (zne rfl) (zne rfl) (zne rfl) (zne rfl) (zne rfl)) (w5_6 107 (zne rfl) (zne rfl) (zne rfl) (zne rfl) (zne rfl) (zne rfl) (zne rfl)) (k' := kk + kcK v2) (d' := 0) (z' := 0) (by omega) (by omega) (by omega) (by omega)
            have co1 : v2 = -1 → kcO v2 = 1 := fun z => by unfold kcO; rw [if_pos z]
            refine jr.iload_n rfl rfl ?_
            refine jr.iconst rfl ?_
            refine jr.icmp_eq rfl rfl (by first | (refine rgb (by assumption) ?_; exact rfl) | omega) (rgl rfl) (fun h197 => ?_) (fun h197 => ?_)
            · refine jr.goto rfl rfl ?_
              have e19 : M5 598 72 = v8 := ((w5_6 72 (zne rfl) (zne rfl) (zne rfl) (zne rfl) (zne rfl) (zne rfl) (zne rfl)).trans ((ju_i _ _ (zne (by decide))).trans ((ju_i _ _ (zne (by decide))).trans e9)))
              obtain ⟨v21, e21⟩ : ∃ z, M5 598 73 = z := ⟨_, rfl⟩
              have b21 : 0 ≤ v21 ∧ v21 ≤ 1600 := by rw [← e21]; exact hI_M5 598 73 (Nat.le_of_ble_eq_true rfl)
              obtain ⟨v23, e23⟩ : ∃ z, M5 598 74 = z := ⟨_, rfl⟩
              have b23 : 0 ≤ v23 ∧ v23 ≤ 4 := by rw [← e23]; exact hI_M5 598 74 (Nat.le_of_ble_eq_true rfl)
              obtain ⟨v25, e25⟩ : ∃ z, M5 598 79 = z := ⟨_, rfl⟩
              have b25 : 0 ≤ v25 ∧ v25 ≤ 255 := by rw [← e25]; exact hI_M5 598 79 (Nat.le_of_ble_eq_true rfl)
              obtain ⟨v27, e27⟩ : ∃ z, M 598 80 = z := ⟨_, rfl⟩
              have b27 : 0 ≤ v27 ∧ v27 ≤ 7 := by rw [← e27]; exact hI_M 598 80 (Nat.le_of_ble_eq_true rfl)
              have e28 : M1 598 80 = v27 := ((w1_5 80 (zne rfl) (zne rfl) (zne rfl)).trans e27)
              have e29 : M5 598 80 = v27 := ((w5_6 80 (zne rfl) (zne rfl) (zne rfl) (zne rfl) (zne rfl) (zne rfl) (zne rfl)).trans ((ju_i _ _ (zne (by decide))).trans ((ju_i _ _ (zne (by decide))).trans e28)))
              have e31 : M5 598 89 = v11 := ((w5_6 89 (zne rfl) (zne rfl) (zne rfl) (zne rfl) (zne rfl) (zne rfl) (zne rfl)).trans ((ju_i _ _ (zne (by decide))).trans ((ju_i _ _ (zne (by decide))).trans e12)))
              obtain ⟨v33, e33⟩ : ∃ z, M1 598 90 = z := ⟨_, rfl⟩
              have b33 : 0 ≤ v33 ∧ v33 ≤ 2200 := by rw [← e33]; exact hI_M1 598 90 (Nat.le_of_ble_eq_true rfl)
              have e34 : M5 598 90 = v33 := ((w5_6 90 (zne rfl) (zne rfl) (zne rfl) (zne rfl) (zne rfl) (zne rfl) (zne rfl)).trans ((ju_i _ _ (zne (by decide))).trans ((ju_i _ _ (zne (by decide))).trans e33)))
              have e36 : M5 598 100 = v4 - 1 := ((w5_6 100 (zne rfl) (zne rfl) (zne rfl) (zne rfl) (zne rfl) (zne rfl) (zne rfl)).trans (ju_same _ _ _ _))
              obtain ⟨v38, e38⟩ : ∃ z, M 598 107 = z := ⟨_, rfl⟩
              have b38 : 0 ≤ v38 ∧ v38 ≤ 16 := by rw [← e38]; exact hI_M 598 107 (Nat.le_of_ble_eq_true rfl)
              have e39 : M1 598 107 = v38 := ((w1_5 107 (zne rfl) (zne rfl) (zne rfl)).trans e38)
              have e40 : M5 598 107 = v38 := ((w5_6 107 (zne rfl) (zne rfl) (zne rfl) (zne rfl) (zne rfl) (zne rfl) (zne rfl)).trans ((ju_i _ _ (zne (by decide))).trans ((ju_i _ _ (zne (by decide))).trans e39)))
              refine jr.pick (ls := [_, _, _]) [2, 3, 4] rfl rfl ?_
              exact ko M5 o m hI_M5 hH_M5 hS_M5  (fun a i f598 f659 f660 f664 f665 f666 f667 => ((w5_5 a i f598).trans ((ju_c _ _ f598).trans ((ju_c _ _ f598).trans ((w1_4 a i f598 f659 f660).trans (hF_M a i f598 f659 f660 f664 f665 f666 f667)))))) (fun i g73 g74 g75 g76 g77 g78 g79 g80 g81 g89 g90 g100 g102 => ((w5_6 i g73 g74 g75 g76 g77 g78 g79).trans ((ju_i _ _ g100).trans ((ju_i _ _ g102).trans ((w1_5 i g90 g100 g102).trans (hG_M i g73 g74 g75 g76 g77 g78 g79 g80 g81 g89 g90 g100 g102)))))) (by omega) (by omega) (by by_cases hf : v27 = 0; (first | (exact Or.inr (GS.cast (o := kcO v2) ⟨by omega, ES.adj hE (k' := kk) (z' := 0) (by omega) (by omega) (by omega), by omega, by omega, by omega, by omega⟩ (by omega))) | (exfalso; omega)); (exact Or.inl ⟨by omega, by omega⟩)) (by omega) (by omega) (by rw [e21, e19] <;> omega) (by omega) (CP.f (CP.o (CP.o (CP.trans hCP w1_3) (by decide) (Or.inr (by decide))) (by decide) (Or.inr (by decide))) (fun i => w5_5 659 i (nne rfl)) (w5_6 90 (zne rfl) (zne rfl) (zne rfl) (zne rfl) (zne rfl) (zne rfl) (zne rfl))) (by rw [e31] <;> omega) (by omega)
            · exact absurd (by omega) h197
          · refine jr.if_eq rfl rfl (by first | exact rgl rfl | omega) (fun _ => ?_) (fun h => absurd (by decide) h)
            refine jr.aload_n rfl rfl ?_
            refine jr_v rfl rfl (Or.inl rfl) rfl rfl (nlt rfl) rfl ⟨rfl, Nat.le_of_ble_eq_true rfl, Nat.le_of_ble_eq_true rfl⟩ rfl (jc.deep (r_wrongToken hI_M1 hH_M1 hS_M1    (fun M44 hI_M44 hH_M44 hS_M44  w44_0 w44_1 w44_2 => ?_)) (Nat.le_of_ble_eq_true rfl))
            have tk44 : TK M44 = TK M1 := TK.fr (w44_2 73 (zne rfl) (zne rfl)) (w44_2 74 (zne rfl) (zne rfl))
            refine jr.goto rfl rfl ?_
            obtain ⟨v45, e45⟩ : ∃ z, M 598 72 = z := ⟨_, rfl⟩
            have b45 : 0 ≤ v45 ∧ v45 ≤ 1600 := by rw [← e45]; exact hI_M 598 72 (Nat.le_of_ble_eq_true rfl)
            have e46 : M1 598 72 = v45 := ((w1_5 72 (zne rfl) (zne rfl) (zne rfl)).trans e45)
            have e47 : M44 598 72 = v45 := ((w44_2 72 (zne rfl) (zne rfl)).trans e46)
            obtain ⟨v49, e49⟩ : ∃ z, M 598 73 = z := ⟨_, rfl⟩
            have b49 : 0 ≤ v49 ∧ v49 ≤ 1600 := by rw [← e49]; exact hI_M 598 73 (Nat.le_of_ble_eq_true rfl)
            have e50 : M1 598 73 = v49 := ((w1_5 73 (zne rfl) (zne rfl) (zne rfl)).trans e49)
            have e51 : M44 598 73 = v49 := ((w44_2 73 (zne rfl) (zne rfl)).trans e50)
            obtain ⟨v53, e53⟩ : ∃ z, M 598 74 = z := ⟨_, rfl⟩
            have b53 : 0 ≤ v53 ∧ v53 ≤ 4 := by rw [← e53]; exact hI_M 598 74 (Nat.le_of_ble_eq_true rfl)
            have e54 : M1 598 74 = v53 := ((w1_5 74 (zne rfl) (zne rfl) (zne rfl)).trans e53)
            have e55 : M44 598 74 = v53 := ((w44_2 74 (zne rfl) (zne rfl)).trans e54)
            obtain ⟨v57, e57⟩ : ∃ z, M 598 79 = z := ⟨_, rfl⟩
            have b57 : 0 ≤ v57 ∧ v57 ≤ 255 := by rw [← e57]; exact hI_M 598 79 (Nat.le_of_ble_eq_true rfl)
            have e58 : M1 598 79 = v57 := ((w1_5 79 (zne rfl) (zne rfl) (zne rfl)).trans e57)
            have e59 : M44 598 79 = v57 := ((w44_2 79 (zne rfl) (zne rfl)).trans e58)
            obtain ⟨v61, e61⟩ : ∃ z, M44 598 80 = z := ⟨_, rfl⟩
            have b61 : 0 ≤ v61 ∧ v61 ≤ 7 := by rw [← e61]; exact hI_M44 598 80 (Nat.le_of_ble_eq_true rfl)
            obtain ⟨v63, e63⟩ : ∃ z, M 598 89 = z := ⟨_, rfl⟩
            have b63 : 0 ≤ v63 ∧ v63 ≤ 301 := by rw [← e63]; exact hI_M 598 89 (Nat.le_of_ble_eq_true rfl)
            have e64 : M1 598 89 = v63 := ((w1_5 89 (zne rfl) (zne rfl) (zne rfl)).trans e63)
            have e65 : M44 598 89 = v63 := ((w44_2 89 (zne rfl) (zne rfl)).trans e64)
            obtain ⟨v67, e67⟩ : ∃ z, M1 598 90 = z := ⟨_, rfl⟩
            have b67 : 0 ≤ v67 ∧ v67 ≤ 2200 := by rw [← e67]; exact hI_M1 598 90 (Nat.le_of_ble_eq_true rfl)
            have e68 : M44 598 90 = v67 := ((w44_2 90 (zne rfl) (zne rfl)).trans e67)
            obtain ⟨v70, e70⟩ : ∃ z, M1 598 100 = z := ⟨_, rfl⟩
            have b70 : 0 ≤ v70 ∧ v70 ≤ 13 := by rw [← e70]; exact hI_M1 598 100 (Nat.le_of_ble_eq_true rfl)
            have e71 : M44 598 100 = v70 := ((w44_2 100 (zne rfl) (zne rfl)).trans e70)
            obtain ⟨v73, e73⟩ : ∃ z, M 598 107 = z := ⟨_, rfl⟩
            have b73 : 0 ≤ v73 ∧ v73 ≤ 16 := by rw [← e73]; exact hI_M 598 107 (Nat.le_of_ble_eq_true rfl)
            have e74 : M1 598 107 = v73 := ((w1_5 107 (zne rfl) (zne rfl) (zne rfl)).trans e73)
            have e75 : M44 598 107 = v73 := ((w44_2 107 (zne rfl) (zne rfl)).trans e74)
            refine jr.pick (ls := [_, _, _]) [2, 3, 4] rfl rfl ?_
            exact ko M44 o m hI_M44 hH_M44 hS_M44  (fun a i f598 f659 f660 f664 f665 f666 f667 => ((w44_1 a i f598).trans ((w1_4 a i f598 f659 f660).trans (hF_M a i f598 f659 f660 f664 f665 f666 f667)))) (fun i g73 g74 g75 g76 g77 g78 g79 g80 g81 g89 g90 g100 g102 => ((w44_2 i g80 g81).trans ((w1_5 i g90 g100 g102).trans (hG_M i g73 g74 g75 g76 g77 g78 g79 g80 g81 g89 g90 g100 g102)))) (by omega) (by omega) (by by_cases hf : v61 = 0; (first | (exfalso; omega) | (exact Or.inr (GS.cast (o := 0) ⟨by omega, ES.adj hE (k' := kk) (z' := 0) (by omega) (by omega) (by omega), by omega, by omega, by omega, by omega⟩ (by omega)))); (exact Or.inl ⟨by omega, by omega⟩)) (by omega) (by omega) (by rw [e51, e47] <;> omega) (by omega) (CP.f (CP.trans hCP w1_3) (fun i => w44_1 659 i (nne rfl)) (w44_2 90 (zne rfl) (zne rfl))) (by rw [e65] <;> omega) (by omega)
        · have tq := ES.top40 gs2 (by omega) (by rw [hsg]; omega)
          rw [hsg, e3] at tq
          have dp1 := ES.dpos gs2 (by omega)
          rw [hsg] at dp1
          have dp2 := dp1 (Or.inl tq.1)
          refine jr.if_eq rfl rfl (by first | exact rgl rfl | omega) (fun _ => ?_) (fun h => absurd (by decide) h)
          refine jr.aload_n rfl rfl ?_
          refine jr.bipush rfl (jbp _ (nlt rfl)) ?_
          refine jr_v rfl rfl (Or.inl rfl) rfl rfl (nlt rfl) rfl ⟨rfl, Nat.le_of_ble_eq_true rfl, Nat.le_of_ble_eq_true rfl⟩ rfl (jc.deep (c_isSign hI_M1 (by omega) (fun t160_0 t160_1 => ?_) (fun f160_0 => ?_)) (Nat.le_of_ble_eq_true rfl))
          · refine jr.if_eq rfl rfl (by first | exact rgl rfl | omega) (fun h => absurd h (by decide)) (fun _ => ?_)
            refine jr.iload rfl rfl ?_
            refine jr.if_eq rfl rfl (by first | exact rgl rfl | omega) (fun h => absurd h (by decide)) (fun _ => ?_)
            refine jr.aload_n rfl rfl ?_
            refine jr.dup rfl rfl ?_
            refine jr.getf (i := 102) (x := sg) (v := .int (Int32.ofInt (sg))) rfl rfl (nlt rfl) rfl (nlt rfl) rfl rfl hsg rfl ?_
            refine jr.iconst rfl ?_
            refine jr.isub rfl ?_
            refine jr.putf (i := 102) (x := (sg - 1)) rfl rfl (nlt rfl) rfl (nlt rfl) rfl rfl rfl rfl rfl ?_
            refine jr.aload_n rfl rfl ?_
            refine jr.dup rfl rfl ?_
            obtain ⟨v79, e79⟩ : ∃ z, M1 598 100 = z := ⟨_, rfl⟩
            have b79 : 0 ≤ v79 ∧ v79 ≤ 13 := by rw [← e79]; exact hI_M1 598 100 (Nat.le_of_ble_eq_true rfl)
            refine jr.getf (i := 100) (x := v79) (v := .int (Int32.ofInt (v79))) rfl rfl (nlt rfl) rfl (nlt rfl) rfl rfl ((ju_i _ _ (zne (by decide))).trans e79) rfl ?_
            refine jr.iconst rfl ?_
            refine jr.isub rfl ?_
            refine jr.putf (i := 100) (x := (v79 - 1)) rfl rfl (nlt rfl) rfl (nlt rfl) rfl rfl rfl rfl rfl ?_
            refine jr.aload_n rfl rfl ?_
            obtain ⟨v81, e81⟩ : ∃ z, M 598 73 = z := ⟨_, rfl⟩
            have b81 : 0 ≤ v81 ∧ v81 ≤ 1600 := by rw [← e81]; exact hI_M 598 73 (Nat.le_of_ble_eq_true rfl)
            have e82 : M1 598 73 = v81 := ((w1_5 73 (zne rfl) (zne rfl) (zne rfl)).trans e81)
            obtain ⟨v83, e83⟩ : ∃ z, M 598 72 = z := ⟨_, rfl⟩
            have b83 : 0 ≤ v83 ∧ v83 ≤ 1600 := by rw [← e83]; exact hI_M 598 72 (Nat.le_of_ble_eq_true rfl)
            have e84 : M1 598 72 = v83 := ((w1_5 72 (zne rfl) (zne rfl) (zne rfl)).trans e83)
            obtain ⟨v86, e86⟩ : ∃ z, M 598 89 = z := ⟨_, rfl⟩
            have b86 : 0 ≤ v86 ∧ v86 ≤ 301 := by rw [← e86]; exact hI_M 598 89 (Nat.le_of_ble_eq_true rfl)
            have e87 : M1 598 89 = v86 := ((w1_5 89 (zne rfl) (zne rfl) (zne rfl)).trans e86)
            obtain ⟨v91, e91⟩ : ∃ z, M 598 74 = z := ⟨_, rfl⟩
            have b91 : 0 ≤ v91 ∧ v91 ≤ 4 := by rw [← e91]; exact hI_M 598 74 (Nat.le_of_ble_eq_true rfl)
            have e92 : M1 598 74 = v91 := ((w1_5 74 (zne rfl) (zne rfl) (zne rfl)).trans e91)
            refine jr_v rfl rfl (Or.inl rfl) rfl rfl (nlt rfl) rfl ⟨rfl, Nat.le_of_ble_eq_true rfl, Nat.le_of_ble_eq_true rfl⟩ rfl (jc.deep (r_next (RI.u (RI.u hI_M1 (a := 598) (i := 102) (show (0 : Int) ≤ _ ∧ _ ≤ (400 : Int) from by omega)) (a := 598) (i := 100) (show (0 : Int) ≤ _ ∧ _ ≤ (13 : Int) from by omega)) (RH.o (RH.o hH_M1 (by decide) (by decide) (by decide)) (by decide) (by decide) (by decide)) (RF.o (RF.o hS_M1 (by decide) (by decide)) (by decide) (by decide))   (by rw [((ju_i _ _ (zne (by decide))).trans ((ju_i _ _ (zne (by decide))).trans e82)), ((ju_i _ _ (zne (by decide))).trans ((ju_i _ _ (zne (by decide))).trans e84))]; omega) (fun M80 hI_M80 hH_M80 hS_M80  w80_0 w80_1 w80_2 w80_3 w80_4 w80_5 w80_6 => ?_)) (Nat.le_of_ble_eq_true rfl))
            have y90 : (ju (ju M1 598 102 (sg - 1)) 598 100 (v79 - 1)) 598 73 = v81 := ((ju_i _ _ (zne (by decide))).trans ((ju_i _ _ (zne (by decide))).trans e82))
            have y93 : (ju (ju M1 598 102 (sg - 1)) 598 100 (v79 - 1)) 598 74 = v91 := ((ju_i _ _ (zne (by decide))).trans ((ju_i _ _ (zne (by decide))).trans e92))
            have tb80 : TK (ju (ju M1 598 102 (sg - 1)) 598 100 (v79 - 1)) = TK M1 := ((TK.o (Or.inr ⟨by decide, by decide⟩)).trans ((TK.o (Or.inr ⟨by decide, by decide⟩)).trans rfl))
            have hE := ES.clo1 gs2 hsg e79 tq.1 e3 (by omega) (by omega)
            have ck : 0 ≤ kcK v2 := by unfold kcK; split <;> omega
            have y85 : (ju (ju M1 598 102 (sg - 1)) 598 100 (v79 - 1)) 598 73 = v81 := ((ju_i _ _ (zne (by decide))).trans ((ju_i _ _ (zne (by decide))).trans e82))
            have y88 : (ju (ju M1 598 102 (sg - 1)) 598 100 (v79 - 1)) 598 89 = v86 := ((ju_i _ _ (zne (by decide))).trans ((ju_i _ _ (zne (by decide))).trans e87))
            have y89 : (ju (ju M1 598 102 (sg - 1)) 598 100 (v79 - 1)) 598 100 = v79 - 1 := (ju_same _ _ _ _)
            have x80_89 := w80_6 89 (zne rfl) (zne rfl) (zne rfl) (zne rfl) (zne rfl) (zne rfl) (zne rfl)
            have x80_100 := w80_6 100 (zne rfl) (zne rfl) (zne rfl) (zne rfl) (zne rfl) (zne rfl) (zne rfl)
            have hE := ES.fr2 hE w80_5 (w80_6 88 (zne rfl) (zne rfl) (zne rfl) (zne rfl) (zne rfl) (zne rfl) (zne rfl)) (w80_6 90 (zne rfl) (zne rfl) (zne rfl) (zne rfl) (zne rfl) (zne rfl) (zne rfl)) (w80_6 101 (zne rfl) (zne rfl) (zne rfl) (zne rfl) (zne rfl) (zne rfl) (zne rfl)) (w80_6 102 (zne rfl) (zne rfl) (zne rfl) (zne rfl) (zne rfl) (zne rfl) (zne rfl)) (w80_6 107 (zne rfl) (zne rfl) (zne rfl) (zne rfl) (zne rfl) (zne rfl) (zne rfl)) (k' := kk + kcK v2) (d' := 0) (z' := 0) (by omega) (by omega) (by omega) (by omega)
            have co1 : v2 = -1 → kcO v2 = 1 := fun z => by unfold kcO; rw [if_pos z]
            refine jr.iload_n rfl rfl ?_
            refine jr.iconst rfl ?_
            refine jr.icmp_eq rfl rfl (by first | (refine rgb (by assumption) ?_; exact rfl) | omega) (rgl rfl) (fun h197 => ?_) (fun h197 => ?_)
            · refine jr.goto rfl rfl ?_
              have e94 : M80 598 72 = v83 := ((w80_6 72 (zne rfl) (zne rfl) (zne rfl) (zne rfl) (zne rfl) (zne rfl) (zne rfl)).trans ((ju_i _ _ (zne (by decide))).trans ((ju_i _ _ (zne (by decide))).trans e84)))
              obtain ⟨v96, e96⟩ : ∃ z, M80 598 73 = z := ⟨_, rfl⟩
              have b96 : 0 ≤ v96 ∧ v96 ≤ 1600 := by rw [← e96]; exact hI_M80 598 73 (Nat.le_of_ble_eq_true rfl)
              obtain ⟨v98, e98⟩ : ∃ z, M80 598 74 = z := ⟨_, rfl⟩
              have b98 : 0 ≤ v98 ∧ v98 ≤ 4 := by rw [← e98]; exact hI_M80 598 74 (Nat.le_of_ble_eq_true rfl)
              obtain ⟨v100, e100⟩ : ∃ z, M80 598 79 = z := ⟨_, rfl⟩
              have b100 : 0 ≤ v100 ∧ v100 ≤ 255 := by rw [← e100]; exact hI_M80 598 79 (Nat.le_of_ble_eq_true rfl)
              obtain ⟨v102, e102⟩ : ∃ z, M 598 80 = z := ⟨_, rfl⟩
              have b102 : 0 ≤ v102 ∧ v102 ≤ 7 := by rw [← e102]; exact hI_M 598 80 (Nat.le_of_ble_eq_true rfl)
              have e103 : M1 598 80 = v102 := ((w1_5 80 (zne rfl) (zne rfl) (zne rfl)).trans e102)
              have e104 : M80 598 80 = v102 := ((w80_6 80 (zne rfl) (zne rfl) (zne rfl) (zne rfl) (zne rfl) (zne rfl) (zne rfl)).trans ((ju_i _ _ (zne (by decide))).trans ((ju_i _ _ (zne (by decide))).trans e103)))
              have e106 : M80 598 89 = v86 := ((w80_6 89 (zne rfl) (zne rfl) (zne rfl) (zne rfl) (zne rfl) (zne rfl) (zne rfl)).trans ((ju_i _ _ (zne (by decide))).trans ((ju_i _ _ (zne (by decide))).trans e87)))
              obtain ⟨v108, e108⟩ : ∃ z, M1 598 90 = z := ⟨_, rfl⟩
              have b108 : 0 ≤ v108 ∧ v108 ≤ 2200 := by rw [← e108]; exact hI_M1 598 90 (Nat.le_of_ble_eq_true rfl)
              have e109 : M80 598 90 = v108 := ((w80_6 90 (zne rfl) (zne rfl) (zne rfl) (zne rfl) (zne rfl) (zne rfl) (zne rfl)).trans ((ju_i _ _ (zne (by decide))).trans ((ju_i _ _ (zne (by decide))).trans e108)))
              have e111 : M80 598 100 = v79 - 1 := ((w80_6 100 (zne rfl) (zne rfl) (zne rfl) (zne rfl) (zne rfl) (zne rfl) (zne rfl)).trans (ju_same _ _ _ _))
              obtain ⟨v113, e113⟩ : ∃ z, M 598 107 = z := ⟨_, rfl⟩
              have b113 : 0 ≤ v113 ∧ v113 ≤ 16 := by rw [← e113]; exact hI_M 598 107 (Nat.le_of_ble_eq_true rfl)
              have e114 : M1 598 107 = v113 := ((w1_5 107 (zne rfl) (zne rfl) (zne rfl)).trans e113)
              have e115 : M80 598 107 = v113 := ((w80_6 107 (zne rfl) (zne rfl) (zne rfl) (zne rfl) (zne rfl) (zne rfl) (zne rfl)).trans ((ju_i _ _ (zne (by decide))).trans ((ju_i _ _ (zne (by decide))).trans e114)))
              refine jr.pick (ls := [_, _, _]) [2, 3, 4] rfl rfl ?_
              exact ko M80 o m hI_M80 hH_M80 hS_M80  (fun a i f598 f659 f660 f664 f665 f666 f667 => ((w80_5 a i f598).trans ((ju_c _ _ f598).trans ((ju_c _ _ f598).trans ((w1_4 a i f598 f659 f660).trans (hF_M a i f598 f659 f660 f664 f665 f666 f667)))))) (fun i g73 g74 g75 g76 g77 g78 g79 g80 g81 g89 g90 g100 g102 => ((w80_6 i g73 g74 g75 g76 g77 g78 g79).trans ((ju_i _ _ g100).trans ((ju_i _ _ g102).trans ((w1_5 i g90 g100 g102).trans (hG_M i g73 g74 g75 g76 g77 g78 g79 g80 g81 g89 g90 g100 g102)))))) (by omega) (by omega) (by by_cases hf : v102 = 0; (first | (exact Or.inr (GS.cast (o := kcO v2) ⟨by omega, ES.adj hE (k' := kk) (z' := 0) (by omega) (by omega) (by omega), by omega, by omega, by omega, by omega⟩ (by omega))) | (exfalso; omega)); (exact Or.inl ⟨by omega, by omega⟩)) (by omega) (by omega) (by rw [e96, e94] <;> omega) (by omega) (CP.f (CP.o (CP.o (CP.trans hCP w1_3) (by decide) (Or.inr (by decide))) (by decide) (Or.inr (by decide))) (fun i => w80_5 659 i (nne rfl)) (w80_6 90 (zne rfl) (zne rfl) (zne rfl) (zne rfl) (zne rfl) (zne rfl) (zne rfl))) (by rw [e106] <;> omega) (by omega)
            · exact absurd (by omega) h197
          · refine jr.if_eq rfl rfl (by first | exact rgl rfl | omega) (fun _ => ?_) (fun h => absurd (by decide) h)
            refine jr.aload_n rfl rfl ?_
            refine jr_v rfl rfl (Or.inl rfl) rfl rfl (nlt rfl) rfl ⟨rfl, Nat.le_of_ble_eq_true rfl, Nat.le_of_ble_eq_true rfl⟩ rfl (jc.deep (r_wrongToken hI_M1 hH_M1 hS_M1    (fun M119 hI_M119 hH_M119 hS_M119  w119_0 w119_1 w119_2 => ?_)) (Nat.le_of_ble_eq_true rfl))
            have tk119 : TK M119 = TK M1 := TK.fr (w119_2 73 (zne rfl) (zne rfl)) (w119_2 74 (zne rfl) (zne rfl))
            refine jr.goto rfl rfl ?_
            obtain ⟨v120, e120⟩ : ∃ z, M 598 72 = z := ⟨_, rfl⟩
            have b120 : 0 ≤ v120 ∧ v120 ≤ 1600 := by rw [← e120]; exact hI_M 598 72 (Nat.le_of_ble_eq_true rfl)
            have e121 : M1 598 72 = v120 := ((w1_5 72 (zne rfl) (zne rfl) (zne rfl)).trans e120)
            have e122 : M119 598 72 = v120 := ((w119_2 72 (zne rfl) (zne rfl)).trans e121)
            obtain ⟨v124, e124⟩ : ∃ z, M 598 73 = z := ⟨_, rfl⟩
            have b124 : 0 ≤ v124 ∧ v124 ≤ 1600 := by rw [← e124]; exact hI_M 598 73 (Nat.le_of_ble_eq_true rfl)
            have e125 : M1 598 73 = v124 := ((w1_5 73 (zne rfl) (zne rfl) (zne rfl)).trans e124)
            have e126 : M119 598 73 = v124 := ((w119_2 73 (zne rfl) (zne rfl)).trans e125)
            obtain ⟨v128, e128⟩ : ∃ z, M 598 74 = z := ⟨_, rfl⟩
            have b128 : 0 ≤ v128 ∧ v128 ≤ 4 := by rw [← e128]; exact hI_M 598 74 (Nat.le_of_ble_eq_true rfl)
            have e129 : M1 598 74 = v128 := ((w1_5 74 (zne rfl) (zne rfl) (zne rfl)).trans e128)
            have e130 : M119 598 74 = v128 := ((w119_2 74 (zne rfl) (zne rfl)).trans e129)
            obtain ⟨v132, e132⟩ : ∃ z, M 598 79 = z := ⟨_, rfl⟩
            have b132 : 0 ≤ v132 ∧ v132 ≤ 255 := by rw [← e132]; exact hI_M 598 79 (Nat.le_of_ble_eq_true rfl)
            have e133 : M1 598 79 = v132 := ((w1_5 79 (zne rfl) (zne rfl) (zne rfl)).trans e132)
            have e134 : M119 598 79 = v132 := ((w119_2 79 (zne rfl) (zne rfl)).trans e133)
            obtain ⟨v136, e136⟩ : ∃ z, M119 598 80 = z := ⟨_, rfl⟩
            have b136 : 0 ≤ v136 ∧ v136 ≤ 7 := by rw [← e136]; exact hI_M119 598 80 (Nat.le_of_ble_eq_true rfl)
            obtain ⟨v138, e138⟩ : ∃ z, M 598 89 = z := ⟨_, rfl⟩
            have b138 : 0 ≤ v138 ∧ v138 ≤ 301 := by rw [← e138]; exact hI_M 598 89 (Nat.le_of_ble_eq_true rfl)
            have e139 : M1 598 89 = v138 := ((w1_5 89 (zne rfl) (zne rfl) (zne rfl)).trans e138)
            have e140 : M119 598 89 = v138 := ((w119_2 89 (zne rfl) (zne rfl)).trans e139)
            obtain ⟨v142, e142⟩ : ∃ z, M1 598 90 = z := ⟨_, rfl⟩
            have b142 : 0 ≤ v142 ∧ v142 ≤ 2200 := by rw [← e142]; exact hI_M1 598 90 (Nat.le_of_ble_eq_true rfl)
            have e143 : M119 598 90 = v142 := ((w119_2 90 (zne rfl) (zne rfl)).trans e142)
            obtain ⟨v145, e145⟩ : ∃ z, M1 598 100 = z := ⟨_, rfl⟩
            have b145 : 0 ≤ v145 ∧ v145 ≤ 13 := by rw [← e145]; exact hI_M1 598 100 (Nat.le_of_ble_eq_true rfl)
            have e146 : M119 598 100 = v145 := ((w119_2 100 (zne rfl) (zne rfl)).trans e145)
            obtain ⟨v148, e148⟩ : ∃ z, M 598 107 = z := ⟨_, rfl⟩
            have b148 : 0 ≤ v148 ∧ v148 ≤ 16 := by rw [← e148]; exact hI_M 598 107 (Nat.le_of_ble_eq_true rfl)
            have e149 : M1 598 107 = v148 := ((w1_5 107 (zne rfl) (zne rfl) (zne rfl)).trans e148)
            have e150 : M119 598 107 = v148 := ((w119_2 107 (zne rfl) (zne rfl)).trans e149)
            refine jr.pick (ls := [_, _, _]) [2, 3, 4] rfl rfl ?_
            exact ko M119 o m hI_M119 hH_M119 hS_M119  (fun a i f598 f659 f660 f664 f665 f666 f667 => ((w119_1 a i f598).trans ((w1_4 a i f598 f659 f660).trans (hF_M a i f598 f659 f660 f664 f665 f666 f667)))) (fun i g73 g74 g75 g76 g77 g78 g79 g80 g81 g89 g90 g100 g102 => ((w119_2 i g80 g81).trans ((w1_5 i g90 g100 g102).trans (hG_M i g73 g74 g75 g76 g77 g78 g79 g80 g81 g89 g90 g100 g102)))) (by omega) (by omega) (by by_cases hf : v136 = 0; (first | (exfalso; omega) | (exact Or.inr (GS.cast (o := 0) ⟨by omega, ES.adj hE (k' := kk) (z' := 0) (by omega) (by omega) (by omega), by omega, by omega, by omega, by omega⟩ (by omega)))); (exact Or.inl ⟨by omega, by omega⟩)) (by omega) (by omega) (by rw [e126, e122] <;> omega) (by omega) (CP.f (CP.trans hCP w1_3) (fun i => w119_1 659 i (nne rfl)) (w119_2 90 (zne rfl) (zne rfl))) (by rw [e140] <;> omega) (by omega)
      · have sx91 : (0 : Int) ≤ v2 := by omega
        clear h91
        refine jr.aload_n rfl rfl ?_
        refine jr.getf (i := 106) (v := .ref 667) rfl rfl (nlt rfl) rfl (nlt rfl) rfl rfl rfl rfl ?_
        refine jr.aload_n rfl rfl ?_
        refine jr.getf (i := 102) (x := sg) (v := .int (Int32.ofInt (sg))) rfl rfl (nlt rfl) rfl (nlt rfl) rfl rfl hsg rfl ?_
        refine jr.iconst rfl ?_
        refine jr.isub rfl ?_
        obtain ⟨v154, e154⟩ : ∃ z, M 667 (sg - 1) = z := ⟨_, rfl⟩
        have b154 : 0 ≤ v154 ∧ v154 ≤ 4 := by rw [← e154]; exact (by have q := hI_M 667 (sg - 1) (Nat.le_of_ble_eq_true rfl); rw [xri_row rfl rfl] at q; exact q)
        have e155 : M1 667 (sg - 1) = v154 := ((w1_4 667 (sg - 1) (nne rfl) (nne rfl) (nne rfl)).trans e154)
        refine jr.iald (i := (sg - 1)) (x := v154) rfl (nlt rfl) rfl (Nat.le_of_ble_eq_true rfl) (by omega) (by omega) e155 ?_
        refine jr.iload_n rfl rfl ?_
        refine jr_s rfl rfl (Or.inl rfl) ⟨Nat.le_of_ble_eq_true rfl, Nat.le_of_ble_eq_true rfl⟩ rfl rfl (jc.deep (r_argsOf hI_M1 hH_M1 hS_M1 (Kp.rfl _) (by omega)  (fun r156 z156 w156_0 => ?_)) (Nat.le_of_ble_eq_true rfl))
        refine jr.icmp_ne rfl rfl (by first | (refine rgb (by assumption) ?_; exact rfl) | omega) (by first | (refine rgb (by assumption) ?_; exact rfl) | omega) (fun h109 => ?_) (fun h109 => ?_)
        · refine jr.iconst rfl ?_
          refine jr.istore (ls' := [_, _, _, _, _]) rfl (nlt rfl) rfl ?_
          refine jr.aload_n rfl rfl ?_
          refine jr.bipush rfl (jbp _ (nlt rfl)) ?_
          refine jr_v rfl rfl (Or.inl rfl) rfl rfl (nlt rfl) rfl ⟨rfl, Nat.le_of_ble_eq_true rfl, Nat.le_of_ble_eq_true rfl⟩ rfl (jc.deep (c_isSign hI_M1 (by omega) (fun t122_0 t122_1 => ?_) (fun f122_0 => ?_)) (Nat.le_of_ble_eq_true rfl))
          · have tq := ES.top40 gs2 (by omega) (by rw [hsg]; omega)
            rw [hsg, e3] at tq
            have dp1 := ES.dpos gs2 (by omega)
            rw [hsg] at dp1
            have dp2 := dp1 (Or.inl tq.1)
            refine jr.if_eq rfl rfl (by first | exact rgl rfl | omega) (fun h => absurd h (by decide)) (fun _ => ?_)
            refine jr.iload rfl rfl ?_
            refine jr.if_ne rfl rfl (by first | exact rgl rfl | omega) (fun h => absurd h (by decide)) (fun _ => ?_)
            refine jr.aload_n rfl rfl ?_
            refine jr.getf (i := 106) (v := .ref 667) rfl rfl (nlt rfl) rfl (nlt rfl) rfl rfl rfl rfl ?_
            refine jr.aload_n rfl rfl ?_
            refine jr.getf (i := 102) (x := sg) (v := .int (Int32.ofInt (sg))) rfl rfl (nlt rfl) rfl (nlt rfl) rfl rfl hsg rfl ?_
            refine jr.iconst rfl ?_
            refine jr.isub rfl ?_
            refine jr.dup2 rfl ⟨rfl, rfl⟩ ?_
            refine jr.iald (i := (sg - 1)) (x := v154) rfl (nlt rfl) rfl (Nat.le_of_ble_eq_true rfl) (by omega) (by omega) e155 ?_
            refine jr.iconst rfl ?_
            refine jr.iadd rfl ?_
            refine jr.iast (i := (sg - 1)) (x := (v154 + 1)) rfl (nlt rfl) rfl (Nat.le_of_ble_eq_true rfl) (by omega) (by omega) ?_
            refine jr.aload_n rfl rfl ?_
            obtain ⟨v158, e158⟩ : ∃ z, M 598 73 = z := ⟨_, rfl⟩
            have b158 : 0 ≤ v158 ∧ v158 ≤ 1600 := by rw [← e158]; exact hI_M 598 73 (Nat.le_of_ble_eq_true rfl)
            have e159 : M1 598 73 = v158 := ((w1_5 73 (zne rfl) (zne rfl) (zne rfl)).trans e158)
            obtain ⟨v160, e160⟩ : ∃ z, M 598 72 = z := ⟨_, rfl⟩
            have b160 : 0 ≤ v160 ∧ v160 ≤ 1600 := by rw [← e160]; exact hI_M 598 72 (Nat.le_of_ble_eq_true rfl)
            have e161 : M1 598 72 = v160 := ((w1_5 72 (zne rfl) (zne rfl) (zne rfl)).trans e160)
            obtain ⟨v163, e163⟩ : ∃ z, M 598 89 = z := ⟨_, rfl⟩
            have b163 : 0 ≤ v163 ∧ v163 ≤ 301 := by rw [← e163]; exact hI_M 598 89 (Nat.le_of_ble_eq_true rfl)
            have e164 : M1 598 89 = v163 := ((w1_5 89 (zne rfl) (zne rfl) (zne rfl)).trans e163)
            obtain ⟨v166, e166⟩ : ∃ z, M1 598 100 = z := ⟨_, rfl⟩
            have b166 : 0 ≤ v166 ∧ v166 ≤ 13 := by rw [← e166]; exact hI_M1 598 100 (Nat.le_of_ble_eq_true rfl)
            obtain ⟨v169, e169⟩ : ∃ z, M 598 74 = z := ⟨_, rfl⟩
            have b169 : 0 ≤ v169 ∧ v169 ≤ 4 := by rw [← e169]; exact hI_M 598 74 (Nat.le_of_ble_eq_true rfl)
            have e170 : M1 598 74 = v169 := ((w1_5 74 (zne rfl) (zne rfl) (zne rfl)).trans e169)
            refine jr_v rfl rfl (Or.inl rfl) rfl rfl (nlt rfl) rfl ⟨rfl, Nat.le_of_ble_eq_true rfl, Nat.le_of_ble_eq_true rfl⟩ rfl (jc.deep (r_next (RI.u hI_M1 (a := 667) (i := (sg - 1)) (by rw [xri_row rfl rfl]; show (0 : Int) ≤ _ ∧ _ ≤ (4 : Int); omega)) (RH.o hH_M1 (by decide) (by decide) (by decide)) (RF.o hS_M1 (by decide) (by decide))   (by rw [((ju_c _ _ (by decide)).trans e159), ((ju_c _ _ (by decide)).trans e161)]; omega) (fun M157 hI_M157 hH_M157 hS_M157  w157_0 w157_1 w157_2 w157_3 w157_4 w157_5 w157_6 => ?_)) (Nat.le_of_ble_eq_true rfl))
            have y168 : (ju M1 667 (sg - 1) (v154 + 1)) 598 73 = v158 := ((ju_c _ _ (by decide)).trans e159)
            have y171 : (ju M1 667 (sg - 1) (v154 + 1)) 598 74 = v169 := ((ju_c _ _ (by decide)).trans e170)
            have tb157 : TK (ju M1 667 (sg - 1) (v154 + 1)) = TK M1 := ((TK.o (Or.inl (by decide))).trans rfl)
            have hE := ES.inc gs2 hsg e155 (by omega) tq.1 (by rw [e3]; omega) (by rw [e3]; omega)
            have y162 : (ju M1 667 (sg - 1) (v154 + 1)) 598 73 = v158 := ((ju_c _ _ (by decide)).trans e159)
            have y165 : (ju M1 667 (sg - 1) (v154 + 1)) 598 89 = v163 := ((ju_c _ _ (by decide)).trans e164)
            have y167 : (ju M1 667 (sg - 1) (v154 + 1)) 598 100 = v166 := ((ju_c _ _ (by decide)).trans e166)
            have x157_89 := w157_6 89 (zne rfl) (zne rfl) (zne rfl) (zne rfl) (zne rfl) (zne rfl) (zne rfl)
            have x157_100 := w157_6 100 (zne rfl) (zne rfl) (zne rfl) (zne rfl) (zne rfl) (zne rfl) (zne rfl)
            have hE := ES.fr2 hE w157_5 (w157_6 88 (zne rfl) (zne rfl) (zne rfl) (zne rfl) (zne rfl) (zne rfl) (zne rfl)) (w157_6 90 (zne rfl) (zne rfl) (zne rfl) (zne rfl) (zne rfl) (zne rfl) (zne rfl)) (w157_6 101 (zne rfl) (zne rfl) (zne rfl) (zne rfl) (zne rfl) (zne rfl) (zne rfl)) (w157_6 102 (zne rfl) (zne rfl) (zne rfl) (zne rfl) (zne rfl) (zne rfl) (zne rfl)) (w157_6 107 (zne rfl) (zne rfl) (zne rfl) (zne rfl) (zne rfl) (zne rfl) (zne rfl)) (k' := kk) (d' := 0) (z' := 0) (by omega) (by omega) (by omega) (by omega)
            refine jr.iconst rfl ?_
            refine jr.istore_n (ls' := [_, _, _, _, _]) rfl (nlt rfl) rfl ?_
            refine jr.goto rfl rfl ?_
            refine jr.goto rfl rfl ?_
            have e172 : M157 598 72 = v160 := ((w157_6 72 (zne rfl) (zne rfl) (zne rfl) (zne rfl) (zne rfl) (zne rfl) (zne rfl)).trans ((ju_c _ _ (by decide)).trans e161))
            obtain ⟨v174, e174⟩ : ∃ z, M157 598 73 = z := ⟨_, rfl⟩
            have b174 : 0 ≤ v174 ∧ v174 ≤ 1600 := by rw [← e174]; exact hI_M157 598 73 (Nat.le_of_ble_eq_true rfl)
            obtain ⟨v176, e176⟩ : ∃ z, M157 598 74 = z := ⟨_, rfl⟩
            have b176 : 0 ≤ v176 ∧ v176 ≤ 4 := by rw [← e176]; exact hI_M157 598 74 (Nat.le_of_ble_eq_true rfl)
            obtain ⟨v178, e178⟩ : ∃ z, M157 598 79 = z := ⟨_, rfl⟩
            have b178 : 0 ≤ v178 ∧ v178 ≤ 255 := by rw [← e178]; exact hI_M157 598 79 (Nat.le_of_ble_eq_true rfl)
            obtain ⟨v180, e180⟩ : ∃ z, M 598 80 = z := ⟨_, rfl⟩
            have b180 : 0 ≤ v180 ∧ v180 ≤ 7 := by rw [← e180]; exact hI_M 598 80 (Nat.le_of_ble_eq_true rfl)
            have e181 : M1 598 80 = v180 := ((w1_5 80 (zne rfl) (zne rfl) (zne rfl)).trans e180)
            have e182 : M157 598 80 = v180 := ((w157_6 80 (zne rfl) (zne rfl) (zne rfl) (zne rfl) (zne rfl) (zne rfl) (zne rfl)).trans ((ju_c _ _ (by decide)).trans e181))
            have e184 : M157 598 89 = v163 := ((w157_6 89 (zne rfl) (zne rfl) (zne rfl) (zne rfl) (zne rfl) (zne rfl) (zne rfl)).trans ((ju_c _ _ (by decide)).trans e164))
            obtain ⟨v186, e186⟩ : ∃ z, M1 598 90 = z := ⟨_, rfl⟩
            have b186 : 0 ≤ v186 ∧ v186 ≤ 2200 := by rw [← e186]; exact hI_M1 598 90 (Nat.le_of_ble_eq_true rfl)
            have e187 : M157 598 90 = v186 := ((w157_6 90 (zne rfl) (zne rfl) (zne rfl) (zne rfl) (zne rfl) (zne rfl) (zne rfl)).trans ((ju_c _ _ (by decide)).trans e186))
            have e189 : M157 598 100 = v166 := ((w157_6 100 (zne rfl) (zne rfl) (zne rfl) (zne rfl) (zne rfl) (zne rfl) (zne rfl)).trans ((ju_c _ _ (by decide)).trans e166))
            obtain ⟨v191, e191⟩ : ∃ z, M 598 107 = z := ⟨_, rfl⟩
            have b191 : 0 ≤ v191 ∧ v191 ≤ 16 := by rw [← e191]; exact hI_M 598 107 (Nat.le_of_ble_eq_true rfl)
            have e192 : M1 598 107 = v191 := ((w1_5 107 (zne rfl) (zne rfl) (zne rfl)).trans e191)
            have e193 : M157 598 107 = v191 := ((w157_6 107 (zne rfl) (zne rfl) (zne rfl) (zne rfl) (zne rfl) (zne rfl) (zne rfl)).trans ((ju_c _ _ (by decide)).trans e192))
            refine jr.pick (ls := [_, _, _]) [0, 3, 4] rfl rfl ?_
            exact ko M157 1 m hI_M157 hH_M157 hS_M157  (fun a i f598 f659 f660 f664 f665 f666 f667 => ((w157_5 a i f598).trans ((ju_c _ _ f667).trans ((w1_4 a i f598 f659 f660).trans (hF_M a i f598 f659 f660 f664 f665 f666 f667))))) (fun i g73 g74 g75 g76 g77 g78 g79 g80 g81 g89 g90 g100 g102 => ((w157_6 i g73 g74 g75 g76 g77 g78 g79).trans ((ju_c _ _ (by decide)).trans ((w1_5 i g90 g100 g102).trans (hG_M i g73 g74 g75 g76 g77 g78 g79 g80 g81 g89 g90 g100 g102))))) (by omega) (by omega) (by by_cases hf : v180 = 0; (first | (exact Or.inr (GS.cast (o := 0) ⟨by omega, ES.adj hE (k' := kk) (z' := 0) (by omega) (by omega) (by omega), by omega, by omega, by omega, by omega⟩ (by omega))) | (exfalso; omega)); (exact Or.inl ⟨by omega, by omega⟩)) (by omega) (by omega) (by rw [e174, e172] <;> omega) (by omega) (CP.f (CP.o (CP.trans hCP w1_3) (by decide) (Or.inl (by decide))) (fun i => w157_5 659 i (nne rfl)) (w157_6 90 (zne rfl) (zne rfl) (zne rfl) (zne rfl) (zne rfl) (zne rfl) (zne rfl))) (by rw [e184] <;> omega) (by omega)
          · have tq := ES.top40 gs2 (by omega) (by rw [hsg]; omega)
            rw [hsg, e3] at tq
            have dp1 := ES.dpos gs2 (by omega)
            rw [hsg] at dp1
            have dp2 := dp1 (Or.inl tq.1)
            refine jr.if_eq rfl rfl (by first | exact rgl rfl | omega) (fun _ => ?_) (fun h => absurd (by decide) h)
            refine jr.aload_n rfl rfl ?_
            refine jr.bipush rfl (jbp _ (nlt rfl)) ?_
            refine jr_v rfl rfl (Or.inl rfl) rfl rfl (nlt rfl) rfl ⟨rfl, Nat.le_of_ble_eq_true rfl, Nat.le_of_ble_eq_true rfl⟩ rfl (jc.deep (c_isSign hI_M1 (by omega) (fun t160_0 t160_1 => ?_) (fun f160_0 => ?_)) (Nat.le_of_ble_eq_true rfl))
            · refine jr.if_eq rfl rfl (by first | exact rgl rfl | omega) (fun h => absurd h (by decide)) (fun _ => ?_)
              refine jr.iload rfl rfl ?_
              refine jr.if_eq rfl rfl (by first | exact rgl rfl | omega) (fun _ => ?_) (fun h => absurd (by decide) h)
              refine jr.aload_n rfl rfl ?_
              refine jr_v rfl rfl (Or.inl rfl) rfl rfl (nlt rfl) rfl ⟨rfl, Nat.le_of_ble_eq_true rfl, Nat.le_of_ble_eq_true rfl⟩ rfl (jc.deep (r_wrongToken hI_M1 hH_M1 hS_M1    (fun M197 hI_M197 hH_M197 hS_M197  w197_0 w197_1 w197_2 => ?_)) (Nat.le_of_ble_eq_true rfl))
              have tk197 : TK M197 = TK M1 := TK.fr (w197_2 73 (zne rfl) (zne rfl)) (w197_2 74 (zne rfl) (zne rfl))
              refine jr.goto rfl rfl ?_
              obtain ⟨v198, e198⟩ : ∃ z, M 598 72 = z := ⟨_, rfl⟩
              have b198 : 0 ≤ v198 ∧ v198 ≤ 1600 := by rw [← e198]; exact hI_M 598 72 (Nat.le_of_ble_eq_true rfl)
              have e199 : M1 598 72 = v198 := ((w1_5 72 (zne rfl) (zne rfl) (zne rfl)).trans e198)
              have e200 : M197 598 72 = v198 := ((w197_2 72 (zne rfl) (zne rfl)).trans e199)
              obtain ⟨v202, e202⟩ : ∃ z, M 598 73 = z := ⟨_, rfl⟩
              have b202 : 0 ≤ v202 ∧ v202 ≤ 1600 := by rw [← e202]; exact hI_M 598 73 (Nat.le_of_ble_eq_true rfl)
              have e203 : M1 598 73 = v202 := ((w1_5 73 (zne rfl) (zne rfl) (zne rfl)).trans e202)
              have e204 : M197 598 73 = v202 := ((w197_2 73 (zne rfl) (zne rfl)).trans e203)
              obtain ⟨v206, e206⟩ : ∃ z, M 598 74 = z := ⟨_, rfl⟩
              have b206 : 0 ≤ v206 ∧ v206 ≤ 4 := by rw [← e206]; exact hI_M 598 74 (Nat.le_of_ble_eq_true rfl)
              have e207 : M1 598 74 = v206 := ((w1_5 74 (zne rfl) (zne rfl) (zne rfl)).trans e206)
              have e208 : M197 598 74 = v206 := ((w197_2 74 (zne rfl) (zne rfl)).trans e207)
              obtain ⟨v210, e210⟩ : ∃ z, M 598 79 = z := ⟨_, rfl⟩
              have b210 : 0 ≤ v210 ∧ v210 ≤ 255 := by rw [← e210]; exact hI_M 598 79 (Nat.le_of_ble_eq_true rfl)
              have e211 : M1 598 79 = v210 := ((w1_5 79 (zne rfl) (zne rfl) (zne rfl)).trans e210)
              have e212 : M197 598 79 = v210 := ((w197_2 79 (zne rfl) (zne rfl)).trans e211)
              obtain ⟨v214, e214⟩ : ∃ z, M197 598 80 = z := ⟨_, rfl⟩
              have b214 : 0 ≤ v214 ∧ v214 ≤ 7 := by rw [← e214]; exact hI_M197 598 80 (Nat.le_of_ble_eq_true rfl)
              obtain ⟨v216, e216⟩ : ∃ z, M 598 89 = z := ⟨_, rfl⟩
              have b216 : 0 ≤ v216 ∧ v216 ≤ 301 := by rw [← e216]; exact hI_M 598 89 (Nat.le_of_ble_eq_true rfl)
              have e217 : M1 598 89 = v216 := ((w1_5 89 (zne rfl) (zne rfl) (zne rfl)).trans e216)
              have e218 : M197 598 89 = v216 := ((w197_2 89 (zne rfl) (zne rfl)).trans e217)
              obtain ⟨v220, e220⟩ : ∃ z, M1 598 90 = z := ⟨_, rfl⟩
              have b220 : 0 ≤ v220 ∧ v220 ≤ 2200 := by rw [← e220]; exact hI_M1 598 90 (Nat.le_of_ble_eq_true rfl)
              have e221 : M197 598 90 = v220 := ((w197_2 90 (zne rfl) (zne rfl)).trans e220)
              obtain ⟨v223, e223⟩ : ∃ z, M1 598 100 = z := ⟨_, rfl⟩
              have b223 : 0 ≤ v223 ∧ v223 ≤ 13 := by rw [← e223]; exact hI_M1 598 100 (Nat.le_of_ble_eq_true rfl)
              have e224 : M197 598 100 = v223 := ((w197_2 100 (zne rfl) (zne rfl)).trans e223)
              obtain ⟨v226, e226⟩ : ∃ z, M 598 107 = z := ⟨_, rfl⟩
              have b226 : 0 ≤ v226 ∧ v226 ≤ 16 := by rw [← e226]; exact hI_M 598 107 (Nat.le_of_ble_eq_true rfl)
              have e227 : M1 598 107 = v226 := ((w1_5 107 (zne rfl) (zne rfl) (zne rfl)).trans e226)
              have e228 : M197 598 107 = v226 := ((w197_2 107 (zne rfl) (zne rfl)).trans e227)
              refine jr.pick (ls := [_, _, _]) [2, 3, 4] rfl rfl ?_
              exact ko M197 o m hI_M197 hH_M197 hS_M197  (fun a i f598 f659 f660 f664 f665 f666 f667 => ((w197_1 a i f598).trans ((w1_4 a i f598 f659 f660).trans (hF_M a i f598 f659 f660 f664 f665 f666 f667)))) (fun i g73 g74 g75 g76 g77 g78 g79 g80 g81 g89 g90 g100 g102 => ((w197_2 i g80 g81).trans ((w1_5 i g90 g100 g102).trans (hG_M i g73 g74 g75 g76 g77 g78 g79 g80 g81 g89 g90 g100 g102)))) (by omega) (by omega) (by by_cases hf : v214 = 0; (first | (exfalso; omega) | (exact Or.inr (GS.cast (o := 0) ⟨by omega, ES.adj hE (k' := kk) (z' := 0) (by omega) (by omega) (by omega), by omega, by omega, by omega, by omega⟩ (by omega)))); (exact Or.inl ⟨by omega, by omega⟩)) (by omega) (by omega) (by rw [e204, e200] <;> omega) (by omega) (CP.f (CP.trans hCP w1_3) (fun i => w197_1 659 i (nne rfl)) (w197_2 90 (zne rfl) (zne rfl))) (by rw [e218] <;> omega) (by omega)
            · refine jr.if_eq rfl rfl (by first | exact rgl rfl | omega) (fun _ => ?_) (fun h => absurd (by decide) h)
              refine jr.aload_n rfl rfl ?_
              refine jr_v rfl rfl (Or.inl rfl) rfl rfl (nlt rfl) rfl ⟨rfl, Nat.le_of_ble_eq_true rfl, Nat.le_of_ble_eq_true rfl⟩ rfl (jc.deep (r_wrongToken hI_M1 hH_M1 hS_M1    (fun M232 hI_M232 hH_M232 hS_M232  w232_0 w232_1 w232_2 => ?_)) (Nat.le_of_ble_eq_true rfl))
              have tk232 : TK M232 = TK M1 := TK.fr (w232_2 73 (zne rfl) (zne rfl)) (w232_2 74 (zne rfl) (zne rfl))
              refine jr.goto rfl rfl ?_
              obtain ⟨v233, e233⟩ : ∃ z, M 598 72 = z := ⟨_, rfl⟩
              have b233 : 0 ≤ v233 ∧ v233 ≤ 1600 := by rw [← e233]; exact hI_M 598 72 (Nat.le_of_ble_eq_true rfl)
              have e234 : M1 598 72 = v233 := ((w1_5 72 (zne rfl) (zne rfl) (zne rfl)).trans e233)
              have e235 : M232 598 72 = v233 := ((w232_2 72 (zne rfl) (zne rfl)).trans e234)
              obtain ⟨v237, e237⟩ : ∃ z, M 598 73 = z := ⟨_, rfl⟩
              have b237 : 0 ≤ v237 ∧ v237 ≤ 1600 := by rw [← e237]; exact hI_M 598 73 (Nat.le_of_ble_eq_true rfl)
              have e238 : M1 598 73 = v237 := ((w1_5 73 (zne rfl) (zne rfl) (zne rfl)).trans e237)
              have e239 : M232 598 73 = v237 := ((w232_2 73 (zne rfl) (zne rfl)).trans e238)
              obtain ⟨v241, e241⟩ : ∃ z, M 598 74 = z := ⟨_, rfl⟩
              have b241 : 0 ≤ v241 ∧ v241 ≤ 4 := by rw [← e241]; exact hI_M 598 74 (Nat.le_of_ble_eq_true rfl)
              have e242 : M1 598 74 = v241 := ((w1_5 74 (zne rfl) (zne rfl) (zne rfl)).trans e241)
              have e243 : M232 598 74 = v241 := ((w232_2 74 (zne rfl) (zne rfl)).trans e242)
              obtain ⟨v245, e245⟩ : ∃ z, M 598 79 = z := ⟨_, rfl⟩
              have b245 : 0 ≤ v245 ∧ v245 ≤ 255 := by rw [← e245]; exact hI_M 598 79 (Nat.le_of_ble_eq_true rfl)
              have e246 : M1 598 79 = v245 := ((w1_5 79 (zne rfl) (zne rfl) (zne rfl)).trans e245)
              have e247 : M232 598 79 = v245 := ((w232_2 79 (zne rfl) (zne rfl)).trans e246)
              obtain ⟨v249, e249⟩ : ∃ z, M232 598 80 = z := ⟨_, rfl⟩
              have b249 : 0 ≤ v249 ∧ v249 ≤ 7 := by rw [← e249]; exact hI_M232 598 80 (Nat.le_of_ble_eq_true rfl)
              obtain ⟨v251, e251⟩ : ∃ z, M 598 89 = z := ⟨_, rfl⟩
              have b251 : 0 ≤ v251 ∧ v251 ≤ 301 := by rw [← e251]; exact hI_M 598 89 (Nat.le_of_ble_eq_true rfl)
              have e252 : M1 598 89 = v251 := ((w1_5 89 (zne rfl) (zne rfl) (zne rfl)).trans e251)
              have e253 : M232 598 89 = v251 := ((w232_2 89 (zne rfl) (zne rfl)).trans e252)
              obtain ⟨v255, e255⟩ : ∃ z, M1 598 90 = z := ⟨_, rfl⟩
              have b255 : 0 ≤ v255 ∧ v255 ≤ 2200 := by rw [← e255]; exact hI_M1 598 90 (Nat.le_of_ble_eq_true rfl)
              have e256 : M232 598 90 = v255 := ((w232_2 90 (zne rfl) (zne rfl)).trans e255)
              obtain ⟨v258, e258⟩ : ∃ z, M1 598 100 = z := ⟨_, rfl⟩
              have b258 : 0 ≤ v258 ∧ v258 ≤ 13 := by rw [← e258]; exact hI_M1 598 100 (Nat.le_of_ble_eq_true rfl)
              have e259 : M232 598 100 = v258 := ((w232_2 100 (zne rfl) (zne rfl)).trans e258)
              obtain ⟨v261, e261⟩ : ∃ z, M 598 107 = z := ⟨_, rfl⟩
              have b261 : 0 ≤ v261 ∧ v261 ≤ 16 := by rw [← e261]; exact hI_M 598 107 (Nat.le_of_ble_eq_true rfl)
              have e262 : M1 598 107 = v261 := ((w1_5 107 (zne rfl) (zne rfl) (zne rfl)).trans e261)
              have e263 : M232 598 107 = v261 := ((w232_2 107 (zne rfl) (zne rfl)).trans e262)
              refine jr.pick (ls := [_, _, _]) [2, 3, 4] rfl rfl ?_
              exact ko M232 o m hI_M232 hH_M232 hS_M232  (fun a i f598 f659 f660 f664 f665 f666 f667 => ((w232_1 a i f598).trans ((w1_4 a i f598 f659 f660).trans (hF_M a i f598 f659 f660 f664 f665 f666 f667)))) (fun i g73 g74 g75 g76 g77 g78 g79 g80 g81 g89 g90 g100 g102 => ((w232_2 i g80 g81).trans ((w1_5 i g90 g100 g102).trans (hG_M i g73 g74 g75 g76 g77 g78 g79 g80 g81 g89 g90 g100 g102)))) (by omega) (by omega) (by by_cases hf : v249 = 0; (first | (exfalso; omega) | (exact Or.inr (GS.cast (o := 0) ⟨by omega, ES.adj hE (k' := kk) (z' := 0) (by omega) (by omega) (by omega), by omega, by omega, by omega, by omega⟩ (by omega)))); (exact Or.inl ⟨by omega, by omega⟩)) (by omega) (by omega) (by rw [e239, e235] <;> omega) (by omega) (CP.f (CP.trans hCP w1_3) (fun i => w232_1 659 i (nne rfl)) (w232_2 90 (zne rfl) (zne rfl))) (by rw [e253] <;> omega) (by omega)
        · refine jr.iconst rfl ?_
          refine jr.goto rfl rfl ?_
          refine jr.istore (ls' := [_, _, _, _, _]) rfl (nlt rfl) rfl ?_
          refine jr.aload_n rfl rfl ?_
          refine jr.bipush rfl (jbp _ (nlt rfl)) ?_
          refine jr_v rfl rfl (Or.inl rfl) rfl rfl (nlt rfl) rfl ⟨rfl, Nat.le_of_ble_eq_true rfl, Nat.le_of_ble_eq_true rfl⟩ rfl (jc.deep (c_isSign hI_M1 (by omega) (fun t122_0 t122_1 => ?_) (fun f122_0 => ?_)) (Nat.le_of_ble_eq_true rfl))
          · have tq := ES.top40 gs2 (by omega) (by rw [hsg]; omega)
            rw [hsg, e3] at tq
            have dp1 := ES.dpos gs2 (by omega)
            rw [hsg] at dp1
            have dp2 := dp1 (Or.inl tq.1)
            refine jr.if_eq rfl rfl (by first | exact rgl rfl | omega) (fun h => absurd h (by decide)) (fun _ => ?_)
            refine jr.iload rfl rfl ?_
            refine jr.if_ne rfl rfl (by first | exact rgl rfl | omega) (fun _ => ?_) (fun h => absurd (by decide) h)
            refine jr.aload_n rfl rfl ?_
            refine jr.bipush rfl (jbp _ (nlt rfl)) ?_
            refine jr_v rfl rfl (Or.inl rfl) rfl rfl (nlt rfl) rfl ⟨rfl, Nat.le_of_ble_eq_true rfl, Nat.le_of_ble_eq_true rfl⟩ rfl (jc.deep (c_isSign hI_M1 (by omega) (fun t160_0 t160_1 => ?_) (fun f160_0 => ?_)) (Nat.le_of_ble_eq_true rfl))
            · refine jr.if_eq rfl rfl (by first | exact rgl rfl | omega) (fun h => absurd h (by decide)) (fun _ => ?_)
              refine jr.iload rfl rfl ?_
              refine jr.if_eq rfl rfl (by first | exact rgl rfl | omega) (fun h => absurd h (by decide)) (fun _ => ?_)
              refine jr.aload_n rfl rfl ?_
              refine jr.dup rfl rfl ?_
              refine jr.getf (i := 102) (x := sg) (v := .int (Int32.ofInt (sg))) rfl rfl (nlt rfl) rfl (nlt rfl) rfl rfl hsg rfl ?_
              refine jr.iconst rfl ?_
              refine jr.isub rfl ?_
              refine jr.putf (i := 102) (x := (sg - 1)) rfl rfl (nlt rfl) rfl (nlt rfl) rfl rfl rfl rfl rfl ?_
              refine jr.aload_n rfl rfl ?_
              refine jr.dup rfl rfl ?_
              obtain ⟨v267, e267⟩ : ∃ z, M1 598 100 = z := ⟨_, rfl⟩
              have b267 : 0 ≤ v267 ∧ v267 ≤ 13 := by rw [← e267]; exact hI_M1 598 100 (Nat.le_of_ble_eq_true rfl)
              refine jr.getf (i := 100) (x := v267) (v := .int (Int32.ofInt (v267))) rfl rfl (nlt rfl) rfl (nlt rfl) rfl rfl ((ju_i _ _ (zne (by decide))).trans e267) rfl ?_
              refine jr.iconst rfl ?_
              refine jr.isub rfl ?_
              refine jr.putf (i := 100) (x := (v267 - 1)) rfl rfl (nlt rfl) rfl (nlt rfl) rfl rfl rfl rfl rfl ?_
              refine jr.aload_n rfl rfl ?_
              obtain ⟨v269, e269⟩ : ∃ z, M 598 73 = z := ⟨_, rfl⟩
              have b269 : 0 ≤ v269 ∧ v269 ≤ 1600 := by rw [← e269]; exact hI_M 598 73 (Nat.le_of_ble_eq_true rfl)
              have e270 : M1 598 73 = v269 := ((w1_5 73 (zne rfl) (zne rfl) (zne rfl)).trans e269)
              obtain ⟨v271, e271⟩ : ∃ z, M 598 72 = z := ⟨_, rfl⟩
              have b271 : 0 ≤ v271 ∧ v271 ≤ 1600 := by rw [← e271]; exact hI_M 598 72 (Nat.le_of_ble_eq_true rfl)
              have e272 : M1 598 72 = v271 := ((w1_5 72 (zne rfl) (zne rfl) (zne rfl)).trans e271)
              obtain ⟨v274, e274⟩ : ∃ z, M 598 89 = z := ⟨_, rfl⟩
              have b274 : 0 ≤ v274 ∧ v274 ≤ 301 := by rw [← e274]; exact hI_M 598 89 (Nat.le_of_ble_eq_true rfl)
              have e275 : M1 598 89 = v274 := ((w1_5 89 (zne rfl) (zne rfl) (zne rfl)).trans e274)
              obtain ⟨v279, e279⟩ : ∃ z, M 598 74 = z := ⟨_, rfl⟩
              have b279 : 0 ≤ v279 ∧ v279 ≤ 4 := by rw [← e279]; exact hI_M 598 74 (Nat.le_of_ble_eq_true rfl)
              have e280 : M1 598 74 = v279 := ((w1_5 74 (zne rfl) (zne rfl) (zne rfl)).trans e279)
              refine jr_v rfl rfl (Or.inl rfl) rfl rfl (nlt rfl) rfl ⟨rfl, Nat.le_of_ble_eq_true rfl, Nat.le_of_ble_eq_true rfl⟩ rfl (jc.deep (r_next (RI.u (RI.u hI_M1 (a := 598) (i := 102) (show (0 : Int) ≤ _ ∧ _ ≤ (400 : Int) from by omega)) (a := 598) (i := 100) (show (0 : Int) ≤ _ ∧ _ ≤ (13 : Int) from by omega)) (RH.o (RH.o hH_M1 (by decide) (by decide) (by decide)) (by decide) (by decide) (by decide)) (RF.o (RF.o hS_M1 (by decide) (by decide)) (by decide) (by decide))   (by rw [((ju_i _ _ (zne (by decide))).trans ((ju_i _ _ (zne (by decide))).trans e270)), ((ju_i _ _ (zne (by decide))).trans ((ju_i _ _ (zne (by decide))).trans e272))]; omega) (fun M268 hI_M268 hH_M268 hS_M268  w268_0 w268_1 w268_2 w268_3 w268_4 w268_5 w268_6 => ?_)) (Nat.le_of_ble_eq_true rfl))
              have y278 : (ju (ju M1 598 102 (sg - 1)) 598 100 (v267 - 1)) 598 73 = v269 := ((ju_i _ _ (zne (by decide))).trans ((ju_i _ _ (zne (by decide))).trans e270))
              have y281 : (ju (ju M1 598 102 (sg - 1)) 598 100 (v267 - 1)) 598 74 = v279 := ((ju_i _ _ (zne (by decide))).trans ((ju_i _ _ (zne (by decide))).trans e280))
              have tb268 : TK (ju (ju M1 598 102 (sg - 1)) 598 100 (v267 - 1)) = TK M1 := ((TK.o (Or.inr ⟨by decide, by decide⟩)).trans ((TK.o (Or.inr ⟨by decide, by decide⟩)).trans rfl))
              have hE := ES.clo1 gs2 hsg e267 tq.1 e3 (by omega) (by omega)
              have ck : 0 ≤ kcK v2 := by unfold kcK; split <;> omega
              have y273 : (ju (ju M1 598 102 (sg - 1)) 598 100 (v267 - 1)) 598 73 = v269 := ((ju_i _ _ (zne (by decide))).trans ((ju_i _ _ (zne (by decide))).trans e270))
              have y276 : (ju (ju M1 598 102 (sg - 1)) 598 100 (v267 - 1)) 598 89 = v274 := ((ju_i _ _ (zne (by decide))).trans ((ju_i _ _ (zne (by decide))).trans e275))
              have y277 : (ju (ju M1 598 102 (sg - 1)) 598 100 (v267 - 1)) 598 100 = v267 - 1 := (ju_same _ _ _ _)
              have x268_89 := w268_6 89 (zne rfl) (zne rfl) (zne rfl) (zne rfl) (zne rfl) (zne rfl) (zne rfl)
              have x268_100 := w268_6 100 (zne rfl) (zne rfl) (zne rfl) (zne rfl) (zne rfl) (zne rfl) (zne rfl)
              have hE := ES.fr2 hE w268_5 (w268_6 88 (zne rfl) (zne rfl) (zne rfl) (zne rfl) (zne rfl) (zne rfl) (zne rfl)) (w268_6 90 (zne rfl) (zne rfl) (zne rfl) (zne rfl) (zne rfl) (zne rfl) (zne rfl)) (w268_6 101 (zne rfl) (zne rfl) (zne rfl) (zne rfl) (zne rfl) (zne rfl) (zne rfl)) (w268_6 102 (zne rfl) (zne rfl) (zne rfl) (zne rfl) (zne rfl) (zne rfl) (zne rfl)) (w268_6 107 (zne rfl) (zne rfl) (zne rfl) (zne rfl) (zne rfl) (zne rfl) (zne rfl)) (k' := kk + kcK v2) (d' := 0) (z' := 0) (by omega) (by omega) (by omega) (by omega)
              have co1 : v2 = -1 → kcO v2 = 1 := fun z => by unfold kcO; rw [if_pos z]
              refine jr.iload_n rfl rfl ?_
              refine jr.iconst rfl ?_
              refine jr.icmp_eq rfl rfl (by first | (refine rgb (by assumption) ?_; exact rfl) | omega) (rgl rfl) (fun h197 => ?_) (fun h197 => ?_)
              · exact absurd h197 (by omega)
              · refine jr.aload_n rfl rfl ?_
                refine jr.sipush rfl (by decide) ?_
                refine jr.iload_n rfl rfl ?_
                refine jr.iadd rfl ?_
                refine jr.lconst (x := 0) rfl (by decide) ?_
                obtain ⟨v282, e282⟩ : ∃ z, M1 598 90 = z := ⟨_, rfl⟩
                have b282 : 0 ≤ v282 ∧ v282 ≤ 2200 := by rw [← e282]; exact hI_M1 598 90 (Nat.le_of_ble_eq_true rfl)
                have e283 : M268 598 90 = v282 := ((w268_6 90 (zne rfl) (zne rfl) (zne rfl) (zne rfl) (zne rfl) (zne rfl) (zne rfl)).trans ((ju_i _ _ (zne (by decide))).trans ((ju_i _ _ (zne (by decide))).trans e282)))
                have e284 : M268 598 100 = v267 - 1 := ((w268_6 100 (zne rfl) (zne rfl) (zne rfl) (zne rfl) (zne rfl) (zne rfl) (zne rfl)).trans (ju_same _ _ _ _))
                obtain ⟨v286, e286⟩ : ∃ z, M 598 107 = z := ⟨_, rfl⟩
                have b286 : 0 ≤ v286 ∧ v286 ≤ 16 := by rw [← e286]; exact hI_M 598 107 (Nat.le_of_ble_eq_true rfl)
                have e287 : M1 598 107 = v286 := ((w1_5 107 (zne rfl) (zne rfl) (zne rfl)).trans e286)
                have e288 : M268 598 107 = v286 := ((w268_6 107 (zne rfl) (zne rfl) (zne rfl) (zne rfl) (zne rfl) (zne rfl) (zne rfl)).trans ((ju_i _ _ (zne (by decide))).trans ((ju_i _ _ (zne (by decide))).trans e287)))
                refine jr_v rfl rfl (Or.inl rfl) rfl rfl (nlt rfl) rfl ⟨rfl, Nat.le_of_ble_eq_true rfl, Nat.le_of_ble_eq_true rfl⟩ rfl (jc.deep (r_emit e283 (by omega) (by omega) (by omega) ?_) (Nat.le_of_ble_eq_true rfl))
                have al := argn_le v2
                have co : kcO v2 = argn v2 := by unfold kcO; rw [if_neg (by omega)]
                have ck2 : kcK v2 = 2 := by unfold kcK; rw [if_neg (by omega)]
                have nd : ndo (340 + v2) = argn v2 := (by rcases (show v2 = 25 ∨ v2 = 26 ∨ v2 = 27 ∨ v2 = 28 ∨ v2 = 29 ∨ v2 = 30 by omega) with r | r | r | r | r | r <;> rw [r] <;> decide)
                have dl : dlo (340 + v2) = 1 - argn v2 := (by rcases (show v2 = 25 ∨ v2 = 26 ∨ v2 = 27 ∨ v2 = 28 ∨ v2 = 29 ∨ v2 = 30 by omega) with r | r | r | r | r | r <;> rw [r] <;> decide)
                have hE := ES.emit hE e283 (340 + v2) 0 kk (by unfold vop; omega) (by omega) (by unfold exo; omega) (by unfold jpo; omega) (by omega) (by omega) (by omega) (by omega) (by omega) (by omega)
                refine jr.goto rfl rfl ?_
                refine jr.goto rfl rfl ?_
                have e290 : M268 598 72 = v271 := ((w268_6 72 (zne rfl) (zne rfl) (zne rfl) (zne rfl) (zne rfl) (zne rfl) (zne rfl)).trans ((ju_i _ _ (zne (by decide))).trans ((ju_i _ _ (zne (by decide))).trans e272)))
                have y291 : (ju (ju (ju M268 659 v282 (340 + v2)) 660 v282 0) 598 90 (v282 + 1)) 598 72 = v271 := ((ju_i _ _ (zne (by decide))).trans ((ju_c _ _ (by decide)).trans ((ju_c _ _ (by decide)).trans e290)))
                obtain ⟨v292, e292⟩ : ∃ z, M268 598 73 = z := ⟨_, rfl⟩
                have b292 : 0 ≤ v292 ∧ v292 ≤ 1600 := by rw [← e292]; exact hI_M268 598 73 (Nat.le_of_ble_eq_true rfl)
                have y293 : (ju (ju (ju M268 659 v282 (340 + v2)) 660 v282 0) 598 90 (v282 + 1)) 598 73 = v292 := ((ju_i _ _ (zne (by decide))).trans ((ju_c _ _ (by decide)).trans ((ju_c _ _ (by decide)).trans e292)))
                obtain ⟨v294, e294⟩ : ∃ z, M268 598 74 = z := ⟨_, rfl⟩
                have b294 : 0 ≤ v294 ∧ v294 ≤ 4 := by rw [← e294]; exact hI_M268 598 74 (Nat.le_of_ble_eq_true rfl)
                have y295 : (ju (ju (ju M268 659 v282 (340 + v2)) 660 v282 0) 598 90 (v282 + 1)) 598 74 = v294 := ((ju_i _ _ (zne (by decide))).trans ((ju_c _ _ (by decide)).trans ((ju_c _ _ (by decide)).trans e294)))
                obtain ⟨v296, e296⟩ : ∃ z, M268 598 79 = z := ⟨_, rfl⟩
                have b296 : 0 ≤ v296 ∧ v296 ≤ 255 := by rw [← e296]; exact hI_M268 598 79 (Nat.le_of_ble_eq_true rfl)
                have y297 : (ju (ju (ju M268 659 v282 (340 + v2)) 660 v282 0) 598 90 (v282 + 1)) 598 79 = v296 := ((ju_i _ _ (zne (by decide))).trans ((ju_c _ _ (by decide)).trans ((ju_c _ _ (by decide)).trans e296)))
                obtain ⟨v298, e298⟩ : ∃ z, M 598 80 = z := ⟨_, rfl⟩
                have b298 : 0 ≤ v298 ∧ v298 ≤ 7 := by rw [← e298]; exact hI_M 598 80 (Nat.le_of_ble_eq_true rfl)
                have e299 : M1 598 80 = v298 := ((w1_5 80 (zne rfl) (zne rfl) (zne rfl)).trans e298)
                have e300 : M268 598 80 = v298 := ((w268_6 80 (zne rfl) (zne rfl) (zne rfl) (zne rfl) (zne rfl) (zne rfl) (zne rfl)).trans ((ju_i _ _ (zne (by decide))).trans ((ju_i _ _ (zne (by decide))).trans e299)))
                have y301 : (ju (ju (ju M268 659 v282 (340 + v2)) 660 v282 0) 598 90 (v282 + 1)) 598 80 = v298 := ((ju_i _ _ (zne (by decide))).trans ((ju_c _ _ (by decide)).trans ((ju_c _ _ (by decide)).trans e300)))
                have e302 : M268 598 89 = v274 := ((w268_6 89 (zne rfl) (zne rfl) (zne rfl) (zne rfl) (zne rfl) (zne rfl) (zne rfl)).trans ((ju_i _ _ (zne (by decide))).trans ((ju_i _ _ (zne (by decide))).trans e275)))
                have y303 : (ju (ju (ju M268 659 v282 (340 + v2)) 660 v282 0) 598 90 (v282 + 1)) 598 89 = v274 := ((ju_i _ _ (zne (by decide))).trans ((ju_c _ _ (by decide)).trans ((ju_c _ _ (by decide)).trans e302)))
                have y304 : (ju (ju (ju M268 659 v282 (340 + v2)) 660 v282 0) 598 90 (v282 + 1)) 598 90 = v282 + 1 := (ju_same _ _ _ _)
                have y305 : (ju (ju (ju M268 659 v282 (340 + v2)) 660 v282 0) 598 90 (v282 + 1)) 598 100 = v267 - 1 := ((ju_i _ _ (zne (by decide))).trans ((ju_c _ _ (by decide)).trans ((ju_c _ _ (by decide)).trans e284)))
                have y306 : (ju (ju (ju M268 659 v282 (340 + v2)) 660 v282 0) 598 90 (v282 + 1)) 598 107 = v286 := ((ju_i _ _ (zne (by decide))).trans ((ju_c _ _ (by decide)).trans ((ju_c _ _ (by decide)).trans e288)))
                have y307 : TK (ju (ju (ju M268 659 v282 (340 + v2)) 660 v282 0) 598 90 (v282 + 1)) = TK M268 := ((TK.o (Or.inr ⟨by decide, by decide⟩)).trans ((TK.o (Or.inl (by decide))).trans ((TK.o (Or.inl (by decide))).trans rfl)))
                have y308 : (ju (ju (ju M268 659 v282 (340 + v2)) 660 v282 0) 598 90 (v282 + 1)) 598 80 = v298 := ((ju_i _ _ (zne (by decide))).trans ((ju_c _ _ (by decide)).trans ((ju_c _ _ (by decide)).trans e300)))
                have y309 : TK (ju (ju (ju M268 659 v282 (340 + v2)) 660 v282 0) 598 90 (v282 + 1)) = TK M268 := ((TK.o (Or.inr ⟨by decide, by decide⟩)).trans ((TK.o (Or.inl (by decide))).trans ((TK.o (Or.inl (by decide))).trans rfl)))
                refine jr.pick (ls := [_, _, _]) [2, 3, 4] rfl rfl ?_
                have y310 : (ju (ju (ju M268 659 v282 (340 + v2)) 660 v282 0) 598 90 (v282 + 1)) 598 80 = v298 := ((ju_i _ _ (zne (by decide))).trans ((ju_c _ _ (by decide)).trans ((ju_c _ _ (by decide)).trans e300)))
                have y311 : TK (ju (ju (ju M268 659 v282 (340 + v2)) 660 v282 0) 598 90 (v282 + 1)) = TK M268 := ((TK.o (Or.inr ⟨by decide, by decide⟩)).trans ((TK.o (Or.inl (by decide))).trans ((TK.o (Or.inl (by decide))).trans rfl)))
                exact ko (ju (ju (ju M268 659 v282 (340 + v2)) 660 v282 0) 598 90 (v282 + 1)) o m (RI.u (RI.u (RI.u hI_M268 (a := 659) (i := v282) (by rw [xri_row rfl rfl]; show (0 : Int) ≤ _ ∧ _ ≤ (1000 : Int); omega)) (a := 660) (i := v282) (by rw [xri_row rfl rfl]; show (-9223372036854775808 : Int) ≤ _ ∧ _ ≤ (9223372036854775807 : Int); omega)) (a := 598) (i := 90) (show (0 : Int) ≤ _ ∧ _ ≤ (2200 : Int) from by omega)) (RH.o (RH.o (RH.o hH_M268 (by decide) (by decide) (by decide)) (by decide) (by decide) (by decide)) (by decide) (by decide) (by decide)) (RF.o (RF.o (RF.o hS_M268 (by decide) (by decide)) (by decide) (by decide)) (by decide) (by decide))  (fun a i f598 f659 f660 f664 f665 f666 f667 => ((ju_c _ _ f598).trans ((ju_c _ _ f660).trans ((ju_c _ _ f659).trans ((w268_5 a i f598).trans ((ju_c _ _ f598).trans ((ju_c _ _ f598).trans ((w1_4 a i f598 f659 f660).trans (hF_M a i f598 f659 f660 f664 f665 f666 f667))))))))) (fun i g73 g74 g75 g76 g77 g78 g79 g80 g81 g89 g90 g100 g102 => ((ju_i _ _ g90).trans ((ju_c _ _ (by decide)).trans ((ju_c _ _ (by decide)).trans ((w268_6 i g73 g74 g75 g76 g77 g78 g79).trans ((ju_i _ _ g100).trans ((ju_i _ _ g102).trans ((w1_5 i g90 g100 g102).trans (hG_M i g73 g74 g75 g76 g77 g78 g79 g80 g81 g89 g90 g100 g102))))))))) (by omega) (by omega) (by by_cases hf : v298 = 0; (first | (exact Or.inr (GS.cast (o := kcO v2 + dlo (340 + v2)) ⟨by omega, ES.adj hE (k' := kk) (z' := 0) (by omega) (by omega) (by omega), by omega, by omega, by omega, by omega⟩ (by omega))) | (exfalso; omega)); (exact Or.inl ⟨by omega, by omega⟩)) (by omega) (by omega) (by rw [((ju_i _ _ (zne (by decide))).trans ((ju_c _ _ (by decide)).trans ((ju_c _ _ (by decide)).trans e292))), ((ju_i _ _ (zne (by decide))).trans ((ju_c _ _ (by decide)).trans ((ju_c _ _ (by decide)).trans e290)))] <;> omega) (by omega) (CP.emit (CP.f (CP.o (CP.o (CP.trans hCP w1_3) (by decide) (Or.inr (by decide))) (by decide) (Or.inr (by decide))) (fun i => w268_5 659 i (nne rfl)) (w268_6 90 (zne rfl) (zne rfl) (zne rfl) (zne rfl) (zne rfl) (zne rfl) (zne rfl))) e283) (by rw [((ju_i _ _ (zne (by decide))).trans ((ju_c _ _ (by decide)).trans ((ju_c _ _ (by decide)).trans e302)))] <;> omega) (by omega)
            · refine jr.if_eq rfl rfl (by first | exact rgl rfl | omega) (fun _ => ?_) (fun h => absurd (by decide) h)
              refine jr.aload_n rfl rfl ?_
              refine jr_v rfl rfl (Or.inl rfl) rfl rfl (nlt rfl) rfl ⟨rfl, Nat.le_of_ble_eq_true rfl, Nat.le_of_ble_eq_true rfl⟩ rfl (jc.deep (r_wrongToken hI_M1 hH_M1 hS_M1    (fun M312 hI_M312 hH_M312 hS_M312  w312_0 w312_1 w312_2 => ?_)) (Nat.le_of_ble_eq_true rfl))
              have tk312 : TK M312 = TK M1 := TK.fr (w312_2 73 (zne rfl) (zne rfl)) (w312_2 74 (zne rfl) (zne rfl))
              refine jr.goto rfl rfl ?_
              obtain ⟨v313, e313⟩ : ∃ z, M 598 72 = z := ⟨_, rfl⟩
              have b313 : 0 ≤ v313 ∧ v313 ≤ 1600 := by rw [← e313]; exact hI_M 598 72 (Nat.le_of_ble_eq_true rfl)
              have e314 : M1 598 72 = v313 := ((w1_5 72 (zne rfl) (zne rfl) (zne rfl)).trans e313)
              have e315 : M312 598 72 = v313 := ((w312_2 72 (zne rfl) (zne rfl)).trans e314)
              obtain ⟨v317, e317⟩ : ∃ z, M 598 73 = z := ⟨_, rfl⟩
              have b317 : 0 ≤ v317 ∧ v317 ≤ 1600 := by rw [← e317]; exact hI_M 598 73 (Nat.le_of_ble_eq_true rfl)
              have e318 : M1 598 73 = v317 := ((w1_5 73 (zne rfl) (zne rfl) (zne rfl)).trans e317)
              have e319 : M312 598 73 = v317 := ((w312_2 73 (zne rfl) (zne rfl)).trans e318)
              obtain ⟨v321, e321⟩ : ∃ z, M 598 74 = z := ⟨_, rfl⟩
              have b321 : 0 ≤ v321 ∧ v321 ≤ 4 := by rw [← e321]; exact hI_M 598 74 (Nat.le_of_ble_eq_true rfl)
              have e322 : M1 598 74 = v321 := ((w1_5 74 (zne rfl) (zne rfl) (zne rfl)).trans e321)
              have e323 : M312 598 74 = v321 := ((w312_2 74 (zne rfl) (zne rfl)).trans e322)
              obtain ⟨v325, e325⟩ : ∃ z, M 598 79 = z := ⟨_, rfl⟩
              have b325 : 0 ≤ v325 ∧ v325 ≤ 255 := by rw [← e325]; exact hI_M 598 79 (Nat.le_of_ble_eq_true rfl)
              have e326 : M1 598 79 = v325 := ((w1_5 79 (zne rfl) (zne rfl) (zne rfl)).trans e325)
              have e327 : M312 598 79 = v325 := ((w312_2 79 (zne rfl) (zne rfl)).trans e326)
              obtain ⟨v329, e329⟩ : ∃ z, M312 598 80 = z := ⟨_, rfl⟩
              have b329 : 0 ≤ v329 ∧ v329 ≤ 7 := by rw [← e329]; exact hI_M312 598 80 (Nat.le_of_ble_eq_true rfl)
              obtain ⟨v331, e331⟩ : ∃ z, M 598 89 = z := ⟨_, rfl⟩
              have b331 : 0 ≤ v331 ∧ v331 ≤ 301 := by rw [← e331]; exact hI_M 598 89 (Nat.le_of_ble_eq_true rfl)
              have e332 : M1 598 89 = v331 := ((w1_5 89 (zne rfl) (zne rfl) (zne rfl)).trans e331)
              have e333 : M312 598 89 = v331 := ((w312_2 89 (zne rfl) (zne rfl)).trans e332)
              obtain ⟨v335, e335⟩ : ∃ z, M1 598 90 = z := ⟨_, rfl⟩
              have b335 : 0 ≤ v335 ∧ v335 ≤ 2200 := by rw [← e335]; exact hI_M1 598 90 (Nat.le_of_ble_eq_true rfl)
              have e336 : M312 598 90 = v335 := ((w312_2 90 (zne rfl) (zne rfl)).trans e335)
              obtain ⟨v338, e338⟩ : ∃ z, M1 598 100 = z := ⟨_, rfl⟩
              have b338 : 0 ≤ v338 ∧ v338 ≤ 13 := by rw [← e338]; exact hI_M1 598 100 (Nat.le_of_ble_eq_true rfl)
              have e339 : M312 598 100 = v338 := ((w312_2 100 (zne rfl) (zne rfl)).trans e338)
              obtain ⟨v341, e341⟩ : ∃ z, M 598 107 = z := ⟨_, rfl⟩
              have b341 : 0 ≤ v341 ∧ v341 ≤ 16 := by rw [← e341]; exact hI_M 598 107 (Nat.le_of_ble_eq_true rfl)
              have e342 : M1 598 107 = v341 := ((w1_5 107 (zne rfl) (zne rfl) (zne rfl)).trans e341)
              have e343 : M312 598 107 = v341 := ((w312_2 107 (zne rfl) (zne rfl)).trans e342)
              refine jr.pick (ls := [_, _, _]) [2, 3, 4] rfl rfl ?_
              exact ko M312 o m hI_M312 hH_M312 hS_M312  (fun a i f598 f659 f660 f664 f665 f666 f667 => ((w312_1 a i f598).trans ((w1_4 a i f598 f659 f660).trans (hF_M a i f598 f659 f660 f664 f665 f666 f667)))) (fun i g73 g74 g75 g76 g77 g78 g79 g80 g81 g89 g90 g100 g102 => ((w312_2 i g80 g81).trans ((w1_5 i g90 g100 g102).trans (hG_M i g73 g74 g75 g76 g77 g78 g79 g80 g81 g89 g90 g100 g102)))) (by omega) (by omega) (by by_cases hf : v329 = 0; (first | (exfalso; omega) | (exact Or.inr (GS.cast (o := 0) ⟨by omega, ES.adj hE (k' := kk) (z' := 0) (by omega) (by omega) (by omega), by omega, by omega, by omega, by omega⟩ (by omega)))); (exact Or.inl ⟨by omega, by omega⟩)) (by omega) (by omega) (by rw [e319, e315] <;> omega) (by omega) (CP.f (CP.trans hCP w1_3) (fun i => w312_1 659 i (nne rfl)) (w312_2 90 (zne rfl) (zne rfl))) (by rw [e333] <;> omega) (by omega)
          · have tq := ES.top40 gs2 (by omega) (by rw [hsg]; omega)
            rw [hsg, e3] at tq
            have dp1 := ES.dpos gs2 (by omega)
            rw [hsg] at dp1
            have dp2 := dp1 (Or.inl tq.1)
            refine jr.if_eq rfl rfl (by first | exact rgl rfl | omega) (fun _ => ?_) (fun h => absurd (by decide) h)
            refine jr.aload_n rfl rfl ?_
            refine jr.bipush rfl (jbp _ (nlt rfl)) ?_
            refine jr_v rfl rfl (Or.inl rfl) rfl rfl (nlt rfl) rfl ⟨rfl, Nat.le_of_ble_eq_true rfl, Nat.le_of_ble_eq_true rfl⟩ rfl (jc.deep (c_isSign hI_M1 (by omega) (fun t160_0 t160_1 => ?_) (fun f160_0 => ?_)) (Nat.le_of_ble_eq_true rfl))
            · refine jr.if_eq rfl rfl (by first | exact rgl rfl | omega) (fun h => absurd h (by decide)) (fun _ => ?_)
              refine jr.iload rfl rfl ?_
              refine jr.if_eq rfl rfl (by first | exact rgl rfl | omega) (fun h => absurd h (by decide)) (fun _ => ?_)
              refine jr.aload_n rfl rfl ?_
              refine jr.dup rfl rfl ?_
              refine jr.getf (i := 102) (x := sg) (v := .int (Int32.ofInt (sg))) rfl rfl (nlt rfl) rfl (nlt rfl) rfl rfl hsg rfl ?_
              refine jr.iconst rfl ?_
              refine jr.isub rfl ?_
              refine jr.putf (i := 102) (x := (sg - 1)) rfl rfl (nlt rfl) rfl (nlt rfl) rfl rfl rfl rfl rfl ?_
              refine jr.aload_n rfl rfl ?_
              refine jr.dup rfl rfl ?_
              obtain ⟨v347, e347⟩ : ∃ z, M1 598 100 = z := ⟨_, rfl⟩
              have b347 : 0 ≤ v347 ∧ v347 ≤ 13 := by rw [← e347]; exact hI_M1 598 100 (Nat.le_of_ble_eq_true rfl)
              refine jr.getf (i := 100) (x := v347) (v := .int (Int32.ofInt (v347))) rfl rfl (nlt rfl) rfl (nlt rfl) rfl rfl ((ju_i _ _ (zne (by decide))).trans e347) rfl ?_
              refine jr.iconst rfl ?_
              refine jr.isub rfl ?_
              refine jr.putf (i := 100) (x := (v347 - 1)) rfl rfl (nlt rfl) rfl (nlt rfl) rfl rfl rfl rfl rfl ?_
              refine jr.aload_n rfl rfl ?_
              obtain ⟨v349, e349⟩ : ∃ z, M 598 73 = z := ⟨_, rfl⟩
              have b349 : 0 ≤ v349 ∧ v349 ≤ 1600 := by rw [← e349]; exact hI_M 598 73 (Nat.le_of_ble_eq_true rfl)
              have e350 : M1 598 73 = v349 := ((w1_5 73 (zne rfl) (zne rfl) (zne rfl)).trans e349)
              obtain ⟨v351, e351⟩ : ∃ z, M 598 72 = z := ⟨_, rfl⟩
              have b351 : 0 ≤ v351 ∧ v351 ≤ 1600 := by rw [← e351]; exact hI_M 598 72 (Nat.le_of_ble_eq_true rfl)
              have e352 : M1 598 72 = v351 := ((w1_5 72 (zne rfl) (zne rfl) (zne rfl)).trans e351)
              obtain ⟨v354, e354⟩ : ∃ z, M 598 89 = z := ⟨_, rfl⟩
              have b354 : 0 ≤ v354 ∧ v354 ≤ 301 := by rw [← e354]; exact hI_M 598 89 (Nat.le_of_ble_eq_true rfl)
              have e355 : M1 598 89 = v354 := ((w1_5 89 (zne rfl) (zne rfl) (zne rfl)).trans e354)
              obtain ⟨v359, e359⟩ : ∃ z, M 598 74 = z := ⟨_, rfl⟩
              have b359 : 0 ≤ v359 ∧ v359 ≤ 4 := by rw [← e359]; exact hI_M 598 74 (Nat.le_of_ble_eq_true rfl)
              have e360 : M1 598 74 = v359 := ((w1_5 74 (zne rfl) (zne rfl) (zne rfl)).trans e359)
              refine jr_v rfl rfl (Or.inl rfl) rfl rfl (nlt rfl) rfl ⟨rfl, Nat.le_of_ble_eq_true rfl, Nat.le_of_ble_eq_true rfl⟩ rfl (jc.deep (r_next (RI.u (RI.u hI_M1 (a := 598) (i := 102) (show (0 : Int) ≤ _ ∧ _ ≤ (400 : Int) from by omega)) (a := 598) (i := 100) (show (0 : Int) ≤ _ ∧ _ ≤ (13 : Int) from by omega)) (RH.o (RH.o hH_M1 (by decide) (by decide) (by decide)) (by decide) (by decide) (by decide)) (RF.o (RF.o hS_M1 (by decide) (by decide)) (by decide) (by decide))   (by rw [((ju_i _ _ (zne (by decide))).trans ((ju_i _ _ (zne (by decide))).trans e350)), ((ju_i _ _ (zne (by decide))).trans ((ju_i _ _ (zne (by decide))).trans e352))]; omega) (fun M348 hI_M348 hH_M348 hS_M348  w348_0 w348_1 w348_2 w348_3 w348_4 w348_5 w348_6 => ?_)) (Nat.le_of_ble_eq_true rfl))
              have y358 : (ju (ju M1 598 102 (sg - 1)) 598 100 (v347 - 1)) 598 73 = v349 := ((ju_i _ _ (zne (by decide))).trans ((ju_i _ _ (zne (by decide))).trans e350))
              have y361 : (ju (ju M1 598 102 (sg - 1)) 598 100 (v347 - 1)) 598 74 = v359 := ((ju_i _ _ (zne (by decide))).trans ((ju_i _ _ (zne (by decide))).trans e360))
              have tb348 : TK (ju (ju M1 598 102 (sg - 1)) 598 100 (v347 - 1)) = TK M1 := ((TK.o (Or.inr ⟨by decide, by decide⟩)).trans ((TK.o (Or.inr ⟨by decide, by decide⟩)).trans rfl))
              have hE := ES.clo1 gs2 hsg e347 tq.1 e3 (by omega) (by omega)
              have ck : 0 ≤ kcK v2 := by unfold kcK; split <;> omega
              have y353 : (ju (ju M1 598 102 (sg - 1)) 598 100 (v347 - 1)) 598 73 = v349 := ((ju_i _ _ (zne (by decide))).trans ((ju_i _ _ (zne (by decide))).trans e350))
              have y356 : (ju (ju M1 598 102 (sg - 1)) 598 100 (v347 - 1)) 598 89 = v354 := ((ju_i _ _ (zne (by decide))).trans ((ju_i _ _ (zne (by decide))).trans e355))
              have y357 : (ju (ju M1 598 102 (sg - 1)) 598 100 (v347 - 1)) 598 100 = v347 - 1 := (ju_same _ _ _ _)
              have x348_89 := w348_6 89 (zne rfl) (zne rfl) (zne rfl) (zne rfl) (zne rfl) (zne rfl) (zne rfl)
              have x348_100 := w348_6 100 (zne rfl) (zne rfl) (zne rfl) (zne rfl) (zne rfl) (zne rfl) (zne rfl)
              have hE := ES.fr2 hE w348_5 (w348_6 88 (zne rfl) (zne rfl) (zne rfl) (zne rfl) (zne rfl) (zne rfl) (zne rfl)) (w348_6 90 (zne rfl) (zne rfl) (zne rfl) (zne rfl) (zne rfl) (zne rfl) (zne rfl)) (w348_6 101 (zne rfl) (zne rfl) (zne rfl) (zne rfl) (zne rfl) (zne rfl) (zne rfl)) (w348_6 102 (zne rfl) (zne rfl) (zne rfl) (zne rfl) (zne rfl) (zne rfl) (zne rfl)) (w348_6 107 (zne rfl) (zne rfl) (zne rfl) (zne rfl) (zne rfl) (zne rfl) (zne rfl)) (k' := kk + kcK v2) (d' := 0) (z' := 0) (by omega) (by omega) (by omega) (by omega)
              have co1 : v2 = -1 → kcO v2 = 1 := fun z => by unfold kcO; rw [if_pos z]
              refine jr.iload_n rfl rfl ?_
              refine jr.iconst rfl ?_
              refine jr.icmp_eq rfl rfl (by first | (refine rgb (by assumption) ?_; exact rfl) | omega) (rgl rfl) (fun h197 => ?_) (fun h197 => ?_)
              · exact absurd h197 (by omega)
              · refine jr.aload_n rfl rfl ?_
                refine jr.sipush rfl (by decide) ?_
                refine jr.iload_n rfl rfl ?_
                refine jr.iadd rfl ?_
                refine jr.lconst (x := 0) rfl (by decide) ?_
                obtain ⟨v362, e362⟩ : ∃ z, M1 598 90 = z := ⟨_, rfl⟩
                have b362 : 0 ≤ v362 ∧ v362 ≤ 2200 := by rw [← e362]; exact hI_M1 598 90 (Nat.le_of_ble_eq_true rfl)
                have e363 : M348 598 90 = v362 := ((w348_6 90 (zne rfl) (zne rfl) (zne rfl) (zne rfl) (zne rfl) (zne rfl) (zne rfl)).trans ((ju_i _ _ (zne (by decide))).trans ((ju_i _ _ (zne (by decide))).trans e362)))
                have e364 : M348 598 100 = v347 - 1 := ((w348_6 100 (zne rfl) (zne rfl) (zne rfl) (zne rfl) (zne rfl) (zne rfl) (zne rfl)).trans (ju_same _ _ _ _))
                obtain ⟨v366, e366⟩ : ∃ z, M 598 107 = z := ⟨_, rfl⟩
                have b366 : 0 ≤ v366 ∧ v366 ≤ 16 := by rw [← e366]; exact hI_M 598 107 (Nat.le_of_ble_eq_true rfl)
                have e367 : M1 598 107 = v366 := ((w1_5 107 (zne rfl) (zne rfl) (zne rfl)).trans e366)
                have e368 : M348 598 107 = v366 := ((w348_6 107 (zne rfl) (zne rfl) (zne rfl) (zne rfl) (zne rfl) (zne rfl) (zne rfl)).trans ((ju_i _ _ (zne (by decide))).trans ((ju_i _ _ (zne (by decide))).trans e367)))
                refine jr_v rfl rfl (Or.inl rfl) rfl rfl (nlt rfl) rfl ⟨rfl, Nat.le_of_ble_eq_true rfl, Nat.le_of_ble_eq_true rfl⟩ rfl (jc.deep (r_emit e363 (by omega) (by omega) (by omega) ?_) (Nat.le_of_ble_eq_true rfl))
                have al := argn_le v2
                have co : kcO v2 = argn v2 := by unfold kcO; rw [if_neg (by omega)]
                have ck2 : kcK v2 = 2 := by unfold kcK; rw [if_neg (by omega)]
                have nd : ndo (340 + v2) = argn v2 := (by rcases (show v2 = 25 ∨ v2 = 26 ∨ v2 = 27 ∨ v2 = 28 ∨ v2 = 29 ∨ v2 = 30 by omega) with r | r | r | r | r | r <;> rw [r] <;> decide)
                have dl : dlo (340 + v2) = 1 - argn v2 := (by rcases (show v2 = 25 ∨ v2 = 26 ∨ v2 = 27 ∨ v2 = 28 ∨ v2 = 29 ∨ v2 = 30 by omega) with r | r | r | r | r | r <;> rw [r] <;> decide)
                have hE := ES.emit hE e363 (340 + v2) 0 kk (by unfold vop; omega) (by omega) (by unfold exo; omega) (by unfold jpo; omega) (by omega) (by omega) (by omega) (by omega) (by omega) (by omega)
                refine jr.goto rfl rfl ?_
                refine jr.goto rfl rfl ?_
                have e370 : M348 598 72 = v351 := ((w348_6 72 (zne rfl) (zne rfl) (zne rfl) (zne rfl) (zne rfl) (zne rfl) (zne rfl)).trans ((ju_i _ _ (zne (by decide))).trans ((ju_i _ _ (zne (by decide))).trans e352)))
                have y371 : (ju (ju (ju M348 659 v362 (340 + v2)) 660 v362 0) 598 90 (v362 + 1)) 598 72 = v351 := ((ju_i _ _ (zne (by decide))).trans ((ju_c _ _ (by decide)).trans ((ju_c _ _ (by decide)).trans e370)))
                obtain ⟨v372, e372⟩ : ∃ z, M348 598 73 = z := ⟨_, rfl⟩
                have b372 : 0 ≤ v372 ∧ v372 ≤ 1600 := by rw [← e372]; exact hI_M348 598 73 (Nat.le_of_ble_eq_true rfl)
                have y373 : (ju (ju (ju M348 659 v362 (340 + v2)) 660 v362 0) 598 90 (v362 + 1)) 598 73 = v372 := ((ju_i _ _ (zne (by decide))).trans ((ju_c _ _ (by decide)).trans ((ju_c _ _ (by decide)).trans e372)))
                obtain ⟨v374, e374⟩ : ∃ z, M348 598 74 = z := ⟨_, rfl⟩
                have b374 : 0 ≤ v374 ∧ v374 ≤ 4 := by rw [← e374]; exact hI_M348 598 74 (Nat.le_of_ble_eq_true rfl)
                have y375 : (ju (ju (ju M348 659 v362 (340 + v2)) 660 v362 0) 598 90 (v362 + 1)) 598 74 = v374 := ((ju_i _ _ (zne (by decide))).trans ((ju_c _ _ (by decide)).trans ((ju_c _ _ (by decide)).trans e374)))
                obtain ⟨v376, e376⟩ : ∃ z, M348 598 79 = z := ⟨_, rfl⟩
                have b376 : 0 ≤ v376 ∧ v376 ≤ 255 := by rw [← e376]; exact hI_M348 598 79 (Nat.le_of_ble_eq_true rfl)
                have y377 : (ju (ju (ju M348 659 v362 (340 + v2)) 660 v362 0) 598 90 (v362 + 1)) 598 79 = v376 := ((ju_i _ _ (zne (by decide))).trans ((ju_c _ _ (by decide)).trans ((ju_c _ _ (by decide)).trans e376)))
                obtain ⟨v378, e378⟩ : ∃ z, M 598 80 = z := ⟨_, rfl⟩
                have b378 : 0 ≤ v378 ∧ v378 ≤ 7 := by rw [← e378]; exact hI_M 598 80 (Nat.le_of_ble_eq_true rfl)
                have e379 : M1 598 80 = v378 := ((w1_5 80 (zne rfl) (zne rfl) (zne rfl)).trans e378)
                have e380 : M348 598 80 = v378 := ((w348_6 80 (zne rfl) (zne rfl) (zne rfl) (zne rfl) (zne rfl) (zne rfl) (zne rfl)).trans ((ju_i _ _ (zne (by decide))).trans ((ju_i _ _ (zne (by decide))).trans e379)))
                have y381 : (ju (ju (ju M348 659 v362 (340 + v2)) 660 v362 0) 598 90 (v362 + 1)) 598 80 = v378 := ((ju_i _ _ (zne (by decide))).trans ((ju_c _ _ (by decide)).trans ((ju_c _ _ (by decide)).trans e380)))
                have e382 : M348 598 89 = v354 := ((w348_6 89 (zne rfl) (zne rfl) (zne rfl) (zne rfl) (zne rfl) (zne rfl) (zne rfl)).trans ((ju_i _ _ (zne (by decide))).trans ((ju_i _ _ (zne (by decide))).trans e355)))
                have y383 : (ju (ju (ju M348 659 v362 (340 + v2)) 660 v362 0) 598 90 (v362 + 1)) 598 89 = v354 := ((ju_i _ _ (zne (by decide))).trans ((ju_c _ _ (by decide)).trans ((ju_c _ _ (by decide)).trans e382)))
                have y384 : (ju (ju (ju M348 659 v362 (340 + v2)) 660 v362 0) 598 90 (v362 + 1)) 598 90 = v362 + 1 := (ju_same _ _ _ _)
                have y385 : (ju (ju (ju M348 659 v362 (340 + v2)) 660 v362 0) 598 90 (v362 + 1)) 598 100 = v347 - 1 := ((ju_i _ _ (zne (by decide))).trans ((ju_c _ _ (by decide)).trans ((ju_c _ _ (by decide)).trans e364)))
                have y386 : (ju (ju (ju M348 659 v362 (340 + v2)) 660 v362 0) 598 90 (v362 + 1)) 598 107 = v366 := ((ju_i _ _ (zne (by decide))).trans ((ju_c _ _ (by decide)).trans ((ju_c _ _ (by decide)).trans e368)))
                have y387 : TK (ju (ju (ju M348 659 v362 (340 + v2)) 660 v362 0) 598 90 (v362 + 1)) = TK M348 := ((TK.o (Or.inr ⟨by decide, by decide⟩)).trans ((TK.o (Or.inl (by decide))).trans ((TK.o (Or.inl (by decide))).trans rfl)))
                have y388 : (ju (ju (ju M348 659 v362 (340 + v2)) 660 v362 0) 598 90 (v362 + 1)) 598 80 = v378 := ((ju_i _ _ (zne (by decide))).trans ((ju_c _ _ (by decide)).trans ((ju_c _ _ (by decide)).trans e380)))
                have y389 : TK (ju (ju (ju M348 659 v362 (340 + v2)) 660 v362 0) 598 90 (v362 + 1)) = TK M348 := ((TK.o (Or.inr ⟨by decide, by decide⟩)).trans ((TK.o (Or.inl (by decide))).trans ((TK.o (Or.inl (by decide))).trans rfl)))
                refine jr.pick (ls := [_, _, _]) [2, 3, 4] rfl rfl ?_
                have y390 : (ju (ju (ju M348 659 v362 (340 + v2)) 660 v362 0) 598 90 (v362 + 1)) 598 80 = v378 := ((ju_i _ _ (zne (by decide))).trans ((ju_c _ _ (by decide)).trans ((ju_c _ _ (by decide)).trans e380)))
                have y391 : TK (ju (ju (ju M348 659 v362 (340 + v2)) 660 v362 0) 598 90 (v362 + 1)) = TK M348 := ((TK.o (Or.inr ⟨by decide, by decide⟩)).trans ((TK.o (Or.inl (by decide))).trans ((TK.o (Or.inl (by decide))).trans rfl)))
                exact ko (ju (ju (ju M348 659 v362 (340 + v2)) 660 v362 0) 598 90 (v362 + 1)) o m (RI.u (RI.u (RI.u hI_M348 (a := 659) (i := v362) (by rw [xri_row rfl rfl]; show (0 : Int) ≤ _ ∧ _ ≤ (1000 : Int); omega)) (a := 660) (i := v362) (by rw [xri_row rfl rfl]; show (-9223372036854775808 : Int) ≤ _ ∧ _ ≤ (9223372036854775807 : Int); omega)) (a := 598) (i := 90) (show (0 : Int) ≤ _ ∧ _ ≤ (2200 : Int) from by omega)) (RH.o (RH.o (RH.o hH_M348 (by decide) (by decide) (by decide)) (by decide) (by decide) (by decide)) (by decide) (by decide) (by decide)) (RF.o (RF.o (RF.o hS_M348 (by decide) (by decide)) (by decide) (by decide)) (by decide) (by decide))  (fun a i f598 f659 f660 f664 f665 f666 f667 => ((ju_c _ _ f598).trans ((ju_c _ _ f660).trans ((ju_c _ _ f659).trans ((w348_5 a i f598).trans ((ju_c _ _ f598).trans ((ju_c _ _ f598).trans ((w1_4 a i f598 f659 f660).trans (hF_M a i f598 f659 f660 f664 f665 f666 f667))))))))) (fun i g73 g74 g75 g76 g77 g78 g79 g80 g81 g89 g90 g100 g102 => ((ju_i _ _ g90).trans ((ju_c _ _ (by decide)).trans ((ju_c _ _ (by decide)).trans ((w348_6 i g73 g74 g75 g76 g77 g78 g79).trans ((ju_i _ _ g100).trans ((ju_i _ _ g102).trans ((w1_5 i g90 g100 g102).trans (hG_M i g73 g74 g75 g76 g77 g78 g79 g80 g81 g89 g90 g100 g102))))))))) (by omega) (by omega) (by by_cases hf : v378 = 0; (first | (exact Or.inr (GS.cast (o := kcO v2 + dlo (340 + v2)) ⟨by omega, ES.adj hE (k' := kk) (z' := 0) (by omega) (by omega) (by omega), by omega, by omega, by omega, by omega⟩ (by omega))) | (exfalso; omega)); (exact Or.inl ⟨by omega, by omega⟩)) (by omega) (by omega) (by rw [((ju_i _ _ (zne (by decide))).trans ((ju_c _ _ (by decide)).trans ((ju_c _ _ (by decide)).trans e372))), ((ju_i _ _ (zne (by decide))).trans ((ju_c _ _ (by decide)).trans ((ju_c _ _ (by decide)).trans e370)))] <;> omega) (by omega) (CP.emit (CP.f (CP.o (CP.o (CP.trans hCP w1_3) (by decide) (Or.inr (by decide))) (by decide) (Or.inr (by decide))) (fun i => w348_5 659 i (nne rfl)) (w348_6 90 (zne rfl) (zne rfl) (zne rfl) (zne rfl) (zne rfl) (zne rfl) (zne rfl))) e363) (by rw [((ju_i _ _ (zne (by decide))).trans ((ju_c _ _ (by decide)).trans ((ju_c _ _ (by decide)).trans e382)))] <;> omega) (by omega)
            · refine jr.if_eq rfl rfl (by first | exact rgl rfl | omega) (fun _ => ?_) (fun h => absurd (by decide) h)
              refine jr.aload_n rfl rfl ?_
              refine jr_v rfl rfl (Or.inl rfl) rfl rfl (nlt rfl) rfl ⟨rfl, Nat.le_of_ble_eq_true rfl, Nat.le_of_ble_eq_true rfl⟩ rfl (jc.deep (r_wrongToken hI_M1 hH_M1 hS_M1    (fun M392 hI_M392 hH_M392 hS_M392  w392_0 w392_1 w392_2 => ?_)) (Nat.le_of_ble_eq_true rfl))
              have tk392 : TK M392 = TK M1 := TK.fr (w392_2 73 (zne rfl) (zne rfl)) (w392_2 74 (zne rfl) (zne rfl))
              refine jr.goto rfl rfl ?_
              obtain ⟨v393, e393⟩ : ∃ z, M 598 72 = z := ⟨_, rfl⟩
              have b393 : 0 ≤ v393 ∧ v393 ≤ 1600 := by rw [← e393]; exact hI_M 598 72 (Nat.le_of_ble_eq_true rfl)
              have e394 : M1 598 72 = v393 := ((w1_5 72 (zne rfl) (zne rfl) (zne rfl)).trans e393)
              have e395 : M392 598 72 = v393 := ((w392_2 72 (zne rfl) (zne rfl)).trans e394)
              obtain ⟨v397, e397⟩ : ∃ z, M 598 73 = z := ⟨_, rfl⟩
              have b397 : 0 ≤ v397 ∧ v397 ≤ 1600 := by rw [← e397]; exact hI_M 598 73 (Nat.le_of_ble_eq_true rfl)
              have e398 : M1 598 73 = v397 := ((w1_5 73 (zne rfl) (zne rfl) (zne rfl)).trans e397)
              have e399 : M392 598 73 = v397 := ((w392_2 73 (zne rfl) (zne rfl)).trans e398)
              obtain ⟨v401, e401⟩ : ∃ z, M 598 74 = z := ⟨_, rfl⟩
              have b401 : 0 ≤ v401 ∧ v401 ≤ 4 := by rw [← e401]; exact hI_M 598 74 (Nat.le_of_ble_eq_true rfl)
              have e402 : M1 598 74 = v401 := ((w1_5 74 (zne rfl) (zne rfl) (zne rfl)).trans e401)
              have e403 : M392 598 74 = v401 := ((w392_2 74 (zne rfl) (zne rfl)).trans e402)
              obtain ⟨v405, e405⟩ : ∃ z, M 598 79 = z := ⟨_, rfl⟩
              have b405 : 0 ≤ v405 ∧ v405 ≤ 255 := by rw [← e405]; exact hI_M 598 79 (Nat.le_of_ble_eq_true rfl)
              have e406 : M1 598 79 = v405 := ((w1_5 79 (zne rfl) (zne rfl) (zne rfl)).trans e405)
              have e407 : M392 598 79 = v405 := ((w392_2 79 (zne rfl) (zne rfl)).trans e406)
              obtain ⟨v409, e409⟩ : ∃ z, M392 598 80 = z := ⟨_, rfl⟩
              have b409 : 0 ≤ v409 ∧ v409 ≤ 7 := by rw [← e409]; exact hI_M392 598 80 (Nat.le_of_ble_eq_true rfl)
              obtain ⟨v411, e411⟩ : ∃ z, M 598 89 = z := ⟨_, rfl⟩
              have b411 : 0 ≤ v411 ∧ v411 ≤ 301 := by rw [← e411]; exact hI_M 598 89 (Nat.le_of_ble_eq_true rfl)
              have e412 : M1 598 89 = v411 := ((w1_5 89 (zne rfl) (zne rfl) (zne rfl)).trans e411)
              have e413 : M392 598 89 = v411 := ((w392_2 89 (zne rfl) (zne rfl)).trans e412)
              obtain ⟨v415, e415⟩ : ∃ z, M1 598 90 = z := ⟨_, rfl⟩
              have b415 : 0 ≤ v415 ∧ v415 ≤ 2200 := by rw [← e415]; exact hI_M1 598 90 (Nat.le_of_ble_eq_true rfl)
              have e416 : M392 598 90 = v415 := ((w392_2 90 (zne rfl) (zne rfl)).trans e415)
              obtain ⟨v418, e418⟩ : ∃ z, M1 598 100 = z := ⟨_, rfl⟩
              have b418 : 0 ≤ v418 ∧ v418 ≤ 13 := by rw [← e418]; exact hI_M1 598 100 (Nat.le_of_ble_eq_true rfl)
              have e419 : M392 598 100 = v418 := ((w392_2 100 (zne rfl) (zne rfl)).trans e418)
              obtain ⟨v421, e421⟩ : ∃ z, M 598 107 = z := ⟨_, rfl⟩
              have b421 : 0 ≤ v421 ∧ v421 ≤ 16 := by rw [← e421]; exact hI_M 598 107 (Nat.le_of_ble_eq_true rfl)
              have e422 : M1 598 107 = v421 := ((w1_5 107 (zne rfl) (zne rfl) (zne rfl)).trans e421)
              have e423 : M392 598 107 = v421 := ((w392_2 107 (zne rfl) (zne rfl)).trans e422)
              refine jr.pick (ls := [_, _, _]) [2, 3, 4] rfl rfl ?_
              exact ko M392 o m hI_M392 hH_M392 hS_M392  (fun a i f598 f659 f660 f664 f665 f666 f667 => ((w392_1 a i f598).trans ((w1_4 a i f598 f659 f660).trans (hF_M a i f598 f659 f660 f664 f665 f666 f667)))) (fun i g73 g74 g75 g76 g77 g78 g79 g80 g81 g89 g90 g100 g102 => ((w392_2 i g80 g81).trans ((w1_5 i g90 g100 g102).trans (hG_M i g73 g74 g75 g76 g77 g78 g79 g80 g81 g89 g90 g100 g102)))) (by omega) (by omega) (by by_cases hf : v409 = 0; (first | (exfalso; omega) | (exact Or.inr (GS.cast (o := 0) ⟨by omega, ES.adj hE (k' := kk) (z' := 0) (by omega) (by omega) (by omega), by omega, by omega, by omega, by omega⟩ (by omega)))); (exact Or.inl ⟨by omega, by omega⟩)) (by omega) (by omega) (by rw [e399, e395] <;> omega) (by omega) (CP.f (CP.trans hCP w1_3) (fun i => w392_1 659 i (nne rfl)) (w392_2 90 (zne rfl) (zne rfl))) (by rw [e413] <;> omega) (by omega)
    · obtain ⟨v427, e427⟩ : ∃ z, M 598 89 = z := ⟨_, rfl⟩
      have b427 : 0 ≤ v427 ∧ v427 ≤ 301 := by rw [← e427]; exact hI_M 598 89 (Nat.le_of_ble_eq_true rfl)
      have e428 : M1 598 89 = v427 := ((w1_5 89 (zne rfl) (zne rfl) (zne rfl)).trans e427)
      exact jr.vreturn rfl rfl (q _ hI_M1 hH_M1 hS_M1  (Or.inr ⟨⟨gs1, ES.xs gs2 (by omega) (by omega), gs3, gs4, gs5, gs6⟩, by omega⟩) (by omega) (by omega) (by omega) (CP.trans hCP w1_3) (by rw [e428] <;> omega) (fun a i f598 f659 f660 f664 f665 f666 f667 => ((w1_4 a i f598 f659 f660).trans (hF_M a i f598 f659 f660 f664 f665 f666 f667))) (fun i g73 g74 g75 g76 g77 g78 g79 g80 g81 g89 g90 g100 g102 => ((w1_5 i g90 g100 g102).trans (hG_M i g73 g74 g75 g76 g77 g78 g79 g80 g81 g89 g90 g100 g102))))
theorem r_exp_L11 {A : Nat → Option (Nat × (Nat → Int32))} {Q : Option Value → jm → Prop} {b kk : Int} {M0 : jm} (q : ∀ (M' : jm), RI M' → RH M' → RF M' → (BS M' ∨ (SS M' (b + 1) kk ∧ TK M' < TK M0)) → TK M' ≤ TK M0 → M' 598 73 ≤ M' 598 72 → (M' 598 80 ≠ 0 ∨ TK M' < TK M0) → CP M0 M' → M0 598 89 ≤ M' 598 89 → (∀ (a : Nat) (i : Int), a ≠ 598 → a ≠ 659 → a ≠ 660 → a ≠ 664 → a ≠ 665 → a ≠ 666 → a ≠ 667 → M' a i = M0 a i) → (∀ (i : Int), i ≠ 73 → i ≠ 74 → i ≠ 75 → i ≠ 76 → i ≠ 77 → i ≠ 78 → i ≠ 79 → i ≠ 80 → i ≠ 81 → i ≠ 89 → i ≠ 90 → i ≠ 100 → i ≠ 102 → M' 598 i = M0 598 i) → Q none M') : ∀ (nM : Nat) (M : jm) (o : Int) (m : Int), RI M → RH M → RF M → (∀ (a : Nat) (i : Int), a ≠ 598 → a ≠ 659 → a ≠ 660 → a ≠ 664 → a ≠ 665 → a ≠ 666 → a ≠ 667 → M a i = M0 a i) → (∀ (i : Int), i ≠ 73 → i ≠ 74 → i ≠ 75 → i ≠ 76 → i ≠ 77 → i ≠ 78 → i ≠ 79 → i ≠ 80 → i ≠ 81 → i ≠ 89 → i ≠ 90 → i ≠ 100 → i ≠ 102 → M 598 i = M0 598 i) → 0 ≤ o ∧ o ≤ 1 → 390 ≤ m ∧ m ≤ 390 → (BS M ∨ GS M b (1 - o) kk) → (TK M < TK M0 ∨ o = 1 ∨ M 598 80 ≠ 0) → TK M ≤ TK M0 → M 598 73 ≤ M 598 72 → 0 ≤ b ∧ b ≤ 4 → CP M0 M → M0 598 89 ≤ M 598 89 → TK M + 1 - min 1 (M 598 80) ≤ nM → jr A 6 xm_364 11 [(2, .int (Int32.ofInt (o))), (1, .int (Int32.ofInt (m))), (0, .ref (598))] [] M Q := by
  intro nM
  induction nM using Nat.strongRecOn with
  | ind nM ih =>
    intro M o m hI_M hH_M hS_M hF_M hG_M h_o h_m hy0 hy1 hy2 hy3 hy4 hy5 hy6 hm
    have hCP := hy5
    refine jr.aload_n rfl rfl ?_
    refine jr_v rfl rfl (Or.inl rfl) rfl rfl (nlt rfl) rfl ⟨rfl, Nat.le_of_ble_eq_true rfl, Nat.le_of_ble_eq_true rfl⟩ rfl (jc.deep (c_good hI_M  (fun t12_0 => ?_) (fun f12_0 => ?_)) (Nat.le_of_ble_eq_true rfl))
    · have gs := hy0.resolve_left (fun z => z.1 t12_0)
      obtain ⟨gs1, gs2, gs3, gs4, gs5, gs6⟩ := id gs
      have hE := gs2
      have sl := ES.sgle gs2
      have kb := ES.kz gs2
      have bM_107 : (0 : Int) ≤ M 598 107 ∧ M 598 107 ≤ 16 := hI_M 598 107 (Nat.le_of_ble_eq_true rfl)
      have bM_73 : (0 : Int) ≤ M 598 73 ∧ M 598 73 ≤ 1600 := hI_M 598 73 (Nat.le_of_ble_eq_true rfl)
      have bM_88 : (0 : Int) ≤ M 598 88 ∧ M 598 88 ≤ 16 := hI_M 598 88 (Nat.le_of_ble_eq_true rfl)
      have bM_100 : (0 : Int) ≤ M 598 100 ∧ M 598 100 ≤ 13 := hI_M 598 100 (Nat.le_of_ble_eq_true rfl)
      have b74 : (0 : Int) ≤ M 598 74 ∧ M 598 74 ≤ 4 := hI_M 598 74 (Nat.le_of_ble_eq_true rfl)
      have tg := TK.ge (M := M) (by omega) (by omega)
      refine jr.if_eq rfl rfl (by first | exact rgl rfl | omega) (fun h => absurd h (by decide)) (fun _ => ?_)
      refine jr.aload_n rfl rfl ?_
      obtain ⟨v1, e1⟩ : ∃ z, M 598 102 = z := ⟨_, rfl⟩
      have b1 : 0 ≤ v1 ∧ v1 ≤ 400 := by rw [← e1]; exact hI_M 598 102 (Nat.le_of_ble_eq_true rfl)
      refine jr.getf (i := 102) (x := v1) (v := .int (Int32.ofInt (v1))) rfl rfl (nlt rfl) rfl (nlt rfl) rfl rfl e1 rfl ?_
      refine jr.iload_n rfl rfl ?_
      refine jr.icmp_ge rfl rfl (by first | (refine rgb (by assumption) ?_; exact rfl) | omega) (by first | (refine rgb (by assumption) ?_; exact rfl) | omega) (fun h => absurd h (by omega)) (fun h23 => ?_)
      refine jr.iload_n rfl rfl ?_
      refine jr.if_eq rfl rfl (by first | (refine rgb (by assumption) ?_; exact rfl) | omega) (fun h27 => ?_) (fun h27 => ?_)
      · refine jr.aload_n rfl rfl ?_
        refine jr.bipush rfl (jbp _ (nlt rfl)) ?_
        refine jr_v rfl rfl (Or.inl rfl) rfl rfl (nlt rfl) rfl ⟨rfl, Nat.le_of_ble_eq_true rfl, Nat.le_of_ble_eq_true rfl⟩ rfl (jc.deep (r_reduce hI_M hH_M hS_M  (by omega) (GS.cast gs (by omega)) (fun M2 hI_M2 hH_M2 hS_M2  w2_0 w2_1 w2_2 w2_3 w2_4 w2_5 => ?_)) (Nat.le_of_ble_eq_true rfl))
        have tk2 : TK M2 = TK M := TK.fr (w2_5 73 (zne rfl) (zne rfl) (zne rfl)) (w2_5 74 (zne rfl) (zne rfl) (zne rfl))
        refine jr.aload_n rfl rfl ?_
        obtain ⟨v4, e4⟩ : ∃ z, M 598 89 = z := ⟨_, rfl⟩
        have b4 : 0 ≤ v4 ∧ v4 ≤ 301 := by rw [← e4]; exact hI_M 598 89 (Nat.le_of_ble_eq_true rfl)
        have e5 : M2 598 89 = v4 := ((w2_5 89 (zne rfl) (zne rfl) (zne rfl)).trans e4)
        refine jr_v rfl rfl (Or.inl rfl) rfl rfl (nlt rfl) rfl ⟨rfl, Nat.le_of_ble_eq_true rfl, Nat.le_of_ble_eq_true rfl⟩ rfl (jc.deep (r_takeSign hI_M2 hH_M2 hS_M2   w2_0 (fun r3 M3 hI_M3 hH_M3 hS_M3  z3 w3_0 w3_1 w3_2 w3_3 w3_4 w3_5 w3_6 w3_7 => ?_)) (Nat.le_of_ble_eq_true rfl))
        refine jr.if_eq rfl rfl (by first | (refine rgb (by assumption) ?_; exact rfl) | omega) (fun h56 => ?_) (fun h56 => ?_)
        · obtain ⟨v6, e6⟩ : ∃ z, M3 598 89 = z := ⟨_, rfl⟩
          have b6 : 0 ≤ v6 ∧ v6 ≤ 301 := by rw [← e6]; exact hI_M3 598 89 (Nat.le_of_ble_eq_true rfl)
          refine jr.pick (ls := [_, _, _]) [0, 1, 2] rfl rfl ?_
          exact r_exp_L64 q (nM - 1) (ih (nM - 1) (by omega)) M3 o m hI_M3 hH_M3 hS_M3  (fun a i f598 f659 f660 f664 f665 f666 f667 => ((w3_6 a i f598 f659 f660 f664 f665 f666 f667).trans ((w2_4 a i f598 f659 f660).trans (hF_M a i f598 f659 f660 f664 f665 f666 f667)))) (fun i g73 g74 g75 g76 g77 g78 g79 g80 g81 g89 g90 g100 g102 => ((w3_7 i g73 g74 g75 g76 g77 g78 g79 g80 g81 g89 g90 g100 g102).trans ((w2_5 i g90 g100 g102).trans (hG_M i g73 g74 g75 g76 g77 g78 g79 g80 g81 g89 g90 g100 g102)))) (by omega) (by omega) (by rcases w3_0 with z | z; (exact z.2); (exfalso; omega)) (by omega) (by omega) (by omega) (by omega) (CP.trans (CP.trans hCP w2_3) w3_4) (by rw [e6] <;> omega)
        · have sx56 : (1 : Int) ≤ r3 := by omega
          clear h56
          refine jr.iconst rfl ?_
          refine jr.istore_n (ls' := [_, _, _]) rfl (nlt rfl) rfl ?_
          refine jr.goto rfl rfl ?_
          obtain ⟨v7, e7⟩ : ∃ z, M3 598 80 = z := ⟨_, rfl⟩
          have b7 : 0 ≤ v7 ∧ v7 ≤ 7 := by rw [← e7]; exact hI_M3 598 80 (Nat.le_of_ble_eq_true rfl)
          obtain ⟨v9, e9⟩ : ∃ z, M3 598 73 = z := ⟨_, rfl⟩
          have b9 : 0 ≤ v9 ∧ v9 ≤ 1600 := by rw [← e9]; exact hI_M3 598 73 (Nat.le_of_ble_eq_true rfl)
          obtain ⟨v10, e10⟩ : ∃ z, M 598 72 = z := ⟨_, rfl⟩
          have b10 : 0 ≤ v10 ∧ v10 ≤ 1600 := by rw [← e10]; exact hI_M 598 72 (Nat.le_of_ble_eq_true rfl)
          have e11 : M2 598 72 = v10 := ((w2_5 72 (zne rfl) (zne rfl) (zne rfl)).trans e10)
          have e12 : M3 598 72 = v10 := ((w3_7 72 (zne rfl) (zne rfl) (zne rfl) (zne rfl) (zne rfl) (zne rfl) (zne rfl) (zne rfl) (zne rfl) (zne rfl) (zne rfl) (zne rfl) (zne rfl)).trans e11)
          obtain ⟨v13, e13⟩ : ∃ z, M3 598 89 = z := ⟨_, rfl⟩
          have b13 : 0 ≤ v13 ∧ v13 ≤ 301 := by rw [← e13]; exact hI_M3 598 89 (Nat.le_of_ble_eq_true rfl)
          refine jr.pick (ls := [_, _, _]) [0, 1, 2] rfl rfl ?_
          exact ih (nM - 1) (by omega) M3 1 m hI_M3 hH_M3 hS_M3  (fun a i f598 f659 f660 f664 f665 f666 f667 => ((w3_6 a i f598 f659 f660 f664 f665 f666 f667).trans ((w2_4 a i f598 f659 f660).trans (hF_M a i f598 f659 f660 f664 f665 f666 f667)))) (fun i g73 g74 g75 g76 g77 g78 g79 g80 g81 g89 g90 g100 g102 => ((w3_7 i g73 g74 g75 g76 g77 g78 g79 g80 g81 g89 g90 g100 g102).trans ((w2_5 i g90 g100 g102).trans (hG_M i g73 g74 g75 g76 g77 g78 g79 g80 g81 g89 g90 g100 g102)))) (by omega) (by omega) (by rcases w3_0 with z | z; (exfalso; omega); exact z.2.imp id (fun y => GS.cast y.1 (by omega))) (by omega) (by omega) (by rw [e9, e12] <;> omega) (by omega) (CP.trans (CP.trans hCP w2_3) w3_4) (by rw [e13] <;> omega) (by omega)
      · have sx27 : (1 : Int) ≤ o := by omega
        clear h27
        refine jr.aload_n rfl rfl ?_
        refine jr_v rfl rfl (Or.inl rfl) rfl rfl (nlt rfl) rfl ⟨rfl, Nat.le_of_ble_eq_true rfl, Nat.le_of_ble_eq_true rfl⟩ rfl (jc.deep (r_takeOperand hI_M hH_M hS_M   (GS.cast gs (by omega)) (fun r15 M15 hI_M15 hH_M15 hS_M15  z15 w15_0 w15_1 w15_2 w15_3 w15_4 w15_5 w15_6 w15_7 => ?_)) (Nat.le_of_ble_eq_true rfl))
        refine jr.if_ne rfl rfl (by first | (refine rgb (by assumption) ?_; exact rfl) | omega) (fun h34 => ?_) (fun h34 => ?_)
        · have sx34 : (1 : Int) ≤ r15 := by omega
          clear h34
          refine jr.iconst rfl ?_
          refine jr.istore_n (ls' := [_, _, _]) rfl (nlt rfl) rfl ?_
          refine jr.goto rfl rfl ?_
          obtain ⟨v16, e16⟩ : ∃ z, M15 598 80 = z := ⟨_, rfl⟩
          have b16 : 0 ≤ v16 ∧ v16 ≤ 7 := by rw [← e16]; exact hI_M15 598 80 (Nat.le_of_ble_eq_true rfl)
          obtain ⟨v18, e18⟩ : ∃ z, M15 598 73 = z := ⟨_, rfl⟩
          have b18 : 0 ≤ v18 ∧ v18 ≤ 1600 := by rw [← e18]; exact hI_M15 598 73 (Nat.le_of_ble_eq_true rfl)
          obtain ⟨v19, e19⟩ : ∃ z, M 598 72 = z := ⟨_, rfl⟩
          have b19 : 0 ≤ v19 ∧ v19 ≤ 1600 := by rw [← e19]; exact hI_M 598 72 (Nat.le_of_ble_eq_true rfl)
          have e20 : M15 598 72 = v19 := ((w15_7 72 (zne rfl) (zne rfl) (zne rfl) (zne rfl) (zne rfl) (zne rfl) (zne rfl) (zne rfl) (zne rfl) (zne rfl) (zne rfl) (zne rfl) (zne rfl)).trans e19)
          obtain ⟨v21, e21⟩ : ∃ z, M15 598 89 = z := ⟨_, rfl⟩
          have b21 : 0 ≤ v21 ∧ v21 ≤ 301 := by rw [← e21]; exact hI_M15 598 89 (Nat.le_of_ble_eq_true rfl)
          refine jr.pick (ls := [_, _, _]) [0, 1, 2] rfl rfl ?_
          exact ih (nM - 1) (by omega) M15 0 m hI_M15 hH_M15 hS_M15  (fun a i f598 f659 f660 f664 f665 f666 f667 => ((w15_6 a i f598 f659 f660 f664 f666 f667).trans (hF_M a i f598 f659 f660 f664 f665 f666 f667))) (fun i g73 g74 g75 g76 g77 g78 g79 g80 g81 g89 g90 g100 g102 => ((w15_7 i g73 g74 g75 g76 g77 g78 g79 g80 g81 g89 g90 g100 g102).trans (hG_M i g73 g74 g75 g76 g77 g78 g79 g80 g81 g89 g90 g100 g102))) (by omega) (by omega) (w15_0.imp id (fun z => GS.cast z.1 (by omega))) (by omega) (by omega) (by rw [e18, e20] <;> omega) (by omega) (CP.trans hCP w15_4) (by rw [e21] <;> omega) (by omega)
        · refine jr.iconst rfl ?_
          refine jr.goto rfl rfl ?_
          refine jr.istore_n (ls' := [_, _, _]) rfl (nlt rfl) rfl ?_
          refine jr.goto rfl rfl ?_
          obtain ⟨v23, e23⟩ : ∃ z, M15 598 80 = z := ⟨_, rfl⟩
          have b23 : 0 ≤ v23 ∧ v23 ≤ 7 := by rw [← e23]; exact hI_M15 598 80 (Nat.le_of_ble_eq_true rfl)
          obtain ⟨v25, e25⟩ : ∃ z, M15 598 73 = z := ⟨_, rfl⟩
          have b25 : 0 ≤ v25 ∧ v25 ≤ 1600 := by rw [← e25]; exact hI_M15 598 73 (Nat.le_of_ble_eq_true rfl)
          obtain ⟨v26, e26⟩ : ∃ z, M 598 72 = z := ⟨_, rfl⟩
          have b26 : 0 ≤ v26 ∧ v26 ≤ 1600 := by rw [← e26]; exact hI_M 598 72 (Nat.le_of_ble_eq_true rfl)
          have e27 : M15 598 72 = v26 := ((w15_7 72 (zne rfl) (zne rfl) (zne rfl) (zne rfl) (zne rfl) (zne rfl) (zne rfl) (zne rfl) (zne rfl) (zne rfl) (zne rfl) (zne rfl) (zne rfl)).trans e26)
          obtain ⟨v28, e28⟩ : ∃ z, M15 598 89 = z := ⟨_, rfl⟩
          have b28 : 0 ≤ v28 ∧ v28 ≤ 301 := by rw [← e28]; exact hI_M15 598 89 (Nat.le_of_ble_eq_true rfl)
          refine jr.pick (ls := [_, _, _]) [0, 1, 2] rfl rfl ?_
          exact ih (nM - 1) (by omega) M15 1 m hI_M15 hH_M15 hS_M15  (fun a i f598 f659 f660 f664 f665 f666 f667 => ((w15_6 a i f598 f659 f660 f664 f666 f667).trans (hF_M a i f598 f659 f660 f664 f665 f666 f667))) (fun i g73 g74 g75 g76 g77 g78 g79 g80 g81 g89 g90 g100 g102 => ((w15_7 i g73 g74 g75 g76 g77 g78 g79 g80 g81 g89 g90 g100 g102).trans (hG_M i g73 g74 g75 g76 g77 g78 g79 g80 g81 g89 g90 g100 g102))) (by omega) (by omega) (w15_0.imp id (fun z => GS.cast z.1 (by omega))) (by omega) (by omega) (by rw [e25, e27] <;> omega) (by omega) (CP.trans hCP w15_4) (by rw [e28] <;> omega) (by omega)
    · refine jr.if_eq rfl rfl (by first | exact rgl rfl | omega) (fun _ => ?_) (fun h => absurd (by decide) h)
      exact jr.vreturn rfl rfl (q _ hI_M hH_M hS_M  (Or.inl (hy0.resolve_right (fun z => f12_0 z.1))) (by omega) (by omega) (by omega) hCP (by omega) (fun a i f598 f659 f660 f664 f665 f666 f667 => (hF_M a i f598 f659 f660 f664 f665 f666 f667)) (fun i g73 g74 g75 g76 g77 g78 g79 g80 g81 g89 g90 g100 g102 => (hG_M i g73 g74 g75 g76 g77 g78 g79 g80 g81 g89 g90 g100 g102)))
theorem r_exp {A : Nat → Option (Nat × (Nat → Int32))} {Q : Option Value → jm → Prop} {b kk : Int} {M : jm} (hI_M : RI M) (hH_M : RH M) (hS_M : RF M) (p0 : SS M b kk) (p1 : 0 ≤ b ∧ b ≤ 4) (q : ∀ (M' : jm), RI M' → RH M' → RF M' → (BS M' ∨ (SS M' (b + 1) kk ∧ TK M' < TK M)) → TK M' ≤ TK M → M' 598 73 ≤ M' 598 72 → (M' 598 80 ≠ 0 ∨ TK M' < TK M) → CP M M' → M 598 89 ≤ M' 598 89 → (∀ (a : Nat) (i : Int), a ≠ 598 → a ≠ 659 → a ≠ 660 → a ≠ 664 → a ≠ 665 → a ≠ 666 → a ≠ 667 → M' a i = M a i) → (∀ (i : Int), i ≠ 73 → i ≠ 74 → i ≠ 75 → i ≠ 76 → i ≠ 77 → i ≠ 78 → i ≠ 79 → i ≠ 80 → i ≠ 81 → i ≠ 89 → i ≠ 90 → i ≠ 100 → i ≠ 102 → M' 598 i = M 598 i) → Q none M') : jc A 7 364 [.ref (598)] M Q := by
  obtain ⟨ss1, ss2, ss3, ss4, ss5, ss6⟩ := id p0
  have b73 : (0 : Int) ≤ M 598 73 ∧ M 598 73 ≤ 1600 := hI_M 598 73 (Nat.le_of_ble_eq_true rfl)
  have sl := XS.sgle ss2
  have kb := XS.kz ss2
  have b88 : (0 : Int) ≤ M 598 88 ∧ M 598 88 ≤ 16 := hI_M 598 88 (Nat.le_of_ble_eq_true rfl)
  refine jc_of (m := xm_364) rfl (Nat.le_of_ble_eq_true rfl) rfl ?_
  refine jr.sipush rfl (by decide) ?_
  refine jr.istore_n (ls' := [_, _]) rfl (nlt rfl) rfl ?_
  refine jr.aload_n rfl rfl ?_
  refine jr.iconst rfl ?_
  refine jr.putf (i := 102) (x := 0) rfl rfl (nlt rfl) rfl (nlt rfl) rfl rfl rfl rfl rfl ?_
  refine jr.iconst rfl ?_
  refine jr.istore_n (ls' := [_, _, _]) rfl (nlt rfl) rfl ?_
  obtain ⟨v1, e1⟩ : ∃ z, M 598 72 = z := ⟨_, rfl⟩
  have b1 : 0 ≤ v1 ∧ v1 ≤ 1600 := by rw [← e1]; exact hI_M 598 72 (Nat.le_of_ble_eq_true rfl)
  have y2 : (ju M 598 102 0) 598 72 = v1 := ((ju_i _ _ (zne (by decide))).trans e1)
  obtain ⟨v3, e3⟩ : ∃ z, M 598 73 = z := ⟨_, rfl⟩
  have b3 : 0 ≤ v3 ∧ v3 ≤ 1600 := by rw [← e3]; exact hI_M 598 73 (Nat.le_of_ble_eq_true rfl)
  have y4 : (ju M 598 102 0) 598 73 = v3 := ((ju_i _ _ (zne (by decide))).trans e3)
  obtain ⟨v5, e5⟩ : ∃ z, M 598 74 = z := ⟨_, rfl⟩
  have b5 : 0 ≤ v5 ∧ v5 ≤ 4 := by rw [← e5]; exact hI_M 598 74 (Nat.le_of_ble_eq_true rfl)
  have y6 : (ju M 598 102 0) 598 74 = v5 := ((ju_i _ _ (zne (by decide))).trans e5)
  obtain ⟨v7, e7⟩ : ∃ z, M 598 79 = z := ⟨_, rfl⟩
  have b7 : 0 ≤ v7 ∧ v7 ≤ 255 := by rw [← e7]; exact hI_M 598 79 (Nat.le_of_ble_eq_true rfl)
  have y8 : (ju M 598 102 0) 598 79 = v7 := ((ju_i _ _ (zne (by decide))).trans e7)
  obtain ⟨v9, e9⟩ : ∃ z, M 598 80 = z := ⟨_, rfl⟩
  have b9 : 0 ≤ v9 ∧ v9 ≤ 7 := by rw [← e9]; exact hI_M 598 80 (Nat.le_of_ble_eq_true rfl)
  have y10 : (ju M 598 102 0) 598 80 = v9 := ((ju_i _ _ (zne (by decide))).trans e9)
  obtain ⟨v11, e11⟩ : ∃ z, M 598 89 = z := ⟨_, rfl⟩
  have b11 : 0 ≤ v11 ∧ v11 ≤ 301 := by rw [← e11]; exact hI_M 598 89 (Nat.le_of_ble_eq_true rfl)
  have y12 : (ju M 598 102 0) 598 89 = v11 := ((ju_i _ _ (zne (by decide))).trans e11)
  obtain ⟨v13, e13⟩ : ∃ z, M 598 90 = z := ⟨_, rfl⟩
  have b13 : 0 ≤ v13 ∧ v13 ≤ 2200 := by rw [← e13]; exact hI_M 598 90 (Nat.le_of_ble_eq_true rfl)
  have y14 : (ju M 598 102 0) 598 90 = v13 := ((ju_i _ _ (zne (by decide))).trans e13)
  obtain ⟨v15, e15⟩ : ∃ z, M 598 100 = z := ⟨_, rfl⟩
  have b15 : 0 ≤ v15 ∧ v15 ≤ 13 := by rw [← e15]; exact hI_M 598 100 (Nat.le_of_ble_eq_true rfl)
  have y16 : (ju M 598 102 0) 598 100 = v15 := ((ju_i _ _ (zne (by decide))).trans e15)
  obtain ⟨v17, e17⟩ : ∃ z, M 598 107 = z := ⟨_, rfl⟩
  have b17 : 0 ≤ v17 ∧ v17 ≤ 16 := by rw [← e17]; exact hI_M 598 107 (Nat.le_of_ble_eq_true rfl)
  have y18 : (ju M 598 102 0) 598 107 = v17 := ((ju_i _ _ (zne (by decide))).trans e17)
  have y19 : TK (ju M 598 102 0) = TK M := ((TK.o (Or.inr ⟨by decide, by decide⟩)).trans rfl)
  have y20 : (ju M 598 102 0) 598 80 = v9 := ((ju_i _ _ (zne (by decide))).trans e9)
  have y21 : TK (ju M 598 102 0) = TK M := ((TK.o (Or.inr ⟨by decide, by decide⟩)).trans rfl)
  refine jr.pick (ls := [_, _, _]) [0, 1, 2] rfl rfl ?_
  exact r_exp_L11 q 3203 (ju M 598 102 0) 1 390 (RI.u hI_M (a := 598) (i := 102) (show (0 : Int) ≤ _ ∧ _ ≤ (400 : Int) from by omega)) (RH.o hH_M (by decide) (by decide) (by decide)) (RF.o hS_M (by decide) (by decide))  (fun a i f598 f659 f660 f664 f665 f666 f667 => ((ju_c _ _ f598).trans rfl)) (fun i g73 g74 g75 g76 g77 g78 g79 g80 g81 g89 g90 g100 g102 => ((ju_i _ _ g102).trans rfl)) (by omega) (by omega) (Or.inr (GS.cast (o := 0) ⟨by omega, ss2, by omega, by omega, by omega, by omega⟩ (by omega))) (by omega) (by omega) (by rw [((ju_i _ _ (zne (by decide))).trans e3), ((ju_i _ _ (zne (by decide))).trans e1)] <;> omega) (by omega) (CP.o (CP.rfl _) (by decide) (Or.inr (by decide))) (by rw [((ju_i _ _ (zne (by decide))).trans e11)] <;> omega) (by have t := TK.le (M := ju M 598 102 0) (by rw [ju_i _ _ (zne (by decide))]; omega); omega)
