theorem r_deed {A : Nat → Option (Nat × (Nat → Int32))} {Q : Option Value → jm → Prop} {M : jm} (hI_M : RI M) (hH_M : RH M) (hS_M : RF M) (p0 : DS M 0) (p1 : 1 ≤ M 598 107) (p2 : 1 ≤ M 598 88) (q : ∀ (M' : jm), RI M' → RH M' → RF M' → (BT M' ∨ (DS M' 0 ∧ TK M' < TK M)) → TK M' ≤ TK M → M' 598 73 ≤ M' 598 72 → (M' 598 80 ≠ 0 ∨ TK M' < TK M) → M 598 107 ≤ M' 598 107 → (∀ (a : Nat) (i : Int), a ≠ 598 → a ≠ 659 → a ≠ 660 → a ≠ 661 → a ≠ 662 → a ≠ 663 → a ≠ 664 → a ≠ 665 → a ≠ 666 → a ≠ 667 → a ≠ 668 → a ≠ 669 → M' a i = M a i) → (∀ (i : Int), i ≠ 73 → i ≠ 74 → i ≠ 75 → i ≠ 76 → i ≠ 77 → i ≠ 78 → i ≠ 79 → i ≠ 80 → i ≠ 81 → i ≠ 89 → i ≠ 90 → i ≠ 96 → i ≠ 100 → i ≠ 102 → i ≠ 107 → M' 598 i = M 598 i) → Q none M') : jc A 8 367 [.ref (598)] M Q := by
  obtain ⟨ds1, ds2, ds3, ds4, ds5, ds6, ds7, ds8, ds9⟩ := id p0
  have hX := ds2
  have hA := ds8
  have dpx := XS.dep ds2
  have sl := XS.sgle ds2
  have bM_107 : (0 : Int) ≤ M 598 107 ∧ M 598 107 ≤ 16 := hI_M 598 107 (by decide)
  have bM_73 : (0 : Int) ≤ M 598 73 ∧ M 598 73 ≤ 1600 := hI_M 598 73 (by decide)
  have bM_88 : (0 : Int) ≤ M 598 88 ∧ M 598 88 ≤ 16 := hI_M 598 88 (by decide)
  have bM_100 : (0 : Int) ≤ M 598 100 ∧ M 598 100 ≤ 13 := hI_M 598 100 (by decide)
  refine jc_of (m := xm_367) rfl (Nat.le_of_ble_eq_true rfl) rfl ?_
  refine jr.aload_n rfl rfl ?_
  obtain ⟨v1, e1⟩ : ∃ z, M 598 76 = z := ⟨_, rfl⟩
  have b1 : (-1) ≤ v1 ∧ v1 ≤ 68 := by rw [← e1]; exact hI_M 598 76 (by decide)
  refine jr.getf (i := 76) (x := v1) (v := .int (Int32.ofInt (v1))) rfl rfl (by decide) rfl (by decide) rfl rfl e1 rfl ?_
  refine jr.istore_n (ls' := [_, _]) rfl (by decide) rfl ?_
  refine jr.aload_n rfl rfl ?_
  refine jr.iconst rfl ?_
  refine jr_v rfl rfl (Or.inl rfl) rfl rfl (by decide) rfl ⟨rfl, Nat.le_of_ble_eq_true rfl, Nat.le_of_ble_eq_true rfl⟩ rfl (jc.deep (c_isWord hI_M (by omega) (fun t7_0 t7_1 => ?_) (fun f7_0 => ?_)) (by decide))
  · refine jr.if_ne rfl rfl (by omega) (fun _ => ?_) (fun h => absurd (by decide) h)
    refine jr.iconst rfl ?_
    refine jr.goto rfl rfl ?_
    refine jr.istore_n (ls' := [_, _, _]) rfl (by decide) rfl ?_
    refine jr.iload_n rfl rfl ?_
    refine jr.if_ne rfl rfl (by omega) (fun _ => ?_) (fun h => absurd (by decide) h)
    refine jr.aload_n rfl rfl ?_
    obtain ⟨v3, e3⟩ : ∃ z, M 598 89 = z := ⟨_, rfl⟩
    have b3 : 0 ≤ v3 ∧ v3 ≤ 301 := by rw [← e3]; exact hI_M 598 89 (by decide)
    obtain ⟨v4, e4⟩ : ∃ z, M 598 73 = z := ⟨_, rfl⟩
    have b4 : 0 ≤ v4 ∧ v4 ≤ 1600 := by rw [← e4]; exact hI_M 598 73 (by decide)
    obtain ⟨v6, e6⟩ : ∃ z, M 598 74 = z := ⟨_, rfl⟩
    have b6 : 0 ≤ v6 ∧ v6 ≤ 4 := by rw [← e6]; exact hI_M 598 74 (by decide)
    obtain ⟨v9, e9⟩ : ∃ z, M 598 100 = z := ⟨_, rfl⟩
    have b9 : 0 ≤ v9 ∧ v9 ≤ 13 := by rw [← e9]; exact hI_M 598 100 (by decide)
    refine jr_v rfl rfl (Or.inl rfl) rfl rfl (by decide) rfl ⟨rfl, Nat.le_of_ble_eq_true rfl, Nat.le_of_ble_eq_true rfl⟩ rfl (jc.deep (r_node hI_M hH_M hS_M   (by rw [e3]; omega) (fun M2 hI_M2 hH_M2 hS_M2  w2_0 w2_1 w2_2 w2_3 w2_4 w2_5 => ?_)) (by decide))
    have tk2 : TK M2 = TK M := TK.fr (w2_5 73 (by decide) (by decide) (by decide)) (w2_5 74 (by decide) (by decide) (by decide))
    have y5 : M 598 73 = v4 := e4
    have y7 : M 598 74 = v6 := e6
    have y8 : M 598 89 = v3 := e3
    have y10 : M 598 100 = v9 := e9
    have x2_73 := w2_5 73 (by decide) (by decide) (by decide)
    have x2_74 := w2_5 74 (by decide) (by decide) (by decide)
    have x2_100 := w2_5 100 (by decide) (by decide) (by decide)
    have hX := XS.fr2 hX w2_4 (w2_5 88 (by decide) (by decide) (by decide)) (w2_5 90 (by decide) (by decide) (by decide)) (w2_5 101 (by decide) (by decide) (by decide)) (w2_5 107 (by decide) (by decide) (by decide)) (k' := 2 + 2 + 2) (d' := 0) (z' := 0) (by omega) (by omega) (by omega) (by omega)
    have hA := AK.cp hA (CP.f (CP.rfl _) (fun i => w2_4 659 i (by decide)) (w2_5 90 (by decide) (by decide) (by decide))) (fun i => w2_4 663 i (by decide)) (w2_5 96 (by decide) (by decide) (by decide))
    refine jr.aload_n rfl rfl ?_
    refine jr_v rfl rfl (Or.inl rfl) rfl rfl (by decide) rfl ⟨rfl, Nat.le_of_ble_eq_true rfl, Nat.le_of_ble_eq_true rfl⟩ rfl (jc.deep (c_good hI_M2  (fun t56_0 => ?_) (fun f56_0 => ?_)) (by decide))
    · have w2_1r := Classical.byContradiction (fun z => w2_1 z t56_0)
      have w2_2r := w2_2 t56_0
      clear w2_1 w2_2 w2_3
      refine jr.if_ne rfl rfl (by omega) (fun _ => ?_) (fun h => absurd (by decide) h)
      obtain ⟨v11, e11⟩ : ∃ z, M2 598 80 = z := ⟨_, rfl⟩
      have b11 : 0 ≤ v11 ∧ v11 ≤ 7 := by rw [← e11]; exact hI_M2 598 80 (by decide)
      obtain ⟨v12, e12⟩ : ∃ z, M 598 96 = z := ⟨_, rfl⟩
      have b12 : 0 ≤ v12 ∧ v12 ≤ 300 := by rw [← e12]; exact hI_M 598 96 (by decide)
      have e13 : M2 598 96 = v12 := ((w2_5 96 (by decide) (by decide) (by decide)).trans e12)
      obtain ⟨v14, e14⟩ : ∃ z, M2 598 89 = z := ⟨_, rfl⟩
      have b14 : 0 ≤ v14 ∧ v14 ≤ 301 := by rw [← e14]; exact hI_M2 598 89 (by decide)
      have e15 : M2 598 100 = v9 := ((w2_5 100 (by decide) (by decide) (by decide)).trans e9)
      have e16 : M2 598 73 = v4 := ((w2_5 73 (by decide) (by decide) (by decide)).trans e4)
      obtain ⟨v17, e17⟩ : ∃ z, M 598 72 = z := ⟨_, rfl⟩
      have b17 : 0 ≤ v17 ∧ v17 ≤ 1600 := by rw [← e17]; exact hI_M 598 72 (by decide)
      have e18 : M2 598 72 = v17 := ((w2_5 72 (by decide) (by decide) (by decide)).trans e17)
      obtain ⟨v19, e19⟩ : ∃ z, M 598 107 = z := ⟨_, rfl⟩
      have b19 : 0 ≤ v19 ∧ v19 ≤ 16 := by rw [← e19]; exact hI_M 598 107 (by decide)
      have e20 : M2 598 107 = v19 := ((w2_5 107 (by decide) (by decide) (by decide)).trans e19)
      obtain ⟨v21, e21⟩ : ∃ z, M 598 88 = z := ⟨_, rfl⟩
      have b21 : 0 ≤ v21 ∧ v21 ≤ 16 := by rw [← e21]; exact hI_M 598 88 (by decide)
      have e22 : M2 598 88 = v21 := ((w2_5 88 (by decide) (by decide) (by decide)).trans e21)
      have e23 : M2 598 74 = v6 := ((w2_5 74 (by decide) (by decide) (by decide)).trans e6)
      obtain ⟨v24, e24⟩ : ∃ z, M 598 79 = z := ⟨_, rfl⟩
      have b24 : 0 ≤ v24 ∧ v24 ≤ 255 := by rw [← e24]; exact hI_M 598 79 (by decide)
      have e25 : M2 598 79 = v24 := ((w2_5 79 (by decide) (by decide) (by decide)).trans e24)
      refine jr.pick (ls := [_, _]) [1, 2] rfl rfl ?_
      exact r_deed_L63 q M2 v1 hI_M2 hH_M2 hS_M2  (fun a i f598 f659 f660 f661 f662 f663 f664 f665 f666 f667 f668 f669 => ((w2_4 a i f598).trans rfl)) (fun i g73 g74 g75 g76 g77 g78 g79 g80 g81 g89 g90 g96 g100 g102 g107 => ((w2_5 i g80 g81 g89).trans rfl)) (by omega) hX hA (by rw [e11] <;> omega) (by rw [e13, e14] <;> omega) (by rw [e15] <;> omega) (by rw [e16, e18] <;> omega) (by rw [e20] <;> omega) (by rw [e22] <;> omega) (by rw [e23, e25] <;> omega) (by omega) (by rw [e23] <;> omega) (by omega)
    · refine jr.if_ne rfl rfl (by omega) (fun h => absurd h (by decide)) (fun _ => ?_)
      obtain ⟨v26, e26⟩ : ∃ z, M 598 72 = z := ⟨_, rfl⟩
      have b26 : 0 ≤ v26 ∧ v26 ≤ 1600 := by rw [← e26]; exact hI_M 598 72 (by decide)
      have e27 : M2 598 72 = v26 := ((w2_5 72 (by decide) (by decide) (by decide)).trans e26)
      have y28 : M2 598 72 = v26 := e27
      have e29 : M2 598 73 = v4 := ((w2_5 73 (by decide) (by decide) (by decide)).trans e4)
      have y30 : M2 598 73 = v4 := e29
      have e31 : M2 598 74 = v6 := ((w2_5 74 (by decide) (by decide) (by decide)).trans e6)
      have y32 : M2 598 74 = v6 := e31
      obtain ⟨v33, e33⟩ : ∃ z, M 598 79 = z := ⟨_, rfl⟩
      have b33 : 0 ≤ v33 ∧ v33 ≤ 255 := by rw [← e33]; exact hI_M 598 79 (by decide)
      have e34 : M2 598 79 = v33 := ((w2_5 79 (by decide) (by decide) (by decide)).trans e33)
      have y35 : M2 598 79 = v33 := e34
      obtain ⟨v36, e36⟩ : ∃ z, M2 598 80 = z := ⟨_, rfl⟩
      have b36 : 0 ≤ v36 ∧ v36 ≤ 7 := by rw [← e36]; exact hI_M2 598 80 (by decide)
      have y37 : M2 598 80 = v36 := e36
      obtain ⟨v38, e38⟩ : ∃ z, M2 598 89 = z := ⟨_, rfl⟩
      have b38 : 0 ≤ v38 ∧ v38 ≤ 301 := by rw [← e38]; exact hI_M2 598 89 (by decide)
      have y39 : M2 598 89 = v38 := e38
      obtain ⟨v40, e40⟩ : ∃ z, M 598 90 = z := ⟨_, rfl⟩
      have b40 : 0 ≤ v40 ∧ v40 ≤ 2200 := by rw [← e40]; exact hI_M 598 90 (by decide)
      have e41 : M2 598 90 = v40 := ((w2_5 90 (by decide) (by decide) (by decide)).trans e40)
      have y42 : M2 598 90 = v40 := e41
      obtain ⟨v43, e43⟩ : ∃ z, M 598 96 = z := ⟨_, rfl⟩
      have b43 : 0 ≤ v43 ∧ v43 ≤ 300 := by rw [← e43]; exact hI_M 598 96 (by decide)
      have e44 : M2 598 96 = v43 := ((w2_5 96 (by decide) (by decide) (by decide)).trans e43)
      have y45 : M2 598 96 = v43 := e44
      have e46 : M2 598 100 = v9 := ((w2_5 100 (by decide) (by decide) (by decide)).trans e9)
      have y47 : M2 598 100 = v9 := e46
      obtain ⟨v48, e48⟩ : ∃ z, M 598 107 = z := ⟨_, rfl⟩
      have b48 : 0 ≤ v48 ∧ v48 ≤ 16 := by rw [← e48]; exact hI_M 598 107 (by decide)
      have e49 : M2 598 107 = v48 := ((w2_5 107 (by decide) (by decide) (by decide)).trans e48)
      have y50 : M2 598 107 = v48 := e49
      exact jr.vreturn rfl rfl (q _ hI_M2 hH_M2 hS_M2  (Or.inl ⟨by omega, by omega⟩) (by omega) (by omega) (by omega) (by omega) (fun a i f598 f659 f660 f661 f662 f663 f664 f665 f666 f667 f668 f669 => ((w2_4 a i f598).trans rfl)) (fun i g73 g74 g75 g76 g77 g78 g79 g80 g81 g89 g90 g96 g100 g102 g107 => ((w2_5 i g80 g81 g89).trans rfl)))
  · refine jr.if_ne rfl rfl (by omega) (fun h => absurd h (by decide)) (fun _ => ?_)
    refine jr.aload_n rfl rfl ?_
    refine jr.iconst rfl ?_
    refine jr.bipush rfl (by decide) ?_
    refine jr_v rfl rfl (Or.inl rfl) rfl rfl (by decide) rfl ⟨rfl, Nat.le_of_ble_eq_true rfl, Nat.le_of_ble_eq_true rfl⟩ rfl (jc.deep (c_isWordIn hI_M (by omega) (by omega) (fun t17_0 t17_1 t17_2 => ?_) (fun f17_0 => ?_)) (by decide))
    · refine jr.if_eq rfl rfl (by omega) (fun h => absurd h (by decide)) (fun _ => ?_)
      refine jr.aload_n rfl rfl ?_
      obtain ⟨v51, e51⟩ : ∃ z, M 598 101 = z := ⟨_, rfl⟩
      have b51 : 0 ≤ v51 ∧ v51 ≤ 1 := by rw [← e51]; exact hI_M 598 101 (by decide)
      refine jr.getf (i := 101) (x := v51) (v := .int (Int32.ofInt (v51))) rfl rfl (by decide) rfl (by decide) rfl rfl e51 rfl ?_
      refine jr.if_eq rfl rfl (by omega) (fun h27 => ?_) (fun h27 => ?_)
      · refine jr.iconst rfl ?_
        refine jr.goto rfl rfl ?_
        refine jr.istore_n (ls' := [_, _, _]) rfl (by decide) rfl ?_
        refine jr.iload_n rfl rfl ?_
        refine jr.if_ne rfl rfl (by omega) (fun _ => ?_) (fun h => absurd (by decide) h)
        refine jr.aload_n rfl rfl ?_
        obtain ⟨v53, e53⟩ : ∃ z, M 598 89 = z := ⟨_, rfl⟩
        have b53 : 0 ≤ v53 ∧ v53 ≤ 301 := by rw [← e53]; exact hI_M 598 89 (by decide)
        obtain ⟨v54, e54⟩ : ∃ z, M 598 73 = z := ⟨_, rfl⟩
        have b54 : 0 ≤ v54 ∧ v54 ≤ 1600 := by rw [← e54]; exact hI_M 598 73 (by decide)
        obtain ⟨v56, e56⟩ : ∃ z, M 598 74 = z := ⟨_, rfl⟩
        have b56 : 0 ≤ v56 ∧ v56 ≤ 4 := by rw [← e56]; exact hI_M 598 74 (by decide)
        obtain ⟨v59, e59⟩ : ∃ z, M 598 100 = z := ⟨_, rfl⟩
        have b59 : 0 ≤ v59 ∧ v59 ≤ 13 := by rw [← e59]; exact hI_M 598 100 (by decide)
        refine jr_v rfl rfl (Or.inl rfl) rfl rfl (by decide) rfl ⟨rfl, Nat.le_of_ble_eq_true rfl, Nat.le_of_ble_eq_true rfl⟩ rfl (jc.deep (r_node hI_M hH_M hS_M   (by rw [e53]; omega) (fun M52 hI_M52 hH_M52 hS_M52  w52_0 w52_1 w52_2 w52_3 w52_4 w52_5 => ?_)) (by decide))
        have tk52 : TK M52 = TK M := TK.fr (w52_5 73 (by decide) (by decide) (by decide)) (w52_5 74 (by decide) (by decide) (by decide))
        have y55 : M 598 73 = v54 := e54
        have y57 : M 598 74 = v56 := e56
        have y58 : M 598 89 = v53 := e53
        have y60 : M 598 100 = v59 := e59
        have x52_73 := w52_5 73 (by decide) (by decide) (by decide)
        have x52_74 := w52_5 74 (by decide) (by decide) (by decide)
        have x52_100 := w52_5 100 (by decide) (by decide) (by decide)
        have hX := XS.fr2 hX w52_4 (w52_5 88 (by decide) (by decide) (by decide)) (w52_5 90 (by decide) (by decide) (by decide)) (w52_5 101 (by decide) (by decide) (by decide)) (w52_5 107 (by decide) (by decide) (by decide)) (k' := 2 + 2 + 2) (d' := 0) (z' := 0) (by omega) (by omega) (by omega) (by omega)
        have hA := AK.cp hA (CP.f (CP.rfl _) (fun i => w52_4 659 i (by decide)) (w52_5 90 (by decide) (by decide) (by decide))) (fun i => w52_4 663 i (by decide)) (w52_5 96 (by decide) (by decide) (by decide))
        refine jr.aload_n rfl rfl ?_
        refine jr_v rfl rfl (Or.inl rfl) rfl rfl (by decide) rfl ⟨rfl, Nat.le_of_ble_eq_true rfl, Nat.le_of_ble_eq_true rfl⟩ rfl (jc.deep (c_good hI_M52  (fun t56_0 => ?_) (fun f56_0 => ?_)) (by decide))
        · have w52_1r := Classical.byContradiction (fun z => w52_1 z t56_0)
          have w52_2r := w52_2 t56_0
          clear w52_1 w52_2 w52_3
          refine jr.if_ne rfl rfl (by omega) (fun _ => ?_) (fun h => absurd (by decide) h)
          obtain ⟨v61, e61⟩ : ∃ z, M52 598 80 = z := ⟨_, rfl⟩
          have b61 : 0 ≤ v61 ∧ v61 ≤ 7 := by rw [← e61]; exact hI_M52 598 80 (by decide)
          obtain ⟨v62, e62⟩ : ∃ z, M 598 96 = z := ⟨_, rfl⟩
          have b62 : 0 ≤ v62 ∧ v62 ≤ 300 := by rw [← e62]; exact hI_M 598 96 (by decide)
          have e63 : M52 598 96 = v62 := ((w52_5 96 (by decide) (by decide) (by decide)).trans e62)
          obtain ⟨v64, e64⟩ : ∃ z, M52 598 89 = z := ⟨_, rfl⟩
          have b64 : 0 ≤ v64 ∧ v64 ≤ 301 := by rw [← e64]; exact hI_M52 598 89 (by decide)
          have e65 : M52 598 100 = v59 := ((w52_5 100 (by decide) (by decide) (by decide)).trans e59)
          have e66 : M52 598 73 = v54 := ((w52_5 73 (by decide) (by decide) (by decide)).trans e54)
          obtain ⟨v67, e67⟩ : ∃ z, M 598 72 = z := ⟨_, rfl⟩
          have b67 : 0 ≤ v67 ∧ v67 ≤ 1600 := by rw [← e67]; exact hI_M 598 72 (by decide)
          have e68 : M52 598 72 = v67 := ((w52_5 72 (by decide) (by decide) (by decide)).trans e67)
          obtain ⟨v69, e69⟩ : ∃ z, M 598 107 = z := ⟨_, rfl⟩
          have b69 : 0 ≤ v69 ∧ v69 ≤ 16 := by rw [← e69]; exact hI_M 598 107 (by decide)
          have e70 : M52 598 107 = v69 := ((w52_5 107 (by decide) (by decide) (by decide)).trans e69)
          obtain ⟨v71, e71⟩ : ∃ z, M 598 88 = z := ⟨_, rfl⟩
          have b71 : 0 ≤ v71 ∧ v71 ≤ 16 := by rw [← e71]; exact hI_M 598 88 (by decide)
          have e72 : M52 598 88 = v71 := ((w52_5 88 (by decide) (by decide) (by decide)).trans e71)
          have e73 : M52 598 74 = v56 := ((w52_5 74 (by decide) (by decide) (by decide)).trans e56)
          obtain ⟨v74, e74⟩ : ∃ z, M 598 79 = z := ⟨_, rfl⟩
          have b74 : 0 ≤ v74 ∧ v74 ≤ 255 := by rw [← e74]; exact hI_M 598 79 (by decide)
          have e75 : M52 598 79 = v74 := ((w52_5 79 (by decide) (by decide) (by decide)).trans e74)
          refine jr.pick (ls := [_, _]) [1, 2] rfl rfl ?_
          exact r_deed_L63 q M52 v1 hI_M52 hH_M52 hS_M52  (fun a i f598 f659 f660 f661 f662 f663 f664 f665 f666 f667 f668 f669 => ((w52_4 a i f598).trans rfl)) (fun i g73 g74 g75 g76 g77 g78 g79 g80 g81 g89 g90 g96 g100 g102 g107 => ((w52_5 i g80 g81 g89).trans rfl)) (by omega) hX hA (by rw [e61] <;> omega) (by rw [e63, e64] <;> omega) (by rw [e65] <;> omega) (by rw [e66, e68] <;> omega) (by rw [e70] <;> omega) (by rw [e72] <;> omega) (by rw [e73, e75] <;> omega) (by omega) (by rw [e73] <;> omega) (by omega)
        · refine jr.if_ne rfl rfl (by omega) (fun h => absurd h (by decide)) (fun _ => ?_)
          obtain ⟨v76, e76⟩ : ∃ z, M 598 72 = z := ⟨_, rfl⟩
          have b76 : 0 ≤ v76 ∧ v76 ≤ 1600 := by rw [← e76]; exact hI_M 598 72 (by decide)
          have e77 : M52 598 72 = v76 := ((w52_5 72 (by decide) (by decide) (by decide)).trans e76)
          have y78 : M52 598 72 = v76 := e77
          have e79 : M52 598 73 = v54 := ((w52_5 73 (by decide) (by decide) (by decide)).trans e54)
          have y80 : M52 598 73 = v54 := e79
          have e81 : M52 598 74 = v56 := ((w52_5 74 (by decide) (by decide) (by decide)).trans e56)
          have y82 : M52 598 74 = v56 := e81
          obtain ⟨v83, e83⟩ : ∃ z, M 598 79 = z := ⟨_, rfl⟩
          have b83 : 0 ≤ v83 ∧ v83 ≤ 255 := by rw [← e83]; exact hI_M 598 79 (by decide)
          have e84 : M52 598 79 = v83 := ((w52_5 79 (by decide) (by decide) (by decide)).trans e83)
          have y85 : M52 598 79 = v83 := e84
          obtain ⟨v86, e86⟩ : ∃ z, M52 598 80 = z := ⟨_, rfl⟩
          have b86 : 0 ≤ v86 ∧ v86 ≤ 7 := by rw [← e86]; exact hI_M52 598 80 (by decide)
          have y87 : M52 598 80 = v86 := e86
          obtain ⟨v88, e88⟩ : ∃ z, M52 598 89 = z := ⟨_, rfl⟩
          have b88 : 0 ≤ v88 ∧ v88 ≤ 301 := by rw [← e88]; exact hI_M52 598 89 (by decide)
          have y89 : M52 598 89 = v88 := e88
          obtain ⟨v90, e90⟩ : ∃ z, M 598 90 = z := ⟨_, rfl⟩
          have b90 : 0 ≤ v90 ∧ v90 ≤ 2200 := by rw [← e90]; exact hI_M 598 90 (by decide)
          have e91 : M52 598 90 = v90 := ((w52_5 90 (by decide) (by decide) (by decide)).trans e90)
          have y92 : M52 598 90 = v90 := e91
          obtain ⟨v93, e93⟩ : ∃ z, M 598 96 = z := ⟨_, rfl⟩
          have b93 : 0 ≤ v93 ∧ v93 ≤ 300 := by rw [← e93]; exact hI_M 598 96 (by decide)
          have e94 : M52 598 96 = v93 := ((w52_5 96 (by decide) (by decide) (by decide)).trans e93)
          have y95 : M52 598 96 = v93 := e94
          have e96 : M52 598 100 = v59 := ((w52_5 100 (by decide) (by decide) (by decide)).trans e59)
          have y97 : M52 598 100 = v59 := e96
          obtain ⟨v98, e98⟩ : ∃ z, M 598 107 = z := ⟨_, rfl⟩
          have b98 : 0 ≤ v98 ∧ v98 ≤ 16 := by rw [← e98]; exact hI_M 598 107 (by decide)
          have e99 : M52 598 107 = v98 := ((w52_5 107 (by decide) (by decide) (by decide)).trans e98)
          have y100 : M52 598 107 = v98 := e99
          exact jr.vreturn rfl rfl (q _ hI_M52 hH_M52 hS_M52  (Or.inl ⟨by omega, by omega⟩) (by omega) (by omega) (by omega) (by omega) (fun a i f598 f659 f660 f661 f662 f663 f664 f665 f666 f667 f668 f669 => ((w52_4 a i f598).trans rfl)) (fun i g73 g74 g75 g76 g77 g78 g79 g80 g81 g89 g90 g96 g100 g102 g107 => ((w52_5 i g80 g81 g89).trans rfl)))
      · have sx27 : (1 : Int) ≤ v51 := by omega
        clear h27
        refine jr.iload_n rfl rfl ?_
        refine jr.bipush rfl (by decide) ?_
        refine jr.icmp_le rfl rfl (by omega) (by omega) (fun h33 => ?_) (fun h33 => ?_)
        · refine jr.iconst rfl ?_
          refine jr.istore_n (ls' := [_, _, _]) rfl (by decide) rfl ?_
          refine jr.iload_n rfl rfl ?_
          refine jr.if_ne rfl rfl (by omega) (fun h => absurd h (by decide)) (fun _ => ?_)
          refine jr.aload_n rfl rfl ?_
          refine jr_v rfl rfl (Or.inl rfl) rfl rfl (by decide) rfl ⟨rfl, Nat.le_of_ble_eq_true rfl, Nat.le_of_ble_eq_true rfl⟩ rfl (jc.deep (r_wrongToken hI_M hH_M hS_M    (fun M101 hI_M101 hH_M101 hS_M101  w101_0 w101_1 w101_2 => ?_)) (by decide))
          have tk101 : TK M101 = TK M := TK.fr (w101_2 73 (by decide) (by decide)) (w101_2 74 (by decide) (by decide))
          obtain ⟨v102, e102⟩ : ∃ z, M 598 72 = z := ⟨_, rfl⟩
          have b102 : 0 ≤ v102 ∧ v102 ≤ 1600 := by rw [← e102]; exact hI_M 598 72 (by decide)
          have e103 : M101 598 72 = v102 := ((w101_2 72 (by decide) (by decide)).trans e102)
          have y104 : M101 598 72 = v102 := e103
          obtain ⟨v105, e105⟩ : ∃ z, M 598 73 = z := ⟨_, rfl⟩
          have b105 : 0 ≤ v105 ∧ v105 ≤ 1600 := by rw [← e105]; exact hI_M 598 73 (by decide)
          have e106 : M101 598 73 = v105 := ((w101_2 73 (by decide) (by decide)).trans e105)
          have y107 : M101 598 73 = v105 := e106
          obtain ⟨v108, e108⟩ : ∃ z, M 598 74 = z := ⟨_, rfl⟩
          have b108 : 0 ≤ v108 ∧ v108 ≤ 4 := by rw [← e108]; exact hI_M 598 74 (by decide)
          have e109 : M101 598 74 = v108 := ((w101_2 74 (by decide) (by decide)).trans e108)
          have y110 : M101 598 74 = v108 := e109
          obtain ⟨v111, e111⟩ : ∃ z, M 598 79 = z := ⟨_, rfl⟩
          have b111 : 0 ≤ v111 ∧ v111 ≤ 255 := by rw [← e111]; exact hI_M 598 79 (by decide)
          have e112 : M101 598 79 = v111 := ((w101_2 79 (by decide) (by decide)).trans e111)
          have y113 : M101 598 79 = v111 := e112
          obtain ⟨v114, e114⟩ : ∃ z, M101 598 80 = z := ⟨_, rfl⟩
          have b114 : 0 ≤ v114 ∧ v114 ≤ 7 := by rw [← e114]; exact hI_M101 598 80 (by decide)
          have y115 : M101 598 80 = v114 := e114
          obtain ⟨v116, e116⟩ : ∃ z, M 598 89 = z := ⟨_, rfl⟩
          have b116 : 0 ≤ v116 ∧ v116 ≤ 301 := by rw [← e116]; exact hI_M 598 89 (by decide)
          have e117 : M101 598 89 = v116 := ((w101_2 89 (by decide) (by decide)).trans e116)
          have y118 : M101 598 89 = v116 := e117
          obtain ⟨v119, e119⟩ : ∃ z, M 598 90 = z := ⟨_, rfl⟩
          have b119 : 0 ≤ v119 ∧ v119 ≤ 2200 := by rw [← e119]; exact hI_M 598 90 (by decide)
          have e120 : M101 598 90 = v119 := ((w101_2 90 (by decide) (by decide)).trans e119)
          have y121 : M101 598 90 = v119 := e120
          obtain ⟨v122, e122⟩ : ∃ z, M 598 96 = z := ⟨_, rfl⟩
          have b122 : 0 ≤ v122 ∧ v122 ≤ 300 := by rw [← e122]; exact hI_M 598 96 (by decide)
          have e123 : M101 598 96 = v122 := ((w101_2 96 (by decide) (by decide)).trans e122)
          have y124 : M101 598 96 = v122 := e123
          obtain ⟨v125, e125⟩ : ∃ z, M 598 100 = z := ⟨_, rfl⟩
          have b125 : 0 ≤ v125 ∧ v125 ≤ 13 := by rw [← e125]; exact hI_M 598 100 (by decide)
          have e126 : M101 598 100 = v125 := ((w101_2 100 (by decide) (by decide)).trans e125)
          have y127 : M101 598 100 = v125 := e126
          obtain ⟨v128, e128⟩ : ∃ z, M 598 107 = z := ⟨_, rfl⟩
          have b128 : 0 ≤ v128 ∧ v128 ≤ 16 := by rw [← e128]; exact hI_M 598 107 (by decide)
          have e129 : M101 598 107 = v128 := ((w101_2 107 (by decide) (by decide)).trans e128)
          have y130 : M101 598 107 = v128 := e129
          exact jr.vreturn rfl rfl (q _ hI_M101 hH_M101 hS_M101  (Or.inl ⟨by omega, by omega⟩) (by omega) (by omega) (by omega) (by omega) (fun a i f598 f659 f660 f661 f662 f663 f664 f665 f666 f667 f668 f669 => ((w101_1 a i f598).trans rfl)) (fun i g73 g74 g75 g76 g77 g78 g79 g80 g81 g89 g90 g96 g100 g102 g107 => ((w101_2 i g80 g81).trans rfl)))
        · refine jr.iconst rfl ?_
          refine jr.goto rfl rfl ?_
          refine jr.istore_n (ls' := [_, _, _]) rfl (by decide) rfl ?_
          refine jr.iload_n rfl rfl ?_
          refine jr.if_ne rfl rfl (by omega) (fun _ => ?_) (fun h => absurd (by decide) h)
          refine jr.aload_n rfl rfl ?_
          obtain ⟨v132, e132⟩ : ∃ z, M 598 89 = z := ⟨_, rfl⟩
          have b132 : 0 ≤ v132 ∧ v132 ≤ 301 := by rw [← e132]; exact hI_M 598 89 (by decide)
          obtain ⟨v133, e133⟩ : ∃ z, M 598 73 = z := ⟨_, rfl⟩
          have b133 : 0 ≤ v133 ∧ v133 ≤ 1600 := by rw [← e133]; exact hI_M 598 73 (by decide)
          obtain ⟨v135, e135⟩ : ∃ z, M 598 74 = z := ⟨_, rfl⟩
          have b135 : 0 ≤ v135 ∧ v135 ≤ 4 := by rw [← e135]; exact hI_M 598 74 (by decide)
          obtain ⟨v138, e138⟩ : ∃ z, M 598 100 = z := ⟨_, rfl⟩
          have b138 : 0 ≤ v138 ∧ v138 ≤ 13 := by rw [← e138]; exact hI_M 598 100 (by decide)
          refine jr_v rfl rfl (Or.inl rfl) rfl rfl (by decide) rfl ⟨rfl, Nat.le_of_ble_eq_true rfl, Nat.le_of_ble_eq_true rfl⟩ rfl (jc.deep (r_node hI_M hH_M hS_M   (by rw [e132]; omega) (fun M131 hI_M131 hH_M131 hS_M131  w131_0 w131_1 w131_2 w131_3 w131_4 w131_5 => ?_)) (by decide))
          have tk131 : TK M131 = TK M := TK.fr (w131_5 73 (by decide) (by decide) (by decide)) (w131_5 74 (by decide) (by decide) (by decide))
          have y134 : M 598 73 = v133 := e133
          have y136 : M 598 74 = v135 := e135
          have y137 : M 598 89 = v132 := e132
          have y139 : M 598 100 = v138 := e138
          have x131_73 := w131_5 73 (by decide) (by decide) (by decide)
          have x131_74 := w131_5 74 (by decide) (by decide) (by decide)
          have x131_100 := w131_5 100 (by decide) (by decide) (by decide)
          have hX := XS.fr2 hX w131_4 (w131_5 88 (by decide) (by decide) (by decide)) (w131_5 90 (by decide) (by decide) (by decide)) (w131_5 101 (by decide) (by decide) (by decide)) (w131_5 107 (by decide) (by decide) (by decide)) (k' := 2 + 2 + 2) (d' := 0) (z' := 0) (by omega) (by omega) (by omega) (by omega)
          have hA := AK.cp hA (CP.f (CP.rfl _) (fun i => w131_4 659 i (by decide)) (w131_5 90 (by decide) (by decide) (by decide))) (fun i => w131_4 663 i (by decide)) (w131_5 96 (by decide) (by decide) (by decide))
          refine jr.aload_n rfl rfl ?_
          refine jr_v rfl rfl (Or.inl rfl) rfl rfl (by decide) rfl ⟨rfl, Nat.le_of_ble_eq_true rfl, Nat.le_of_ble_eq_true rfl⟩ rfl (jc.deep (c_good hI_M131  (fun t56_0 => ?_) (fun f56_0 => ?_)) (by decide))
          · have w131_1r := Classical.byContradiction (fun z => w131_1 z t56_0)
            have w131_2r := w131_2 t56_0
            clear w131_1 w131_2 w131_3
            refine jr.if_ne rfl rfl (by omega) (fun _ => ?_) (fun h => absurd (by decide) h)
            obtain ⟨v140, e140⟩ : ∃ z, M131 598 80 = z := ⟨_, rfl⟩
            have b140 : 0 ≤ v140 ∧ v140 ≤ 7 := by rw [← e140]; exact hI_M131 598 80 (by decide)
            obtain ⟨v141, e141⟩ : ∃ z, M 598 96 = z := ⟨_, rfl⟩
            have b141 : 0 ≤ v141 ∧ v141 ≤ 300 := by rw [← e141]; exact hI_M 598 96 (by decide)
            have e142 : M131 598 96 = v141 := ((w131_5 96 (by decide) (by decide) (by decide)).trans e141)
            obtain ⟨v143, e143⟩ : ∃ z, M131 598 89 = z := ⟨_, rfl⟩
            have b143 : 0 ≤ v143 ∧ v143 ≤ 301 := by rw [← e143]; exact hI_M131 598 89 (by decide)
            have e144 : M131 598 100 = v138 := ((w131_5 100 (by decide) (by decide) (by decide)).trans e138)
            have e145 : M131 598 73 = v133 := ((w131_5 73 (by decide) (by decide) (by decide)).trans e133)
            obtain ⟨v146, e146⟩ : ∃ z, M 598 72 = z := ⟨_, rfl⟩
            have b146 : 0 ≤ v146 ∧ v146 ≤ 1600 := by rw [← e146]; exact hI_M 598 72 (by decide)
            have e147 : M131 598 72 = v146 := ((w131_5 72 (by decide) (by decide) (by decide)).trans e146)
            obtain ⟨v148, e148⟩ : ∃ z, M 598 107 = z := ⟨_, rfl⟩
            have b148 : 0 ≤ v148 ∧ v148 ≤ 16 := by rw [← e148]; exact hI_M 598 107 (by decide)
            have e149 : M131 598 107 = v148 := ((w131_5 107 (by decide) (by decide) (by decide)).trans e148)
            obtain ⟨v150, e150⟩ : ∃ z, M 598 88 = z := ⟨_, rfl⟩
            have b150 : 0 ≤ v150 ∧ v150 ≤ 16 := by rw [← e150]; exact hI_M 598 88 (by decide)
            have e151 : M131 598 88 = v150 := ((w131_5 88 (by decide) (by decide) (by decide)).trans e150)
            have e152 : M131 598 74 = v135 := ((w131_5 74 (by decide) (by decide) (by decide)).trans e135)
            obtain ⟨v153, e153⟩ : ∃ z, M 598 79 = z := ⟨_, rfl⟩
            have b153 : 0 ≤ v153 ∧ v153 ≤ 255 := by rw [← e153]; exact hI_M 598 79 (by decide)
            have e154 : M131 598 79 = v153 := ((w131_5 79 (by decide) (by decide) (by decide)).trans e153)
            refine jr.pick (ls := [_, _]) [1, 2] rfl rfl ?_
            exact r_deed_L63 q M131 v1 hI_M131 hH_M131 hS_M131  (fun a i f598 f659 f660 f661 f662 f663 f664 f665 f666 f667 f668 f669 => ((w131_4 a i f598).trans rfl)) (fun i g73 g74 g75 g76 g77 g78 g79 g80 g81 g89 g90 g96 g100 g102 g107 => ((w131_5 i g80 g81 g89).trans rfl)) (by omega) hX hA (by rw [e140] <;> omega) (by rw [e142, e143] <;> omega) (by rw [e144] <;> omega) (by rw [e145, e147] <;> omega) (by rw [e149] <;> omega) (by rw [e151] <;> omega) (by rw [e152, e154] <;> omega) (by omega) (by rw [e152] <;> omega) (by omega)
          · refine jr.if_ne rfl rfl (by omega) (fun h => absurd h (by decide)) (fun _ => ?_)
            obtain ⟨v155, e155⟩ : ∃ z, M 598 72 = z := ⟨_, rfl⟩
            have b155 : 0 ≤ v155 ∧ v155 ≤ 1600 := by rw [← e155]; exact hI_M 598 72 (by decide)
            have e156 : M131 598 72 = v155 := ((w131_5 72 (by decide) (by decide) (by decide)).trans e155)
            have y157 : M131 598 72 = v155 := e156
            have e158 : M131 598 73 = v133 := ((w131_5 73 (by decide) (by decide) (by decide)).trans e133)
            have y159 : M131 598 73 = v133 := e158
            have e160 : M131 598 74 = v135 := ((w131_5 74 (by decide) (by decide) (by decide)).trans e135)
            have y161 : M131 598 74 = v135 := e160
            obtain ⟨v162, e162⟩ : ∃ z, M 598 79 = z := ⟨_, rfl⟩
            have b162 : 0 ≤ v162 ∧ v162 ≤ 255 := by rw [← e162]; exact hI_M 598 79 (by decide)
            have e163 : M131 598 79 = v162 := ((w131_5 79 (by decide) (by decide) (by decide)).trans e162)
            have y164 : M131 598 79 = v162 := e163
            obtain ⟨v165, e165⟩ : ∃ z, M131 598 80 = z := ⟨_, rfl⟩
            have b165 : 0 ≤ v165 ∧ v165 ≤ 7 := by rw [← e165]; exact hI_M131 598 80 (by decide)
            have y166 : M131 598 80 = v165 := e165
            obtain ⟨v167, e167⟩ : ∃ z, M131 598 89 = z := ⟨_, rfl⟩
            have b167 : 0 ≤ v167 ∧ v167 ≤ 301 := by rw [← e167]; exact hI_M131 598 89 (by decide)
            have y168 : M131 598 89 = v167 := e167
            obtain ⟨v169, e169⟩ : ∃ z, M 598 90 = z := ⟨_, rfl⟩
            have b169 : 0 ≤ v169 ∧ v169 ≤ 2200 := by rw [← e169]; exact hI_M 598 90 (by decide)
            have e170 : M131 598 90 = v169 := ((w131_5 90 (by decide) (by decide) (by decide)).trans e169)
            have y171 : M131 598 90 = v169 := e170
            obtain ⟨v172, e172⟩ : ∃ z, M 598 96 = z := ⟨_, rfl⟩
            have b172 : 0 ≤ v172 ∧ v172 ≤ 300 := by rw [← e172]; exact hI_M 598 96 (by decide)
            have e173 : M131 598 96 = v172 := ((w131_5 96 (by decide) (by decide) (by decide)).trans e172)
            have y174 : M131 598 96 = v172 := e173
            have e175 : M131 598 100 = v138 := ((w131_5 100 (by decide) (by decide) (by decide)).trans e138)
            have y176 : M131 598 100 = v138 := e175
            obtain ⟨v177, e177⟩ : ∃ z, M 598 107 = z := ⟨_, rfl⟩
            have b177 : 0 ≤ v177 ∧ v177 ≤ 16 := by rw [← e177]; exact hI_M 598 107 (by decide)
            have e178 : M131 598 107 = v177 := ((w131_5 107 (by decide) (by decide) (by decide)).trans e177)
            have y179 : M131 598 107 = v177 := e178
            exact jr.vreturn rfl rfl (q _ hI_M131 hH_M131 hS_M131  (Or.inl ⟨by omega, by omega⟩) (by omega) (by omega) (by omega) (by omega) (fun a i f598 f659 f660 f661 f662 f663 f664 f665 f666 f667 f668 f669 => ((w131_4 a i f598).trans rfl)) (fun i g73 g74 g75 g76 g77 g78 g79 g80 g81 g89 g90 g96 g100 g102 g107 => ((w131_5 i g80 g81 g89).trans rfl)))
    · refine jr.if_eq rfl rfl (by omega) (fun _ => ?_) (fun h => absurd (by decide) h)
      refine jr.iconst rfl ?_
      refine jr.istore_n (ls' := [_, _, _]) rfl (by decide) rfl ?_
      refine jr.iload_n rfl rfl ?_
      refine jr.if_ne rfl rfl (by omega) (fun h => absurd h (by decide)) (fun _ => ?_)
      refine jr.aload_n rfl rfl ?_
      refine jr_v rfl rfl (Or.inl rfl) rfl rfl (by decide) rfl ⟨rfl, Nat.le_of_ble_eq_true rfl, Nat.le_of_ble_eq_true rfl⟩ rfl (jc.deep (r_wrongToken hI_M hH_M hS_M    (fun M180 hI_M180 hH_M180 hS_M180  w180_0 w180_1 w180_2 => ?_)) (by decide))
      have tk180 : TK M180 = TK M := TK.fr (w180_2 73 (by decide) (by decide)) (w180_2 74 (by decide) (by decide))
      obtain ⟨v181, e181⟩ : ∃ z, M 598 72 = z := ⟨_, rfl⟩
      have b181 : 0 ≤ v181 ∧ v181 ≤ 1600 := by rw [← e181]; exact hI_M 598 72 (by decide)
      have e182 : M180 598 72 = v181 := ((w180_2 72 (by decide) (by decide)).trans e181)
      have y183 : M180 598 72 = v181 := e182
      obtain ⟨v184, e184⟩ : ∃ z, M 598 73 = z := ⟨_, rfl⟩
      have b184 : 0 ≤ v184 ∧ v184 ≤ 1600 := by rw [← e184]; exact hI_M 598 73 (by decide)
      have e185 : M180 598 73 = v184 := ((w180_2 73 (by decide) (by decide)).trans e184)
      have y186 : M180 598 73 = v184 := e185
      obtain ⟨v187, e187⟩ : ∃ z, M 598 74 = z := ⟨_, rfl⟩
      have b187 : 0 ≤ v187 ∧ v187 ≤ 4 := by rw [← e187]; exact hI_M 598 74 (by decide)
      have e188 : M180 598 74 = v187 := ((w180_2 74 (by decide) (by decide)).trans e187)
      have y189 : M180 598 74 = v187 := e188
      obtain ⟨v190, e190⟩ : ∃ z, M 598 79 = z := ⟨_, rfl⟩
      have b190 : 0 ≤ v190 ∧ v190 ≤ 255 := by rw [← e190]; exact hI_M 598 79 (by decide)
      have e191 : M180 598 79 = v190 := ((w180_2 79 (by decide) (by decide)).trans e190)
      have y192 : M180 598 79 = v190 := e191
      obtain ⟨v193, e193⟩ : ∃ z, M180 598 80 = z := ⟨_, rfl⟩
      have b193 : 0 ≤ v193 ∧ v193 ≤ 7 := by rw [← e193]; exact hI_M180 598 80 (by decide)
      have y194 : M180 598 80 = v193 := e193
      obtain ⟨v195, e195⟩ : ∃ z, M 598 89 = z := ⟨_, rfl⟩
      have b195 : 0 ≤ v195 ∧ v195 ≤ 301 := by rw [← e195]; exact hI_M 598 89 (by decide)
      have e196 : M180 598 89 = v195 := ((w180_2 89 (by decide) (by decide)).trans e195)
      have y197 : M180 598 89 = v195 := e196
      obtain ⟨v198, e198⟩ : ∃ z, M 598 90 = z := ⟨_, rfl⟩
      have b198 : 0 ≤ v198 ∧ v198 ≤ 2200 := by rw [← e198]; exact hI_M 598 90 (by decide)
      have e199 : M180 598 90 = v198 := ((w180_2 90 (by decide) (by decide)).trans e198)
      have y200 : M180 598 90 = v198 := e199
      obtain ⟨v201, e201⟩ : ∃ z, M 598 96 = z := ⟨_, rfl⟩
      have b201 : 0 ≤ v201 ∧ v201 ≤ 300 := by rw [← e201]; exact hI_M 598 96 (by decide)
      have e202 : M180 598 96 = v201 := ((w180_2 96 (by decide) (by decide)).trans e201)
      have y203 : M180 598 96 = v201 := e202
      obtain ⟨v204, e204⟩ : ∃ z, M 598 100 = z := ⟨_, rfl⟩
      have b204 : 0 ≤ v204 ∧ v204 ≤ 13 := by rw [← e204]; exact hI_M 598 100 (by decide)
      have e205 : M180 598 100 = v204 := ((w180_2 100 (by decide) (by decide)).trans e204)
      have y206 : M180 598 100 = v204 := e205
      obtain ⟨v207, e207⟩ : ∃ z, M 598 107 = z := ⟨_, rfl⟩
      have b207 : 0 ≤ v207 ∧ v207 ≤ 16 := by rw [← e207]; exact hI_M 598 107 (by decide)
      have e208 : M180 598 107 = v207 := ((w180_2 107 (by decide) (by decide)).trans e207)
      have y209 : M180 598 107 = v207 := e208
      exact jr.vreturn rfl rfl (q _ hI_M180 hH_M180 hS_M180  (Or.inl ⟨by omega, by omega⟩) (by omega) (by omega) (by omega) (by omega) (fun a i f598 f659 f660 f661 f662 f663 f664 f665 f666 f667 f668 f669 => ((w180_1 a i f598).trans rfl)) (fun i g73 g74 g75 g76 g77 g78 g79 g80 g81 g89 g90 g96 g100 g102 g107 => ((w180_2 i g80 g81).trans rfl)))

