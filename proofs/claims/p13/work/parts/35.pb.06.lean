theorem r_hasKind {A : Nat → Option (Nat × (Nat → Int32))} {Q : Option Value → jm → Prop} {b kk : Int} {M : jm} (hI_M : RI M) (hH_M : RH M) (hS_M : RF M) (p0 : GS M b 0 kk) (p1 : M 598 74 = 1) (q : ∀ (M' : jm), RI M' → RH M' → RF M' → (BS M' ∨ (GS M' b 1 kk ∧ TK M' < TK M)) → TK M' ≤ TK M → M' 598 73 ≤ M' 598 72 → (M' 598 80 ≠ 0 ∨ TK M' < TK M) → CP M M' → M 598 89 ≤ M' 598 89 → (∀ (a : Nat) (i : Int), a ≠ 598 → a ≠ 659 → a ≠ 660 → M' a i = M a i) → (∀ (i : Int), i ≠ 73 → i ≠ 74 → i ≠ 75 → i ≠ 76 → i ≠ 77 → i ≠ 78 → i ≠ 79 → i ≠ 80 → i ≠ 81 → i ≠ 89 → i ≠ 90 → i ≠ 100 → M' 598 i = M 598 i) → Q none M') : jc A 5 359 [.ref (598)] M Q := by
  obtain ⟨gs1, gs2, gs3, gs4, gs5, gs6⟩ := id p0
  have hE := gs2
  have sl := ES.sgle gs2
  have bb := ES.bb gs2
  have kb := ES.kz gs2
  have b107 : (0 : Int) ≤ M 598 107 ∧ M 598 107 ≤ 16 := hI_M 598 107 (by decide)
  have b73 : (0 : Int) ≤ M 598 73 ∧ M 598 73 ≤ 1600 := hI_M 598 73 (by decide)
  have b88 : (0 : Int) ≤ M 598 88 ∧ M 598 88 ≤ 16 := hI_M 598 88 (by decide)
  have b100 : (0 : Int) ≤ M 598 100 ∧ M 598 100 ≤ 13 := hI_M 598 100 (by decide)
  refine jc_of (m := xm_359) rfl (Nat.le_of_ble_eq_true rfl) rfl ?_
  refine jr.aload_n rfl rfl ?_
  obtain ⟨v2, e2⟩ : ∃ z, M 598 89 = z := ⟨_, rfl⟩
  have b2 : 0 ≤ v2 ∧ v2 ≤ 301 := by rw [← e2]; exact hI_M 598 89 (by decide)
  obtain ⟨v3, e3⟩ : ∃ z, M 598 73 = z := ⟨_, rfl⟩
  have b3 : 0 ≤ v3 ∧ v3 ≤ 1600 := by rw [← e3]; exact hI_M 598 73 (by decide)
  obtain ⟨v6, e6⟩ : ∃ z, M 598 100 = z := ⟨_, rfl⟩
  have b6 : 0 ≤ v6 ∧ v6 ≤ 13 := by rw [← e6]; exact hI_M 598 100 (by decide)
  refine jr_v rfl rfl (Or.inl rfl) rfl rfl (by decide) rfl ⟨rfl, Nat.le_of_ble_eq_true rfl, Nat.le_of_ble_eq_true rfl⟩ rfl (jc.deep (r_node hI_M hH_M hS_M   (by rw [e2]; omega) (fun M1 hI_M1 hH_M1 hS_M1  w1_0 w1_1 w1_2 w1_3 w1_4 w1_5 => ?_)) (by decide))
  have tk1 : TK M1 = TK M := TK.fr (w1_5 73 (by decide) (by decide) (by decide)) (w1_5 74 (by decide) (by decide) (by decide))
  have y4 : M 598 73 = v3 := e3
  have y5 : M 598 89 = v2 := e2
  have y7 : M 598 100 = v6 := e6
  have x1_73 := w1_5 73 (by decide) (by decide) (by decide)
  have x1_100 := w1_5 100 (by decide) (by decide) (by decide)
  have hE := ES.fr2 hE w1_4 (w1_5 88 (by decide) (by decide) (by decide)) (w1_5 90 (by decide) (by decide) (by decide)) (w1_5 101 (by decide) (by decide) (by decide)) (w1_5 102 (by decide) (by decide) (by decide)) (w1_5 107 (by decide) (by decide) (by decide)) (k' := kk + 4) (d' := 0) (z' := 0) (by omega) (by omega) (by omega) (by omega)
  refine jr.aload_n rfl rfl ?_
  refine jr_v rfl rfl (Or.inl rfl) rfl rfl (by decide) rfl ⟨rfl, Nat.le_of_ble_eq_true rfl, Nat.le_of_ble_eq_true rfl⟩ rfl (jc.deep (c_good hI_M1  (fun t5_0 => ?_) (fun f5_0 => ?_)) (by decide))
  · have w1_1r := Classical.byContradiction (fun z => w1_1 z t5_0)
    have w1_2r := w1_2 t5_0
    clear w1_1 w1_2 w1_3
    refine jr.if_eq rfl rfl (by omega) (fun h => absurd h (by decide)) (fun _ => ?_)
    refine jr.aload_n rfl rfl ?_
    have e9 : M1 598 73 = v3 := ((w1_5 73 (by decide) (by decide) (by decide)).trans e3)
    obtain ⟨v10, e10⟩ : ∃ z, M 598 72 = z := ⟨_, rfl⟩
    have b10 : 0 ≤ v10 ∧ v10 ≤ 1600 := by rw [← e10]; exact hI_M 598 72 (by decide)
    have e11 : M1 598 72 = v10 := ((w1_5 72 (by decide) (by decide) (by decide)).trans e10)
    obtain ⟨v13, e13⟩ : ∃ z, M1 598 89 = z := ⟨_, rfl⟩
    have b13 : 0 ≤ v13 ∧ v13 ≤ 301 := by rw [← e13]; exact hI_M1 598 89 (by decide)
    have e15 : M1 598 100 = v6 := ((w1_5 100 (by decide) (by decide) (by decide)).trans e6)
    refine jr_v rfl rfl (Or.inl rfl) rfl rfl (by decide) rfl ⟨rfl, Nat.le_of_ble_eq_true rfl, Nat.le_of_ble_eq_true rfl⟩ rfl (jc.deep (r_next hI_M1 hH_M1 hS_M1   (by rw [e9, e11]; omega) (fun M8 hI_M8 hH_M8 hS_M8  w8_0 w8_1 w8_2 w8_3 w8_4 w8_5 w8_6 => ?_)) (by decide))
    have y12 : M1 598 73 = v3 := e9
    have y14 : M1 598 89 = v13 := e13
    have y16 : M1 598 100 = v6 := e15
    have x8_89 := w8_6 89 (by decide) (by decide) (by decide) (by decide) (by decide) (by decide) (by decide)
    have x8_100 := w8_6 100 (by decide) (by decide) (by decide) (by decide) (by decide) (by decide) (by decide)
    have hE := ES.fr2 hE w8_5 (w8_6 88 (by decide) (by decide) (by decide) (by decide) (by decide) (by decide) (by decide)) (w8_6 90 (by decide) (by decide) (by decide) (by decide) (by decide) (by decide) (by decide)) (w8_6 101 (by decide) (by decide) (by decide) (by decide) (by decide) (by decide) (by decide)) (w8_6 102 (by decide) (by decide) (by decide) (by decide) (by decide) (by decide) (by decide)) (w8_6 107 (by decide) (by decide) (by decide) (by decide) (by decide) (by decide) (by decide)) (k' := kk + 4) (d' := 0) (z' := 0) (by omega) (by omega) (by omega) (by omega)
    refine jr.aload_n rfl rfl ?_
    refine jr.bipush rfl (by decide) ?_
    obtain ⟨v18, e18⟩ : ∃ z, M8 598 73 = z := ⟨_, rfl⟩
    have b18 : 0 ≤ v18 ∧ v18 ≤ 1600 := by rw [← e18]; exact hI_M8 598 73 (by decide)
    have e19 : M8 598 72 = v10 := ((w8_6 72 (by decide) (by decide) (by decide) (by decide) (by decide) (by decide) (by decide)).trans e11)
    obtain ⟨v20, e20⟩ : ∃ z, M1 598 80 = z := ⟨_, rfl⟩
    have b20 : 0 ≤ v20 ∧ v20 ≤ 7 := by rw [← e20]; exact hI_M1 598 80 (by decide)
    have e21 : M8 598 80 = v20 := ((w8_6 80 (by decide) (by decide) (by decide) (by decide) (by decide) (by decide) (by decide)).trans e20)
    have e22 : M8 598 100 = v6 := ((w8_6 100 (by decide) (by decide) (by decide) (by decide) (by decide) (by decide) (by decide)).trans e15)
    refine jr_v rfl rfl (Or.inl rfl) rfl rfl (by decide) rfl ⟨rfl, Nat.le_of_ble_eq_true rfl, Nat.le_of_ble_eq_true rfl⟩ rfl (jc.deep (r_wantDeeper hI_M8 hH_M8 hS_M8  (by omega) (by rw [e18, e19]; omega) (by rw [e21, e22]; intro q; omega) (fun M17 hI_M17 hH_M17 hS_M17  w17_0 w17_1 w17_2 w17_3 w17_4 w17_5 w17_6 w17_7 w17_8 w17_9 w17_10 => ?_)) (by decide))
    refine jr.aload_n rfl rfl ?_
    have e24 : M8 598 89 = v13 := ((w8_6 89 (by decide) (by decide) (by decide) (by decide) (by decide) (by decide) (by decide)).trans e13)
    refine jr_v rfl rfl (Or.inl rfl) rfl rfl (by decide) rfl ⟨rfl, Nat.le_of_ble_eq_true rfl, Nat.le_of_ble_eq_true rfl⟩ rfl (jc.deep (c_good hI_M17  (fun t22_0 => ?_) (fun f22_0 => ?_)) (by decide))
    · have w17_0r := w17_0 t22_0
      have w17_4r := w17_4.resolve_right (fun z => z.1 t22_0)
      have w17_5r := Classical.byContradiction (fun z => w17_5 z t22_0)
      have w17_6r := w17_6 t22_0
      have w17_7r := w17_7 t22_0
      clear w17_0 w17_4 w17_5 w17_6 w17_7
      have y23 : M8 598 73 = v18 := e18
      have y25 : M8 598 89 = v13 := e24
      have y26 : M8 598 100 = v6 := e22
      have x17_89 := w17_10 89 (by decide) (by decide) (by decide) (by decide) (by decide) (by decide) (by decide) (by decide) (by decide) (by decide)
      have hE := ES.fr2 hE w17_9 (w17_10 88 (by decide) (by decide) (by decide) (by decide) (by decide) (by decide) (by decide) (by decide) (by decide) (by decide)) (w17_10 90 (by decide) (by decide) (by decide) (by decide) (by decide) (by decide) (by decide) (by decide) (by decide) (by decide)) (w17_10 101 (by decide) (by decide) (by decide) (by decide) (by decide) (by decide) (by decide) (by decide) (by decide) (by decide)) (w17_10 102 (by decide) (by decide) (by decide) (by decide) (by decide) (by decide) (by decide) (by decide) (by decide) (by decide)) (w17_10 107 (by decide) (by decide) (by decide) (by decide) (by decide) (by decide) (by decide) (by decide) (by decide) (by decide)) (k' := kk + 4) (d' := 1) (z' := 0) (by omega) (by omega) (by omega) (by omega)
      refine jr.if_eq rfl rfl (by omega) (fun h => absurd h (by decide)) (fun _ => ?_)
      refine jr.aload_n rfl rfl ?_
      refine jr.bipush rfl (by decide) ?_
      refine jr.bipush rfl (by decide) ?_
      refine jr_v rfl rfl (Or.inl rfl) rfl rfl (by decide) rfl ⟨rfl, Nat.le_of_ble_eq_true rfl, Nat.le_of_ble_eq_true rfl⟩ rfl (jc.deep (c_isWordIn hI_M17 (by omega) (by omega) (fun t33_0 t33_1 t33_2 => ?_) (fun f33_0 => ?_)) (by decide))
      · refine jr.if_ne rfl rfl (by omega) (fun _ => ?_) (fun h => absurd (by decide) h)
        refine jr.aload_n rfl rfl ?_
        obtain ⟨v27, e27⟩ : ∃ z, M17 598 80 = z := ⟨_, rfl⟩
        have b27 : 0 ≤ v27 ∧ v27 ≤ 7 := by rw [← e27]; exact hI_M17 598 80 (by decide)
        refine jr_v rfl rfl (Or.inl rfl) rfl rfl (by decide) rfl ⟨rfl, Nat.le_of_ble_eq_true rfl, Nat.le_of_ble_eq_true rfl⟩ rfl (jc.deep (c_good hI_M17  (fun t44_0 => ?_) (fun f44_0 => ?_)) (by decide))
        · refine jr.if_ne rfl rfl (by omega) (fun _ => ?_) (fun h => absurd (by decide) h)
          have e28 : M8 598 89 = v13 := ((w8_6 89 (by decide) (by decide) (by decide) (by decide) (by decide) (by decide) (by decide)).trans e13)
          have e29 : M17 598 89 = v13 := ((w17_10 89 (by decide) (by decide) (by decide) (by decide) (by decide) (by decide) (by decide) (by decide) (by decide) (by decide)).trans e28)
          obtain ⟨v30, e30⟩ : ∃ z, M17 598 100 = z := ⟨_, rfl⟩
          have b30 : 0 ≤ v30 ∧ v30 ≤ 13 := by rw [← e30]; exact hI_M17 598 100 (by decide)
          obtain ⟨v31, e31⟩ : ∃ z, M17 598 73 = z := ⟨_, rfl⟩
          have b31 : 0 ≤ v31 ∧ v31 ≤ 1600 := by rw [← e31]; exact hI_M17 598 73 (by decide)
          have e32 : M17 598 72 = v10 := ((w17_10 72 (by decide) (by decide) (by decide) (by decide) (by decide) (by decide) (by decide) (by decide) (by decide) (by decide)).trans e19)
          obtain ⟨v33, e33⟩ : ∃ z, M 598 90 = z := ⟨_, rfl⟩
          have b33 : 0 ≤ v33 ∧ v33 ≤ 2200 := by rw [← e33]; exact hI_M 598 90 (by decide)
          have e34 : M1 598 90 = v33 := ((w1_5 90 (by decide) (by decide) (by decide)).trans e33)
          have e35 : M8 598 90 = v33 := ((w8_6 90 (by decide) (by decide) (by decide) (by decide) (by decide) (by decide) (by decide)).trans e34)
          have e36 : M17 598 90 = v33 := ((w17_10 90 (by decide) (by decide) (by decide) (by decide) (by decide) (by decide) (by decide) (by decide) (by decide) (by decide)).trans e35)
          obtain ⟨v37, e37⟩ : ∃ z, M17 598 74 = z := ⟨_, rfl⟩
          have b37 : 0 ≤ v37 ∧ v37 ≤ 4 := by rw [← e37]; exact hI_M17 598 74 (by decide)
          obtain ⟨v38, e38⟩ : ∃ z, M17 598 76 = z := ⟨_, rfl⟩
          have b38 : (-1) ≤ v38 ∧ v38 ≤ 68 := by rw [← e38]; exact hI_M17 598 76 (by decide)
          refine jr.pick (ls := [_]) [0] rfl rfl ?_
          exact r_hasKind_L51 q M17  hI_M17 hH_M17 hS_M17  (fun a i f598 f659 f660 => ((w17_9 a i f598).trans ((w8_5 a i f598).trans ((w1_4 a i f598).trans rfl)))) (fun i g73 g74 g75 g76 g77 g78 g79 g80 g81 g89 g90 g100 => ((w17_10 i g73 g74 g75 g76 g77 g78 g79 g80 g81 g100).trans ((w8_6 i g73 g74 g75 g76 g77 g78 g79).trans ((w1_5 i g80 g81 g89).trans rfl))))  hE (by rw [e27] <;> omega) (by rw [e29] <;> omega) (by rw [e30] <;> omega) (by rw [e31, e32] <;> omega) (by omega) (by rw [e36] <;> omega) (by rw [e37] <;> omega) (by rw [e38] <;> omega) (CP.f (CP.f (CP.f (CP.rfl _) (fun i => w1_4 659 i (by decide)) (w1_5 90 (by decide) (by decide) (by decide))) (fun i => w8_5 659 i (by decide)) (w8_6 90 (by decide) (by decide) (by decide) (by decide) (by decide) (by decide) (by decide))) (fun i => w17_9 659 i (by decide)) (w17_10 90 (by decide) (by decide) (by decide) (by decide) (by decide) (by decide) (by decide) (by decide) (by decide) (by decide))) (by omega) (by rw [e29] <;> omega)
        · exfalso
          omega
      · refine jr.if_ne rfl rfl (by omega) (fun h => absurd h (by decide)) (fun _ => ?_)
        refine jr.aload_n rfl rfl ?_
        refine jr_v rfl rfl (Or.inl rfl) rfl rfl (by decide) rfl ⟨rfl, Nat.le_of_ble_eq_true rfl, Nat.le_of_ble_eq_true rfl⟩ rfl (jc.deep (r_wrongToken hI_M17 hH_M17 hS_M17    (fun M39 hI_M39 hH_M39 hS_M39  w39_0 w39_1 w39_2 => ?_)) (by decide))
        have tk39 : TK M39 = TK M17 := TK.fr (w39_2 73 (by decide) (by decide)) (w39_2 74 (by decide) (by decide))
        refine jr.aload_n rfl rfl ?_
        obtain ⟨v40, e40⟩ : ∃ z, M39 598 80 = z := ⟨_, rfl⟩
        have b40 : 0 ≤ v40 ∧ v40 ≤ 7 := by rw [← e40]; exact hI_M39 598 80 (by decide)
        refine jr_v rfl rfl (Or.inl rfl) rfl rfl (by decide) rfl ⟨rfl, Nat.le_of_ble_eq_true rfl, Nat.le_of_ble_eq_true rfl⟩ rfl (jc.deep (c_good hI_M39  (fun t44_0 => ?_) (fun f44_0 => ?_)) (by decide))
        · exfalso
          omega
        · refine jr.if_ne rfl rfl (by omega) (fun h => absurd h (by decide)) (fun _ => ?_)
          have e41 : M17 598 72 = v10 := ((w17_10 72 (by decide) (by decide) (by decide) (by decide) (by decide) (by decide) (by decide) (by decide) (by decide) (by decide)).trans e19)
          have e42 : M39 598 72 = v10 := ((w39_2 72 (by decide) (by decide)).trans e41)
          have y43 : M39 598 72 = v10 := e42
          obtain ⟨v44, e44⟩ : ∃ z, M17 598 73 = z := ⟨_, rfl⟩
          have b44 : 0 ≤ v44 ∧ v44 ≤ 1600 := by rw [← e44]; exact hI_M17 598 73 (by decide)
          have e45 : M39 598 73 = v44 := ((w39_2 73 (by decide) (by decide)).trans e44)
          have y46 : M39 598 73 = v44 := e45
          obtain ⟨v47, e47⟩ : ∃ z, M17 598 74 = z := ⟨_, rfl⟩
          have b47 : 0 ≤ v47 ∧ v47 ≤ 4 := by rw [← e47]; exact hI_M17 598 74 (by decide)
          have e48 : M39 598 74 = v47 := ((w39_2 74 (by decide) (by decide)).trans e47)
          have y49 : M39 598 74 = v47 := e48
          obtain ⟨v50, e50⟩ : ∃ z, M17 598 79 = z := ⟨_, rfl⟩
          have b50 : 0 ≤ v50 ∧ v50 ≤ 255 := by rw [← e50]; exact hI_M17 598 79 (by decide)
          have e51 : M39 598 79 = v50 := ((w39_2 79 (by decide) (by decide)).trans e50)
          have y52 : M39 598 79 = v50 := e51
          have y53 : M39 598 80 = v40 := e40
          have e54 : M8 598 89 = v13 := ((w8_6 89 (by decide) (by decide) (by decide) (by decide) (by decide) (by decide) (by decide)).trans e13)
          have e55 : M17 598 89 = v13 := ((w17_10 89 (by decide) (by decide) (by decide) (by decide) (by decide) (by decide) (by decide) (by decide) (by decide) (by decide)).trans e54)
          have e56 : M39 598 89 = v13 := ((w39_2 89 (by decide) (by decide)).trans e55)
          have y57 : M39 598 89 = v13 := e56
          obtain ⟨v58, e58⟩ : ∃ z, M 598 90 = z := ⟨_, rfl⟩
          have b58 : 0 ≤ v58 ∧ v58 ≤ 2200 := by rw [← e58]; exact hI_M 598 90 (by decide)
          have e59 : M1 598 90 = v58 := ((w1_5 90 (by decide) (by decide) (by decide)).trans e58)
          have e60 : M8 598 90 = v58 := ((w8_6 90 (by decide) (by decide) (by decide) (by decide) (by decide) (by decide) (by decide)).trans e59)
          have e61 : M17 598 90 = v58 := ((w17_10 90 (by decide) (by decide) (by decide) (by decide) (by decide) (by decide) (by decide) (by decide) (by decide) (by decide)).trans e60)
          have e62 : M39 598 90 = v58 := ((w39_2 90 (by decide) (by decide)).trans e61)
          have y63 : M39 598 90 = v58 := e62
          obtain ⟨v64, e64⟩ : ∃ z, M17 598 100 = z := ⟨_, rfl⟩
          have b64 : 0 ≤ v64 ∧ v64 ≤ 13 := by rw [← e64]; exact hI_M17 598 100 (by decide)
          have e65 : M39 598 100 = v64 := ((w39_2 100 (by decide) (by decide)).trans e64)
          have y66 : M39 598 100 = v64 := e65
          obtain ⟨v67, e67⟩ : ∃ z, M 598 107 = z := ⟨_, rfl⟩
          have b67 : 0 ≤ v67 ∧ v67 ≤ 16 := by rw [← e67]; exact hI_M 598 107 (by decide)
          have e68 : M1 598 107 = v67 := ((w1_5 107 (by decide) (by decide) (by decide)).trans e67)
          have e69 : M8 598 107 = v67 := ((w8_6 107 (by decide) (by decide) (by decide) (by decide) (by decide) (by decide) (by decide)).trans e68)
          have e70 : M17 598 107 = v67 := ((w17_10 107 (by decide) (by decide) (by decide) (by decide) (by decide) (by decide) (by decide) (by decide) (by decide) (by decide)).trans e69)
          have e71 : M39 598 107 = v67 := ((w39_2 107 (by decide) (by decide)).trans e70)
          have y72 : M39 598 107 = v67 := e71
          exact jr.vreturn rfl rfl (q _ hI_M39 hH_M39 hS_M39  (by by_cases hf : v40 = 0; (first | (exfalso; omega) | (exact Or.inr ⟨⟨by omega, ES.adj hE (k' := kk) (z' := 0) (by omega) (by omega) (by omega), by omega, by omega, by omega, by omega⟩, by omega⟩)); (exact Or.inl ⟨by omega, by omega⟩)) (by omega) (by omega) (by omega) (CP.f (CP.f (CP.f (CP.f (CP.rfl _) (fun i => w1_4 659 i (by decide)) (w1_5 90 (by decide) (by decide) (by decide))) (fun i => w8_5 659 i (by decide)) (w8_6 90 (by decide) (by decide) (by decide) (by decide) (by decide) (by decide) (by decide))) (fun i => w17_9 659 i (by decide)) (w17_10 90 (by decide) (by decide) (by decide) (by decide) (by decide) (by decide) (by decide) (by decide) (by decide) (by decide))) (fun i => w39_1 659 i (by decide)) (w39_2 90 (by decide) (by decide))) (by omega) (fun a i f598 f659 f660 => ((w39_1 a i f598).trans ((w17_9 a i f598).trans ((w8_5 a i f598).trans ((w1_4 a i f598).trans rfl))))) (fun i g73 g74 g75 g76 g77 g78 g79 g80 g81 g89 g90 g100 => ((w39_2 i g80 g81).trans ((w17_10 i g73 g74 g75 g76 g77 g78 g79 g80 g81 g100).trans ((w8_6 i g73 g74 g75 g76 g77 g78 g79).trans ((w1_5 i g80 g81 g89).trans rfl))))))
    · refine jr.if_eq rfl rfl (by omega) (fun _ => ?_) (fun h => absurd (by decide) h)
      refine jr.aload_n rfl rfl ?_
      obtain ⟨v73, e73⟩ : ∃ z, M17 598 80 = z := ⟨_, rfl⟩
      have b73 : 0 ≤ v73 ∧ v73 ≤ 7 := by rw [← e73]; exact hI_M17 598 80 (by decide)
      refine jr_v rfl rfl (Or.inl rfl) rfl rfl (by decide) rfl ⟨rfl, Nat.le_of_ble_eq_true rfl, Nat.le_of_ble_eq_true rfl⟩ rfl (jc.deep (c_good hI_M17  (fun t44_0 => ?_) (fun f44_0 => ?_)) (by decide))
      · exfalso
        omega
      · refine jr.if_ne rfl rfl (by omega) (fun h => absurd h (by decide)) (fun _ => ?_)
        have e74 : M17 598 72 = v10 := ((w17_10 72 (by decide) (by decide) (by decide) (by decide) (by decide) (by decide) (by decide) (by decide) (by decide) (by decide)).trans e19)
        have y75 : M17 598 72 = v10 := e74
        obtain ⟨v76, e76⟩ : ∃ z, M17 598 73 = z := ⟨_, rfl⟩
        have b76 : 0 ≤ v76 ∧ v76 ≤ 1600 := by rw [← e76]; exact hI_M17 598 73 (by decide)
        have y77 : M17 598 73 = v76 := e76
        obtain ⟨v78, e78⟩ : ∃ z, M17 598 74 = z := ⟨_, rfl⟩
        have b78 : 0 ≤ v78 ∧ v78 ≤ 4 := by rw [← e78]; exact hI_M17 598 74 (by decide)
        have y79 : M17 598 74 = v78 := e78
        obtain ⟨v80, e80⟩ : ∃ z, M17 598 79 = z := ⟨_, rfl⟩
        have b80 : 0 ≤ v80 ∧ v80 ≤ 255 := by rw [← e80]; exact hI_M17 598 79 (by decide)
        have y81 : M17 598 79 = v80 := e80
        have y82 : M17 598 80 = v73 := e73
        have e83 : M8 598 89 = v13 := ((w8_6 89 (by decide) (by decide) (by decide) (by decide) (by decide) (by decide) (by decide)).trans e13)
        have e84 : M17 598 89 = v13 := ((w17_10 89 (by decide) (by decide) (by decide) (by decide) (by decide) (by decide) (by decide) (by decide) (by decide) (by decide)).trans e83)
        have y85 : M17 598 89 = v13 := e84
        obtain ⟨v86, e86⟩ : ∃ z, M 598 90 = z := ⟨_, rfl⟩
        have b86 : 0 ≤ v86 ∧ v86 ≤ 2200 := by rw [← e86]; exact hI_M 598 90 (by decide)
        have e87 : M1 598 90 = v86 := ((w1_5 90 (by decide) (by decide) (by decide)).trans e86)
        have e88 : M8 598 90 = v86 := ((w8_6 90 (by decide) (by decide) (by decide) (by decide) (by decide) (by decide) (by decide)).trans e87)
        have e89 : M17 598 90 = v86 := ((w17_10 90 (by decide) (by decide) (by decide) (by decide) (by decide) (by decide) (by decide) (by decide) (by decide) (by decide)).trans e88)
        have y90 : M17 598 90 = v86 := e89
        obtain ⟨v91, e91⟩ : ∃ z, M17 598 100 = z := ⟨_, rfl⟩
        have b91 : 0 ≤ v91 ∧ v91 ≤ 13 := by rw [← e91]; exact hI_M17 598 100 (by decide)
        have y92 : M17 598 100 = v91 := e91
        obtain ⟨v93, e93⟩ : ∃ z, M 598 107 = z := ⟨_, rfl⟩
        have b93 : 0 ≤ v93 ∧ v93 ≤ 16 := by rw [← e93]; exact hI_M 598 107 (by decide)
        have e94 : M1 598 107 = v93 := ((w1_5 107 (by decide) (by decide) (by decide)).trans e93)
        have e95 : M8 598 107 = v93 := ((w8_6 107 (by decide) (by decide) (by decide) (by decide) (by decide) (by decide) (by decide)).trans e94)
        have e96 : M17 598 107 = v93 := ((w17_10 107 (by decide) (by decide) (by decide) (by decide) (by decide) (by decide) (by decide) (by decide) (by decide) (by decide)).trans e95)
        have y97 : M17 598 107 = v93 := e96
        exact jr.vreturn rfl rfl (q _ hI_M17 hH_M17 hS_M17  (by by_cases hf : v73 = 0; (first | (exfalso; omega) | (exact Or.inr ⟨⟨by omega, ES.adj hE (k' := kk) (z' := 0) (by omega) (by omega) (by omega), by omega, by omega, by omega, by omega⟩, by omega⟩)); (exact Or.inl ⟨by omega, by omega⟩)) (by omega) (by omega) (by omega) (CP.f (CP.f (CP.f (CP.rfl _) (fun i => w1_4 659 i (by decide)) (w1_5 90 (by decide) (by decide) (by decide))) (fun i => w8_5 659 i (by decide)) (w8_6 90 (by decide) (by decide) (by decide) (by decide) (by decide) (by decide) (by decide))) (fun i => w17_9 659 i (by decide)) (w17_10 90 (by decide) (by decide) (by decide) (by decide) (by decide) (by decide) (by decide) (by decide) (by decide) (by decide))) (by omega) (fun a i f598 f659 f660 => ((w17_9 a i f598).trans ((w8_5 a i f598).trans ((w1_4 a i f598).trans rfl)))) (fun i g73 g74 g75 g76 g77 g78 g79 g80 g81 g89 g90 g100 => ((w17_10 i g73 g74 g75 g76 g77 g78 g79 g80 g81 g100).trans ((w8_6 i g73 g74 g75 g76 g77 g78 g79).trans ((w1_5 i g80 g81 g89).trans rfl)))))
  · refine jr.if_eq rfl rfl (by omega) (fun _ => ?_) (fun h => absurd (by decide) h)
    refine jr.aload_n rfl rfl ?_
    refine jr.bipush rfl (by decide) ?_
    have e99 : M1 598 73 = v3 := ((w1_5 73 (by decide) (by decide) (by decide)).trans e3)
    obtain ⟨v100, e100⟩ : ∃ z, M 598 72 = z := ⟨_, rfl⟩
    have b100 : 0 ≤ v100 ∧ v100 ≤ 1600 := by rw [← e100]; exact hI_M 598 72 (by decide)
    have e101 : M1 598 72 = v100 := ((w1_5 72 (by decide) (by decide) (by decide)).trans e100)
    obtain ⟨v102, e102⟩ : ∃ z, M1 598 80 = z := ⟨_, rfl⟩
    have b102 : 0 ≤ v102 ∧ v102 ≤ 7 := by rw [← e102]; exact hI_M1 598 80 (by decide)
    have e103 : M1 598 100 = v6 := ((w1_5 100 (by decide) (by decide) (by decide)).trans e6)
    refine jr_v rfl rfl (Or.inl rfl) rfl rfl (by decide) rfl ⟨rfl, Nat.le_of_ble_eq_true rfl, Nat.le_of_ble_eq_true rfl⟩ rfl (jc.deep (r_wantDeeper hI_M1 hH_M1 hS_M1  (by omega) (by rw [e99, e101]; omega) (by rw [e102, e103]; intro q; omega) (fun M98 hI_M98 hH_M98 hS_M98  w98_0 w98_1 w98_2 w98_3 w98_4 w98_5 w98_6 w98_7 w98_8 w98_9 w98_10 => ?_)) (by decide))
    refine jr.aload_n rfl rfl ?_
    obtain ⟨v105, e105⟩ : ∃ z, M1 598 89 = z := ⟨_, rfl⟩
    have b105 : 0 ≤ v105 ∧ v105 ≤ 301 := by rw [← e105]; exact hI_M1 598 89 (by decide)
    obtain ⟨v108, e108⟩ : ∃ z, M98 598 80 = z := ⟨_, rfl⟩
    have b108 : 0 ≤ v108 ∧ v108 ≤ 7 := by rw [← e108]; exact hI_M98 598 80 (by decide)
    refine jr_v rfl rfl (Or.inl rfl) rfl rfl (by decide) rfl ⟨rfl, Nat.le_of_ble_eq_true rfl, Nat.le_of_ble_eq_true rfl⟩ rfl (jc.deep (c_good hI_M98  (fun t22_0 => ?_) (fun f22_0 => ?_)) (by decide))
    · have w98_0r := w98_0 t22_0
      have w98_4r := w98_4.resolve_right (fun z => z.1 t22_0)
      have w98_5r := Classical.byContradiction (fun z => w98_5 z t22_0)
      have w98_6r := w98_6 t22_0
      have w98_7r := w98_7 t22_0
      clear w98_0 w98_4 w98_5 w98_6 w98_7
      exfalso
      omega
    · refine jr.if_eq rfl rfl (by omega) (fun _ => ?_) (fun h => absurd (by decide) h)
      refine jr.aload_n rfl rfl ?_
      refine jr_v rfl rfl (Or.inl rfl) rfl rfl (by decide) rfl ⟨rfl, Nat.le_of_ble_eq_true rfl, Nat.le_of_ble_eq_true rfl⟩ rfl (jc.deep (c_good hI_M98  (fun t44_0 => ?_) (fun f44_0 => ?_)) (by decide))
      · exfalso
        omega
      · refine jr.if_ne rfl rfl (by omega) (fun h => absurd h (by decide)) (fun _ => ?_)
        have e109 : M98 598 72 = v100 := ((w98_10 72 (by decide) (by decide) (by decide) (by decide) (by decide) (by decide) (by decide) (by decide) (by decide) (by decide)).trans e101)
        have y110 : M98 598 72 = v100 := e109
        obtain ⟨v111, e111⟩ : ∃ z, M98 598 73 = z := ⟨_, rfl⟩
        have b111 : 0 ≤ v111 ∧ v111 ≤ 1600 := by rw [← e111]; exact hI_M98 598 73 (by decide)
        have y112 : M98 598 73 = v111 := e111
        obtain ⟨v113, e113⟩ : ∃ z, M98 598 74 = z := ⟨_, rfl⟩
        have b113 : 0 ≤ v113 ∧ v113 ≤ 4 := by rw [← e113]; exact hI_M98 598 74 (by decide)
        have y114 : M98 598 74 = v113 := e113
        obtain ⟨v115, e115⟩ : ∃ z, M98 598 79 = z := ⟨_, rfl⟩
        have b115 : 0 ≤ v115 ∧ v115 ≤ 255 := by rw [← e115]; exact hI_M98 598 79 (by decide)
        have y116 : M98 598 79 = v115 := e115
        have y117 : M98 598 80 = v108 := e108
        obtain ⟨v118, e118⟩ : ∃ z, M1 598 89 = z := ⟨_, rfl⟩
        have b118 : 0 ≤ v118 ∧ v118 ≤ 301 := by rw [← e118]; exact hI_M1 598 89 (by decide)
        have e119 : M98 598 89 = v118 := ((w98_10 89 (by decide) (by decide) (by decide) (by decide) (by decide) (by decide) (by decide) (by decide) (by decide) (by decide)).trans e118)
        have y120 : M98 598 89 = v118 := e119
        obtain ⟨v121, e121⟩ : ∃ z, M 598 90 = z := ⟨_, rfl⟩
        have b121 : 0 ≤ v121 ∧ v121 ≤ 2200 := by rw [← e121]; exact hI_M 598 90 (by decide)
        have e122 : M1 598 90 = v121 := ((w1_5 90 (by decide) (by decide) (by decide)).trans e121)
        have e123 : M98 598 90 = v121 := ((w98_10 90 (by decide) (by decide) (by decide) (by decide) (by decide) (by decide) (by decide) (by decide) (by decide) (by decide)).trans e122)
        have y124 : M98 598 90 = v121 := e123
        obtain ⟨v125, e125⟩ : ∃ z, M98 598 100 = z := ⟨_, rfl⟩
        have b125 : 0 ≤ v125 ∧ v125 ≤ 13 := by rw [← e125]; exact hI_M98 598 100 (by decide)
        have y126 : M98 598 100 = v125 := e125
        obtain ⟨v127, e127⟩ : ∃ z, M 598 107 = z := ⟨_, rfl⟩
        have b127 : 0 ≤ v127 ∧ v127 ≤ 16 := by rw [← e127]; exact hI_M 598 107 (by decide)
        have e128 : M1 598 107 = v127 := ((w1_5 107 (by decide) (by decide) (by decide)).trans e127)
        have e129 : M98 598 107 = v127 := ((w98_10 107 (by decide) (by decide) (by decide) (by decide) (by decide) (by decide) (by decide) (by decide) (by decide) (by decide)).trans e128)
        have y130 : M98 598 107 = v127 := e129
        exact jr.vreturn rfl rfl (q _ hI_M98 hH_M98 hS_M98  (by by_cases hf : v108 = 0; (first | (exfalso; omega) | (exact Or.inr ⟨⟨by omega, ES.adj hE (k' := kk) (z' := 0) (by omega) (by omega) (by omega), by omega, by omega, by omega, by omega⟩, by omega⟩)); (exact Or.inl ⟨by omega, by omega⟩)) (by omega) (by omega) (by omega) (CP.f (CP.f (CP.rfl _) (fun i => w1_4 659 i (by decide)) (w1_5 90 (by decide) (by decide) (by decide))) (fun i => w98_9 659 i (by decide)) (w98_10 90 (by decide) (by decide) (by decide) (by decide) (by decide) (by decide) (by decide) (by decide) (by decide) (by decide))) (by omega) (fun a i f598 f659 f660 => ((w98_9 a i f598).trans ((w1_4 a i f598).trans rfl))) (fun i g73 g74 g75 g76 g77 g78 g79 g80 g81 g89 g90 g100 => ((w98_10 i g73 g74 g75 g76 g77 g78 g79 g80 g81 g100).trans ((w1_5 i g80 g81 g89).trans rfl))))
