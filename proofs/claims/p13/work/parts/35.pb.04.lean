theorem r_kindAndField {A : Nat → Option (Nat × (Nat → Int32))} {Q : Option Value → jm → Prop} {b kk : Int} {M : jm} (hI_M : RI M) (hH_M : RH M) (hS_M : RF M) (p0 : GS M b 0 kk) (p1 : (M 598 74 = 1 ∧ 31 ≤ M 598 76 ∧ M 598 76 ≤ 44)) (q : ∀ (M' : jm), RI M' → RH M' → RF M' → (BS M' ∨ (GS M' b 1 kk ∧ TK M' < TK M)) → TK M' ≤ TK M → M' 598 73 ≤ M' 598 72 → (M' 598 80 ≠ 0 ∨ TK M' < TK M) → CP M M' → M 598 89 ≤ M' 598 89 → (∀ (a : Nat) (i : Int), a ≠ 598 → a ≠ 659 → a ≠ 660 → M' a i = M a i) → (∀ (i : Int), i ≠ 73 → i ≠ 74 → i ≠ 75 → i ≠ 76 → i ≠ 77 → i ≠ 78 → i ≠ 79 → i ≠ 80 → i ≠ 81 → i ≠ 89 → i ≠ 90 → M' 598 i = M 598 i) → Q none M') : jc A 4 358 [.ref (598)] M Q := by
  obtain ⟨gs1, gs2, gs3, gs4, gs5, gs6⟩ := id p0
  have hE := gs2
  have sl := ES.sgle gs2
  have bb := ES.bb gs2
  have kb := ES.kz gs2
  have b107 : (0 : Int) ≤ M 598 107 ∧ M 598 107 ≤ 16 := hI_M 598 107 (by decide)
  have b73 : (0 : Int) ≤ M 598 73 ∧ M 598 73 ≤ 1600 := hI_M 598 73 (by decide)
  have b88 : (0 : Int) ≤ M 598 88 ∧ M 598 88 ≤ 16 := hI_M 598 88 (by decide)
  have b100 : (0 : Int) ≤ M 598 100 ∧ M 598 100 ≤ 13 := hI_M 598 100 (by decide)
  refine jc_of (m := xm_358) rfl (Nat.le_of_ble_eq_true rfl) rfl ?_
  refine jr.aload_n rfl rfl ?_
  obtain ⟨v1, e1⟩ : ∃ z, M 598 76 = z := ⟨_, rfl⟩
  have b1 : (-1) ≤ v1 ∧ v1 ≤ 68 := by rw [← e1]; exact hI_M 598 76 (by decide)
  refine jr.getf (i := 76) (x := v1) (v := .int (Int32.ofInt (v1))) rfl rfl (by decide) rfl (by decide) rfl rfl e1 rfl ?_
  refine jr.bipush rfl (by decide) ?_
  refine jr.isub rfl ?_
  refine jr.istore_n (ls' := [_, _]) rfl (by decide) rfl ?_
  refine jr.aload_n rfl rfl ?_
  obtain ⟨v3, e3⟩ : ∃ z, M 598 89 = z := ⟨_, rfl⟩
  have b3 : 0 ≤ v3 ∧ v3 ≤ 301 := by rw [← e3]; exact hI_M 598 89 (by decide)
  obtain ⟨v4, e4⟩ : ∃ z, M 598 73 = z := ⟨_, rfl⟩
  have b4 : 0 ≤ v4 ∧ v4 ≤ 1600 := by rw [← e4]; exact hI_M 598 73 (by decide)
  obtain ⟨v7, e7⟩ : ∃ z, M 598 100 = z := ⟨_, rfl⟩
  have b7 : 0 ≤ v7 ∧ v7 ≤ 13 := by rw [← e7]; exact hI_M 598 100 (by decide)
  refine jr_v rfl rfl (Or.inl rfl) rfl rfl (by decide) rfl ⟨rfl, Nat.le_of_ble_eq_true rfl, Nat.le_of_ble_eq_true rfl⟩ rfl (jc.deep (r_node hI_M hH_M hS_M   (by rw [e3]; omega) (fun M2 hI_M2 hH_M2 hS_M2  w2_0 w2_1 w2_2 w2_3 w2_4 w2_5 => ?_)) (by decide))
  have tk2 : TK M2 = TK M := TK.fr (w2_5 73 (by decide) (by decide) (by decide)) (w2_5 74 (by decide) (by decide) (by decide))
  have y5 : M 598 73 = v4 := e4
  have y6 : M 598 89 = v3 := e3
  have y8 : M 598 100 = v7 := e7
  have x2_73 := w2_5 73 (by decide) (by decide) (by decide)
  have x2_100 := w2_5 100 (by decide) (by decide) (by decide)
  have hE := ES.fr2 hE w2_4 (w2_5 88 (by decide) (by decide) (by decide)) (w2_5 90 (by decide) (by decide) (by decide)) (w2_5 101 (by decide) (by decide) (by decide)) (w2_5 102 (by decide) (by decide) (by decide)) (w2_5 107 (by decide) (by decide) (by decide)) (k' := kk + 4) (d' := 0) (z' := 0) (by omega) (by omega) (by omega) (by omega)
  refine jr.aload_n rfl rfl ?_
  refine jr_v rfl rfl (Or.inl rfl) rfl rfl (by decide) rfl ⟨rfl, Nat.le_of_ble_eq_true rfl, Nat.le_of_ble_eq_true rfl⟩ rfl (jc.deep (c_good hI_M2  (fun t13_0 => ?_) (fun f13_0 => ?_)) (by decide))
  · have w2_1r := Classical.byContradiction (fun z => w2_1 z t13_0)
    have w2_2r := w2_2 t13_0
    clear w2_1 w2_2 w2_3
    refine jr.if_eq rfl rfl (by omega) (fun h => absurd h (by decide)) (fun _ => ?_)
    refine jr.aload_n rfl rfl ?_
    have e10 : M2 598 73 = v4 := ((w2_5 73 (by decide) (by decide) (by decide)).trans e4)
    obtain ⟨v11, e11⟩ : ∃ z, M 598 72 = z := ⟨_, rfl⟩
    have b11 : 0 ≤ v11 ∧ v11 ≤ 1600 := by rw [← e11]; exact hI_M 598 72 (by decide)
    have e12 : M2 598 72 = v11 := ((w2_5 72 (by decide) (by decide) (by decide)).trans e11)
    obtain ⟨v14, e14⟩ : ∃ z, M2 598 89 = z := ⟨_, rfl⟩
    have b14 : 0 ≤ v14 ∧ v14 ≤ 301 := by rw [← e14]; exact hI_M2 598 89 (by decide)
    have e16 : M2 598 100 = v7 := ((w2_5 100 (by decide) (by decide) (by decide)).trans e7)
    refine jr_v rfl rfl (Or.inl rfl) rfl rfl (by decide) rfl ⟨rfl, Nat.le_of_ble_eq_true rfl, Nat.le_of_ble_eq_true rfl⟩ rfl (jc.deep (r_next hI_M2 hH_M2 hS_M2   (by rw [e10, e12]; omega) (fun M9 hI_M9 hH_M9 hS_M9  w9_0 w9_1 w9_2 w9_3 w9_4 w9_5 w9_6 => ?_)) (by decide))
    have y13 : M2 598 73 = v4 := e10
    have y15 : M2 598 89 = v14 := e14
    have y17 : M2 598 100 = v7 := e16
    have x9_89 := w9_6 89 (by decide) (by decide) (by decide) (by decide) (by decide) (by decide) (by decide)
    have x9_100 := w9_6 100 (by decide) (by decide) (by decide) (by decide) (by decide) (by decide) (by decide)
    have hE := ES.fr2 hE w9_5 (w9_6 88 (by decide) (by decide) (by decide) (by decide) (by decide) (by decide) (by decide)) (w9_6 90 (by decide) (by decide) (by decide) (by decide) (by decide) (by decide) (by decide)) (w9_6 101 (by decide) (by decide) (by decide) (by decide) (by decide) (by decide) (by decide)) (w9_6 102 (by decide) (by decide) (by decide) (by decide) (by decide) (by decide) (by decide)) (w9_6 107 (by decide) (by decide) (by decide) (by decide) (by decide) (by decide) (by decide)) (k' := kk + 4) (d' := 0) (z' := 0) (by omega) (by omega) (by omega) (by omega)
    refine jr.aload_n rfl rfl ?_
    refine jr.bipush rfl (by decide) ?_
    obtain ⟨v19, e19⟩ : ∃ z, M9 598 73 = z := ⟨_, rfl⟩
    have b19 : 0 ≤ v19 ∧ v19 ≤ 1600 := by rw [← e19]; exact hI_M9 598 73 (by decide)
    have e20 : M9 598 72 = v11 := ((w9_6 72 (by decide) (by decide) (by decide) (by decide) (by decide) (by decide) (by decide)).trans e12)
    have e22 : M9 598 89 = v14 := ((w9_6 89 (by decide) (by decide) (by decide) (by decide) (by decide) (by decide) (by decide)).trans e14)
    have e24 : M9 598 100 = v7 := ((w9_6 100 (by decide) (by decide) (by decide) (by decide) (by decide) (by decide) (by decide)).trans e16)
    refine jr_v rfl rfl (Or.inl rfl) rfl rfl (by decide) rfl ⟨rfl, Nat.le_of_ble_eq_true rfl, Nat.le_of_ble_eq_true rfl⟩ rfl (jc.deep (r_want hI_M9 hH_M9 hS_M9  (by omega) (by rw [e19, e20]; omega) (fun M18 hI_M18 hH_M18 hS_M18  w18_0 w18_1 w18_2 w18_3 w18_4 w18_5 w18_6 w18_7 => ?_)) (by decide))
    have y21 : M9 598 73 = v19 := e19
    have y23 : M9 598 89 = v14 := e22
    have y25 : M9 598 100 = v7 := e24
    have x18_89 := w18_7 89 (by decide) (by decide) (by decide) (by decide) (by decide) (by decide) (by decide) (by decide) (by decide)
    have x18_100 := w18_7 100 (by decide) (by decide) (by decide) (by decide) (by decide) (by decide) (by decide) (by decide) (by decide)
    have hE := ES.fr2 hE w18_6 (w18_7 88 (by decide) (by decide) (by decide) (by decide) (by decide) (by decide) (by decide) (by decide) (by decide)) (w18_7 90 (by decide) (by decide) (by decide) (by decide) (by decide) (by decide) (by decide) (by decide) (by decide)) (w18_7 101 (by decide) (by decide) (by decide) (by decide) (by decide) (by decide) (by decide) (by decide) (by decide)) (w18_7 102 (by decide) (by decide) (by decide) (by decide) (by decide) (by decide) (by decide) (by decide) (by decide)) (w18_7 107 (by decide) (by decide) (by decide) (by decide) (by decide) (by decide) (by decide) (by decide) (by decide)) (k' := kk + 4) (d' := 0) (z' := 0) (by omega) (by omega) (by omega) (by omega)
    refine jr.aload_n rfl rfl ?_
    refine jr_v rfl rfl (Or.inl rfl) rfl rfl (by decide) rfl ⟨rfl, Nat.le_of_ble_eq_true rfl, Nat.le_of_ble_eq_true rfl⟩ rfl (jc.deep (c_good hI_M18  (fun t30_0 => ?_) (fun f30_0 => ?_)) (by decide))
    · have w18_3r := Classical.byContradiction (fun z => w18_3 z t30_0)
      have w18_4r := w18_4 t30_0
      clear w18_3 w18_4
      refine jr.if_ne rfl rfl (by omega) (fun _ => ?_) (fun h => absurd (by decide) h)
      refine jr.aload_n rfl rfl ?_
      obtain ⟨v26, e26⟩ : ∃ z, M18 598 74 = z := ⟨_, rfl⟩
      have b26 : 0 ≤ v26 ∧ v26 ≤ 4 := by rw [← e26]; exact hI_M18 598 74 (by decide)
      refine jr.getf (i := 74) (x := v26) (v := .int (Int32.ofInt (v26))) rfl rfl (by decide) rfl (by decide) rfl rfl e26 rfl ?_
      refine jr.iconst rfl ?_
      refine jr.icmp_eq rfl rfl (by omega) (by omega) (fun h42 => ?_) (fun h42 => ?_)
      · refine jr.iconst rfl ?_
        refine jr.istore_n (ls' := [_, _, _]) rfl (by decide) rfl ?_
        refine jr.bipush rfl (by decide) ?_
        refine jr.istore_n (ls' := [_, _, _, _]) rfl (by decide) rfl ?_
        obtain ⟨v27, e27⟩ : ∃ z, M18 598 80 = z := ⟨_, rfl⟩
        have b27 : 0 ≤ v27 ∧ v27 ≤ 7 := by rw [← e27]; exact hI_M18 598 80 (by decide)
        have e28 : M18 598 89 = v14 := ((w18_7 89 (by decide) (by decide) (by decide) (by decide) (by decide) (by decide) (by decide) (by decide) (by decide)).trans e22)
        have e29 : M18 598 100 = v7 := ((w18_7 100 (by decide) (by decide) (by decide) (by decide) (by decide) (by decide) (by decide) (by decide) (by decide)).trans e24)
        obtain ⟨v30, e30⟩ : ∃ z, M18 598 73 = z := ⟨_, rfl⟩
        have b30 : 0 ≤ v30 ∧ v30 ≤ 1600 := by rw [← e30]; exact hI_M18 598 73 (by decide)
        have e31 : M18 598 72 = v11 := ((w18_7 72 (by decide) (by decide) (by decide) (by decide) (by decide) (by decide) (by decide) (by decide) (by decide)).trans e20)
        obtain ⟨v32, e32⟩ : ∃ z, M 598 90 = z := ⟨_, rfl⟩
        have b32 : 0 ≤ v32 ∧ v32 ≤ 2200 := by rw [← e32]; exact hI_M 598 90 (by decide)
        have e33 : M2 598 90 = v32 := ((w2_5 90 (by decide) (by decide) (by decide)).trans e32)
        have e34 : M9 598 90 = v32 := ((w9_6 90 (by decide) (by decide) (by decide) (by decide) (by decide) (by decide) (by decide)).trans e33)
        have e35 : M18 598 90 = v32 := ((w18_7 90 (by decide) (by decide) (by decide) (by decide) (by decide) (by decide) (by decide) (by decide) (by decide)).trans e34)
        obtain ⟨v36, e36⟩ : ∃ z, M18 598 79 = z := ⟨_, rfl⟩
        have b36 : 0 ≤ v36 ∧ v36 ≤ 255 := by rw [← e36]; exact hI_M18 598 79 (by decide)
        refine jr.pick (ls := [_, _, _, _]) [0, 1, 2, 3] rfl rfl ?_
        exact r_kindAndField_L55 q 12 M18 10 (-1) (v1 - 31) hI_M18 hH_M18 hS_M18  (fun a i f598 f659 f660 => ((w18_6 a i f598).trans ((w9_5 a i f598).trans ((w2_4 a i f598).trans rfl)))) (fun i g73 g74 g75 g76 g77 g78 g79 g80 g81 g89 g90 => ((w18_7 i g73 g74 g75 g76 g77 g78 g79 g80 g81).trans ((w9_6 i g73 g74 g75 g76 g77 g78 g79).trans ((w2_5 i g80 g81 g89).trans rfl)))) (by omega) (by omega) (by omega) hE (by rw [e27] <;> omega) (by rw [e28] <;> omega) (by rw [e29] <;> omega) (by rw [e30, e31] <;> omega) (by omega) (by rw [e35] <;> omega) (by rw [e26] <;> omega) (by rw [e26, e36] <;> omega) (by omega) (CP.f (CP.f (CP.f (CP.rfl _) (fun i => w2_4 659 i (by decide)) (w2_5 90 (by decide) (by decide) (by decide))) (fun i => w9_5 659 i (by decide)) (w9_6 90 (by decide) (by decide) (by decide) (by decide) (by decide) (by decide) (by decide))) (fun i => w18_6 659 i (by decide)) (w18_7 90 (by decide) (by decide) (by decide) (by decide) (by decide) (by decide) (by decide) (by decide) (by decide))) (by omega) (by rw [e28] <;> omega) (by omega)
      · refine jr.aload_n rfl rfl ?_
        obtain ⟨v38, e38⟩ : ∃ z, M18 598 73 = z := ⟨_, rfl⟩
        have b38 : 0 ≤ v38 ∧ v38 ≤ 1600 := by rw [← e38]; exact hI_M18 598 73 (by decide)
        have e40 : M18 598 89 = v14 := ((w18_7 89 (by decide) (by decide) (by decide) (by decide) (by decide) (by decide) (by decide) (by decide) (by decide)).trans e22)
        have e42 : M18 598 100 = v7 := ((w18_7 100 (by decide) (by decide) (by decide) (by decide) (by decide) (by decide) (by decide) (by decide) (by decide)).trans e24)
        refine jr_v rfl rfl (Or.inl rfl) rfl rfl (by decide) rfl ⟨rfl, Nat.le_of_ble_eq_true rfl, Nat.le_of_ble_eq_true rfl⟩ rfl (jc.deep (r_wrongToken hI_M18 hH_M18 hS_M18    (fun M37 hI_M37 hH_M37 hS_M37  w37_0 w37_1 w37_2 => ?_)) (by decide))
        have tk37 : TK M37 = TK M18 := TK.fr (w37_2 73 (by decide) (by decide)) (w37_2 74 (by decide) (by decide))
        have y39 : M18 598 73 = v38 := e38
        have y41 : M18 598 89 = v14 := e40
        have y43 : M18 598 100 = v7 := e42
        have x37_73 := w37_2 73 (by decide) (by decide)
        have x37_89 := w37_2 89 (by decide) (by decide)
        have x37_100 := w37_2 100 (by decide) (by decide)
        have hE := ES.fr2 hE w37_1 (w37_2 88 (by decide) (by decide)) (w37_2 90 (by decide) (by decide)) (w37_2 101 (by decide) (by decide)) (w37_2 102 (by decide) (by decide)) (w37_2 107 (by decide) (by decide)) (k' := kk + 4) (d' := 0) (z' := 0) (by omega) (by omega) (by omega) (by omega)
        have e44 : M18 598 72 = v11 := ((w18_7 72 (by decide) (by decide) (by decide) (by decide) (by decide) (by decide) (by decide) (by decide) (by decide)).trans e20)
        have e45 : M37 598 72 = v11 := ((w37_2 72 (by decide) (by decide)).trans e44)
        have y46 : M37 598 72 = v11 := e45
        have e47 : M37 598 73 = v38 := ((w37_2 73 (by decide) (by decide)).trans e38)
        have y48 : M37 598 73 = v38 := e47
        have e49 : M37 598 74 = v26 := ((w37_2 74 (by decide) (by decide)).trans e26)
        have y50 : M37 598 74 = v26 := e49
        obtain ⟨v51, e51⟩ : ∃ z, M18 598 79 = z := ⟨_, rfl⟩
        have b51 : 0 ≤ v51 ∧ v51 ≤ 255 := by rw [← e51]; exact hI_M18 598 79 (by decide)
        have e52 : M37 598 79 = v51 := ((w37_2 79 (by decide) (by decide)).trans e51)
        have y53 : M37 598 79 = v51 := e52
        obtain ⟨v54, e54⟩ : ∃ z, M37 598 80 = z := ⟨_, rfl⟩
        have b54 : 0 ≤ v54 ∧ v54 ≤ 7 := by rw [← e54]; exact hI_M37 598 80 (by decide)
        have y55 : M37 598 80 = v54 := e54
        have e56 : M37 598 89 = v14 := ((w37_2 89 (by decide) (by decide)).trans e40)
        have y57 : M37 598 89 = v14 := e56
        obtain ⟨v58, e58⟩ : ∃ z, M 598 90 = z := ⟨_, rfl⟩
        have b58 : 0 ≤ v58 ∧ v58 ≤ 2200 := by rw [← e58]; exact hI_M 598 90 (by decide)
        have e59 : M2 598 90 = v58 := ((w2_5 90 (by decide) (by decide) (by decide)).trans e58)
        have e60 : M9 598 90 = v58 := ((w9_6 90 (by decide) (by decide) (by decide) (by decide) (by decide) (by decide) (by decide)).trans e59)
        have e61 : M18 598 90 = v58 := ((w18_7 90 (by decide) (by decide) (by decide) (by decide) (by decide) (by decide) (by decide) (by decide) (by decide)).trans e60)
        have e62 : M37 598 90 = v58 := ((w37_2 90 (by decide) (by decide)).trans e61)
        have y63 : M37 598 90 = v58 := e62
        have e64 : M37 598 100 = v7 := ((w37_2 100 (by decide) (by decide)).trans e42)
        have y65 : M37 598 100 = v7 := e64
        obtain ⟨v66, e66⟩ : ∃ z, M 598 107 = z := ⟨_, rfl⟩
        have b66 : 0 ≤ v66 ∧ v66 ≤ 16 := by rw [← e66]; exact hI_M 598 107 (by decide)
        have e67 : M2 598 107 = v66 := ((w2_5 107 (by decide) (by decide) (by decide)).trans e66)
        have e68 : M9 598 107 = v66 := ((w9_6 107 (by decide) (by decide) (by decide) (by decide) (by decide) (by decide) (by decide)).trans e67)
        have e69 : M18 598 107 = v66 := ((w18_7 107 (by decide) (by decide) (by decide) (by decide) (by decide) (by decide) (by decide) (by decide) (by decide)).trans e68)
        have e70 : M37 598 107 = v66 := ((w37_2 107 (by decide) (by decide)).trans e69)
        have y71 : M37 598 107 = v66 := e70
        exact jr.vreturn rfl rfl (q _ hI_M37 hH_M37 hS_M37  (by by_cases hf : v54 = 0; (first | (exfalso; omega) | (exact Or.inr ⟨⟨by omega, ES.adj hE (k' := kk) (z' := 0) (by omega) (by omega) (by omega), by omega, by omega, by omega, by omega⟩, by omega⟩)); (exact Or.inl ⟨by omega, by omega⟩)) (by omega) (by omega) (by omega) (CP.f (CP.f (CP.f (CP.f (CP.rfl _) (fun i => w2_4 659 i (by decide)) (w2_5 90 (by decide) (by decide) (by decide))) (fun i => w9_5 659 i (by decide)) (w9_6 90 (by decide) (by decide) (by decide) (by decide) (by decide) (by decide) (by decide))) (fun i => w18_6 659 i (by decide)) (w18_7 90 (by decide) (by decide) (by decide) (by decide) (by decide) (by decide) (by decide) (by decide) (by decide))) (fun i => w37_1 659 i (by decide)) (w37_2 90 (by decide) (by decide))) (by omega) (fun a i f598 f659 f660 => ((w37_1 a i f598).trans ((w18_6 a i f598).trans ((w9_5 a i f598).trans ((w2_4 a i f598).trans rfl))))) (fun i g73 g74 g75 g76 g77 g78 g79 g80 g81 g89 g90 => ((w37_2 i g80 g81).trans ((w18_7 i g73 g74 g75 g76 g77 g78 g79 g80 g81).trans ((w9_6 i g73 g74 g75 g76 g77 g78 g79).trans ((w2_5 i g80 g81 g89).trans rfl))))))
    · refine jr.if_ne rfl rfl (by omega) (fun h => absurd h (by decide)) (fun _ => ?_)
      have e72 : M18 598 72 = v11 := ((w18_7 72 (by decide) (by decide) (by decide) (by decide) (by decide) (by decide) (by decide) (by decide) (by decide)).trans e20)
      have y73 : M18 598 72 = v11 := e72
      obtain ⟨v74, e74⟩ : ∃ z, M18 598 73 = z := ⟨_, rfl⟩
      have b74 : 0 ≤ v74 ∧ v74 ≤ 1600 := by rw [← e74]; exact hI_M18 598 73 (by decide)
      have y75 : M18 598 73 = v74 := e74
      obtain ⟨v76, e76⟩ : ∃ z, M18 598 74 = z := ⟨_, rfl⟩
      have b76 : 0 ≤ v76 ∧ v76 ≤ 4 := by rw [← e76]; exact hI_M18 598 74 (by decide)
      have y77 : M18 598 74 = v76 := e76
      obtain ⟨v78, e78⟩ : ∃ z, M18 598 79 = z := ⟨_, rfl⟩
      have b78 : 0 ≤ v78 ∧ v78 ≤ 255 := by rw [← e78]; exact hI_M18 598 79 (by decide)
      have y79 : M18 598 79 = v78 := e78
      obtain ⟨v80, e80⟩ : ∃ z, M18 598 80 = z := ⟨_, rfl⟩
      have b80 : 0 ≤ v80 ∧ v80 ≤ 7 := by rw [← e80]; exact hI_M18 598 80 (by decide)
      have y81 : M18 598 80 = v80 := e80
      have e82 : M18 598 89 = v14 := ((w18_7 89 (by decide) (by decide) (by decide) (by decide) (by decide) (by decide) (by decide) (by decide) (by decide)).trans e22)
      have y83 : M18 598 89 = v14 := e82
      obtain ⟨v84, e84⟩ : ∃ z, M 598 90 = z := ⟨_, rfl⟩
      have b84 : 0 ≤ v84 ∧ v84 ≤ 2200 := by rw [← e84]; exact hI_M 598 90 (by decide)
      have e85 : M2 598 90 = v84 := ((w2_5 90 (by decide) (by decide) (by decide)).trans e84)
      have e86 : M9 598 90 = v84 := ((w9_6 90 (by decide) (by decide) (by decide) (by decide) (by decide) (by decide) (by decide)).trans e85)
      have e87 : M18 598 90 = v84 := ((w18_7 90 (by decide) (by decide) (by decide) (by decide) (by decide) (by decide) (by decide) (by decide) (by decide)).trans e86)
      have y88 : M18 598 90 = v84 := e87
      have e89 : M18 598 100 = v7 := ((w18_7 100 (by decide) (by decide) (by decide) (by decide) (by decide) (by decide) (by decide) (by decide) (by decide)).trans e24)
      have y90 : M18 598 100 = v7 := e89
      obtain ⟨v91, e91⟩ : ∃ z, M 598 107 = z := ⟨_, rfl⟩
      have b91 : 0 ≤ v91 ∧ v91 ≤ 16 := by rw [← e91]; exact hI_M 598 107 (by decide)
      have e92 : M2 598 107 = v91 := ((w2_5 107 (by decide) (by decide) (by decide)).trans e91)
      have e93 : M9 598 107 = v91 := ((w9_6 107 (by decide) (by decide) (by decide) (by decide) (by decide) (by decide) (by decide)).trans e92)
      have e94 : M18 598 107 = v91 := ((w18_7 107 (by decide) (by decide) (by decide) (by decide) (by decide) (by decide) (by decide) (by decide) (by decide)).trans e93)
      have y95 : M18 598 107 = v91 := e94
      exact jr.vreturn rfl rfl (q _ hI_M18 hH_M18 hS_M18  (by by_cases hf : v80 = 0; (first | (exfalso; omega) | (exact Or.inr ⟨⟨by omega, ES.adj hE (k' := kk) (z' := 0) (by omega) (by omega) (by omega), by omega, by omega, by omega, by omega⟩, by omega⟩)); (exact Or.inl ⟨by omega, by omega⟩)) (by omega) (by omega) (by omega) (CP.f (CP.f (CP.f (CP.rfl _) (fun i => w2_4 659 i (by decide)) (w2_5 90 (by decide) (by decide) (by decide))) (fun i => w9_5 659 i (by decide)) (w9_6 90 (by decide) (by decide) (by decide) (by decide) (by decide) (by decide) (by decide))) (fun i => w18_6 659 i (by decide)) (w18_7 90 (by decide) (by decide) (by decide) (by decide) (by decide) (by decide) (by decide) (by decide) (by decide))) (by omega) (fun a i f598 f659 f660 => ((w18_6 a i f598).trans ((w9_5 a i f598).trans ((w2_4 a i f598).trans rfl)))) (fun i g73 g74 g75 g76 g77 g78 g79 g80 g81 g89 g90 => ((w18_7 i g73 g74 g75 g76 g77 g78 g79 g80 g81).trans ((w9_6 i g73 g74 g75 g76 g77 g78 g79).trans ((w2_5 i g80 g81 g89).trans rfl)))))
  · refine jr.if_eq rfl rfl (by omega) (fun _ => ?_) (fun h => absurd (by decide) h)
    refine jr.aload_n rfl rfl ?_
    refine jr.bipush rfl (by decide) ?_
    have e97 : M2 598 73 = v4 := ((w2_5 73 (by decide) (by decide) (by decide)).trans e4)
    obtain ⟨v98, e98⟩ : ∃ z, M 598 72 = z := ⟨_, rfl⟩
    have b98 : 0 ≤ v98 ∧ v98 ≤ 1600 := by rw [← e98]; exact hI_M 598 72 (by decide)
    have e99 : M2 598 72 = v98 := ((w2_5 72 (by decide) (by decide) (by decide)).trans e98)
    obtain ⟨v101, e101⟩ : ∃ z, M2 598 89 = z := ⟨_, rfl⟩
    have b101 : 0 ≤ v101 ∧ v101 ≤ 301 := by rw [← e101]; exact hI_M2 598 89 (by decide)
    have e103 : M2 598 100 = v7 := ((w2_5 100 (by decide) (by decide) (by decide)).trans e7)
    refine jr_v rfl rfl (Or.inl rfl) rfl rfl (by decide) rfl ⟨rfl, Nat.le_of_ble_eq_true rfl, Nat.le_of_ble_eq_true rfl⟩ rfl (jc.deep (r_want hI_M2 hH_M2 hS_M2  (by omega) (by rw [e97, e99]; omega) (fun M96 hI_M96 hH_M96 hS_M96  w96_0 w96_1 w96_2 w96_3 w96_4 w96_5 w96_6 w96_7 => ?_)) (by decide))
    have y100 : M2 598 73 = v4 := e97
    have y102 : M2 598 89 = v101 := e101
    have y104 : M2 598 100 = v7 := e103
    have x96_89 := w96_7 89 (by decide) (by decide) (by decide) (by decide) (by decide) (by decide) (by decide) (by decide) (by decide)
    have x96_100 := w96_7 100 (by decide) (by decide) (by decide) (by decide) (by decide) (by decide) (by decide) (by decide) (by decide)
    have hE := ES.fr2 hE w96_6 (w96_7 88 (by decide) (by decide) (by decide) (by decide) (by decide) (by decide) (by decide) (by decide) (by decide)) (w96_7 90 (by decide) (by decide) (by decide) (by decide) (by decide) (by decide) (by decide) (by decide) (by decide)) (w96_7 101 (by decide) (by decide) (by decide) (by decide) (by decide) (by decide) (by decide) (by decide) (by decide)) (w96_7 102 (by decide) (by decide) (by decide) (by decide) (by decide) (by decide) (by decide) (by decide) (by decide)) (w96_7 107 (by decide) (by decide) (by decide) (by decide) (by decide) (by decide) (by decide) (by decide) (by decide)) (k' := kk + 4) (d' := 0) (z' := 0) (by omega) (by omega) (by omega) (by omega)
    refine jr.aload_n rfl rfl ?_
    obtain ⟨v105, e105⟩ : ∃ z, M96 598 80 = z := ⟨_, rfl⟩
    have b105 : 0 ≤ v105 ∧ v105 ≤ 7 := by rw [← e105]; exact hI_M96 598 80 (by decide)
    refine jr_v rfl rfl (Or.inl rfl) rfl rfl (by decide) rfl ⟨rfl, Nat.le_of_ble_eq_true rfl, Nat.le_of_ble_eq_true rfl⟩ rfl (jc.deep (c_good hI_M96  (fun t30_0 => ?_) (fun f30_0 => ?_)) (by decide))
    · have w96_3r := Classical.byContradiction (fun z => w96_3 z t30_0)
      have w96_4r := w96_4 t30_0
      clear w96_3 w96_4
      exfalso
      omega
    · refine jr.if_ne rfl rfl (by omega) (fun h => absurd h (by decide)) (fun _ => ?_)
      have e106 : M96 598 72 = v98 := ((w96_7 72 (by decide) (by decide) (by decide) (by decide) (by decide) (by decide) (by decide) (by decide) (by decide)).trans e99)
      have y107 : M96 598 72 = v98 := e106
      obtain ⟨v108, e108⟩ : ∃ z, M96 598 73 = z := ⟨_, rfl⟩
      have b108 : 0 ≤ v108 ∧ v108 ≤ 1600 := by rw [← e108]; exact hI_M96 598 73 (by decide)
      have y109 : M96 598 73 = v108 := e108
      obtain ⟨v110, e110⟩ : ∃ z, M96 598 74 = z := ⟨_, rfl⟩
      have b110 : 0 ≤ v110 ∧ v110 ≤ 4 := by rw [← e110]; exact hI_M96 598 74 (by decide)
      have y111 : M96 598 74 = v110 := e110
      obtain ⟨v112, e112⟩ : ∃ z, M96 598 79 = z := ⟨_, rfl⟩
      have b112 : 0 ≤ v112 ∧ v112 ≤ 255 := by rw [← e112]; exact hI_M96 598 79 (by decide)
      have y113 : M96 598 79 = v112 := e112
      have y114 : M96 598 80 = v105 := e105
      have e115 : M96 598 89 = v101 := ((w96_7 89 (by decide) (by decide) (by decide) (by decide) (by decide) (by decide) (by decide) (by decide) (by decide)).trans e101)
      have y116 : M96 598 89 = v101 := e115
      obtain ⟨v117, e117⟩ : ∃ z, M 598 90 = z := ⟨_, rfl⟩
      have b117 : 0 ≤ v117 ∧ v117 ≤ 2200 := by rw [← e117]; exact hI_M 598 90 (by decide)
      have e118 : M2 598 90 = v117 := ((w2_5 90 (by decide) (by decide) (by decide)).trans e117)
      have e119 : M96 598 90 = v117 := ((w96_7 90 (by decide) (by decide) (by decide) (by decide) (by decide) (by decide) (by decide) (by decide) (by decide)).trans e118)
      have y120 : M96 598 90 = v117 := e119
      have e121 : M96 598 100 = v7 := ((w96_7 100 (by decide) (by decide) (by decide) (by decide) (by decide) (by decide) (by decide) (by decide) (by decide)).trans e103)
      have y122 : M96 598 100 = v7 := e121
      obtain ⟨v123, e123⟩ : ∃ z, M 598 107 = z := ⟨_, rfl⟩
      have b123 : 0 ≤ v123 ∧ v123 ≤ 16 := by rw [← e123]; exact hI_M 598 107 (by decide)
      have e124 : M2 598 107 = v123 := ((w2_5 107 (by decide) (by decide) (by decide)).trans e123)
      have e125 : M96 598 107 = v123 := ((w96_7 107 (by decide) (by decide) (by decide) (by decide) (by decide) (by decide) (by decide) (by decide) (by decide)).trans e124)
      have y126 : M96 598 107 = v123 := e125
      exact jr.vreturn rfl rfl (q _ hI_M96 hH_M96 hS_M96  (by by_cases hf : v105 = 0; (first | (exfalso; omega) | (exact Or.inr ⟨⟨by omega, ES.adj hE (k' := kk) (z' := 0) (by omega) (by omega) (by omega), by omega, by omega, by omega, by omega⟩, by omega⟩)); (exact Or.inl ⟨by omega, by omega⟩)) (by omega) (by omega) (by omega) (CP.f (CP.f (CP.rfl _) (fun i => w2_4 659 i (by decide)) (w2_5 90 (by decide) (by decide) (by decide))) (fun i => w96_6 659 i (by decide)) (w96_7 90 (by decide) (by decide) (by decide) (by decide) (by decide) (by decide) (by decide) (by decide) (by decide))) (by omega) (fun a i f598 f659 f660 => ((w96_6 a i f598).trans ((w2_4 a i f598).trans rfl))) (fun i g73 g74 g75 g76 g77 g78 g79 g80 g81 g89 g90 => ((w96_7 i g73 g74 g75 g76 g77 g78 g79 g80 g81).trans ((w2_5 i g80 g81 g89).trans rfl))))
