section
theorem r_chain {A : Nat → Option (Nat × (Nat → Int32))} {Q : Option Value → jm → Prop} {dd : Int} {M : jm} (hI_M : RI M) (hH_M : RH M) (hS_M : RF M) (p0 : XS M 0 0 dd 1 (-1)) (p1 : AK M) (p2 : LB M) (p3 : (M 598 80 = 0 ∧ M 598 96 ≤ M 598 89 ∧ M 598 89 ≤ 300 ∧ M 598 107 = 0)) (p4 : M 598 73 ≤ M 598 72) (p5 : (M 598 74 = 3 → M 598 79 ≠ 10 ∧ M 598 79 ≠ 11)) (p6 : M 598 74 = 1) (q : ∀ (M' : jm), RI M' → RH M' → RF M' → (BT M' ∨ (DS M' 1 ∧ M' 598 107 = 0 ∧ TK M' < TK M ∧ 1 ≤ M' 598 88 ∧ 1 ≤ M' 598 90 ∧ M' 659 (M' 598 90 - 1) = 3)) → TK M' ≤ TK M → M' 598 73 ≤ M' 598 72 → (M' 598 80 ≠ 0 ∨ TK M' < TK M) → (∀ (a : Nat) (i : Int), a ≠ 598 → a ≠ 659 → a ≠ 660 → a ≠ 661 → a ≠ 662 → a ≠ 663 → a ≠ 664 → a ≠ 665 → a ≠ 666 → a ≠ 667 → a ≠ 668 → a ≠ 669 → a ≠ 656 → a ≠ 657 → a ≠ 658 → M' a i = M a i) → (∀ (i : Int), i ≠ 73 → i ≠ 74 → i ≠ 75 → i ≠ 76 → i ≠ 77 → i ≠ 78 → i ≠ 79 → i ≠ 80 → i ≠ 81 → i ≠ 89 → i ≠ 90 → i ≠ 96 → i ≠ 100 → i ≠ 102 → i ≠ 107 → i ≠ 88 → i ≠ 101 → M' 598 i = M 598 i) → Q none M') : jc A 9 369 [.ref (598)] M Q := by
  have hX := p0
  have hA := p1
  have hB := p2
  have dpx := XS.dep p0
  have sl := XS.sgle p0
  have kb := XS.kz p0
  have bM_107 : (0 : Int) ≤ M 598 107 ∧ M 598 107 ≤ 16 := hI_M 598 107 (by decide)
  have bM_73 : (0 : Int) ≤ M 598 73 ∧ M 598 73 ≤ 1600 := hI_M 598 73 (by decide)
  have bM_88 : (0 : Int) ≤ M 598 88 ∧ M 598 88 ≤ 16 := hI_M 598 88 (by decide)
  have bM_100 : (0 : Int) ≤ M 598 100 ∧ M 598 100 ≤ 13 := hI_M 598 100 (by decide)
  refine jc_of (m := xm_369) rfl (Nat.le_of_ble_eq_true rfl) rfl ?_
  refine jr.aload_n rfl rfl ?_
  obtain ⟨v1, e1⟩ : ∃ z, M 598 88 = z := ⟨_, rfl⟩
  have b1 : 0 ≤ v1 ∧ v1 ≤ 16 := by rw [← e1]; exact hI_M 598 88 (by decide)
  refine jr.getf (i := 88) (x := v1) (v := .int (Int32.ofInt (v1))) rfl rfl (by decide) rfl (by decide) rfl rfl e1 rfl ?_
  refine jr.bipush rfl (by decide) ?_
  refine jr.icmp_ne rfl rfl (by omega) (by omega) (fun h6 => ?_) (fun h6 => ?_)
  · have sx6 : v1 ≤ (15 : Int) := by omega
    clear h6
    refine jr.aload_n rfl rfl ?_
    obtain ⟨v3, e3⟩ : ∃ z, M 598 73 = z := ⟨_, rfl⟩
    have b3 : 0 ≤ v3 ∧ v3 ≤ 1600 := by rw [← e3]; exact hI_M 598 73 (by decide)
    obtain ⟨v4, e4⟩ : ∃ z, M 598 72 = z := ⟨_, rfl⟩
    have b4 : 0 ≤ v4 ∧ v4 ≤ 1600 := by rw [← e4]; exact hI_M 598 72 (by decide)
    obtain ⟨v6, e6⟩ : ∃ z, M 598 74 = z := ⟨_, rfl⟩
    have b6 : 0 ≤ v6 ∧ v6 ≤ 4 := by rw [← e6]; exact hI_M 598 74 (by decide)
    obtain ⟨v8, e8⟩ : ∃ z, M 598 89 = z := ⟨_, rfl⟩
    have b8 : 0 ≤ v8 ∧ v8 ≤ 301 := by rw [← e8]; exact hI_M 598 89 (by decide)
    obtain ⟨v10, e10⟩ : ∃ z, M 598 100 = z := ⟨_, rfl⟩
    have b10 : 0 ≤ v10 ∧ v10 ≤ 13 := by rw [← e10]; exact hI_M 598 100 (by decide)
    refine jr_v rfl rfl (Or.inl rfl) rfl rfl (by decide) rfl ⟨rfl, Nat.le_of_ble_eq_true rfl, Nat.le_of_ble_eq_true rfl⟩ rfl (jc.deep (r_next hI_M hH_M hS_M   (by rw [e3, e4]; omega) (fun M2 hI_M2 hH_M2 hS_M2  w2_0 w2_1 w2_2 w2_3 w2_4 w2_5 w2_6 => ?_)) (by decide))
    have y5 : M 598 73 = v3 := e3
    have y7 : M 598 74 = v6 := e6
    have y9 : M 598 89 = v8 := e8
    have y11 : M 598 100 = v10 := e10
    have x2_89 := w2_6 89 (by decide) (by decide) (by decide) (by decide) (by decide) (by decide) (by decide)
    have x2_100 := w2_6 100 (by decide) (by decide) (by decide) (by decide) (by decide) (by decide) (by decide)
    have hX := XS.fr2 hX w2_5 (w2_6 88 (by decide) (by decide) (by decide) (by decide) (by decide) (by decide) (by decide)) (w2_6 90 (by decide) (by decide) (by decide) (by decide) (by decide) (by decide) (by decide)) (w2_6 101 (by decide) (by decide) (by decide) (by decide) (by decide) (by decide) (by decide)) (w2_6 107 (by decide) (by decide) (by decide) (by decide) (by decide) (by decide) (by decide)) (k' := 0) (d' := dd) (z' := 0) (by omega) (by omega) (by omega) (by omega)
    have hA := AK.cp hA (CP.f (CP.rfl _) (fun i => w2_5 659 i (by decide)) (w2_6 90 (by decide) (by decide) (by decide) (by decide) (by decide) (by decide) (by decide))) (fun i => w2_5 663 i (by decide)) (w2_6 96 (by decide) (by decide) (by decide) (by decide) (by decide) (by decide) (by decide))
    have hB := LB.fr hB (fun i => w2_5 659 i (by decide)) (w2_6 90 (by decide) (by decide) (by decide) (by decide) (by decide) (by decide) (by decide))
    refine jr.aload_n rfl rfl ?_
    refine jr_v rfl rfl (Or.inl rfl) rfl rfl (by decide) rfl ⟨rfl, Nat.le_of_ble_eq_true rfl, Nat.le_of_ble_eq_true rfl⟩ rfl (jc.deep (c_isName hI_M2  (fun t24_0 => ?_) (fun f24_0 => ?_)) (by decide))
    · refine jr.if_ne rfl rfl (by omega) (fun _ => ?_) (fun h => absurd (by decide) h)
      refine jr.iconst rfl ?_
      refine jr.istore_n (ls' := [_, _]) rfl (by decide) rfl ?_
      obtain ⟨v12, e12⟩ : ∃ z, M 598 96 = z := ⟨_, rfl⟩
      have b12 : 0 ≤ v12 ∧ v12 ≤ 300 := by rw [← e12]; exact hI_M 598 96 (by decide)
      have e13 : M2 598 96 = v12 := ((w2_6 96 (by decide) (by decide) (by decide) (by decide) (by decide) (by decide) (by decide)).trans e12)
      have e14 : M2 598 89 = v8 := ((w2_6 89 (by decide) (by decide) (by decide) (by decide) (by decide) (by decide) (by decide)).trans e8)
      obtain ⟨v15, e15⟩ : ∃ z, M2 598 73 = z := ⟨_, rfl⟩
      have b15 : 0 ≤ v15 ∧ v15 ≤ 1600 := by rw [← e15]; exact hI_M2 598 73 (by decide)
      have e16 : M2 598 72 = v4 := ((w2_6 72 (by decide) (by decide) (by decide) (by decide) (by decide) (by decide) (by decide)).trans e4)
      obtain ⟨v17, e17⟩ : ∃ z, M 598 107 = z := ⟨_, rfl⟩
      have b17 : 0 ≤ v17 ∧ v17 ≤ 16 := by rw [← e17]; exact hI_M 598 107 (by decide)
      have e18 : M2 598 107 = v17 := ((w2_6 107 (by decide) (by decide) (by decide) (by decide) (by decide) (by decide) (by decide)).trans e17)
      have e19 : M2 598 88 = v1 := ((w2_6 88 (by decide) (by decide) (by decide) (by decide) (by decide) (by decide) (by decide)).trans e1)
      obtain ⟨v20, e20⟩ : ∃ z, M2 598 74 = z := ⟨_, rfl⟩
      have b20 : 0 ≤ v20 ∧ v20 ≤ 4 := by rw [← e20]; exact hI_M2 598 74 (by decide)
      obtain ⟨v21, e21⟩ : ∃ z, M2 598 79 = z := ⟨_, rfl⟩
      have b21 : 0 ≤ v21 ∧ v21 ≤ 255 := by rw [← e21]; exact hI_M2 598 79 (by decide)
      refine jr.pick (ls := [_, _]) [0, 1] rfl rfl ?_
      exact r_chain_L37 q 16 M2 0 hI_M2 hH_M2 hS_M2  (fun a i f598 f659 f660 f661 f662 f663 f664 f665 f666 f667 f668 f669 f656 f657 f658 => ((w2_5 a i f598).trans rfl)) (fun i g73 g74 g75 g76 g77 g78 g79 g80 g81 g89 g90 g96 g100 g102 g107 g88 g101 => ((w2_6 i g73 g74 g75 g76 g77 g78 g79).trans rfl)) (by omega) hX hA hB (by rw [e13, e14] <;> omega) (by rw [e15, e16] <;> omega) (by rw [e18] <;> omega) (by rw [e19] <;> omega) (by rw [e20, e21] <;> omega) (by omega) (by rw [e20] <;> omega) (by omega)
    · refine jr.if_ne rfl rfl (by omega) (fun h => absurd h (by decide)) (fun _ => ?_)
      refine jr.aload_n rfl rfl ?_
      refine jr_v rfl rfl (Or.inl rfl) rfl rfl (by decide) rfl ⟨rfl, Nat.le_of_ble_eq_true rfl, Nat.le_of_ble_eq_true rfl⟩ rfl (jc.deep (r_wrongToken hI_M2 hH_M2 hS_M2    (fun M22 hI_M22 hH_M22 hS_M22  w22_0 w22_1 w22_2 => ?_)) (by decide))
      have tk22 : TK M22 = TK M2 := TK.fr (w22_2 73 (by decide) (by decide)) (w22_2 74 (by decide) (by decide))
      have e23 : M2 598 72 = v4 := ((w2_6 72 (by decide) (by decide) (by decide) (by decide) (by decide) (by decide) (by decide)).trans e4)
      have e24 : M22 598 72 = v4 := ((w22_2 72 (by decide) (by decide)).trans e23)
      have y25 : M22 598 72 = v4 := e24
      obtain ⟨v26, e26⟩ : ∃ z, M2 598 73 = z := ⟨_, rfl⟩
      have b26 : 0 ≤ v26 ∧ v26 ≤ 1600 := by rw [← e26]; exact hI_M2 598 73 (by decide)
      have e27 : M22 598 73 = v26 := ((w22_2 73 (by decide) (by decide)).trans e26)
      have y28 : M22 598 73 = v26 := e27
      obtain ⟨v29, e29⟩ : ∃ z, M22 598 80 = z := ⟨_, rfl⟩
      have b29 : 0 ≤ v29 ∧ v29 ≤ 7 := by rw [← e29]; exact hI_M22 598 80 (by decide)
      have y30 : M22 598 80 = v29 := e29
      obtain ⟨v31, e31⟩ : ∃ z, M 598 90 = z := ⟨_, rfl⟩
      have b31 : 0 ≤ v31 ∧ v31 ≤ 2200 := by rw [← e31]; exact hI_M 598 90 (by decide)
      have e32 : M2 598 90 = v31 := ((w2_6 90 (by decide) (by decide) (by decide) (by decide) (by decide) (by decide) (by decide)).trans e31)
      have e33 : M22 598 90 = v31 := ((w22_2 90 (by decide) (by decide)).trans e32)
      have y34 : M22 598 90 = v31 := e33
      exact jr.vreturn rfl rfl (q _ hI_M22 hH_M22 hS_M22  (Or.inl ⟨by omega, by omega⟩) (by omega) (by omega) (by omega) (fun a i f598 f659 f660 f661 f662 f663 f664 f665 f666 f667 f668 f669 f656 f657 f658 => ((w22_1 a i f598).trans ((w2_5 a i f598).trans rfl))) (fun i g73 g74 g75 g76 g77 g78 g79 g80 g81 g89 g90 g96 g100 g102 g107 g88 g101 => ((w22_2 i g80 g81).trans ((w2_6 i g73 g74 g75 g76 g77 g78 g79).trans rfl))))
  · refine jr.aload_n rfl rfl ?_
    refine jr.iconst rfl ?_
    refine jr.aload_n rfl rfl ?_
    obtain ⟨v35, e35⟩ : ∃ z, M 598 75 = z := ⟨_, rfl⟩
    have b35 : 0 ≤ v35 ∧ v35 ≤ 1600 := by rw [← e35]; exact hI_M 598 75 (by decide)
    refine jr.getf (i := 75) (x := v35) (v := .int (Int32.ofInt (v35))) rfl rfl (by decide) rfl (by decide) rfl rfl e35 rfl ?_
    refine jr_v rfl rfl (Or.inl rfl) rfl rfl (by decide) rfl ⟨rfl, Nat.le_of_ble_eq_true rfl, Nat.le_of_ble_eq_true rfl⟩ rfl (jc.deep (r_fails hI_M hH_M hS_M  (by omega) (by omega)  (fun M36 hI_M36 hH_M36 hS_M36  w36_0 w36_1 w36_2 => ?_)) (by decide))
    have tk36 : TK M36 = TK M := TK.fr (w36_2 73 (by decide) (by decide)) (w36_2 74 (by decide) (by decide))
    obtain ⟨v37, e37⟩ : ∃ z, M 598 72 = z := ⟨_, rfl⟩
    have b37 : 0 ≤ v37 ∧ v37 ≤ 1600 := by rw [← e37]; exact hI_M 598 72 (by decide)
    have e38 : M36 598 72 = v37 := ((w36_2 72 (by decide) (by decide)).trans e37)
    have y39 : M36 598 72 = v37 := e38
    obtain ⟨v40, e40⟩ : ∃ z, M 598 73 = z := ⟨_, rfl⟩
    have b40 : 0 ≤ v40 ∧ v40 ≤ 1600 := by rw [← e40]; exact hI_M 598 73 (by decide)
    have e41 : M36 598 73 = v40 := ((w36_2 73 (by decide) (by decide)).trans e40)
    have y42 : M36 598 73 = v40 := e41
    obtain ⟨v43, e43⟩ : ∃ z, M36 598 80 = z := ⟨_, rfl⟩
    have b43 : 0 ≤ v43 ∧ v43 ≤ 7 := by rw [← e43]; exact hI_M36 598 80 (by decide)
    have y44 : M36 598 80 = v43 := e43
    obtain ⟨v45, e45⟩ : ∃ z, M 598 90 = z := ⟨_, rfl⟩
    have b45 : 0 ≤ v45 ∧ v45 ≤ 2200 := by rw [← e45]; exact hI_M 598 90 (by decide)
    have e46 : M36 598 90 = v45 := ((w36_2 90 (by decide) (by decide)).trans e45)
    have y47 : M36 598 90 = v45 := e46
    exact jr.vreturn rfl rfl (q _ hI_M36 hH_M36 hS_M36  (Or.inl ⟨by omega, by omega⟩) (by omega) (by omega) (by omega) (fun a i f598 f659 f660 f661 f662 f663 f664 f665 f666 f667 f668 f669 f656 f657 f658 => ((w36_1 a i f598).trans rfl)) (fun i g73 g74 g75 g76 g77 g78 g79 g80 g81 g89 g90 g96 g100 g102 g107 g88 g101 => ((w36_2 i g80 g81).trans rfl)))
end
section
end
