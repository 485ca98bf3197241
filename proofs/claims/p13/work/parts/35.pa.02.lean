theorem r_wrongToken {A : Nat → Option (Nat × (Nat → Int32))} {Q : Option Value → jm → Prop} {M : jm} (hI_M : RI M) (hH_M : RH M) (hS_M : RF M) (q : ∀ (M' : jm), RI M' → RH M' → RF M' → M' 598 80 ≠ 0 → (∀ (a : Nat) (i : Int), a ≠ 598 → M' a i = M a i) → (∀ (i : Int), i ≠ 80 → i ≠ 81 → M' 598 i = M 598 i) → Q none M') : jc A 2 340 [.ref (598)] M Q := by
  refine jc_of (m := xm_340) rfl (Nat.le_of_ble_eq_true rfl) rfl ?_
  refine jr.aload_n rfl rfl ?_
  refine jr.aload_n rfl rfl ?_
  obtain ⟨v1, e1⟩ : ∃ z, M 598 74 = z := ⟨_, rfl⟩
  have b1 : 0 ≤ v1 ∧ v1 ≤ 4 := by rw [← e1]; exact hI_M 598 74 (by decide)
  refine jr.getf (i := 74) (x := v1) (v := .int (Int32.ofInt (v1))) rfl rfl (by decide) rfl (by decide) rfl rfl e1 rfl ?_
  refine jr.iconst rfl ?_
  refine jr.icmp_ne rfl rfl (by omega) (by omega) (fun h6 => ?_) (fun h6 => ?_)
  · have sx6 : v1 ≤ (3 : Int) := by omega
    clear h6
    refine jr.iconst rfl ?_
    refine jr.aload_n rfl rfl ?_
    obtain ⟨v2, e2⟩ : ∃ z, M 598 75 = z := ⟨_, rfl⟩
    have b2 : 0 ≤ v2 ∧ v2 ≤ 1600 := by rw [← e2]; exact hI_M 598 75 (by decide)
    refine jr.getf (i := 75) (x := v2) (v := .int (Int32.ofInt (v2))) rfl rfl (by decide) rfl (by decide) rfl rfl e2 rfl ?_
    refine jr_v rfl rfl (Or.inl rfl) rfl rfl (by decide) rfl ⟨rfl, Nat.le_of_ble_eq_true rfl, Nat.le_of_ble_eq_true rfl⟩ rfl (jc.deep (r_fails hI_M hH_M hS_M  (by omega) (by omega)  (fun M3 hI_M3 hH_M3 hS_M3  w3_0 w3_1 w3_2 => ?_)) (by decide))
    have tk3 : TK M3 = TK M := TK.fr (w3_2 73 (by decide) (by decide)) (w3_2 74 (by decide) (by decide))
    obtain ⟨v4, e4⟩ : ∃ z, M3 598 80 = z := ⟨_, rfl⟩
    have b4 : 0 ≤ v4 ∧ v4 ≤ 7 := by rw [← e4]; exact hI_M3 598 80 (by decide)
    exact jr.vreturn rfl rfl (q _ hI_M3 hH_M3 hS_M3  (by rw [e4]; omega) (fun a i f598 => ((w3_1 a i f598).trans rfl)) (fun i g80 g81 => ((w3_2 i g80 g81).trans rfl)))
  · refine jr.iconst rfl ?_
    refine jr.goto rfl rfl ?_
    refine jr.aload_n rfl rfl ?_
    obtain ⟨v5, e5⟩ : ∃ z, M 598 75 = z := ⟨_, rfl⟩
    have b5 : 0 ≤ v5 ∧ v5 ≤ 1600 := by rw [← e5]; exact hI_M 598 75 (by decide)
    refine jr.getf (i := 75) (x := v5) (v := .int (Int32.ofInt (v5))) rfl rfl (by decide) rfl (by decide) rfl rfl e5 rfl ?_
    refine jr_v rfl rfl (Or.inl rfl) rfl rfl (by decide) rfl ⟨rfl, Nat.le_of_ble_eq_true rfl, Nat.le_of_ble_eq_true rfl⟩ rfl (jc.deep (r_fails hI_M hH_M hS_M  (by omega) (by omega)  (fun M6 hI_M6 hH_M6 hS_M6  w6_0 w6_1 w6_2 => ?_)) (by decide))
    have tk6 : TK M6 = TK M := TK.fr (w6_2 73 (by decide) (by decide)) (w6_2 74 (by decide) (by decide))
    obtain ⟨v7, e7⟩ : ∃ z, M6 598 80 = z := ⟨_, rfl⟩
    have b7 : 0 ≤ v7 ∧ v7 ≤ 7 := by rw [← e7]; exact hI_M6 598 80 (by decide)
    exact jr.vreturn rfl rfl (q _ hI_M6 hH_M6 hS_M6  (by rw [e7]; omega) (fun a i f598 => ((w6_1 a i f598).trans rfl)) (fun i g80 g81 => ((w6_2 i g80 g81).trans rfl)))
