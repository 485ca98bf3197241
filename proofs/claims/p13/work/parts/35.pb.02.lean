theorem r_reduce {A : Nat → Option (Nat × (Nat → Int32))} {Q : Option Value → jm → Prop} {b kk : Int} {M : jm} (hI_M : RI M) (hH_M : RH M) (hS_M : RF M) {y : Int} (h_y : 1 ≤ y ∧ y ≤ 6) (p0 : GS M b 1 kk) (q : ∀ (M' : jm), RI M' → RH M' → RF M' → GS M' b 1 kk → (M' 598 102 = 0 ∨ strn (M' 664 (M' 598 102 - 1)) < y) → TK M' = TK M → CP M M' → (∀ (a : Nat) (i : Int), a ≠ 598 → a ≠ 659 → a ≠ 660 → M' a i = M a i) → (∀ (i : Int), i ≠ 90 → i ≠ 100 → i ≠ 102 → M' 598 i = M 598 i) → Q none M') : jc A 2 355 [.ref (598), .int (Int32.ofInt (y))] M Q := by
  refine jc_of (m := xm_355) rfl (Nat.le_of_ble_eq_true rfl) rfl ?_
  refine jr.pick (ls := [_, _]) [1, 0] rfl rfl ?_
  obtain ⟨v1, e1⟩ : ∃ z, M 598 102 = z := ⟨_, rfl⟩
  have b1 : 0 ≤ v1 ∧ v1 ≤ 400 := by rw [← e1]; exact hI_M 598 102 (by decide)
  exact r_reduce_L0 q 400 M y hI_M hH_M hS_M  (fun a i f598 f659 f660 => rfl) (fun i g90 g100 g102 => rfl) (by omega) p0 rfl (CP.rfl _) (by omega) (by omega)
theorem ES.dep {M : jm} {b o k d z x p d' : Int} (h : ES M b o k d z x) (e : M 598 100 = p) (hd : d' = d - 1) : ES (ju M 598 100 (p - 1)) b o k d' z x := by
  refine ES.fr2 h (fun a i ha => ju_c M _ ha) (ju_i M _ (by decide)) (ju_i M _ (by decide)) (ju_i M _ (by decide)) (ju_i M _ (by decide)) (ju_i M _ (by decide)) ?_ ?_ ?_ ?_
  · rw [ju_i M _ (by decide), ju_i M _ (by decide)]
    exact Int.le_refl _
  · obtain ⟨ht, P, D, E, ⟨_, _, _, _, _, _, _, _, _, _, q⟩, _⟩ := h
    exact q
  · obtain ⟨ht, P, D, E, ⟨_, _, _, _, _, _, _, _, _, q, _⟩, _⟩ := h
    exact ⟨q, Int.le_refl _⟩
  · rw [ju_same, e]
    omega
