section
theorem r_finding_x {A : Nat → Option (Nat × (Nat → Int32))} {Q : Option Value → jm → Prop} {M : jm} (hI_M : RI M) (hH_M : RH M) (hS_M : RF M) {w : Int} (h_w : (-2147483648) ≤ w ∧ w ≤ 2147483647) (q : ∀ (r : Int) (M' : jm), RI M' → RH M' → RF M' → (-3) ≤ r ∧ r ≤ 400 → ((w = 0 ∧ ((M 598 13 = -1 ∧ r = 0) ∨ (M 598 13 ≠ -1 ∧ r = M 598 13))) ∨ (w = 1 ∧ r = M 598 14) ∨ (w = 2 ∧ r = M 598 15) ∨ (w = 3 ∧ r = M 598 16) ∨ ((w < 0 ∨ 3 < w) ∧ r = -3)) → M' = M → (∀ (a : Nat) (i : Int), a ≠ 598 → M' a i = M a i) → (∀ (i : Int), i ≠ 1 → M' 598 i = M 598 i) → Q (some (.int (Int32.ofInt r))) M') : jc A 1 268 [.ref (598), .int (Int32.ofInt (w))] M Q := by
  refine jc_of (m := xm_268) rfl (Nat.le_of_ble_eq_true rfl) rfl ?_
  refine jr.iload_n rfl rfl ?_
  rcases (show w = 0 ∨ w = 1 ∨ w = 2 ∨ (w ≠ 0 ∧ w ≠ 1 ∧ w ≠ 2) by omega) with h1 | h1 | h1 | h1
  · refine jr.tsw_k 0 rfl h1 rfl ?_
    refine jr.aload_n rfl rfl ?_
    obtain ⟨v1, e1⟩ : ∃ z, M 598 13 = z := ⟨_, rfl⟩
    have b1 : (-1) ≤ v1 ∧ v1 ≤ 6 := by rw [← e1]; exact hI_M 598 13 (by decide)
    refine jr.getf (i := 13) (x := v1) (v := .int (Int32.ofInt (v1))) rfl rfl (by decide) rfl (by decide) rfl rfl e1 rfl ?_
    refine jr.iconst rfl ?_
    refine jr.icmp_ne rfl rfl (by omega) (by omega) (fun h33 => ?_) (fun h33 => ?_)
    · have sx33 : (0 : Int) ≤ v1 := by omega
      clear h33
      refine jr.aload_n rfl rfl ?_
      refine jr.getf (i := 13) (x := v1) (v := .int (Int32.ofInt (v1))) rfl rfl (by decide) rfl (by decide) rfl rfl e1 rfl ?_
      exact jr.ireturn rfl rfl rfl (q _ _ hI_M hH_M hS_M  (by omega) (by omega) rfl (fun a i f598 => rfl) (fun i g1 => rfl))
    · refine jr.iconst rfl ?_
      refine jr.goto rfl rfl ?_
      exact jr.ireturn rfl rfl rfl (q _ _ hI_M hH_M hS_M  (by omega) (by omega) rfl (fun a i f598 => rfl) (fun i g1 => rfl))
  · refine jr.tsw_k 1 rfl h1 rfl ?_
    refine jr.aload_n rfl rfl ?_
    obtain ⟨v2, e2⟩ : ∃ z, M 598 14 = z := ⟨_, rfl⟩
    have b2 : (-1) ≤ v2 ∧ v2 ≤ 12 := by rw [← e2]; exact hI_M 598 14 (by decide)
    refine jr.getf (i := 14) (x := v2) (v := .int (Int32.ofInt (v2))) rfl rfl (by decide) rfl (by decide) rfl rfl e2 rfl ?_
    exact jr.ireturn rfl rfl rfl (q _ _ hI_M hH_M hS_M  (by omega) (by omega) rfl (fun a i f598 => rfl) (fun i g1 => rfl))
  · refine jr.tsw_k 2 rfl h1 rfl ?_
    refine jr.aload_n rfl rfl ?_
    obtain ⟨v3, e3⟩ : ∃ z, M 598 15 = z := ⟨_, rfl⟩
    have b3 : (-1) ≤ v3 ∧ v3 ≤ 400 := by rw [← e3]; exact hI_M 598 15 (by decide)
    refine jr.getf (i := 15) (x := v3) (v := .int (Int32.ofInt (v3))) rfl rfl (by decide) rfl (by decide) rfl rfl e3 rfl ?_
    exact jr.ireturn rfl rfl rfl (q _ _ hI_M hH_M hS_M  (by omega) (by omega) rfl (fun a i f598 => rfl) (fun i g1 => rfl))
  · refine jr.tsw_d rfl (by omega) (by omega) rfl ?_
    refine jr.iload_n rfl rfl ?_
    refine jr.iconst rfl ?_
    refine jr.icmp_ne rfl rfl (by omega) (by omega) (fun h57 => ?_) (fun h57 => ?_)
    · refine jr.bipush rfl (by decide) ?_
      exact jr.ireturn rfl rfl rfl (q _ _ hI_M hH_M hS_M  (by omega) (by omega) rfl (fun a i f598 => rfl) (fun i g1 => rfl))
    · refine jr.aload_n rfl rfl ?_
      obtain ⟨v4, e4⟩ : ∃ z, M 598 16 = z := ⟨_, rfl⟩
      have b4 : (-1) ≤ v4 ∧ v4 ≤ 11 := by rw [← e4]; exact hI_M 598 16 (by decide)
      refine jr.getf (i := 16) (x := v4) (v := .int (Int32.ofInt (v4))) rfl rfl (by decide) rfl (by decide) rfl rfl e4 rfl ?_
      refine jr.goto rfl rfl ?_
      exact jr.ireturn rfl rfl rfl (q _ _ hI_M hH_M hS_M  (by omega) (by omega) rfl (fun a i f598 => rfl) (fun i g1 => rfl))
end

