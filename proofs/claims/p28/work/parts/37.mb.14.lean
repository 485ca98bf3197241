theorem r_noteWhy {A : Nat → Option (Nat × (Nat → Int32))} {Q : Option Value → jm → Prop} {M : jm} (hI_M : RI M) (hH_M : RH M) (hS_M : RF M) {w : Int} (h_w : 0 ≤ w ∧ w ≤ 5) (p0 : 1 ≤ M 598 122) (q : ∀ (M' : jm), RI M' → RH M' → RF M' → (∀ (a : Nat) (i : Int), a ≠ 598 → a ≠ 687 → M' a i = M a i) → (∀ (i : Int), i ≠ 145 → M' 598 i = M 598 i) → Q none M') : jc A 1 376 [.ref (598), .int (Int32.ofInt (w))] M Q := by
  refine jc_of (m := xm_376) rfl (Nat.le_of_ble_eq_true rfl) rfl ?_
  refine jr.aload_n rfl rfl ?_
  obtain ⟨v1, e1⟩ : ∃ z, M 598 145 = z := ⟨_, rfl⟩
  have b1 : 0 ≤ v1 ∧ v1 ≤ 40 := by rw [← e1]; exact hI_M 598 145 (by decide)
  refine jr.getf (i := 145) (x := v1) (v := .int (Int32.ofInt (v1))) rfl rfl (by decide) rfl (by decide) rfl rfl e1 rfl ?_
  refine jr.bipush rfl (by decide) ?_
  refine jr.icmp_ge rfl rfl (by omega) (by omega) (fun h6 => ?_) (fun h6 => ?_)
  · exact jr.vreturn rfl rfl (q _ hI_M hH_M hS_M  (fun a i f598 f687 => rfl) (fun i g145 => rfl))
  · refine jr.aload_n rfl rfl ?_
    refine jr.getf (i := 146) (v := .ref 687) rfl rfl (by decide) rfl (by decide) rfl rfl rfl rfl ?_
    refine jr.aload_n rfl rfl ?_
    refine jr.getf (i := 145) (x := v1) (v := .int (Int32.ofInt (v1))) rfl rfl (by decide) rfl (by decide) rfl rfl e1 rfl ?_
    refine jr.bipush rfl (by decide) ?_
    refine jr.aload_n rfl rfl ?_
    refine jr.getf (i := 123) (v := .ref 679) rfl rfl (by decide) rfl (by decide) rfl rfl rfl rfl ?_
    refine jr.aload_n rfl rfl ?_
    obtain ⟨v2, e2⟩ : ∃ z, M 598 122 = z := ⟨_, rfl⟩
    have b2 : 0 ≤ v2 ∧ v2 ≤ 9 := by rw [← e2]; exact hI_M 598 122 (by decide)
    refine jr.getf (i := 122) (x := v2) (v := .int (Int32.ofInt (v2))) rfl rfl (by decide) rfl (by decide) rfl rfl e2 rfl ?_
    refine jr.iconst rfl ?_
    refine jr.isub rfl ?_
    obtain ⟨v3, e3⟩ : ∃ z, M 679 (v2 - 1) = z := ⟨_, rfl⟩
    have b3 : 0 ≤ v3 ∧ v3 ≤ 15 := by rw [← e3]; exact (by have q := hI_M 679 (v2 - 1) (by decide); rw [xri_row rfl rfl] at q; exact q)
    refine jr.iald (i := (v2 - 1)) (x := v3) rfl (by decide) rfl (by decide) (by omega) (by omega) e3 ?_
    refine jr.imul rfl ?_
    refine jr.iload_n rfl rfl ?_
    refine jr.iadd rfl ?_
    refine jr.iast (i := v1) (x := ((100 * v3) + w)) rfl (by decide) rfl (by decide) (by omega) (by omega) ?_
    refine jr.aload_n rfl rfl ?_
    refine jr.dup rfl rfl ?_
    refine jr.getf (i := 145) (x := v1) (v := .int (Int32.ofInt (v1))) rfl rfl (by decide) rfl (by decide) rfl rfl ((ju_c _ _ (by decide)).trans e1) rfl ?_
    refine jr.iconst rfl ?_
    refine jr.iadd rfl ?_
    refine jr.putf (i := 145) (x := (v1 + 1)) rfl rfl (by decide) rfl (by decide) rfl rfl rfl rfl rfl ?_
    exact jr.vreturn rfl rfl (q _ (RI.u (RI.u hI_M (a := 687) (i := v1) (by rw [xri_row rfl rfl]; show (0 : Int) ≤ _ ∧ _ ≤ (1600 : Int); omega)) (a := 598) (i := 145) (show (0 : Int) ≤ _ ∧ _ ≤ (40 : Int) from by omega)) (RH.o (RH.o hH_M (by decide) (by decide) (by decide)) (by decide) (by decide) (by decide)) (RF.o (RF.o hS_M (by decide) (by decide)) (by decide) (by decide))  (fun a i f598 f687 => ((ju_c _ _ f598).trans ((ju_c _ _ f687).trans rfl))) (fun i g145 => ((ju_i _ _ g145).trans ((ju_c _ _ (by decide)).trans rfl))))

