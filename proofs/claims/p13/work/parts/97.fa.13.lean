section
theorem r_change_L74_x {A : Nat → Option (Nat × (Nat → Int32))} {Q : Option Value → jm → Prop} {M0 : jm} {f0 : Int} {k0 : Int} (q : ∀ (r : Int) (M' : jm), RI M' → RH M' → RF M' → (-5) ≤ r ∧ r ≤ 65567 → (((f0 < 0 ∨ 23 < f0 ∨ M0 627 f0 = 0) ∧ r = -2 ∧ M' = M0) ∨ (((0 ≤ f0 ∧ f0 ≤ 23) ∧ M0 627 f0 ≠ 0) ∧ (((k0 < 0 ∨ 3 < k0) ∧ r = -3 ∧ M' = M0) ∨ ((0 ≤ k0 ∧ k0 ≤ 3) ∧ (M0 628 f0 ≠ 0 ∨ M0 629 f0 = 1 ∨ M0 640 f0 ≠ -1 ∨ M0 643 k0 = 0) ∧ r = -4 ∧ M' = M0) ∨ (((0 ≤ k0 ∧ k0 ≤ 3) ∧ ¬ (M0 628 f0 ≠ 0 ∨ M0 629 f0 = 1 ∨ M0 640 f0 ≠ -1 ∨ M0 643 k0 = 0)) ∧ ((ch6 M0 (M0 644 k0) (M0 645 k0) (M0 646 k0).toNat 0 = -1 ∧ r = -5 ∧ M' = M0) ∨ (ch6 M0 (M0 644 k0) (M0 645 k0) (M0 646 k0).toNat 0 ≠ -1 ∧ r = M0 645 k0 + ch6 M0 (M0 644 k0) (M0 645 k0) (M0 646 k0).toNat 0 ∧ M' = ju (ju (ju M0 640 f0 k0) 641 f0 (M0 644 k0)) 642 f0 (M0 645 k0 + ch6 M0 (M0 644 k0) (M0 645 k0) (M0 646 k0).toNat 0))))))) → (∀ (a : Nat) (i : Int), a ≠ 640 → a ≠ 641 → a ≠ 642 → M' a i = M0 a i) → Q (some (.int (Int32.ofInt r))) M') : ∀ (nM : Nat) (M : jm) (o : Int) (k : Int) (f : Int), RI M → RH M → RF M → (∀ (a : Nat) (i : Int), a ≠ 640 → a ≠ 641 → a ≠ 642 → M a i = M0 a i) → 0 ≤ o ∧ o ≤ 65567 → 0 ≤ k ∧ k ≤ 3 → 0 ≤ f ∧ f ≤ 23 → M 645 k ≤ o → o ≤ M 645 k + M 646 k → M = M0 → ch6 M0 (M0 644 k) (M0 645 k) (M0 646 k).toNat 0 = ch6 M0 (M0 644 k) (M0 645 k) (M0 646 k - (o - M0 645 k)).toNat (o - M0 645 k) → (M0 627 f ≠ 0 ∧ ¬ (M0 628 f ≠ 0 ∨ M0 629 f = 1 ∨ M0 640 f ≠ -1 ∨ M0 643 k = 0)) → f = f0 → k = k0 → 65600 - o ≤ nM → jr A 2 xm_321 74 [(3, .int (Int32.ofInt (o))), (2, .int (Int32.ofInt (k))), (1, .int (Int32.ofInt (f))), (0, .ref (598))] [] M Q := by
  intro nM
  induction nM using Nat.strongRecOn with
  | ind nM ih =>
    intro M o k f hI_M hH_M hS_M hF_M h_o h_k h_f hy0 hy1 hy2 hy3 hy4 hy5 hy6 hm
    subst hy5
    subst hy6
    refine jr.iload_n rfl rfl ?_
    refine jr.aload_n rfl rfl ?_
    refine jr.getf (i := 57) (v := .ref 645) rfl rfl (by decide) rfl (by decide) rfl rfl rfl rfl ?_
    refine jr.iload_n rfl rfl ?_
    obtain ⟨v1, e1⟩ : ∃ z, M 645 k = z := ⟨_, rfl⟩
    have b1 : 0 ≤ v1 ∧ v1 ≤ 65535 := by rw [← e1]; exact (by have q := hI_M 645 k (by decide); rw [xri_row rfl rfl] at q; exact q)
    refine jr.iald (i := k) (x := v1) rfl (by decide) rfl (by decide) (by omega) (by omega) e1 ?_
    refine jr.aload_n rfl rfl ?_
    refine jr.getf (i := 58) (v := .ref 646) rfl rfl (by decide) rfl (by decide) rfl rfl rfl rfl ?_
    refine jr.iload_n rfl rfl ?_
    obtain ⟨v2, e2⟩ : ∃ z, M 646 k = z := ⟨_, rfl⟩
    have b2 : 0 ≤ v2 ∧ v2 ≤ 32 := by rw [← e2]; exact (by have q := hI_M 646 k (by decide); rw [xri_row rfl rfl] at q; exact q)
    refine jr.iald (i := k) (x := v2) rfl (by decide) rfl (by decide) (by omega) (by omega) e2 ?_
    refine jr.iadd rfl ?_
    refine jr.icmp_ge rfl rfl (by omega) (by omega) (fun h88 => ?_) (fun h88 => ?_)
    · refine jr.iload_n rfl rfl ?_
      refine jr.aload_n rfl rfl ?_
      refine jr.getf (i := 57) (v := .ref 645) rfl rfl (by decide) rfl (by decide) rfl rfl rfl rfl ?_
      refine jr.iload_n rfl rfl ?_
      refine jr.iald (i := k) (x := v1) rfl (by decide) rfl (by decide) (by omega) (by omega) e1 ?_
      refine jr.aload_n rfl rfl ?_
      refine jr.getf (i := 58) (v := .ref 646) rfl rfl (by decide) rfl (by decide) rfl rfl rfl rfl ?_
      refine jr.iload_n rfl rfl ?_
      refine jr.iald (i := k) (x := v2) rfl (by decide) rfl (by decide) (by omega) (by omega) e2 ?_
      refine jr.iadd rfl ?_
      refine jr.icmp_ne rfl rfl (by omega) (by omega) (fun h125 => ?_) (fun h125 => ?_)
      · refine jr.aload_n rfl rfl ?_
        refine jr.getf (i := 52) (v := .ref 640) rfl rfl (by decide) rfl (by decide) rfl rfl rfl rfl ?_
        refine jr.iload_n rfl rfl ?_
        refine jr.iload_n rfl rfl ?_
        refine jr.iast (i := f) (x := k) rfl (by decide) rfl (by decide) (by omega) (by omega) ?_
        refine jr.aload_n rfl rfl ?_
        refine jr.getf (i := 53) (v := .ref 641) rfl rfl (by decide) rfl (by decide) rfl rfl rfl rfl ?_
        refine jr.iload_n rfl rfl ?_
        refine jr.aload_n rfl rfl ?_
        refine jr.getf (i := 56) (v := .ref 644) rfl rfl (by decide) rfl (by decide) rfl rfl rfl rfl ?_
        refine jr.iload_n rfl rfl ?_
        obtain ⟨v3, e3⟩ : ∃ z, M 644 k = z := ⟨_, rfl⟩
        have b3 : (-9223372036854775808) ≤ v3 ∧ v3 ≤ 9223372036854775807 := by rw [← e3]; exact (by have q := hI_M 644 k (by decide); rw [xri_row rfl rfl] at q; exact q)
        refine jr.lald (i := k) (x := v3) rfl (by decide) rfl (by decide) (by omega) (by omega) ((ju_c _ _ (by decide)).trans e3) ?_
        refine jr.last (i := f) (x := v3) rfl (by decide) rfl (by decide) (by omega) (by omega) ?_
        refine jr.aload_n rfl rfl ?_
        refine jr.getf (i := 54) (v := .ref 642) rfl rfl (by decide) rfl (by decide) rfl rfl rfl rfl ?_
        refine jr.iload_n rfl rfl ?_
        refine jr.iload_n rfl rfl ?_
        refine jr.iast (i := f) (x := o) rfl (by decide) rfl (by decide) (by omega) (by omega) ?_
        refine jr.iload_n rfl rfl ?_
        exact jr.ireturn rfl rfl rfl (q _ _ (RI.u (RI.u (RI.u hI_M (a := 640) (i := f) (by rw [xri_row rfl rfl]; show (-1 : Int) ≤ _ ∧ _ ≤ (3 : Int); omega)) (a := 641) (i := f) (by rw [xri_row rfl rfl]; show (-9223372036854775808 : Int) ≤ _ ∧ _ ≤ (9223372036854775807 : Int); omega)) (a := 642) (i := f) (by rw [xri_row rfl rfl]; show (0 : Int) ≤ _ ∧ _ ≤ (70000 : Int); omega)) (RH.o (RH.o (RH.o hH_M (by decide) (by decide) (by decide)) (by decide) (by decide) (by decide)) (by decide) (by decide) (by decide)) (RF.o (RF.o (RF.o hS_M (by decide) (by decide)) (by decide) (by decide)) (by decide) (by decide))  (by omega) (by exfalso; omega) (fun a i f640 f641 f642 => ((ju_c _ _ f642).trans ((ju_c _ _ f641).trans ((ju_c _ _ f640).trans (hF_M a i f640 f641 f642))))))
      · refine jr.bipush rfl (by decide) ?_
        exact jr.ireturn rfl rfl rfl (q _ _ hI_M hH_M hS_M  (by omega) (by first | (exfalso; omega) | (have q1 : M0 646 k = v2 := (by rw [← hy2]; exact e2); have q2 : M0 645 k = v1 := (by rw [← hy2]; exact e1); exact Or.inr ⟨by have h9 := hy4.1; omega, Or.inr (Or.inr ⟨⟨by omega, hy4.2⟩, Or.inl ⟨by rw [hy3, ch6_e (by omega)], by omega, hy2⟩⟩)⟩)) (fun a i f640 f641 f642 => (hF_M a i f640 f641 f642)))
    · refine jr.aload_n rfl rfl ?_
      refine jr.aload_n rfl rfl ?_
      refine jr.getf (i := 56) (v := .ref 644) rfl rfl (by decide) rfl (by decide) rfl rfl rfl rfl ?_
      refine jr.iload_n rfl rfl ?_
      obtain ⟨v4, e4⟩ : ∃ z, M 644 k = z := ⟨_, rfl⟩
      have b4 : (-9223372036854775808) ≤ v4 ∧ v4 ≤ 9223372036854775807 := by rw [← e4]; exact (by have q := hI_M 644 k (by decide); rw [xri_row rfl rfl] at q; exact q)
      refine jr.lald (i := k) (x := v4) rfl (by decide) rfl (by decide) (by omega) (by omega) e4 ?_
      refine jr.iload_n rfl rfl ?_
      refine jr_v rfl rfl (Or.inl rfl) rfl rfl (by decide) rfl ⟨rfl, Nat.le_of_ble_eq_true rfl, Nat.le_of_ble_eq_true rfl⟩ rfl (jc.deep (r_isTaken_x hI_M hH_M hS_M  (by omega) (by omega)  (fun r5 z5 w5_0 => ?_)) (by decide))
      refine jr.if_eq rfl rfl (by omega) (fun h102 => ?_) (fun h102 => ?_)
      · refine jr.iload_n rfl rfl ?_
        refine jr.aload_n rfl rfl ?_
        refine jr.getf (i := 57) (v := .ref 645) rfl rfl (by decide) rfl (by decide) rfl rfl rfl rfl ?_
        refine jr.iload_n rfl rfl ?_
        refine jr.iald (i := k) (x := v1) rfl (by decide) rfl (by decide) (by omega) (by omega) e1 ?_
        refine jr.aload_n rfl rfl ?_
        refine jr.getf (i := 58) (v := .ref 646) rfl rfl (by decide) rfl (by decide) rfl rfl rfl rfl ?_
        refine jr.iload_n rfl rfl ?_
        refine jr.iald (i := k) (x := v2) rfl (by decide) rfl (by decide) (by omega) (by omega) e2 ?_
        refine jr.iadd rfl ?_
        refine jr.icmp_ne rfl rfl (by omega) (by omega) (fun h125 => ?_) (fun h125 => ?_)
        · refine jr.aload_n rfl rfl ?_
          refine jr.getf (i := 52) (v := .ref 640) rfl rfl (by decide) rfl (by decide) rfl rfl rfl rfl ?_
          refine jr.iload_n rfl rfl ?_
          refine jr.iload_n rfl rfl ?_
          refine jr.iast (i := f) (x := k) rfl (by decide) rfl (by decide) (by omega) (by omega) ?_
          refine jr.aload_n rfl rfl ?_
          refine jr.getf (i := 53) (v := .ref 641) rfl rfl (by decide) rfl (by decide) rfl rfl rfl rfl ?_
          refine jr.iload_n rfl rfl ?_
          refine jr.aload_n rfl rfl ?_
          refine jr.getf (i := 56) (v := .ref 644) rfl rfl (by decide) rfl (by decide) rfl rfl rfl rfl ?_
          refine jr.iload_n rfl rfl ?_
          refine jr.lald (i := k) (x := v4) rfl (by decide) rfl (by decide) (by omega) (by omega) ((ju_c _ _ (by decide)).trans e4) ?_
          refine jr.last (i := f) (x := v4) rfl (by decide) rfl (by decide) (by omega) (by omega) ?_
          refine jr.aload_n rfl rfl ?_
          refine jr.getf (i := 54) (v := .ref 642) rfl rfl (by decide) rfl (by decide) rfl rfl rfl rfl ?_
          refine jr.iload_n rfl rfl ?_
          refine jr.iload_n rfl rfl ?_
          refine jr.iast (i := f) (x := o) rfl (by decide) rfl (by decide) (by omega) (by omega) ?_
          refine jr.iload_n rfl rfl ?_
          exact jr.ireturn rfl rfl rfl (q _ _ (RI.u (RI.u (RI.u hI_M (a := 640) (i := f) (by rw [xri_row rfl rfl]; show (-1 : Int) ≤ _ ∧ _ ≤ (3 : Int); omega)) (a := 641) (i := f) (by rw [xri_row rfl rfl]; show (-9223372036854775808 : Int) ≤ _ ∧ _ ≤ (9223372036854775807 : Int); omega)) (a := 642) (i := f) (by rw [xri_row rfl rfl]; show (0 : Int) ≤ _ ∧ _ ≤ (70000 : Int); omega)) (RH.o (RH.o (RH.o hH_M (by decide) (by decide) (by decide)) (by decide) (by decide) (by decide)) (by decide) (by decide) (by decide)) (RF.o (RF.o (RF.o hS_M (by decide) (by decide)) (by decide) (by decide)) (by decide) (by decide))  (by omega) (by first | (exfalso; omega) | (have q1 : M0 646 k = v2 := (by rw [← hy2]; exact e2); have q2 : M0 645 k = v1 := (by rw [← hy2]; exact e1); have q3 : M0 644 k = v4 := (by rw [← hy2]; exact e4); have hz : ch6 M0 (M0 644 k) (M0 645 k) (M0 646 k).toNat 0 = o - v1 := (by rw [hy3, q1, q2, q3, ch6_s (by omega), if_pos (by rw [← hy2, show v1 + (o - v1) = o from by omega, ← w5_0]; omega)]); exact Or.inr ⟨by have h9 := hy4.1; omega, Or.inr (Or.inr ⟨⟨by omega, hy4.2⟩, Or.inr ⟨by rw [hz]; omega, by rw [hz, q2]; omega, by rw [hz, q2, q3, hy2, show v1 + (o - v1) = o from by omega]⟩⟩)⟩)) (fun a i f640 f641 f642 => ((ju_c _ _ f642).trans ((ju_c _ _ f641).trans ((ju_c _ _ f640).trans (hF_M a i f640 f641 f642))))))
        · refine jr.bipush rfl (by decide) ?_
          exact jr.ireturn rfl rfl rfl (q _ _ hI_M hH_M hS_M  (by omega) (by first | (exfalso; omega) | (have q1 : M0 646 k = v2 := (by rw [← hy2]; exact e2); have q2 : M0 645 k = v1 := (by rw [← hy2]; exact e1); have q3 : M0 644 k = v4 := (by rw [← hy2]; exact e4); exact Or.inr ⟨by have h9 := hy4.1; omega, Or.inr (Or.inr ⟨⟨by omega, hy4.2⟩, Or.inl ⟨by rw [hy3, ch6_e (by omega)], by omega, hy2⟩⟩)⟩)) (fun a i f640 f641 f642 => (hF_M a i f640 f641 f642)))
      · have sx102 : (1 : Int) ≤ r5 := by omega
        clear h102
        refine jr.iinc (ls' := [_, _, _, _]) rfl rfl (by decide) rfl ?_
        refine jr.goto rfl rfl ?_
        refine jr.pick (ls := [_, _, _, _]) [0, 1, 2, 3] rfl rfl ?_
        exact ih (nM - 1) (by omega) M (o + 1) k f hI_M hH_M hS_M  (fun a i f640 f641 f642 => (hF_M a i f640 f641 f642)) (by omega) (by omega) (by omega) (by omega) (by omega) hy2 (by have q1 : M0 646 k = v2 := (by rw [← hy2]; exact e2); have q2 : M0 645 k = v1 := (by rw [← hy2]; exact e1); have q3 : M0 644 k = v4 := (by rw [← hy2]; exact e4); rw [hy3, q1, q2, q3, ch6_s (by omega), if_neg (by rw [← hy2, show v1 + (o - v1) = o from by omega, ← w5_0]; omega), show o - v1 + 1 = o + 1 - v1 from by omega]) hy4 (by omega) (by omega) (by omega)
end
