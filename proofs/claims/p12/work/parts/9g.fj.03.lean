section
theorem r_forget_L4_x {A : Nat → Option (Nat × (Nat → Int32))} {Q : Option Value → jm → Prop} {M0 : jm} {f0 : Int} (q : ∀ (M' : jm), RI M' → RH M' → FG6 M0 M' f0 (2 * f0 + 2) → (∀ (a : Nat) (i : Int), a ≠ 632 → a ≠ 633 → a ≠ 634 → a ≠ 635 → a ≠ 636 → a ≠ 637 → M' a i = M0 a i) → Q none M') : ∀ (nM : Nat) (M : jm) (s : Int) (f : Int), RI M → RH M → (∀ (a : Nat) (i : Int), a ≠ 632 → a ≠ 633 → a ≠ 634 → a ≠ 635 → a ≠ 636 → a ≠ 637 → M a i = M0 a i) → 0 ≤ s ∧ s ≤ 48 → 0 ≤ f ∧ f ≤ 23 → 2 * f ≤ s → FG6 M0 M f s → s ≤ 2 * f + 2 → f = f0 → 48 - s ≤ nM → jr A 0 xm_309 4 [(2, .int (Int32.ofInt (s))), (1, .int (Int32.ofInt (f))), (0, .ref (598))] [] M Q := by
  intro nM
  induction nM using Nat.strongRecOn with
  | ind nM ih =>
    intro M s f hI_M hH_M hF_M h_s h_f hy0 hy1 hy2 hy3 hm
    subst hy3
    refine jr.iload_n rfl rfl ?_
    refine jr.iconst rfl ?_
    refine jr.iload_n rfl rfl ?_
    refine jr.imul rfl ?_
    refine jr.iconst rfl ?_
    refine jr.iadd rfl ?_
    refine jr.icmp_ge rfl rfl (by omega) (by omega) (fun h10 => ?_) (fun h10 => ?_)
    · exact jr.vreturn rfl rfl (q _ hI_M hH_M  (by have h9 := hy1; rw [show s = 2 * f + 2 from by omega] at h9; exact h9) (fun a i f632 f633 f634 f635 f636 f637 => (hF_M a i f632 f633 f634 f635 f636 f637)))
    · refine jr.aload_n rfl rfl ?_
      refine jr.getf (i := 44) (v := .ref 632) rfl rfl (by decide) rfl (by decide) rfl rfl rfl rfl ?_
      refine jr.iload_n rfl rfl ?_
      refine jr.iconst rfl ?_
      refine jr.zast (i := s) (x := 0) rfl (by decide) rfl (by decide) (by omega) (by omega) (j_zn (by omega)) ?_
      refine jr.aload_n rfl rfl ?_
      refine jr.getf (i := 45) (v := .ref 633) rfl rfl (by decide) rfl (by decide) rfl rfl rfl rfl ?_
      refine jr.iload_n rfl rfl ?_
      refine jr.iconst rfl ?_
      refine jr.iast (i := s) (x := 0) rfl (by decide) rfl (by decide) (by omega) (by omega) ?_
      refine jr.aload_n rfl rfl ?_
      refine jr.getf (i := 46) (v := .ref 634) rfl rfl (by decide) rfl (by decide) rfl rfl rfl rfl ?_
      refine jr.iload_n rfl rfl ?_
      refine jr.iconst rfl ?_
      refine jr.zast (i := s) (x := 0) rfl (by decide) rfl (by decide) (by omega) (by omega) (j_zn (by omega)) ?_
      refine jr.aload_n rfl rfl ?_
      refine jr.getf (i := 47) (v := .ref 635) rfl rfl (by decide) rfl (by decide) rfl rfl rfl rfl ?_
      refine jr.iload_n rfl rfl ?_
      refine jr.iconst rfl ?_
      refine jr.iast (i := s) (x := 0) rfl (by decide) rfl (by decide) (by omega) (by omega) ?_
      refine jr.aload_n rfl rfl ?_
      refine jr.getf (i := 48) (v := .ref 636) rfl rfl (by decide) rfl (by decide) rfl rfl rfl rfl ?_
      refine jr.iload_n rfl rfl ?_
      refine jr.lconst (x := 0) rfl (by decide) ?_
      refine jr.last (i := s) (x := 0) rfl (by decide) rfl (by decide) (by omega) (by omega) ?_
      refine jr.aload_n rfl rfl ?_
      refine jr.getf (i := 49) (v := .ref 637) rfl rfl (by decide) rfl (by decide) rfl rfl rfl rfl ?_
      refine jr.iload_n rfl rfl ?_
      refine jr.lconst (x := 0) rfl (by decide) ?_
      refine jr.last (i := s) (x := 0) rfl (by decide) rfl (by decide) (by omega) (by omega) ?_
      refine jr.iinc (ls' := [_, _, _]) rfl rfl (by decide) rfl ?_
      refine jr.goto rfl rfl ?_
      refine jr.pick (ls := [_, _, _]) [0, 1, 2] rfl rfl ?_
      exact ih (nM - 1) (by omega) (ju (ju (ju (ju (ju (ju M 632 s 0) 633 s 0) 634 s 0) 635 s 0) 636 s 0) 637 s 0) (s + 1) f (RI.u (RI.u (RI.u (RI.u (RI.u (RI.u hI_M (a := 632) (i := s) (by rw [xri_row rfl rfl]; show (0 : Int) ≤ _ ∧ _ ≤ (1 : Int); omega)) (a := 633) (i := s) (by rw [xri_row rfl rfl]; show (-2147483648 : Int) ≤ _ ∧ _ ≤ (2147483647 : Int); omega)) (a := 634) (i := s) (by rw [xri_row rfl rfl]; show (0 : Int) ≤ _ ∧ _ ≤ (1 : Int); omega)) (a := 635) (i := s) (by rw [xri_row rfl rfl]; show (0 : Int) ≤ _ ∧ _ ≤ (65535 : Int); omega)) (a := 636) (i := s) (by rw [xri_row rfl rfl]; show (-9223372036854775808 : Int) ≤ _ ∧ _ ≤ (9223372036854775807 : Int); omega)) (a := 637) (i := s) (by rw [xri_row rfl rfl]; show (-9223372036854775808 : Int) ≤ _ ∧ _ ≤ (9223372036854775807 : Int); omega)) (RH.o (RH.o (RH.o (RH.o (RH.o (RH.o hH_M (by decide) (by decide) (by decide)) (by decide) (by decide) (by decide)) (by decide) (by decide) (by decide)) (by decide) (by decide) (by decide)) (by decide) (by decide) (by decide)) (by decide) (by decide) (by decide))  (fun a i f632 f633 f634 f635 f636 f637 => ((ju_c _ _ f637).trans ((ju_c _ _ f636).trans ((ju_c _ _ f635).trans ((ju_c _ _ f634).trans ((ju_c _ _ f633).trans ((ju_c _ _ f632).trans (hF_M a i f632 f633 f634 f635 f636 f637)))))))) (by omega) (by omega) (by omega) (FG6.s hy1 (by omega)) (by omega) (by omega) (by omega)
theorem r_forget_x {A : Nat → Option (Nat × (Nat → Int32))} {Q : Option Value → jm → Prop} {M : jm} (hI_M : RI M) (hH_M : RH M) {f : Int} (h_f : 0 ≤ f ∧ f ≤ 23) (q : ∀ (M' : jm), RI M' → RH M' → FG6 M M' f (2 * f + 2) → (∀ (a : Nat) (i : Int), a ≠ 632 → a ≠ 633 → a ≠ 634 → a ≠ 635 → a ≠ 636 → a ≠ 637 → M' a i = M a i) → Q none M') : jc A 1 309 [.ref (598), .int (Int32.ofInt (f))] M Q := by
  refine jc_of (m := xm_309) rfl (Nat.le_of_ble_eq_true rfl) rfl ?_
  refine jr.iconst rfl ?_
  refine jr.iload_n rfl rfl ?_
  refine jr.imul rfl ?_
  refine jr.istore_n (ls' := [_, _, _]) rfl (by decide) rfl ?_
  refine jr.pick (ls := [_, _, _]) [0, 2, 1] rfl rfl ?_
  exact r_forget_L4_x q 48 M (2 * f) f hI_M hH_M  (fun a i f632 f633 f634 f635 f636 f637 => rfl) (by omega) (by omega) (by omega) ⟨fun j j0 j1 => absurd j1 (by omega), fun _ _ _ => rfl⟩ (by omega) (by omega) (by omega)
end
section
/-! ===== the class: spans, a flow begins ===== -/
noncomputable def ioF (M : jm) (t : Nat) (s q n : Int) : Int := if M (t + 4) s = 0 then 0 else if j_w (q - M (t + 3) s) < -66000 ∨ ((s = 1 ∨ M t 12 ≠ 0) ∧ M (t + 5) (1 - s) < j_w (j_w (q + n) - M (t + 3) s)) then 1 else 0
theorem io_0 {M : jm} {t : Nat} {s q n : Int} (h : M (t + 4) s = 0) : ioF M t s q n = 0 := by
  unfold ioF
  rw [if_pos h]
theorem io_1 {M : jm} {t : Nat} {s q n l w : Int} (h : M (t + 4) s ≠ 0) (hl : M (t + 3) s = l) (hw : M (t + 5) (1 - s) = w) (h1 : j_w (q - l) < -66000 ∨ ((s = 1 ∨ M t 12 ≠ 0) ∧ w < j_w (j_w (q + n) - l))) : ioF M t s q n = 1 := by
  unfold ioF
  rw [if_neg h, hl, hw, if_pos h1]
theorem io_2 {M : jm} {t : Nat} {s q n l w : Int} (h : M (t + 4) s ≠ 0) (hl : M (t + 3) s = l) (hw : M (t + 5) (1 - s) = w) (h1 : ¬ (j_w (q - l) < -66000 ∨ ((s = 1 ∨ M t 12 ≠ 0) ∧ w < j_w (j_w (q + n) - l)))) : ioF M t s q n = 0 := by
  unfold ioF
  rw [if_neg h, hl, hw, if_neg h1]
end
