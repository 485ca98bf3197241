section
theorem r_beginFlow_L5_x {A : Nat → Option (Nat × (Nat → Int32))} {Q : Option Value → jm → Prop} {M0 : jm} (q : ∀ (r : Int) (M' : jm), RI M' → RH M' → (-1) ≤ r ∧ r ≤ 23 → RFx M' r → (r = -1 ∨ M' 629 r = M0 598 60) → (r = fE6 M0 24 0 ∧ ((r = -1 ∧ M' = M0) ∨ (r ≠ -1 ∧ BF6 M0 M' r))) → (∀ (a : Nat) (i : Int), a ≠ 627 → a ≠ 628 → a ≠ 629 → a ≠ 630 → a ≠ 631 → a ≠ 632 → a ≠ 633 → a ≠ 634 → a ≠ 635 → a ≠ 636 → a ≠ 637 → a ≠ 640 → M' a i = M0 a i) → Q (some (.int (Int32.ofInt r))) M') : ∀ (nM : Nat) (M : jm) (k : Int) (f : Int), RI M → RH M → RF M → (∀ (a : Nat) (i : Int), a ≠ 627 → a ≠ 628 → a ≠ 629 → a ≠ 630 → a ≠ 631 → a ≠ 632 → a ≠ 633 → a ≠ 634 → a ≠ 635 → a ≠ 636 → a ≠ 637 → a ≠ 640 → M a i = M0 a i) → (-1) ≤ k ∧ k ≤ 23 → (-1) ≤ f ∧ f ≤ 23 → f = fE6 M0 (24 - (k + 1)).toNat (k + 1) → M = M0 → k + 1 ≤ nM → jr A 1 xm_310 5 [(2, .int (Int32.ofInt (k))), (1, .int (Int32.ofInt (f))), (0, .ref (598))] [] M Q := by
  intro nM
  induction nM using Nat.strongRecOn with
  | ind nM ih =>
    intro M k f hI_M hH_M hS_M hF_M h_k h_f hy0 hy1 hm
    refine jr.iload_n rfl rfl ?_
    refine jr.if_lt rfl rfl (by omega) (fun h6 => ?_) (fun h6 => ?_)
    · refine jr.iload_n rfl rfl ?_
      refine jr.iconst rfl ?_
      refine jr.icmp_ne rfl rfl (by omega) (by omega) (fun h32 => ?_) (fun h32 => ?_)
      · have sx32 : (0 : Int) ≤ f := by omega
        clear h32
        refine jr.aload_n rfl rfl ?_
        refine jr.getf (i := 39) (v := .ref 627) rfl rfl (by decide) rfl (by decide) rfl rfl rfl rfl ?_
        refine jr.iload_n rfl rfl ?_
        refine jr.iconst rfl ?_
        refine jr.zast (i := f) (x := 1) rfl (by decide) rfl (by decide) (by omega) (by omega) (j_zn (by omega)) ?_
        refine jr.aload_n rfl rfl ?_
        refine jr.getf (i := 40) (v := .ref 628) rfl rfl (by decide) rfl (by decide) rfl rfl rfl rfl ?_
        refine jr.iload_n rfl rfl ?_
        refine jr.aload_n rfl rfl ?_
        obtain ⟨v1, e1⟩ : ∃ z, M 598 59 = z := ⟨_, rfl⟩
        have b1 : 0 ≤ v1 ∧ v1 ≤ 1 := by rw [← e1]; exact hI_M 598 59 (by decide)
        refine jr.getf (i := 59) (x := v1) (v := .int (Int32.ofInt (v1))) rfl rfl (by decide) rfl (by decide) rfl rfl ((ju_c _ _ (by decide)).trans e1) rfl ?_
        refine jr.zast (i := f) (x := v1) rfl (by decide) rfl (by decide) (by omega) (by omega) (j_zn (by omega)) ?_
        refine jr.aload_n rfl rfl ?_
        refine jr.getf (i := 41) (v := .ref 629) rfl rfl (by decide) rfl (by decide) rfl rfl rfl rfl ?_
        refine jr.iload_n rfl rfl ?_
        refine jr.aload_n rfl rfl ?_
        obtain ⟨v2, e2⟩ : ∃ z, M 598 60 = z := ⟨_, rfl⟩
        have b2 : 0 ≤ v2 ∧ v2 ≤ 255 := by rw [← e2]; exact hI_M 598 60 (by decide)
        refine jr.getf (i := 60) (x := v2) (v := .int (Int32.ofInt (v2))) rfl rfl (by decide) rfl (by decide) rfl rfl ((ju_c _ _ (by decide)).trans ((ju_c _ _ (by decide)).trans e2)) rfl ?_
        refine jr.iast (i := f) (x := v2) rfl (by decide) rfl (by decide) (by omega) (by omega) ?_
        refine jr.aload_n rfl rfl ?_
        refine jr.getf (i := 42) (v := .ref 630) rfl rfl (by decide) rfl (by decide) rfl rfl rfl rfl ?_
        refine jr.iconst rfl ?_
        refine jr.iload_n rfl rfl ?_
        refine jr.imul rfl ?_
        refine jr.aload_n rfl rfl ?_
        obtain ⟨v3, e3⟩ : ∃ z, M 598 61 = z := ⟨_, rfl⟩
        have b3 : (-9223372036854775808) ≤ v3 ∧ v3 ≤ 9223372036854775807 := by rw [← e3]; exact hI_M 598 61 (by decide)
        refine jr.getf (i := 61) (x := v3) (v := .long (Int64.ofInt (v3))) rfl rfl (by decide) rfl (by decide) rfl rfl ((ju_c _ _ (by decide)).trans ((ju_c _ _ (by decide)).trans ((ju_c _ _ (by decide)).trans e3))) rfl ?_
        refine jr.last (i := (2 * f)) (x := v3) rfl (by decide) rfl (by decide) (by omega) (by omega) ?_
        refine jr.aload_n rfl rfl ?_
        refine jr.getf (i := 42) (v := .ref 630) rfl rfl (by decide) rfl (by decide) rfl rfl rfl rfl ?_
        refine jr.iconst rfl ?_
        refine jr.iload_n rfl rfl ?_
        refine jr.imul rfl ?_
        refine jr.iconst rfl ?_
        refine jr.iadd rfl ?_
        refine jr.aload_n rfl rfl ?_
        obtain ⟨v4, e4⟩ : ∃ z, M 598 62 = z := ⟨_, rfl⟩
        have b4 : (-9223372036854775808) ≤ v4 ∧ v4 ≤ 9223372036854775807 := by rw [← e4]; exact hI_M 598 62 (by decide)
        refine jr.getf (i := 62) (x := v4) (v := .long (Int64.ofInt (v4))) rfl rfl (by decide) rfl (by decide) rfl rfl ((ju_c _ _ (by decide)).trans ((ju_c _ _ (by decide)).trans ((ju_c _ _ (by decide)).trans ((ju_c _ _ (by decide)).trans e4)))) rfl ?_
        refine jr.last (i := ((2 * f) + 1)) (x := v4) rfl (by decide) rfl (by decide) (by omega) (by omega) ?_
        refine jr.aload_n rfl rfl ?_
        refine jr.getf (i := 43) (v := .ref 631) rfl rfl (by decide) rfl (by decide) rfl rfl rfl rfl ?_
        refine jr.iconst rfl ?_
        refine jr.iload_n rfl rfl ?_
        refine jr.imul rfl ?_
        refine jr.aload_n rfl rfl ?_
        obtain ⟨v5, e5⟩ : ∃ z, M 598 63 = z := ⟨_, rfl⟩
        have b5 : 0 ≤ v5 ∧ v5 ≤ 65535 := by rw [← e5]; exact hI_M 598 63 (by decide)
        refine jr.getf (i := 63) (x := v5) (v := .int (Int32.ofInt (v5))) rfl rfl (by decide) rfl (by decide) rfl rfl ((ju_c _ _ (by decide)).trans ((ju_c _ _ (by decide)).trans ((ju_c _ _ (by decide)).trans ((ju_c _ _ (by decide)).trans ((ju_c _ _ (by decide)).trans e5))))) rfl ?_
        refine jr.iast (i := (2 * f)) (x := v5) rfl (by decide) rfl (by decide) (by omega) (by omega) ?_
        refine jr.aload_n rfl rfl ?_
        refine jr.getf (i := 43) (v := .ref 631) rfl rfl (by decide) rfl (by decide) rfl rfl rfl rfl ?_
        refine jr.iconst rfl ?_
        refine jr.iload_n rfl rfl ?_
        refine jr.imul rfl ?_
        refine jr.iconst rfl ?_
        refine jr.iadd rfl ?_
        refine jr.aload_n rfl rfl ?_
        obtain ⟨v6, e6⟩ : ∃ z, M 598 64 = z := ⟨_, rfl⟩
        have b6 : 0 ≤ v6 ∧ v6 ≤ 65535 := by rw [← e6]; exact hI_M 598 64 (by decide)
        refine jr.getf (i := 64) (x := v6) (v := .int (Int32.ofInt (v6))) rfl rfl (by decide) rfl (by decide) rfl rfl ((ju_c _ _ (by decide)).trans ((ju_c _ _ (by decide)).trans ((ju_c _ _ (by decide)).trans ((ju_c _ _ (by decide)).trans ((ju_c _ _ (by decide)).trans ((ju_c _ _ (by decide)).trans e6)))))) rfl ?_
        refine jr.iast (i := ((2 * f) + 1)) (x := v6) rfl (by decide) rfl (by decide) (by omega) (by omega) ?_
        refine jr.aload_n rfl rfl ?_
        refine jr.getf (i := 52) (v := .ref 640) rfl rfl (by decide) rfl (by decide) rfl rfl rfl rfl ?_
        refine jr.iload_n rfl rfl ?_
        refine jr.iconst rfl ?_
        refine jr.iast (i := f) (x := (-1)) rfl (by decide) rfl (by decide) (by omega) (by omega) ?_
        refine jr.aload_n rfl rfl ?_
        refine jr.iload_n rfl rfl ?_
        refine jr_v rfl rfl (Or.inl rfl) rfl rfl (by decide) rfl ⟨rfl, Nat.le_of_ble_eq_true rfl, Nat.le_of_ble_eq_true rfl⟩ rfl (jc.deep (r_forget_x (RI.u (RI.u (RI.u (RI.u (RI.u (RI.u (RI.u (RI.u hI_M (a := 627) (i := f) (by rw [xri_row rfl rfl]; show (0 : Int) ≤ _ ∧ _ ≤ (1 : Int); omega)) (a := 628) (i := f) (by rw [xri_row rfl rfl]; show (0 : Int) ≤ _ ∧ _ ≤ (1 : Int); omega)) (a := 629) (i := f) (by rw [xri_row rfl rfl]; show (0 : Int) ≤ _ ∧ _ ≤ (255 : Int); omega)) (a := 630) (i := (2 * f)) (by rw [xri_row rfl rfl]; show (-9223372036854775808 : Int) ≤ _ ∧ _ ≤ (9223372036854775807 : Int); omega)) (a := 630) (i := ((2 * f) + 1)) (by rw [xri_row rfl rfl]; show (-9223372036854775808 : Int) ≤ _ ∧ _ ≤ (9223372036854775807 : Int); omega)) (a := 631) (i := (2 * f)) (by rw [xri_row rfl rfl]; show (0 : Int) ≤ _ ∧ _ ≤ (65535 : Int); omega)) (a := 631) (i := ((2 * f) + 1)) (by rw [xri_row rfl rfl]; show (0 : Int) ≤ _ ∧ _ ≤ (65535 : Int); omega)) (a := 640) (i := f) (by rw [xri_row rfl rfl]; show (-1 : Int) ≤ _ ∧ _ ≤ (3 : Int); omega)) (RH.o (RH.o (RH.o (RH.o (RH.o (RH.o (RH.o (RH.o hH_M (by decide) (by decide) (by decide)) (by decide) (by decide) (by decide)) (by decide) (by decide) (by decide)) (by decide) (by decide) (by decide)) (by decide) (by decide) (by decide)) (by decide) (by decide) (by decide)) (by decide) (by decide) (by decide)) (by decide) (by decide) (by decide))  (by omega)  (fun M7 hI_M7 hH_M7  w7_0 w7_1 => ?_)) (by decide))
        refine jr.iload_n rfl rfl ?_
        have e8 : M7 629 f = v2 := ((w7_1 629 f (by decide) (by decide) (by decide) (by decide) (by decide) (by decide)).trans ((ju_c _ _ (by decide)).trans ((ju_c _ _ (by decide)).trans ((ju_c _ _ (by decide)).trans ((ju_c _ _ (by decide)).trans ((ju_c _ _ (by decide)).trans (ju_same _ _ _ _)))))))
        exact jr.ireturn rfl rfl rfl (q _ _ hI_M7 hH_M7  (by omega) (RFx.fr (RFx.o (RFx.o (RFx.o (RFx.o (RFx.o (RF.x (RF.o (RF.o hS_M (by decide) (by decide)) (by decide) (by decide))) (by decide) (by decide)) (by decide) (by decide)) (by decide) (by decide)) (by decide) (by decide)) (by decide) (by decide)) (fun f => w7_1 629 f (by decide) (by decide) (by decide) (by decide) (by decide) (by decide)) (fun f => w7_1 638 f (by decide) (by decide) (by decide) (by decide) (by decide) (by decide))) (Or.inr (e8.trans (by have z := hF_M 598 60 (by decide) (by decide) (by decide) (by decide) (by decide) (by decide) (by decide) (by decide) (by decide) (by decide) (by decide) (by decide); omega))) ⟨(by have h9 := hy0; rw [show (24 - (k + 1)).toNat = 24 from by omega, show k + 1 = 0 from by omega] at h9; exact h9), Or.inr ⟨by omega, (by have h8 := w7_0; have h7 := w7_1; rw [hy1] at h8 h7; exact BF6.m (by rw [← hy1]; exact e1) (by rw [← hy1]; exact e2) (by rw [← hy1]; exact e3) (by rw [← hy1]; exact e4) (by rw [← hy1]; exact e5) (by rw [← hy1]; exact e6) h8 h7)⟩⟩ (fun a i f627 f628 f629 f630 f631 f632 f633 f634 f635 f636 f637 f640 => ((w7_1 a i f632 f633 f634 f635 f636 f637).trans ((ju_c _ _ f640).trans ((ju_c _ _ f631).trans ((ju_c _ _ f631).trans ((ju_c _ _ f630).trans ((ju_c _ _ f630).trans ((ju_c _ _ f629).trans ((ju_c _ _ f628).trans ((ju_c _ _ f627).trans (hF_M a i f627 f628 f629 f630 f631 f632 f633 f634 f635 f636 f637 f640))))))))))))
      · refine jr.iconst rfl ?_
        exact jr.ireturn rfl rfl rfl (q _ _ hI_M hH_M  (by omega) (fun f _ => hS_M f) (Or.inl rfl) ⟨(by have h8 := (by have h9 := hy0; rw [show (24 - (k + 1)).toNat = 24 from by omega, show k + 1 = 0 from by omega] at h9; exact h9); omega), Or.inl ⟨rfl, hy1⟩⟩ (fun a i f627 f628 f629 f630 f631 f632 f633 f634 f635 f636 f637 f640 => (hF_M a i f627 f628 f629 f630 f631 f632 f633 f634 f635 f636 f637 f640)))
    · refine jr.aload_n rfl rfl ?_
      refine jr.getf (i := 39) (v := .ref 627) rfl rfl (by decide) rfl (by decide) rfl rfl rfl rfl ?_
      refine jr.iload_n rfl rfl ?_
      obtain ⟨v9, e9⟩ : ∃ z, M 627 k = z := ⟨_, rfl⟩
      have b9 : 0 ≤ v9 ∧ v9 ≤ 1 := by rw [← e9]; exact (by have q := hI_M 627 k (by decide); rw [xri_row rfl rfl] at q; exact q)
      refine jr.zald (i := k) (x := v9) rfl (by decide) rfl (by decide) (by omega) (by omega) e9 ?_
      refine jr.if_eq rfl rfl (by omega) (fun h15 => ?_) (fun h15 => ?_)
      · refine jr.iload_n rfl rfl ?_
        refine jr.istore_n (ls' := [_, _, _]) rfl (by decide) rfl ?_
        refine jr.iinc (ls' := [_, _, _]) rfl rfl (by decide) rfl ?_
        refine jr.goto rfl rfl ?_
        refine jr.pick (ls := [_, _, _]) [0, 1, 2] rfl rfl ?_
        exact ih (nM - 1) (by omega) M (k + (-1)) k hI_M hH_M hS_M  (fun a i f627 f628 f629 f630 f631 f632 f633 f634 f635 f636 f637 f640 => (hF_M a i f627 f628 f629 f630 f631 f632 f633 f634 f635 f636 f637 f640)) (by omega) (by omega) (by rw [show k + -1 + 1 = k from by omega, fE6_s (by omega), ← hy1]; first | (rw [if_pos (by omega)]; done) | (rw [if_neg (by omega), hy1]; exact hy0)) hy1 (by omega)
      · have sx15 : (1 : Int) ≤ v9 := by omega
        clear h15
        refine jr.iload_n rfl rfl ?_
        refine jr.goto rfl rfl ?_
        refine jr.istore_n (ls' := [_, _, _]) rfl (by decide) rfl ?_
        refine jr.iinc (ls' := [_, _, _]) rfl rfl (by decide) rfl ?_
        refine jr.goto rfl rfl ?_
        refine jr.pick (ls := [_, _, _]) [0, 1, 2] rfl rfl ?_
        exact ih (nM - 1) (by omega) M (k + (-1)) f hI_M hH_M hS_M  (fun a i f627 f628 f629 f630 f631 f632 f633 f634 f635 f636 f637 f640 => (hF_M a i f627 f628 f629 f630 f631 f632 f633 f634 f635 f636 f637 f640)) (by omega) (by omega) (by rw [show k + -1 + 1 = k from by omega, fE6_s (by omega), ← hy1]; first | (rw [if_pos (by omega)]; done) | (rw [if_neg (by omega), hy1]; exact hy0)) hy1 (by omega)
end
