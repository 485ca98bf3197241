theorem r_fresh_L111 {A : Nat → Option (Nat × (Nat → Int32))} {Q : Option Value → jm → Prop} {M0 : jm} (q : ∀ (M' : jm), RI M' → RH M' → RF M' → (∀ (a : Nat) (i : Int), a ≠ 598 → a ≠ 674 → a ≠ 675 → a ≠ 676 → a ≠ 677 → M' a i = M0 a i) → (∀ (i : Int), i ≠ 110 → i ≠ 135 → M' 598 i = M0 598 i) → Q none M') : ∀ (nM : Nat) (M : jm) (i : Int) (k : Int), RI M → RH M → RF M → (∀ (a : Nat) (i : Int), a ≠ 598 → a ≠ 674 → a ≠ 675 → a ≠ 676 → a ≠ 677 → M a i = M0 a i) → (∀ (i : Int), i ≠ 110 → i ≠ 135 → M 598 i = M0 598 i) → 0 ≤ i ∧ i ≤ 40 → 0 ≤ k ∧ k ≤ 7 → 40 - i ≤ nM → jr A 1 xm_400 111 [(7, .int (Int32.ofInt (i))), (1, .long (Int64.ofInt (k))), (0, .ref (598))] [] M Q := by
  intro nM
  induction nM using Nat.strongRecOn with
  | ind nM ih =>
    intro M i k hI_M hH_M hS_M hF_M hG_M h_i h_k hm
    refine jr.iload rfl rfl ?_
    refine jr.bipush rfl (by decide) ?_
    refine jr.icmp_ge rfl rfl (by omega) (by omega) (fun h115 => ?_) (fun h115 => ?_)
    · exact jr.vreturn rfl rfl (q _ hI_M hH_M hS_M  (fun a i f598 f674 f675 f676 f677 => (hF_M a i f598 f674 f675 f676 f677)) (fun i g110 g135 => (hG_M i g110 g135)))
    · refine jr.aload_n rfl rfl ?_
      refine jr.getf (i := 119) (v := .ref 676) rfl rfl (by decide) rfl (by decide) rfl rfl rfl rfl ?_
      refine jr.bipush rfl (by decide) ?_
      refine jr.lload_n rfl rfl ?_
      refine jr.l2i rfl ?_
      refine jr.imul rfl ?_
      refine jr.iload rfl rfl ?_
      refine jr.iadd rfl ?_
      refine jr.lconst (x := 0) rfl (by decide) ?_
      refine jr.last (i := ((40 * k) + i)) (x := 0) rfl (by decide) rfl (by decide) (by omega) (by omega) ?_
      refine jr.aload_n rfl rfl ?_
      refine jr.getf (i := 120) (v := .ref 677) rfl rfl (by decide) rfl (by decide) rfl rfl rfl rfl ?_
      refine jr.bipush rfl (by decide) ?_
      refine jr.lload_n rfl rfl ?_
      refine jr.l2i rfl ?_
      refine jr.imul rfl ?_
      refine jr.iload rfl rfl ?_
      refine jr.iadd rfl ?_
      refine jr.iconst rfl ?_
      refine jr.iast (i := ((40 * k) + i)) (x := (-1)) rfl (by decide) rfl (by decide) (by omega) (by omega) ?_
      refine jr.iinc rfl rfl (by decide) rfl ?_
      refine jr.goto rfl rfl ?_
      refine jr.pick [0, 1, 2] rfl rfl ?_
      exact ih (nM - 1) (by omega) (ju (ju M 676 ((40 * k) + i) 0) 677 ((40 * k) + i) (-1)) (i + 1) k (RI.u (RI.u hI_M (a := 676) (i := ((40 * k) + i)) (by rw [xri_row rfl rfl]; show (-9223372036854775808 : Int) ≤ _ ∧ _ ≤ (9223372036854775807 : Int); omega)) (a := 677) (i := ((40 * k) + i)) (by rw [xri_row rfl rfl]; show (-1 : Int) ≤ _ ∧ _ ≤ (11 : Int); omega)) (RH.o (RH.o hH_M (by decide) (by decide) (by decide)) (by decide) (by decide) (by decide)) (RF.o (RF.o hS_M (by decide) (by decide)) (by decide) (by decide))  (fun a i f598 f674 f675 f676 f677 => ((ju_c _ _ f677).trans ((ju_c _ _ f676).trans (hF_M a i f598 f674 f675 f676 f677)))) (fun i g110 g135 => ((ju_c _ _ (by decide)).trans ((ju_c _ _ (by decide)).trans (hG_M i g110 g135)))) (by omega) (by omega)  (by omega)
