section
theorem r_tick_L81_x {A : Nat → Option (Nat × (Nat → Int32))} {Q : Option Value → jm → Prop} {M0 : jm} {n0 : Int} (q : ∀ (r : Int) (M' : jm), RI M' → RH M' → RF M' → (-3) ≤ r ∧ r ≤ 2000000 → (((1 ≤ n0 ∧ n0 ≤ 1000) ∧ r = M0 598 2 + n0 ∧ M' 598 2 = M0 598 2 + n0 ∧ (∀ j : Int, 0 ≤ j → j < 8 → M' 606 j = if M0 612 j ≤ M0 598 2 + n0 then 0 else M0 606 j) ∧ (∀ j : Int, 0 ≤ j → j < 24 → M' 627 j = if M0 639 j ≤ M0 598 2 + n0 then 0 else M0 627 j)) ∨ (¬ (1 ≤ n0 ∧ n0 ≤ 1000) ∧ r = -3 ∧ M' = M0)) → RG1 M' → (∀ (a : Nat) (i : Int), a ≠ 598 → a ≠ 606 → a ≠ 624 → a ≠ 627 → M' a i = M0 a i) → (∀ (i : Int), i ≠ 2 → M' 598 i = M0 598 i) → Q (some (.int (Int32.ofInt r))) M') (nO : Nat) (ko : ∀ (M : jm) (k : Int) (n : Int), RI M → RH M → RF M → (∀ (a : Nat) (i : Int), a ≠ 598 → a ≠ 606 → a ≠ 624 → a ≠ 627 → M a i = M0 a i) → (∀ (i : Int), i ≠ 2 → M 598 i = M0 598 i) → 0 ≤ k ∧ k ≤ 1000 → 1 ≤ n ∧ n ≤ 1000 → RG1 M → RI M0 → k ≤ n → M 598 2 = M0 598 2 + k → TW M0 M 606 612 8 (k) (0) → TW M0 M 627 639 24 (k) (0) → 0 ≤ M0 598 2 ∧ M0 598 2 ≤ 1000000 → n = n0 → 1000 - k ≤ nO → jr A 1 xm_298 17 [(2, .int (Int32.ofInt (k))), (1, .int (Int32.ofInt (n))), (0, .ref (598))] [] M Q) : ∀ (nM : Nat) (M : jm) (j : Int) (k : Int) (n : Int), RI M → RH M → RF M → (∀ (a : Nat) (i : Int), a ≠ 598 → a ≠ 606 → a ≠ 624 → a ≠ 627 → M a i = M0 a i) → (∀ (i : Int), i ≠ 2 → M 598 i = M0 598 i) → 0 ≤ j ∧ j ≤ 24 → 0 ≤ k ∧ k ≤ 999 → 1 ≤ n ∧ n ≤ 1000 → RG1 M → RI M0 → 1000 - (k + 1) ≤ nO → k < n → M 598 2 = M0 598 2 + k + 1 → TW M0 M 606 612 8 (k + 1) (0) → TW M0 M 627 639 24 (k) (j) → 0 ≤ M0 598 2 ∧ M0 598 2 ≤ 1000000 → n = n0 → 24 - j ≤ nM → jr A 1 xm_298 81 [(3, .int (Int32.ofInt (j))), (2, .int (Int32.ofInt (k))), (1, .int (Int32.ofInt (n))), (0, .ref (598))] [] M Q := by
  intro nM
  induction nM using Nat.strongRecOn with
  | ind nM ih =>
    intro M j k n hI_M hH_M hS_M hF_M hG_M h_j h_k h_n hy0 hy1 hy2 hy3 hy4 hy5 hy6 hy7 hy8 hm
    subst hy8
    have hG1 := hy0
    have hI0 := hy1
    refine jr.iload_n rfl rfl ?_
    refine jr.bipush rfl (by decide) ?_
    refine jr.icmp_ge rfl rfl (by omega) (by omega) (fun h84 => ?_) (fun h84 => ?_)
    · refine jr.iconst rfl ?_
      refine jr.istore_n (ls' := [_, _, _, _]) rfl (by decide) rfl ?_
      obtain ⟨v1, e1⟩ : ∃ z, M 598 2 = z := ⟨_, rfl⟩
      have b1 : 0 ≤ v1 ∧ v1 ≤ 2000000 := by rw [← e1]; exact hI_M 598 2 (by decide)
      refine jr.pick (ls := [_, _, _, _]) [0, 1, 2, 3] rfl rfl ?_
      exact r_tick_L128_x q nO ko 4 M 0 k n hI_M hH_M hS_M  (fun a i f598 f606 f624 f627 => (hF_M a i f598 f606 f624 f627)) (fun i g2 => (hG_M i g2)) (by omega) (by omega) (by omega) hG1 hy1 (by omega) (by omega) ((e1).trans (by omega)) (TW.e hy5 (fun j => rfl)) (by have h9 := hy6; rw [show j = 24 from by omega] at h9; exact TW.n h9) (by omega) (by omega) (by omega)
    · refine jr.aload_n rfl rfl ?_
      refine jr.getf (i := 39) (v := .ref 627) rfl rfl (by decide) rfl (by decide) rfl rfl rfl rfl ?_
      refine jr.iload_n rfl rfl ?_
      refine jr.aload_n rfl rfl ?_
      refine jr.getf (i := 39) (v := .ref 627) rfl rfl (by decide) rfl (by decide) rfl rfl rfl rfl ?_
      refine jr.iload_n rfl rfl ?_
      obtain ⟨v2, e2⟩ : ∃ z, M 627 j = z := ⟨_, rfl⟩
      have b2 : 0 ≤ v2 ∧ v2 ≤ 1 := by rw [← e2]; exact (by have q := hI_M 627 j (by decide); rw [xri_row rfl rfl] at q; exact q)
      refine jr.zald (i := j) (x := v2) rfl (by decide) rfl (by decide) (by omega) (by omega) e2 ?_
      refine jr.if_eq rfl rfl (by omega) (fun h98 => ?_) (fun h98 => ?_)
      · refine jr.iconst rfl ?_
        refine jr.zast (i := j) (x := 0) rfl (by decide) rfl (by decide) (by omega) (by omega) (j_zn (by omega)) ?_
        refine jr.iinc (ls' := [_, _, _, _]) rfl rfl (by decide) rfl ?_
        refine jr.goto rfl rfl ?_
        obtain ⟨v3, e3⟩ : ∃ z, M 598 2 = z := ⟨_, rfl⟩
        have b3 : 0 ≤ v3 ∧ v3 ≤ 2000000 := by rw [← e3]; exact hI_M 598 2 (by decide)
        refine jr.pick (ls := [_, _, _, _]) [0, 1, 2, 3] rfl rfl ?_
        exact ih (nM - 1) (by omega) (ju M 627 j 0) (j + 1) k n (RI.u hI_M (a := 627) (i := j) (by rw [xri_row rfl rfl]; show (0 : Int) ≤ _ ∧ _ ≤ (1 : Int); omega)) (RH.o hH_M (by decide) (by decide) (by decide)) (RF.o hS_M (by decide) (by decide))  (fun a i f598 f606 f624 f627 => ((ju_c _ _ f627).trans (hF_M a i f598 f606 f624 f627))) (fun i g2 => ((ju_c _ _ (by decide)).trans (hG_M i g2))) (by omega) (by omega) (by omega) (RG1.o hG1 rfl) hy1 (by omega) (by omega) ((((ju_c _ _ (by decide)).trans e3)).trans (by omega)) (TW.e hy5 (fun j => ((ju_c _ _ (by decide)).trans rfl))) (TW.s hy6 (by omega) (by omega) (by have q := hI0 627 j (by decide); rw [xri_row rfl rfl] at q; exact q) (by rw [e2, if_neg (by omega)])) (by omega) (by omega) (by omega)
      · have sx98 : (1 : Int) ≤ v2 := by omega
        clear h98
        refine jr.aload_n rfl rfl ?_
        refine jr.getf (i := 51) (v := .ref 639) rfl rfl (by decide) rfl (by decide) rfl rfl rfl rfl ?_
        refine jr.iload_n rfl rfl ?_
        obtain ⟨v4, e4⟩ : ∃ z, M 639 j = z := ⟨_, rfl⟩
        have b4 : (-2147483648) ≤ v4 ∧ v4 ≤ 2147483647 := by rw [← e4]; exact (by have q := hI_M 639 j (by decide); rw [xri_row rfl rfl] at q; exact q)
        refine jr.iald (i := j) (x := v4) rfl (by decide) rfl (by decide) (by omega) (by omega) e4 ?_
        refine jr.aload_n rfl rfl ?_
        obtain ⟨v5, e5⟩ : ∃ z, M 598 2 = z := ⟨_, rfl⟩
        have b5 : 0 ≤ v5 ∧ v5 ≤ 2000000 := by rw [← e5]; exact hI_M 598 2 (by decide)
        refine jr.getf (i := 2) (x := v5) (v := .int (Int32.ofInt (v5))) rfl rfl (by decide) rfl (by decide) rfl rfl e5 rfl ?_
        refine jr.icmp_le rfl rfl (by omega) (by omega) (fun h111 => ?_) (fun h111 => ?_)
        · refine jr.iconst rfl ?_
          refine jr.zast (i := j) (x := 0) rfl (by decide) rfl (by decide) (by omega) (by omega) (j_zn (by omega)) ?_
          refine jr.iinc (ls' := [_, _, _, _]) rfl rfl (by decide) rfl ?_
          refine jr.goto rfl rfl ?_
          refine jr.pick (ls := [_, _, _, _]) [0, 1, 2, 3] rfl rfl ?_
          exact ih (nM - 1) (by omega) (ju M 627 j 0) (j + 1) k n (RI.u hI_M (a := 627) (i := j) (by rw [xri_row rfl rfl]; show (0 : Int) ≤ _ ∧ _ ≤ (1 : Int); omega)) (RH.o hH_M (by decide) (by decide) (by decide)) (RF.o hS_M (by decide) (by decide))  (fun a i f598 f606 f624 f627 => ((ju_c _ _ f627).trans (hF_M a i f598 f606 f624 f627))) (fun i g2 => ((ju_c _ _ (by decide)).trans (hG_M i g2))) (by omega) (by omega) (by omega) (RG1.o hG1 rfl) hy1 (by omega) (by omega) ((((ju_c _ _ (by decide)).trans e5)).trans (by omega)) (TW.e hy5 (fun j => ((ju_c _ _ (by decide)).trans rfl))) (TW.s hy6 (by omega) (by omega) (by have q := hI0 627 j (by decide); rw [xri_row rfl rfl] at q; exact q) (by rw [e2, (show M0 639 j = v4 from (hF_M 639 j (by decide) (by decide) (by decide) (by decide)).symm.trans e4), if_neg (by omega)])) (by omega) (by omega) (by omega)
        · refine jr.iconst rfl ?_
          refine jr.goto rfl rfl ?_
          refine jr.zast (i := j) (x := 1) rfl (by decide) rfl (by decide) (by omega) (by omega) (j_zn (by omega)) ?_
          refine jr.iinc (ls' := [_, _, _, _]) rfl rfl (by decide) rfl ?_
          refine jr.goto rfl rfl ?_
          refine jr.pick (ls := [_, _, _, _]) [0, 1, 2, 3] rfl rfl ?_
          exact ih (nM - 1) (by omega) (ju M 627 j 1) (j + 1) k n (RI.u hI_M (a := 627) (i := j) (by rw [xri_row rfl rfl]; show (0 : Int) ≤ _ ∧ _ ≤ (1 : Int); omega)) (RH.o hH_M (by decide) (by decide) (by decide)) (RF.o hS_M (by decide) (by decide))  (fun a i f598 f606 f624 f627 => ((ju_c _ _ f627).trans (hF_M a i f598 f606 f624 f627))) (fun i g2 => ((ju_c _ _ (by decide)).trans (hG_M i g2))) (by omega) (by omega) (by omega) (RG1.o hG1 rfl) hy1 (by omega) (by omega) ((((ju_c _ _ (by decide)).trans e5)).trans (by omega)) (TW.e hy5 (fun j => ((ju_c _ _ (by decide)).trans rfl))) (TW.s hy6 (by omega) (by omega) (by have q := hI0 627 j (by decide); rw [xri_row rfl rfl] at q; exact q) (by rw [e2, (show M0 639 j = v4 from (hF_M 639 j (by decide) (by decide) (by decide) (by decide)).symm.trans e4), if_pos ⟨by omega, by omega⟩])) (by omega) (by omega) (by omega)
end
