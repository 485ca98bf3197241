theorem r_next_L213 {A : Nat → Option (Nat × (Nat → Int32))} {Q : Option Value → jm → Prop} {M0 : jm} (q : ∀ (M' : jm), RI M' → RH M' → RF M' → M' 598 73 ≤ M' 598 72 → M0 598 73 ≤ M' 598 73 → TK M' ≤ TK M0 → (M0 598 74 ≠ 0 → TK M' < TK M0) → (M' 598 74 = 3 → M' 598 79 ≠ 10 ∧ M' 598 79 ≠ 11) → (∀ (a : Nat) (i : Int), a ≠ 598 → M' a i = M0 a i) → (∀ (i : Int), i ≠ 73 → i ≠ 74 → i ≠ 75 → i ≠ 76 → i ≠ 77 → i ≠ 78 → i ≠ 79 → M' 598 i = M0 598 i) → Q none M') : ∀ (nM : Nat) (M : jm) (k : Int), RI M → RH M → RF M → (∀ (a : Nat) (i : Int), a ≠ 598 → M a i = M0 a i) → (∀ (i : Int), i ≠ 73 → i ≠ 74 → i ≠ 75 → i ≠ 76 → i ≠ 77 → i ≠ 78 → i ≠ 79 → M 598 i = M0 598 i) → 0 ≤ k ∧ k ≤ 69 → M 598 73 ≤ M 598 72 → M0 598 73 < M 598 73 → 0 ≤ M0 598 74 → 1 ≤ M 598 74 ∧ M 598 74 ≠ 3 → 69 - k ≤ nM → jr A 1 xm_344 213 [(2, .int (Int32.ofInt (k))), (0, .ref (598))] [] M Q := by
  intro nM
  induction nM using Nat.strongRecOn with
  | ind nM ih =>
    intro M k hI_M hH_M hS_M hF_M hG_M h_k hy0 hy1 hy2 hy3 hm
    refine jr.iload_n rfl rfl ?_
    refine jr.bipush rfl (by decide) ?_
    refine jr.icmp_ge rfl rfl (by omega) (by omega) (fun h216 => ?_) (fun h216 => ?_)
    · refine jr.goto rfl rfl ?_
      obtain ⟨v1, e1⟩ : ∃ z, M 598 72 = z := ⟨_, rfl⟩
      have b1 : 0 ≤ v1 ∧ v1 ≤ 1600 := by rw [← e1]; exact hI_M 598 72 (by decide)
      have y2 : M 598 72 = v1 := e1
      obtain ⟨v3, e3⟩ : ∃ z, M 598 73 = z := ⟨_, rfl⟩
      have b3 : 0 ≤ v3 ∧ v3 ≤ 1600 := by rw [← e3]; exact hI_M 598 73 (by decide)
      have y4 : M 598 73 = v3 := e3
      obtain ⟨v5, e5⟩ : ∃ z, M 598 74 = z := ⟨_, rfl⟩
      have b5 : 0 ≤ v5 ∧ v5 ≤ 4 := by rw [← e5]; exact hI_M 598 74 (by decide)
      have y6 : M 598 74 = v5 := e5
      obtain ⟨v7, e7⟩ : ∃ z, M 598 79 = z := ⟨_, rfl⟩
      have b7 : 0 ≤ v7 ∧ v7 ≤ 255 := by rw [← e7]; exact hI_M 598 79 (by decide)
      have y8 : M 598 79 = v7 := e7
      exact jr.vreturn rfl rfl (q _ hI_M hH_M hS_M  (by omega) (by omega) (by unfold TK; omega) (fun q => by unfold TK; omega) (by omega) (fun a i f598 => (hF_M a i f598)) (fun i g73 g74 g75 g76 g77 g78 g79 => (hG_M i g73 g74 g75 g76 g77 g78 g79)))
    · refine jr.aload_n rfl rfl ?_
      refine jr.aload_n rfl rfl ?_
      refine jr.getf (i := 69) (v := .ref 649) rfl rfl (by decide) rfl (by decide) rfl rfl rfl rfl ?_
      refine jr.iload_n rfl rfl ?_
      obtain ⟨v9, e9⟩ : ∃ z, M 649 k = z := ⟨_, rfl⟩
      have b9 : (-9223372036854775808) ≤ v9 ∧ v9 ≤ 9223372036854775807 := by rw [← e9]; exact (by have q := hI_M 649 k (by decide); rw [xri_row rfl rfl] at q; exact q)
      refine jr.lald (i := k) (x := v9) rfl (by decide) rfl (by decide) (by omega) (by omega) e9 ?_
      refine jr.aload_n rfl rfl ?_
      obtain ⟨v10, e10⟩ : ∃ z, M 598 77 = z := ⟨_, rfl⟩
      have b10 : (-9223372036854775808) ≤ v10 ∧ v10 ≤ 9223372036854775807 := by rw [← e10]; exact hI_M 598 77 (by decide)
      refine jr.getf (i := 77) (x := v10) (v := .long (Int64.ofInt (v10))) rfl rfl (by decide) rfl (by decide) rfl rfl e10 rfl ?_
      refine jr.lcmp_ne rfl rfl rfl (by omega) (by omega) (fun h230 => ?_) (fun h230 => ?_)
      · refine jr.aload_n rfl rfl ?_
        obtain ⟨v11, e11⟩ : ∃ z, M 598 76 = z := ⟨_, rfl⟩
        have b11 : (-1) ≤ v11 ∧ v11 ≤ 68 := by rw [← e11]; exact hI_M 598 76 (by decide)
        refine jr.getf (i := 76) (x := v11) (v := .int (Int32.ofInt (v11))) rfl rfl (by decide) rfl (by decide) rfl rfl e11 rfl ?_
        refine jr.putf (i := 76) (x := v11) rfl rfl (by decide) rfl (by decide) rfl rfl rfl rfl rfl ?_
        refine jr.iinc (ls' := [_, _]) rfl rfl (by decide) rfl ?_
        refine jr.goto rfl rfl ?_
        obtain ⟨v12, e12⟩ : ∃ z, M 598 73 = z := ⟨_, rfl⟩
        have b12 : 0 ≤ v12 ∧ v12 ≤ 1600 := by rw [← e12]; exact hI_M 598 73 (by decide)
        obtain ⟨v13, e13⟩ : ∃ z, M 598 72 = z := ⟨_, rfl⟩
        have b13 : 0 ≤ v13 ∧ v13 ≤ 1600 := by rw [← e13]; exact hI_M 598 72 (by decide)
        obtain ⟨v14, e14⟩ : ∃ z, M 598 74 = z := ⟨_, rfl⟩
        have b14 : 0 ≤ v14 ∧ v14 ≤ 4 := by rw [← e14]; exact hI_M 598 74 (by decide)
        refine jr.pick (ls := [_, _]) [0, 1] rfl rfl ?_
        exact ih (nM - 1) (by omega) (ju M 598 76 v11) (k + 1) (RI.u hI_M (a := 598) (i := 76) (show (-1 : Int) ≤ _ ∧ _ ≤ (68 : Int) from by omega)) (RH.o hH_M (by decide) (by decide) (by decide)) (RF.o hS_M (by decide) (by decide))  (fun a i f598 => ((ju_c _ _ f598).trans (hF_M a i f598))) (fun i g73 g74 g75 g76 g77 g78 g79 => ((ju_i _ _ g76).trans (hG_M i g73 g74 g75 g76 g77 g78 g79))) (by omega) (by rw [((ju_i _ _ (by decide)).trans e12), ((ju_i _ _ (by decide)).trans e13)] <;> omega) (by rw [((ju_i _ _ (by decide)).trans e12)] <;> omega) (by omega) (by rw [((ju_i _ _ (by decide)).trans e14)] <;> omega) (by omega)
      · refine jr.iload_n rfl rfl ?_
        refine jr.goto rfl rfl ?_
        refine jr.putf (i := 76) (x := k) rfl rfl (by decide) rfl (by decide) rfl rfl rfl rfl rfl ?_
        refine jr.iinc (ls' := [_, _]) rfl rfl (by decide) rfl ?_
        refine jr.goto rfl rfl ?_
        obtain ⟨v15, e15⟩ : ∃ z, M 598 73 = z := ⟨_, rfl⟩
        have b15 : 0 ≤ v15 ∧ v15 ≤ 1600 := by rw [← e15]; exact hI_M 598 73 (by decide)
        obtain ⟨v16, e16⟩ : ∃ z, M 598 72 = z := ⟨_, rfl⟩
        have b16 : 0 ≤ v16 ∧ v16 ≤ 1600 := by rw [← e16]; exact hI_M 598 72 (by decide)
        obtain ⟨v17, e17⟩ : ∃ z, M 598 74 = z := ⟨_, rfl⟩
        have b17 : 0 ≤ v17 ∧ v17 ≤ 4 := by rw [← e17]; exact hI_M 598 74 (by decide)
        refine jr.pick (ls := [_, _]) [0, 1] rfl rfl ?_
        exact ih (nM - 1) (by omega) (ju M 598 76 k) (k + 1) (RI.u hI_M (a := 598) (i := 76) (show (-1 : Int) ≤ _ ∧ _ ≤ (68 : Int) from by omega)) (RH.o hH_M (by decide) (by decide) (by decide)) (RF.o hS_M (by decide) (by decide))  (fun a i f598 => ((ju_c _ _ f598).trans (hF_M a i f598))) (fun i g73 g74 g75 g76 g77 g78 g79 => ((ju_i _ _ g76).trans (hG_M i g73 g74 g75 g76 g77 g78 g79))) (by omega) (by rw [((ju_i _ _ (by decide)).trans e15), ((ju_i _ _ (by decide)).trans e16)] <;> omega) (by rw [((ju_i _ _ (by decide)).trans e15)] <;> omega) (by omega) (by rw [((ju_i _ _ (by decide)).trans e17)] <;> omega) (by omega)
