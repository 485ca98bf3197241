theorem r_learn_L40 {A : Nat → Option (Nat × (Nat → Int32))} {Q : Option Value → jm → Prop} {M0 : jm} (q : ∀ (M' : jm), RI M' → RH M' → RF M' → (∀ (a : Nat) (i : Int), a ≠ 598 → a ≠ 672 → a ≠ 673 → M' a i = M0 a i) → (∀ (i : Int), i ≠ 135 → M' 598 i = M0 598 i) → Q none M') : ∀ (nM : Nat) (M : jm) (i : Int) (s : Int) (v : Int), RI M → RH M → RF M → (∀ (a : Nat) (i : Int), a ≠ 598 → a ≠ 672 → a ≠ 673 → M a i = M0 a i) → (∀ (i : Int), i ≠ 135 → M 598 i = M0 598 i) → 0 ≤ i ∧ i ≤ 15 → 0 ≤ s ∧ s ≤ 3 → (-9223372036854775808) ≤ v ∧ v ≤ 9223372036854775807 → 16 ≤ M 672 s ∧ M 672 s ≤ 16 → 15 - i ≤ nM → jr A 2 xm_396 40 [(7, .int (Int32.ofInt (i))), (6, .int (Int32.ofInt (s))), (3, .long (Int64.ofInt (v))), (0, .ref (598))] [] M Q := by
  intro nM
  induction nM using Nat.strongRecOn with
  | ind nM ih =>
    intro M i s v hI_M hH_M hS_M hF_M hG_M h_i h_s h_v hy0 hm
    refine jr.iload rfl rfl ?_
    refine jr.bipush rfl (by decide) ?_
    refine jr.icmp_ge rfl rfl (by omega) (by omega) (fun h44 => ?_) (fun h44 => ?_)
    · refine jr.aload_n rfl rfl ?_
      refine jr.getf (i := 115) (v := .ref 672) rfl rfl (by decide) rfl (by decide) rfl rfl rfl rfl ?_
      refine jr.iload rfl rfl ?_
      refine jr.dup2 rfl ⟨rfl, rfl⟩ ?_
      obtain ⟨v1, e1⟩ : ∃ z, M 672 s = z := ⟨_, rfl⟩
      have b1 : 0 ≤ v1 ∧ v1 ≤ 16 := by rw [← e1]; exact (by have q := hI_M 672 s (by decide); rw [xri_row rfl rfl] at q; exact q)
      refine jr.iald (i := s) (x := v1) rfl (by decide) rfl (by decide) (by omega) (by omega) e1 ?_
      refine jr.iconst rfl ?_
      refine jr.isub rfl ?_
      refine jr.iast (i := s) (x := (v1 - 1)) rfl (by decide) rfl (by decide) (by omega) (by omega) ?_
      refine jr.aload_n rfl rfl ?_
      refine jr.getf (i := 116) (v := .ref 673) rfl rfl (by decide) rfl (by decide) rfl rfl rfl rfl ?_
      refine jr.bipush rfl (by decide) ?_
      refine jr.iload rfl rfl ?_
      refine jr.imul rfl ?_
      refine jr.aload_n rfl rfl ?_
      refine jr.getf (i := 115) (v := .ref 672) rfl rfl (by decide) rfl (by decide) rfl rfl rfl rfl ?_
      refine jr.iload rfl rfl ?_
      refine jr.iald (i := s) (x := (v1 - 1)) rfl (by decide) rfl (by decide) (by omega) (by omega) (ju_same _ _ _ _) ?_
      refine jr.iadd rfl ?_
      refine jr.lload_n rfl rfl ?_
      refine jr.last (i := ((16 * s) + (v1 - 1))) (x := v) rfl (by decide) rfl (by decide) (by omega) (by omega) ?_
      refine jr.aload_n rfl rfl ?_
      refine jr.getf (i := 115) (v := .ref 672) rfl rfl (by decide) rfl (by decide) rfl rfl rfl rfl ?_
      refine jr.iload rfl rfl ?_
      refine jr.dup2 rfl ⟨rfl, rfl⟩ ?_
      refine jr.iald (i := s) (x := (v1 - 1)) rfl (by decide) rfl (by decide) (by omega) (by omega) ((ju_c _ _ (by decide)).trans (ju_same _ _ _ _)) ?_
      refine jr.iconst rfl ?_
      refine jr.iadd rfl ?_
      refine jr.iast (i := s) (x := ((v1 - 1) + 1)) rfl (by decide) rfl (by decide) (by omega) (by omega) ?_
      exact jr.vreturn rfl rfl (q _ (RI.u (RI.u (RI.u hI_M (a := 672) (i := s) (by rw [xri_row rfl rfl]; show (0 : Int) ≤ _ ∧ _ ≤ (16 : Int); omega)) (a := 673) (i := ((16 * s) + (v1 - 1))) (by rw [xri_row rfl rfl]; show (-9223372036854775808 : Int) ≤ _ ∧ _ ≤ (9223372036854775807 : Int); omega)) (a := 672) (i := s) (by rw [xri_row rfl rfl]; show (0 : Int) ≤ _ ∧ _ ≤ (16 : Int); omega)) (RH.o (RH.o (RH.o hH_M (by decide) (by decide) (by decide)) (by decide) (by decide) (by decide)) (by decide) (by decide) (by decide)) (RF.o (RF.o (RF.o hS_M (by decide) (by decide)) (by decide) (by decide)) (by decide) (by decide))  (fun a i f598 f672 f673 => ((ju_c _ _ f672).trans ((ju_c _ _ f673).trans ((ju_c _ _ f672).trans (hF_M a i f598 f672 f673))))) (fun i g135 => ((ju_c _ _ (by decide)).trans ((ju_c _ _ (by decide)).trans ((ju_c _ _ (by decide)).trans (hG_M i g135))))))
    · refine jr.aload_n rfl rfl ?_
      refine jr.getf (i := 116) (v := .ref 673) rfl rfl (by decide) rfl (by decide) rfl rfl rfl rfl ?_
      refine jr.bipush rfl (by decide) ?_
      refine jr.iload rfl rfl ?_
      refine jr.imul rfl ?_
      refine jr.iload rfl rfl ?_
      refine jr.iadd rfl ?_
      refine jr.aload_n rfl rfl ?_
      refine jr.getf (i := 116) (v := .ref 673) rfl rfl (by decide) rfl (by decide) rfl rfl rfl rfl ?_
      refine jr.bipush rfl (by decide) ?_
      refine jr.iload rfl rfl ?_
      refine jr.imul rfl ?_
      refine jr.iload rfl rfl ?_
      refine jr.iadd rfl ?_
      refine jr.iconst rfl ?_
      refine jr.iadd rfl ?_
      obtain ⟨v2, e2⟩ : ∃ z, M 673 (((16 * s) + i) + 1) = z := ⟨_, rfl⟩
      have b2 : (-9223372036854775808) ≤ v2 ∧ v2 ≤ 9223372036854775807 := by rw [← e2]; exact (by have q := hI_M 673 (((16 * s) + i) + 1) (by decide); rw [xri_row rfl rfl] at q; exact q)
      refine jr.lald (i := (((16 * s) + i) + 1)) (x := v2) rfl (by decide) rfl (by decide) (by omega) (by omega) e2 ?_
      refine jr.last (i := ((16 * s) + i)) (x := v2) rfl (by decide) rfl (by decide) (by omega) (by omega) ?_
      refine jr.iinc rfl rfl (by decide) rfl ?_
      refine jr.goto rfl rfl ?_
      obtain ⟨v3, e3⟩ : ∃ z, M 672 s = z := ⟨_, rfl⟩
      have b3 : 0 ≤ v3 ∧ v3 ≤ 16 := by rw [← e3]; exact (by have q := hI_M 672 s (by decide); rw [xri_row rfl rfl] at q; exact q)
      refine jr.pick [0, 1, 2, 3] rfl rfl ?_
      exact ih (nM - 1) (by omega) (ju M 673 ((16 * s) + i) v2) (i + 1) s v (RI.u hI_M (a := 673) (i := ((16 * s) + i)) (by rw [xri_row rfl rfl]; show (-9223372036854775808 : Int) ≤ _ ∧ _ ≤ (9223372036854775807 : Int); omega)) (RH.o hH_M (by decide) (by decide) (by decide)) (RF.o hS_M (by decide) (by decide))  (fun a i f598 f672 f673 => ((ju_c _ _ f673).trans (hF_M a i f598 f672 f673))) (fun i g135 => ((ju_c _ _ (by decide)).trans (hG_M i g135))) (by omega) (by omega) (by omega) (by rw [((ju_c _ _ (by decide)).trans e3)]; omega) (by omega)
theorem r_learn {A : Nat → Option (Nat × (Nat → Int32))} {Q : Option Value → jm → Prop} {M : jm} (hI_M : RI M) (hH_M : RH M) (hS_M : RF M) {k : Int} (h_k : (-9223372036854775808) ≤ k ∧ k ≤ 9223372036854775807) {v : Int} (h_v : (-9223372036854775808) ≤ v ∧ v ≤ 9223372036854775807) (q : ∀ (M' : jm), RI M' → RH M' → RF M' → (∀ (a : Nat) (i : Int), a ≠ 598 → a ≠ 672 → a ≠ 673 → M' a i = M a i) → (∀ (i : Int), i ≠ 135 → M' 598 i = M 598 i) → Q none M') : jc A 3 396 [.ref (598), .long (Int64.ofInt (k)), .long (Int64.ofInt (v))] M Q := by
  refine jc_of (m := xm_396) rfl (Nat.le_of_ble_eq_true rfl) rfl ?_
  refine jr.aload_n rfl rfl ?_
  refine jr.lload_n rfl rfl ?_
  refine jr.lload_n rfl rfl ?_
  refine jr_v rfl rfl (Or.inl rfl) rfl rfl (by decide) rfl ⟨rfl, Nat.le_of_ble_eq_true rfl, Nat.le_of_ble_eq_true rfl⟩ rfl (jc.deep (r_isIn hI_M hH_M hS_M  (by omega) (by omega)  (fun r1 M1 hI_M1 hH_M1 hS_M1  z1 w1_0 w1_1 w1_2 => ?_)) (by decide))
  refine jr.istore rfl (by decide) rfl ?_
  refine jr.aload_n rfl rfl ?_
  obtain ⟨v2, e2⟩ : ∃ z, M1 598 135 = z := ⟨_, rfl⟩
  have b2 : 0 ≤ v2 ∧ v2 ≤ 8 := by rw [← e2]; exact hI_M1 598 135 (by decide)
  refine jr.getf (i := 135) (x := v2) (v := .int (Int32.ofInt (v2))) rfl rfl (by decide) rfl (by decide) rfl rfl e2 rfl ?_
  refine jr.if_ne rfl rfl (by omega) (fun h12 => ?_) (fun h12 => ?_)
  · have sx12 : (1 : Int) ≤ v2 := by omega
    exact jr.vreturn rfl rfl (q _ hI_M1 hH_M1 hS_M1  (fun a i f598 f672 f673 => ((w1_1 a i f598).trans rfl)) (fun i g135 => ((w1_2 i g135).trans rfl)))
  · refine jr.iload rfl rfl ?_
    refine jr.if_eq rfl rfl (by omega) (fun h17 => ?_) (fun h17 => ?_)
    · refine jr.lload_n rfl rfl ?_
      refine jr.l2i rfl ?_
      refine jr.istore rfl (by decide) rfl ?_
      refine jr.aload_n rfl rfl ?_
      refine jr.getf (i := 115) (v := .ref 672) rfl rfl (by decide) rfl (by decide) rfl rfl rfl rfl ?_
      refine jr.iload rfl rfl ?_
      obtain ⟨v3, e3⟩ : ∃ z, M 672 k = z := ⟨_, rfl⟩
      have b3 : 0 ≤ v3 ∧ v3 ≤ 16 := by rw [← e3]; exact (by have q := hI_M 672 k (by decide); rw [xri_row rfl rfl] at q; exact q)
      have e4 : M1 672 k = v3 := ((w1_1 672 k (by decide)).trans e3)
      refine jr.iald (i := k) (x := v3) rfl (by decide) rfl (by decide) (by omega) (by omega) e4 ?_
      refine jr.bipush rfl (by decide) ?_
      refine jr.icmp_ne rfl rfl (by omega) (by omega) (fun h34 => ?_) (fun h34 => ?_)
      · have sx34 : v3 ≤ (15 : Int) := by omega
        refine jr.aload_n rfl rfl ?_
        refine jr.getf (i := 116) (v := .ref 673) rfl rfl (by decide) rfl (by decide) rfl rfl rfl rfl ?_
        refine jr.bipush rfl (by decide) ?_
        refine jr.iload rfl rfl ?_
        refine jr.imul rfl ?_
        refine jr.aload_n rfl rfl ?_
        refine jr.getf (i := 115) (v := .ref 672) rfl rfl (by decide) rfl (by decide) rfl rfl rfl rfl ?_
        refine jr.iload rfl rfl ?_
        refine jr.iald (i := k) (x := v3) rfl (by decide) rfl (by decide) (by omega) (by omega) e4 ?_
        refine jr.iadd rfl ?_
        refine jr.lload_n rfl rfl ?_
        refine jr.last (i := ((16 * k) + v3)) (x := v) rfl (by decide) rfl (by decide) (by omega) (by omega) ?_
        refine jr.aload_n rfl rfl ?_
        refine jr.getf (i := 115) (v := .ref 672) rfl rfl (by decide) rfl (by decide) rfl rfl rfl rfl ?_
        refine jr.iload rfl rfl ?_
        refine jr.dup2 rfl ⟨rfl, rfl⟩ ?_
        refine jr.iald (i := k) (x := v3) rfl (by decide) rfl (by decide) (by omega) (by omega) ((ju_c _ _ (by decide)).trans e4) ?_
        refine jr.iconst rfl ?_
        refine jr.iadd rfl ?_
        refine jr.iast (i := k) (x := (v3 + 1)) rfl (by decide) rfl (by decide) (by omega) (by omega) ?_
        exact jr.vreturn rfl rfl (q _ (RI.u (RI.u hI_M1 (a := 673) (i := ((16 * k) + v3)) (by rw [xri_row rfl rfl]; show (-9223372036854775808 : Int) ≤ _ ∧ _ ≤ (9223372036854775807 : Int); omega)) (a := 672) (i := k) (by rw [xri_row rfl rfl]; show (0 : Int) ≤ _ ∧ _ ≤ (16 : Int); omega)) (RH.o (RH.o hH_M1 (by decide) (by decide) (by decide)) (by decide) (by decide) (by decide)) (RF.o (RF.o hS_M1 (by decide) (by decide)) (by decide) (by decide))  (fun a i f598 f672 f673 => ((ju_c _ _ f672).trans ((ju_c _ _ f673).trans ((w1_1 a i f598).trans rfl)))) (fun i g135 => ((ju_c _ _ (by decide)).trans ((ju_c _ _ (by decide)).trans ((w1_2 i g135).trans rfl)))))
      · refine jr.iconst rfl ?_
        refine jr.istore rfl (by decide) rfl ?_
        refine jr.pick [0, 1, 5, 3] rfl rfl ?_
        exact r_learn_L40 q 15 M1 0 k v hI_M1 hH_M1 hS_M1  (fun a i f598 f672 f673 => ((w1_1 a i f598).trans rfl)) (fun i g135 => ((w1_2 i g135).trans rfl)) (by omega) (by omega) (by omega) (by rw [e4]; omega) (by omega)
    · have sx17 : (1 : Int) ≤ r1 := by omega
      exact jr.vreturn rfl rfl (q _ hI_M1 hH_M1 hS_M1  (fun a i f598 f672 f673 => ((w1_1 a i f598).trans rfl)) (fun i g135 => ((w1_2 i g135).trans rfl)))
