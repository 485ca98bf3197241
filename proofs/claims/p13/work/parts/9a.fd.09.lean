section
theorem r_flowByEnds_L2_x {A : Nat → Option (Nat × (Nat → Int32))} {Q : Option Value → jm → Prop} {M0 : jm} (q : ∀ (r : Int) (M' : jm), RI M' → RH M' → RF M' → (-1) ≤ r ∧ r ≤ 23 → (r = -1 ∨ (M' 629 r = M' 598 60 ∧ 0 ≤ M' 598 66)) → (r = fe6 M0 24 0 ∧ (r = -1 ∨ M' 598 66 = sd6 M0 r)) → (∀ (a : Nat) (i : Int), a ≠ 598 → M' a i = M0 a i) → (∀ (i : Int), i ≠ 66 → M' 598 i = M0 598 i) → Q (some (.int (Int32.ofInt r))) M') : ∀ (nM : Nat) (M : jm) (f : Int), RI M → RH M → RF M → (∀ (a : Nat) (i : Int), a ≠ 598 → M a i = M0 a i) → (∀ (i : Int), i ≠ 66 → M 598 i = M0 598 i) → 0 ≤ f ∧ f ≤ 24 → fe6 M0 24 0 = fe6 M0 (24 - f).toNat f → 24 - f ≤ nM → jr A 1 xm_304 2 [(1, .int (Int32.ofInt (f))), (0, .ref (598))] [] M Q := by
  intro nM
  induction nM using Nat.strongRecOn with
  | ind nM ih =>
    intro M f hI_M hH_M hS_M hF_M hG_M h_f hy0 hm
    have hE := fun j => sd6_e hF_M hG_M j
    refine jr.iload_n rfl rfl ?_
    refine jr.bipush rfl (by decide) ?_
    refine jr.icmp_ge rfl rfl (by omega) (by omega) (fun h5 => ?_) (fun h5 => ?_)
    · refine jr.iconst rfl ?_
      exact jr.ireturn rfl rfl rfl (q _ _ hI_M hH_M hS_M  (by omega) (Or.inl rfl) ⟨(by rw [hy0, show (24 - f).toNat = 0 from by omega]; rfl), (by first | (left; omega) | exact Or.inl rfl)⟩ (fun a i f598 => (hF_M a i f598)) (fun i g66 => (hG_M i g66)))
    · refine jr.aload_n rfl rfl ?_
      refine jr.aload_n rfl rfl ?_
      refine jr.iload_n rfl rfl ?_
      refine jr_v rfl rfl (Or.inl rfl) rfl rfl (by decide) rfl ⟨rfl, Nat.le_of_ble_eq_true rfl, Nat.le_of_ble_eq_true rfl⟩ rfl (jc.deep (r_sideOf_x hI_M hH_M hS_M  (by omega)  (fun r1 z1 w1_0 w1_1 => ?_)) (by decide))
      refine jr.putf (i := 66) (x := r1) rfl rfl (by decide) rfl (by decide) rfl rfl rfl rfl rfl ?_
      refine jr.aload_n rfl rfl ?_
      refine jr.getf (i := 66) (x := r1) (v := .int (Int32.ofInt (r1))) rfl rfl (by decide) rfl (by decide) rfl rfl (ju_same _ _ _ _) rfl ?_
      refine jr.iconst rfl ?_
      refine jr.icmp_eq rfl rfl (by omega) (by omega) (fun h22 => ?_) (fun h22 => ?_)
      · refine jr.iinc (ls' := [_, _]) rfl rfl (by decide) rfl ?_
        refine jr.goto rfl rfl ?_
        refine jr.pick (ls := [_, _]) [0, 1] rfl rfl ?_
        exact ih (nM - 1) (by omega) (ju M 598 66 r1) (f + 1) (RI.u hI_M (a := 598) (i := 66) (show (-1 : Int) ≤ _ ∧ _ ≤ (1 : Int) from by omega)) (RH.o hH_M (by decide) (by decide) (by decide)) (RF.o hS_M (by decide) (by decide))  (fun a i f598 => ((ju_c _ _ f598).trans (hF_M a i f598))) (fun i g66 => ((ju_i _ _ g66).trans (hG_M i g66))) (by omega) (by rw [hy0, fe6_s (by omega), if_neg (by rw [← hE f, ← w1_1]; omega)]) (by omega)
      · have sx22 : (0 : Int) ≤ r1 := by omega
        clear h22
        refine jr.iload_n rfl rfl ?_
        obtain ⟨v2, e2⟩ : ∃ z, M 629 f = z := ⟨_, rfl⟩
        have b2 : 0 ≤ v2 ∧ v2 ≤ 255 := by rw [← e2]; exact (by have q := hI_M 629 f (by decide); rw [xri_row rfl rfl] at q; exact q)
        obtain ⟨v3, e3⟩ : ∃ z, M 598 60 = z := ⟨_, rfl⟩
        have b3 : 0 ≤ v3 ∧ v3 ≤ 255 := by rw [← e3]; exact hI_M 598 60 (by decide)
        exact jr.ireturn rfl rfl rfl (q _ _ (RI.u hI_M (a := 598) (i := 66) (show (-1 : Int) ≤ _ ∧ _ ≤ (1 : Int) from by omega)) (RH.o hH_M (by decide) (by decide) (by decide)) (RF.o hS_M (by decide) (by decide))  (by omega) (Or.inr ⟨by rw [((ju_c _ _ (by decide)).trans e2), ((ju_i _ _ (by decide)).trans e3)]; omega, by rw [(ju_same _ _ _ _)]; omega⟩) ⟨(by rw [hy0, fe6_s (by omega), if_pos (by rw [← hE f, ← w1_1]; omega)]), Or.inr (by rw [← hE f, ← w1_1]; exact (ju_same _ _ _ _))⟩ (fun a i f598 => ((ju_c _ _ f598).trans (hF_M a i f598))) (fun i g66 => ((ju_i _ _ g66).trans (hG_M i g66))))
theorem r_flowByEnds_x {A : Nat → Option (Nat × (Nat → Int32))} {Q : Option Value → jm → Prop} {M : jm} (hI_M : RI M) (hH_M : RH M) (hS_M : RF M) (q : ∀ (r : Int) (M' : jm), RI M' → RH M' → RF M' → (-1) ≤ r ∧ r ≤ 23 → (r = -1 ∨ (M' 629 r = M' 598 60 ∧ 0 ≤ M' 598 66)) → (r = fe6 M 24 0 ∧ (r = -1 ∨ M' 598 66 = sd6 M r)) → (∀ (a : Nat) (i : Int), a ≠ 598 → M' a i = M a i) → (∀ (i : Int), i ≠ 66 → M' 598 i = M 598 i) → Q (some (.int (Int32.ofInt r))) M') : jc A 2 304 [.ref (598)] M Q := by
  refine jc_of (m := xm_304) rfl (Nat.le_of_ble_eq_true rfl) rfl ?_
  refine jr.iconst rfl ?_
  refine jr.istore_n (ls' := [_, _]) rfl (by decide) rfl ?_
  refine jr.pick (ls := [_, _]) [0, 1] rfl rfl ?_
  exact r_flowByEnds_L2_x q 24 M 0 hI_M hH_M hS_M  (fun a i f598 => rfl) (fun i g66 => rfl) (by omega) rfl (by omega)
end

