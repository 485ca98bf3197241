section
theorem r_freeGathering_L5_x {A : Nat → Option (Nat × (Nat → Int32))} {Q : Option Value → jm → Prop} {M : jm} (hI_M : RI M) (hH_M : RH M) (hS_M : RF M) (q : ∀ (r : Int), (-1) ≤ r ∧ r ≤ 7 → r = gE M 8 0 → Q (some (.int (Int32.ofInt r))) M) : ∀ (nM : Nat) (g : Int) (f : Int), (-1) ≤ g ∧ g ≤ 7 → (-1) ≤ f ∧ f ≤ 7 → f = gE M (8 - (g + 1)).toNat (g + 1) → g + 1 ≤ nM → jr A 0 xm_289 5 [(2, .int (Int32.ofInt (g))), (1, .int (Int32.ofInt (f))), (0, .ref (598))] [] M Q := by
  intro nM
  induction nM using Nat.strongRecOn with
  | ind nM ih =>
    intro g f h_g h_f hy0 hm
    refine jr.iload_n rfl rfl ?_
    refine jr.if_lt rfl rfl (by omega) (fun h6 => ?_) (fun h6 => ?_)
    · refine jr.iload_n rfl rfl ?_
      exact jr.ireturn rfl rfl rfl (q _ (by omega) (by have h9 := hy0; rw [show (8 - (g + 1)).toNat = 8 from by omega, show g + 1 = 0 from by omega] at h9; exact h9))
    · refine jr.aload_n rfl rfl ?_
      refine jr.getf (i := 17) (v := .ref 606) rfl rfl (by decide) rfl (by decide) rfl rfl rfl rfl ?_
      refine jr.iload_n rfl rfl ?_
      obtain ⟨v1, e1⟩ : ∃ z, M 606 g = z := ⟨_, rfl⟩
      have b1 : 0 ≤ v1 ∧ v1 ≤ 1 := by rw [← e1]; exact (by have q := hI_M 606 g (by decide); rw [xri_row rfl rfl] at q; exact q)
      refine jr.zald (i := g) (x := v1) rfl (by decide) rfl (by decide) (by omega) (by omega) e1 ?_
      refine jr.if_eq rfl rfl (by omega) (fun h15 => ?_) (fun h15 => ?_)
      · refine jr.iload_n rfl rfl ?_
        refine jr.istore_n (ls' := [_, _, _]) rfl (by decide) rfl ?_
        refine jr.iinc (ls' := [_, _, _]) rfl rfl (by decide) rfl ?_
        refine jr.goto rfl rfl ?_
        refine jr.pick (ls := [_, _, _]) [0, 1, 2] rfl rfl ?_
        exact ih (nM - 1) (by omega) (g + (-1)) g (by omega) (by omega) (by rw [show g + -1 + 1 = g from by omega, gE_s (by omega)]; first | (rw [if_pos (by omega)]; done) | (rw [if_neg (by omega)]; exact hy0)) (by omega)
      · have sx15 : (1 : Int) ≤ v1 := by omega
        clear h15
        refine jr.iload_n rfl rfl ?_
        refine jr.goto rfl rfl ?_
        refine jr.istore_n (ls' := [_, _, _]) rfl (by decide) rfl ?_
        refine jr.iinc (ls' := [_, _, _]) rfl rfl (by decide) rfl ?_
        refine jr.goto rfl rfl ?_
        refine jr.pick (ls := [_, _, _]) [0, 1, 2] rfl rfl ?_
        exact ih (nM - 1) (by omega) (g + (-1)) f (by omega) (by omega) (by rw [show g + -1 + 1 = g from by omega, gE_s (by omega)]; first | (rw [if_pos (by omega)]; done) | (rw [if_neg (by omega)]; exact hy0)) (by omega)
theorem r_freeGathering_x {A : Nat → Option (Nat × (Nat → Int32))} {Q : Option Value → jm → Prop} {M : jm} (hI_M : RI M) (hH_M : RH M) (hS_M : RF M) (q : ∀ (r : Int), (-1) ≤ r ∧ r ≤ 7 → r = gE M 8 0 → Q (some (.int (Int32.ofInt r))) M) : jc A 1 289 [.ref (598)] M Q := by
  refine jc_of (m := xm_289) rfl (Nat.le_of_ble_eq_true rfl) rfl ?_
  refine jr.iconst rfl ?_
  refine jr.istore_n (ls' := [_, _]) rfl (by decide) rfl ?_
  refine jr.bipush rfl (by decide) ?_
  refine jr.istore_n (ls' := [_, _, _]) rfl (by decide) rfl ?_
  refine jr.pick (ls := [_, _, _]) [0, 1, 2] rfl rfl ?_
  exact r_freeGathering_L5_x hI_M hH_M hS_M q 8 7 (-1) (by omega) (by omega) rfl (by omega)
end
section
/-! ===== the reference: gatherings grow, begin, take data, keep headers ===== -/
noncomputable def szf (c : Int) : Int := if c ≤ 64 then 64 else if c ≤ 128 then 128 else if c ≤ 256 then 256 else 360
noncomputable def s4 (s : Int) : Prop := s = 64 ∨ s = 128 ∨ s = 256 ∨ s = 360
theorem szf_g {s w t : Int} (h : s = 64 ∨ s = 128 ∨ s = 256 ∨ s = 360) (ht : t ≤ s ∧ (s = t ∨ s ≤ szf w)) (he : w ≤ s ∨ 360 ≤ s) : s = if szf w ≤ t then t else szf w := by
  unfold szf at ht ⊢
  (repeat' split at ht) <;> (repeat' split) <;> omega
theorem szf_s {s w t : Int} (h : s = 64 ∨ s = 128 ∨ s = 256 ∨ s = 360) (ht : t ≤ s) (h1 : s < w) (h2 : s < 360) : (s = 256 → 360 ≤ szf w) ∧ (s ≠ 256 → 2 * s ≤ szf w) := by
  unfold szf
  (repeat' split) <;> omega
theorem r_growRow_L0_x {A : Nat → Option (Nat × (Nat → Int32))} {Q : Option Value → jm → Prop} {M0 : jm} {g0 : Int} {w0 : Int} (q : ∀ (M' : jm), RI M' → RH M' → RF M' → RG1 M' → M' 613 g0 = (if szf w0 ≤ M0 613 g0 then M0 613 g0 else szf w0) → (∀ j : Int, j ≠ g0 → M' 613 j = M0 613 j) → (∀ (a : Nat) (i : Int), a ≠ 613 → M' a i = M0 a i) → Q none M') : ∀ (nM : Nat) (M : jm) (w : Int) (g : Int), RI M → RH M → RF M → (∀ (a : Nat) (i : Int), a ≠ 613 → M a i = M0 a i) → (-2147483648) ≤ w ∧ w ≤ 2147483647 → 0 ≤ g ∧ g ≤ 7 → 1 ≤ M 613 g ∧ M 613 g ≤ 720 → RG1 M → (M 613 g = 64 ∨ M 613 g = 128 ∨ M 613 g = 256 ∨ M 613 g = 360) → (M0 613 g ≤ M 613 g ∧ (M 613 g = M0 613 g ∨ M 613 g ≤ szf w)) → (∀ j : Int, j ≠ g → M 613 j = M0 613 j) → g = g0 → w = w0 → 720 - M 613 g ≤ nM → jr A 0 xm_290 0 [(2, .int (Int32.ofInt (w))), (1, .int (Int32.ofInt (g))), (0, .ref (598))] [] M Q := by
  intro nM
  induction nM using Nat.strongRecOn with
  | ind nM ih =>
    intro M w g hI_M hH_M hS_M hF_M h_w h_g hy0 hy1 hy2 hy3 hy4 hy5 hy6 hm
    subst hy5
    subst hy6
    have hG1 := hy1
    refine jr.aload_n rfl rfl ?_
    refine jr.getf (i := 24) (v := .ref 613) rfl rfl (by decide) rfl (by decide) rfl rfl rfl rfl ?_
    refine jr.iload_n rfl rfl ?_
    obtain ⟨v1, e1⟩ : ∃ z, M 613 g = z := ⟨_, rfl⟩
    have b1 : 0 ≤ v1 ∧ v1 ≤ 720 := by rw [← e1]; exact (by have q := hI_M 613 g (by decide); rw [xri_row rfl rfl] at q; exact q)
    refine jr.iald (i := g) (x := v1) rfl (by decide) rfl (by decide) (by omega) (by omega) e1 ?_
    refine jr.iload_n rfl rfl ?_
    refine jr.icmp_ge rfl rfl (by omega) (by omega) (fun h7 => ?_) (fun h7 => ?_)
    · exact jr.vreturn rfl rfl (q _ hI_M hH_M hS_M  hG1 (szf_g hy2 hy3 (by omega)) hy4 (fun a i f613 => (hF_M a i f613)))
    · refine jr.aload_n rfl rfl ?_
      refine jr.getf (i := 24) (v := .ref 613) rfl rfl (by decide) rfl (by decide) rfl rfl rfl rfl ?_
      refine jr.iload_n rfl rfl ?_
      refine jr.iald (i := g) (x := v1) rfl (by decide) rfl (by decide) (by omega) (by omega) e1 ?_
      refine jr.sipush rfl (by decide) ?_
      refine jr.icmp_ge rfl rfl (by omega) (by omega) (fun h19 => ?_) (fun h19 => ?_)
      · exact jr.vreturn rfl rfl (q _ hI_M hH_M hS_M  hG1 (szf_g hy2 hy3 (by omega)) hy4 (fun a i f613 => (hF_M a i f613)))
      · refine jr.aload_n rfl rfl ?_
        refine jr.getf (i := 24) (v := .ref 613) rfl rfl (by decide) rfl (by decide) rfl rfl rfl rfl ?_
        refine jr.iload_n rfl rfl ?_
        refine jr.aload_n rfl rfl ?_
        refine jr.getf (i := 24) (v := .ref 613) rfl rfl (by decide) rfl (by decide) rfl rfl rfl rfl ?_
        refine jr.iload_n rfl rfl ?_
        refine jr.iald (i := g) (x := v1) rfl (by decide) rfl (by decide) (by omega) (by omega) e1 ?_
        refine jr.sipush rfl (by decide) ?_
        refine jr.icmp_ne rfl rfl (by omega) (by omega) (fun h36 => ?_) (fun h36 => ?_)
        · refine jr.iconst rfl ?_
          refine jr.aload_n rfl rfl ?_
          refine jr.getf (i := 24) (v := .ref 613) rfl rfl (by decide) rfl (by decide) rfl rfl rfl rfl ?_
          refine jr.iload_n rfl rfl ?_
          refine jr.iald (i := g) (x := v1) rfl (by decide) rfl (by decide) (by omega) (by omega) e1 ?_
          refine jr.imul rfl ?_
          refine jr.iast (i := g) (x := (2 * v1)) rfl (by decide) rfl (by decide) (by omega) (by omega) ?_
          refine jr.goto rfl rfl ?_
          refine jr.pick (ls := [_, _, _]) [0, 1, 2] rfl rfl ?_
          exact ih (nM - 1) (by omega) (ju M 613 g (2 * v1)) w g (RI.u hI_M (a := 613) (i := g) (by rw [xri_row rfl rfl]; show (0 : Int) ≤ _ ∧ _ ≤ (720 : Int); omega)) (RH.o hH_M (by decide) (by decide) (by decide)) (RF.o hS_M (by decide) (by decide))  (fun a i f613 => ((ju_c _ _ f613).trans (hF_M a i f613))) (by omega) (by omega) (by rw [(ju_same _ _ _ _)]; omega) (RG1.s613 hG1 (by omega) (by omega)) (by rw [ju_same]; have h9 := hy2; omega) (by rw [ju_same]; have h9 := szf_s (w := w) hy2 hy3.1 (by omega) (by omega); omega) (fun j hj => by rw [ju_i _ _ hj]; exact hy4 j hj) (by omega) (by omega) (by rw [(ju_same _ _ _ _)]; omega)
        · refine jr.sipush rfl (by decide) ?_
          refine jr.goto rfl rfl ?_
          refine jr.iast (i := g) (x := 360) rfl (by decide) rfl (by decide) (by omega) (by omega) ?_
          refine jr.goto rfl rfl ?_
          refine jr.pick (ls := [_, _, _]) [0, 1, 2] rfl rfl ?_
          exact ih (nM - 1) (by omega) (ju M 613 g 360) w g (RI.u hI_M (a := 613) (i := g) (by rw [xri_row rfl rfl]; show (0 : Int) ≤ _ ∧ _ ≤ (720 : Int); omega)) (RH.o hH_M (by decide) (by decide) (by decide)) (RF.o hS_M (by decide) (by decide))  (fun a i f613 => ((ju_c _ _ f613).trans (hF_M a i f613))) (by omega) (by omega) (by rw [(ju_same _ _ _ _)]; omega) (RG1.s613 hG1 (by omega) (by omega)) (by rw [ju_same]; have h9 := hy2; omega) (by rw [ju_same]; have h9 := szf_s (w := w) hy2 hy3.1 (by omega) (by omega); omega) (fun j hj => by rw [ju_i _ _ hj]; exact hy4 j hj) (by omega) (by omega) (by rw [(ju_same _ _ _ _)]; omega)
theorem r_growRow_x {A : Nat → Option (Nat × (Nat → Int32))} {Q : Option Value → jm → Prop} {M : jm} (hI_M : RI M) (hH_M : RH M) (hS_M : RF M) {g : Int} (h_g : 0 ≤ g ∧ g ≤ 7) {w : Int} (h_w : (-2147483648) ≤ w ∧ w ≤ 2147483647) (p0 : (M 613 g = 64 ∨ M 613 g = 128 ∨ M 613 g = 256 ∨ M 613 g = 360)) (p1 : RG1 M) (q : ∀ (M' : jm), RI M' → RH M' → RF M' → RG1 M' → M' 613 g = (if szf w ≤ M 613 g then M 613 g else szf w) → (∀ j : Int, j ≠ g → M' 613 j = M 613 j) → (∀ (a : Nat) (i : Int), a ≠ 613 → M' a i = M a i) → Q none M') : jc A 1 290 [.ref (598), .int (Int32.ofInt (g)), .int (Int32.ofInt (w))] M Q := by
  have hG1 := p1
  refine jc_of (m := xm_290) rfl (Nat.le_of_ble_eq_true rfl) rfl ?_
  obtain ⟨v1, e1⟩ : ∃ z, M 613 g = z := ⟨_, rfl⟩
  have b1 : 0 ≤ v1 ∧ v1 ≤ 720 := by rw [← e1]; exact (by have q := hI_M 613 g (by decide); rw [xri_row rfl rfl] at q; exact q)
  refine jr.pick (ls := [_, _, _]) [2, 1, 0] rfl rfl ?_
  exact r_growRow_L0_x q 720 M w g hI_M hH_M hS_M  (fun a i f613 => rfl) (by omega) (by omega) (by omega) hG1 p0 (by omega) (fun _ _ => rfl) (by omega) (by omega) (by omega)
end
