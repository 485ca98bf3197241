section
theorem r_tellWhole_L16_x {A : Nat → Option (Nat × (Nat → Int32))} {Q : Option Value → jm → Prop} {M0 : jm} {g0 : Int} {w0 : Int} (q : ∀ (M' : jm), RI M' → RH M' → RF M' → RG1 M' → (M' 614 g0 = w0 ∧ M' 613 g0 = w0) → (∀ j : Int, j ≠ g0 → M' 614 j = M0 614 j ∧ M' 613 j = M0 613 j) → (∀ j : Int, ¬ (360 * g0 + w0 ≤ j ∧ j < 360 * g0 + 360) → M' 616 j = M0 616 j) → (∀ (a : Nat) (i : Int), a ≠ 613 → a ≠ 614 → a ≠ 616 → M' a i = M0 a i) → Q none M') : ∀ (nM : Nat) (M : jm) (k : Int) (w : Int) (g : Int), RI M → RH M → RF M → (∀ (a : Nat) (i : Int), a ≠ 613 → a ≠ 614 → a ≠ 616 → M a i = M0 a i) → 0 ≤ k ∧ k ≤ 360 → 1 ≤ w ∧ w ≤ 360 → 0 ≤ g ∧ g ≤ 7 → RG1 M → (M 614 g = w ∧ M 613 g = w) → (∀ j : Int, j ≠ g → M 614 j = M0 614 j ∧ M 613 j = M0 613 j) → (∀ j : Int, ¬ (360 * g + w ≤ j ∧ j < 360 * g + 360) → M 616 j = M0 616 j) → w ≤ k → g = g0 → w = w0 → 360 - k ≤ nM → jr A 0 xm_291 16 [(3, .int (Int32.ofInt (k))), (2, .int (Int32.ofInt (w))), (1, .int (Int32.ofInt (g))), (0, .ref (598))] [] M Q := by
  intro nM
  induction nM using Nat.strongRecOn with
  | ind nM ih =>
    intro M k w g hI_M hH_M hS_M hF_M h_k h_w h_g hy0 hy1 hy2 hy3 hy4 hy5 hy6 hm
    subst hy5
    subst hy6
    have hG1 := hy0
    refine jr.iload_n rfl rfl ?_
    refine jr.sipush rfl (by decide) ?_
    refine jr.icmp_ge rfl rfl (by omega) (by omega) (fun h20 => ?_) (fun h20 => ?_)
    · exact jr.vreturn rfl rfl (q _ hI_M hH_M hS_M  hG1 hy1 hy2 hy3 (fun a i f613 f614 f616 => (hF_M a i f613 f614 f616)))
    · refine jr.aload_n rfl rfl ?_
      refine jr.getf (i := 27) (v := .ref 616) rfl rfl (by decide) rfl (by decide) rfl rfl rfl rfl ?_
      refine jr.sipush rfl (by decide) ?_
      refine jr.iload_n rfl rfl ?_
      refine jr.imul rfl ?_
      refine jr.iload_n rfl rfl ?_
      refine jr.iadd rfl ?_
      refine jr.iconst rfl ?_
      refine jr.zast (i := ((360 * g) + k)) (x := 0) rfl (by decide) rfl (by decide) (by omega) (by omega) (j_zn (by omega)) ?_
      refine jr.iinc (ls' := [_, _, _, _]) rfl rfl (by decide) rfl ?_
      refine jr.goto rfl rfl ?_
      refine jr.pick (ls := [_, _, _, _]) [0, 1, 2, 3] rfl rfl ?_
      exact ih (nM - 1) (by omega) (ju M 616 ((360 * g) + k) 0) (k + 1) w g (RI.u hI_M (a := 616) (i := ((360 * g) + k)) (by rw [xri_row rfl rfl]; show (0 : Int) ≤ _ ∧ _ ≤ (1 : Int); omega)) (RH.o hH_M (by decide) (by decide) (by decide)) (RF.o hS_M (by decide) (by decide))  (fun a i f613 f614 f616 => ((ju_c _ _ f616).trans (hF_M a i f613 f614 f616))) (by omega) (by omega) (by omega) (RG1.o hG1 rfl) (by rw [ju_c _ _ (by decide), ju_c _ _ (by decide)]; exact hy1) (fun j hj => by rw [ju_c _ _ (by decide), ju_c _ _ (by decide)]; exact hy2 j hj) (fun j hj => by rw [ju_i _ _ (by omega)]; exact hy3 j hj) (by omega) (by omega) (by omega) (by omega)
theorem r_tellWhole_x {A : Nat → Option (Nat × (Nat → Int32))} {Q : Option Value → jm → Prop} {M : jm} (hI_M : RI M) (hH_M : RH M) (hS_M : RF M) {g : Int} (h_g : 0 ≤ g ∧ g ≤ 7) {w : Int} (h_w : 1 ≤ w ∧ w ≤ 360) (p0 : RG1 M) (q : ∀ (M' : jm), RI M' → RH M' → RF M' → RG1 M' → (M' 614 g = w ∧ M' 613 g = w) → (∀ j : Int, j ≠ g → M' 614 j = M 614 j ∧ M' 613 j = M 613 j) → (∀ j : Int, ¬ (360 * g + w ≤ j ∧ j < 360 * g + 360) → M' 616 j = M 616 j) → (∀ (a : Nat) (i : Int), a ≠ 613 → a ≠ 614 → a ≠ 616 → M' a i = M a i) → Q none M') : jc A 1 291 [.ref (598), .int (Int32.ofInt (g)), .int (Int32.ofInt (w))] M Q := by
  have hG1 := p0
  refine jc_of (m := xm_291) rfl (Nat.le_of_ble_eq_true rfl) rfl ?_
  refine jr.aload_n rfl rfl ?_
  refine jr.getf (i := 25) (v := .ref 614) rfl rfl (by decide) rfl (by decide) rfl rfl rfl rfl ?_
  refine jr.iload_n rfl rfl ?_
  refine jr.iload_n rfl rfl ?_
  refine jr.iast (i := g) (x := w) rfl (by decide) rfl (by decide) (by omega) (by omega) ?_
  refine jr.aload_n rfl rfl ?_
  refine jr.getf (i := 24) (v := .ref 613) rfl rfl (by decide) rfl (by decide) rfl rfl rfl rfl ?_
  refine jr.iload_n rfl rfl ?_
  refine jr.iload_n rfl rfl ?_
  refine jr.iast (i := g) (x := w) rfl (by decide) rfl (by decide) (by omega) (by omega) ?_
  refine jr.iload_n rfl rfl ?_
  refine jr.istore_n (ls' := [_, _, _, _]) rfl (by decide) rfl ?_
  refine jr.pick (ls := [_, _, _, _]) [0, 3, 2, 1] rfl rfl ?_
  exact r_tellWhole_L16_x q 360 (ju (ju M 614 g w) 613 g w) w w g (RI.u (RI.u hI_M (a := 614) (i := g) (by rw [xri_row rfl rfl]; show (-1 : Int) ≤ _ ∧ _ ≤ (360 : Int); omega)) (a := 613) (i := g) (by rw [xri_row rfl rfl]; show (0 : Int) ≤ _ ∧ _ ≤ (720 : Int); omega)) (RH.o (RH.o hH_M (by decide) (by decide) (by decide)) (by decide) (by decide) (by decide)) (RF.o (RF.o hS_M (by decide) (by decide)) (by decide) (by decide))  (fun a i f613 f614 f616 => ((ju_c _ _ f613).trans ((ju_c _ _ f614).trans rfl))) (by omega) (by omega) (by omega) (RG1.s613 (RG1.o hG1 rfl) (by omega) (by omega)) ⟨by rw [ju_c _ _ (by decide), ju_same], by rw [ju_same]⟩ (fun j hj => ⟨by rw [ju_c _ _ (by decide), ju_i _ _ hj], by rw [ju_i _ _ hj, ju_c _ _ (by decide)]⟩) (fun j _ => by rw [ju_c _ _ (by decide), ju_c _ _ (by decide)]) (by omega) (by omega) (by omega) (by omega)
theorem r_beginGathering_L83_x {A : Nat → Option (Nat × (Nat → Int32))} {Q : Option Value → jm → Prop} {M0 : jm} {g0 : Int} {k0 : Int} {a0 : Int} {b0 : Int} {c0 : Int} {o0 : Int} (q : ∀ (M' : jm), RI M' → RH M' → RF M' → RG1 M' → M' 606 g0 = 1 → M' 607 g0 = k0 → M' 614 g0 = -1 → M' 617 g0 = -1 → M' 613 g0 = 64 → M' 608 g0 = a0 → M' 609 g0 = b0 → M' 610 g0 = c0 → M' 611 g0 = o0 → M' 612 g0 = M0 598 2 + 30 → (∀ (b0 : Nat) (j : Int), b0 ≠ 616 → j ≠ g0 → M' b0 j = M0 b0 j) → (∀ j : Int, (j < 360 * g0 ∨ 360 * g0 + 360 ≤ j) → M' 616 j = M0 616 j) → (∀ k0 : Int, 0 ≤ k0 → k0 < 360 → M' 616 (360 * g0 + k0) = 0) → (∀ (a0 : Nat) (i : Int), a0 ≠ 606 → a0 ≠ 607 → a0 ≠ 608 → a0 ≠ 609 → a0 ≠ 610 → a0 ≠ 611 → a0 ≠ 612 → a0 ≠ 613 → a0 ≠ 614 → a0 ≠ 616 → a0 ≠ 617 → M' a0 i = M0 a0 i) → Q none M') : ∀ (nM : Nat) (M : jm) (j : Int) (o : Int) (c : Int) (b : Int) (a : Int) (k : Int) (g : Int), RI M → RH M → RF M → (∀ (a : Nat) (i : Int), a ≠ 606 → a ≠ 607 → a ≠ 608 → a ≠ 609 → a ≠ 610 → a ≠ 611 → a ≠ 612 → a ≠ 613 → a ≠ 614 → a ≠ 616 → a ≠ 617 → M a i = M0 a i) → 0 ≤ j ∧ j ≤ 360 → 0 ≤ o ∧ o ≤ 255 → (-9223372036854775808) ≤ c ∧ c ≤ 9223372036854775807 → (-9223372036854775808) ≤ b ∧ b ≤ 9223372036854775807 → (-9223372036854775808) ≤ a ∧ a ≤ 9223372036854775807 → 0 ≤ k ∧ k ≤ 11 → 0 ≤ g ∧ g ≤ 7 → RG1 M → M 606 g = 1 → M 607 g = k → M 614 g = -1 → M 617 g = -1 → M 613 g = 64 → M 608 g = a → M 609 g = b → M 610 g = c → M 611 g = o → M 612 g = M0 598 2 + 30 → (∀ (b0 : Nat) (i : Int), b0 ≠ 616 → i ≠ g → M b0 i = M0 b0 i) → (∀ i : Int, (i < 360 * g ∨ 360 * g + 360 ≤ i) → M 616 i = M0 616 i) → (∀ i : Int, 0 ≤ i → i < j → M 616 (360 * g + i) = 0) → g = g0 → k = k0 → a = a0 → b = b0 → c = c0 → o = o0 → 360 - j ≤ nM → jr A 0 xm_293 83 [(10, .int (Int32.ofInt (j))), (9, .int (Int32.ofInt (o))), (7, .long (Int64.ofInt (c))), (5, .long (Int64.ofInt (b))), (3, .long (Int64.ofInt (a))), (2, .int (Int32.ofInt (k))), (1, .int (Int32.ofInt (g))), (0, .ref (598))] [] M Q := by
  intro nM
  induction nM using Nat.strongRecOn with
  | ind nM ih =>
    intro M j o c b a k g hI_M hH_M hS_M hF_M h_j h_o h_c h_b h_a h_k h_g hy0 hy1 hy2 hy3 hy4 hy5 hy6 hy7 hy8 hy9 hy10 hy11 hy12 hy13 hy14 hy15 hy16 hy17 hy18 hy19 hm
    subst hy14
    subst hy15
    subst hy16
    subst hy17
    subst hy18
    subst hy19
    have hG1 := hy0
    refine jr.iload rfl rfl ?_
    refine jr.sipush rfl (by decide) ?_
    refine jr.icmp_ge rfl rfl (by omega) (by omega) (fun h88 => ?_) (fun h88 => ?_)
    · exact jr.vreturn rfl rfl (q _ hI_M hH_M hS_M  hG1 hy1 hy2 hy3 hy4 hy5 hy6 hy7 hy8 hy9 hy10 hy11 hy12 (fun k k0 k1 => hy13 k k0 (by omega)) (fun a i f606 f607 f608 f609 f610 f611 f612 f613 f614 f616 f617 => (hF_M a i f606 f607 f608 f609 f610 f611 f612 f613 f614 f616 f617)))
    · refine jr.aload_n rfl rfl ?_
      refine jr.getf (i := 27) (v := .ref 616) rfl rfl (by decide) rfl (by decide) rfl rfl rfl rfl ?_
      refine jr.sipush rfl (by decide) ?_
      refine jr.iload_n rfl rfl ?_
      refine jr.imul rfl ?_
      refine jr.iload rfl rfl ?_
      refine jr.iadd rfl ?_
      refine jr.iconst rfl ?_
      refine jr.zast (i := ((360 * g) + j)) (x := 0) rfl (by decide) rfl (by decide) (by omega) (by omega) (j_zn (by omega)) ?_
      refine jr.iinc (ls' := [_, _, _, _, _, _, _, _]) rfl rfl (by decide) rfl ?_
      refine jr.goto rfl rfl ?_
      obtain ⟨v1, e1⟩ : ∃ z, M 606 g = z := ⟨_, rfl⟩
      have b1 : 0 ≤ v1 ∧ v1 ≤ 1 := by rw [← e1]; exact (by have q := hI_M 606 g (by decide); rw [xri_row rfl rfl] at q; exact q)
      obtain ⟨v2, e2⟩ : ∃ z, M 607 g = z := ⟨_, rfl⟩
      have b2 : 0 ≤ v2 ∧ v2 ≤ 11 := by rw [← e2]; exact (by have q := hI_M 607 g (by decide); rw [xri_row rfl rfl] at q; exact q)
      obtain ⟨v3, e3⟩ : ∃ z, M 614 g = z := ⟨_, rfl⟩
      have b3 : (-1) ≤ v3 ∧ v3 ≤ 360 := by rw [← e3]; exact (by have q := hI_M 614 g (by decide); rw [xri_row rfl rfl] at q; exact q)
      obtain ⟨v4, e4⟩ : ∃ z, M 617 g = z := ⟨_, rfl⟩
      have b4 : (-1) ≤ v4 ∧ v4 ≤ 400 := by rw [← e4]; exact (by have q := hI_M 617 g (by decide); rw [xri_row rfl rfl] at q; exact q)
      obtain ⟨v5, e5⟩ : ∃ z, M 613 g = z := ⟨_, rfl⟩
      have b5 : 0 ≤ v5 ∧ v5 ≤ 720 := by rw [← e5]; exact (by have q := hI_M 613 g (by decide); rw [xri_row rfl rfl] at q; exact q)
      obtain ⟨v6, e6⟩ : ∃ z, M 608 g = z := ⟨_, rfl⟩
      have b6 : (-9223372036854775808) ≤ v6 ∧ v6 ≤ 9223372036854775807 := by rw [← e6]; exact (by have q := hI_M 608 g (by decide); rw [xri_row rfl rfl] at q; exact q)
      obtain ⟨v7, e7⟩ : ∃ z, M 609 g = z := ⟨_, rfl⟩
      have b7 : (-9223372036854775808) ≤ v7 ∧ v7 ≤ 9223372036854775807 := by rw [← e7]; exact (by have q := hI_M 609 g (by decide); rw [xri_row rfl rfl] at q; exact q)
      obtain ⟨v8, e8⟩ : ∃ z, M 610 g = z := ⟨_, rfl⟩
      have b8 : (-9223372036854775808) ≤ v8 ∧ v8 ≤ 9223372036854775807 := by rw [← e8]; exact (by have q := hI_M 610 g (by decide); rw [xri_row rfl rfl] at q; exact q)
      obtain ⟨v9, e9⟩ : ∃ z, M 611 g = z := ⟨_, rfl⟩
      have b9 : 0 ≤ v9 ∧ v9 ≤ 255 := by rw [← e9]; exact (by have q := hI_M 611 g (by decide); rw [xri_row rfl rfl] at q; exact q)
      refine jr.pick (ls := [_, _, _, _, _, _, _, _]) [0, 1, 2, 3, 4, 5, 6, 7] rfl rfl ?_
      exact ih (nM - 1) (by omega) (ju M 616 ((360 * g) + j) 0) (j + 1) o c b a k g (RI.u hI_M (a := 616) (i := ((360 * g) + j)) (by rw [xri_row rfl rfl]; show (0 : Int) ≤ _ ∧ _ ≤ (1 : Int); omega)) (RH.o hH_M (by decide) (by decide) (by decide)) (RF.o hS_M (by decide) (by decide))  (fun a i f606 f607 f608 f609 f610 f611 f612 f613 f614 f616 f617 => ((ju_c _ _ f616).trans (hF_M a i f606 f607 f608 f609 f610 f611 f612 f613 f614 f616 f617))) (by omega) (by omega) (by omega) (by omega) (by omega) (by omega) (by omega) (RG1.o hG1 rfl) ((((ju_c _ _ (by decide)).trans e1)).trans (by omega)) ((((ju_c _ _ (by decide)).trans e2)).trans (by omega)) ((((ju_c _ _ (by decide)).trans e3)).trans (by omega)) ((((ju_c _ _ (by decide)).trans e4)).trans (by omega)) ((((ju_c _ _ (by decide)).trans e5)).trans (by omega)) ((((ju_c _ _ (by decide)).trans e6)).trans (by omega)) ((((ju_c _ _ (by decide)).trans e7)).trans (by omega)) ((((ju_c _ _ (by decide)).trans e8)).trans (by omega)) ((((ju_c _ _ (by decide)).trans e9)).trans (by omega)) (by rw [ju_c _ _ (by decide)]; exact hy10) (fun b0 i hb hj => by rw [ju_c _ _ hb]; exact hy11 b0 i hb hj) (fun i hi => by rw [ju_i _ _ (by omega)]; exact hy12 i hi) (fun i i0 i1 => by by_cases e : i = j; (rw [e, ju_same]); (rw [ju_i _ _ (by omega)]; exact hy13 i i0 (by omega))) (by omega) (by omega) (by omega) (by omega) (by omega) (by omega) (by omega)
end
