section
theorem r_beginGathering_x {A : Nat → Option (Nat × (Nat → Int32))} {Q : Option Value → jm → Prop} {M : jm} (hI_M : RI M) (hH_M : RH M) (hS_M : RF M) {g : Int} (h_g : 0 ≤ g ∧ g ≤ 7) {k : Int} (h_k : 0 ≤ k ∧ k ≤ 11) {a : Int} (h_a : (-9223372036854775808) ≤ a ∧ a ≤ 9223372036854775807) {b : Int} (h_b : (-9223372036854775808) ≤ b ∧ b ≤ 9223372036854775807) {c : Int} (h_c : (-9223372036854775808) ≤ c ∧ c ≤ 9223372036854775807) {o : Int} (h_o : 0 ≤ o ∧ o ≤ 255) (p0 : RG1 M) (q : ∀ (M' : jm), RI M' → RH M' → RF M' → RG1 M' → M' 606 g = 1 → M' 607 g = k → M' 614 g = -1 → M' 617 g = -1 → M' 613 g = 64 → M' 608 g = a → M' 609 g = b → M' 610 g = c → M' 611 g = o → M' 612 g = M 598 2 + 30 → (∀ (b : Nat) (j : Int), b ≠ 616 → j ≠ g → M' b j = M b j) → (∀ j : Int, (j < 360 * g ∨ 360 * g + 360 ≤ j) → M' 616 j = M 616 j) → (∀ k : Int, 0 ≤ k → k < 360 → M' 616 (360 * g + k) = 0) → (∀ (a : Nat) (i : Int), a ≠ 606 → a ≠ 607 → a ≠ 608 → a ≠ 609 → a ≠ 610 → a ≠ 611 → a ≠ 612 → a ≠ 613 → a ≠ 614 → a ≠ 616 → a ≠ 617 → M' a i = M a i) → Q none M') : jc A 1 293 [.ref (598), .int (Int32.ofInt (g)), .int (Int32.ofInt (k)), .long (Int64.ofInt (a)), .long (Int64.ofInt (b)), .long (Int64.ofInt (c)), .int (Int32.ofInt (o))] M Q := by
  have hG1 := p0
  refine jc_of (m := xm_293) rfl (Nat.le_of_ble_eq_true rfl) rfl ?_
  refine jr.aload_n rfl rfl ?_
  refine jr.getf (i := 17) (v := .ref 606) rfl rfl (by decide) rfl (by decide) rfl rfl rfl rfl ?_
  refine jr.iload_n rfl rfl ?_
  refine jr.iconst rfl ?_
  refine jr.zast (i := g) (x := 1) rfl (by decide) rfl (by decide) (by omega) (by omega) (j_zn (by omega)) ?_
  refine jr.aload_n rfl rfl ?_
  refine jr.getf (i := 18) (v := .ref 607) rfl rfl (by decide) rfl (by decide) rfl rfl rfl rfl ?_
  refine jr.iload_n rfl rfl ?_
  refine jr.iload_n rfl rfl ?_
  refine jr.iast (i := g) (x := k) rfl (by decide) rfl (by decide) (by omega) (by omega) ?_
  refine jr.aload_n rfl rfl ?_
  refine jr.getf (i := 19) (v := .ref 608) rfl rfl (by decide) rfl (by decide) rfl rfl rfl rfl ?_
  refine jr.iload_n rfl rfl ?_
  refine jr.lload_n rfl rfl ?_
  refine jr.last (i := g) (x := a) rfl (by decide) rfl (by decide) (by omega) (by omega) ?_
  refine jr.aload_n rfl rfl ?_
  refine jr.getf (i := 20) (v := .ref 609) rfl rfl (by decide) rfl (by decide) rfl rfl rfl rfl ?_
  refine jr.iload_n rfl rfl ?_
  refine jr.lload rfl rfl ?_
  refine jr.last (i := g) (x := b) rfl (by decide) rfl (by decide) (by omega) (by omega) ?_
  refine jr.aload_n rfl rfl ?_
  refine jr.getf (i := 21) (v := .ref 610) rfl rfl (by decide) rfl (by decide) rfl rfl rfl rfl ?_
  refine jr.iload_n rfl rfl ?_
  refine jr.lload rfl rfl ?_
  refine jr.last (i := g) (x := c) rfl (by decide) rfl (by decide) (by omega) (by omega) ?_
  refine jr.aload_n rfl rfl ?_
  refine jr.getf (i := 22) (v := .ref 611) rfl rfl (by decide) rfl (by decide) rfl rfl rfl rfl ?_
  refine jr.iload_n rfl rfl ?_
  refine jr.iload rfl rfl ?_
  refine jr.iast (i := g) (x := o) rfl (by decide) rfl (by decide) (by omega) (by omega) ?_
  refine jr.aload_n rfl rfl ?_
  refine jr.getf (i := 23) (v := .ref 612) rfl rfl (by decide) rfl (by decide) rfl rfl rfl rfl ?_
  refine jr.iload_n rfl rfl ?_
  refine jr.aload_n rfl rfl ?_
  obtain ⟨v1, e1⟩ : ∃ z, M 598 2 = z := ⟨_, rfl⟩
  have b1 : 0 ≤ v1 ∧ v1 ≤ 2000000 := by rw [← e1]; exact hI_M 598 2 (by decide)
  refine jr.getf (i := 2) (x := v1) (v := .int (Int32.ofInt (v1))) rfl rfl (by decide) rfl (by decide) rfl rfl ((ju_c _ _ (by decide)).trans ((ju_c _ _ (by decide)).trans ((ju_c _ _ (by decide)).trans ((ju_c _ _ (by decide)).trans ((ju_c _ _ (by decide)).trans ((ju_c _ _ (by decide)).trans e1)))))) rfl ?_
  refine jr.bipush rfl (by decide) ?_
  refine jr.iadd rfl ?_
  refine jr.iast (i := g) (x := (v1 + 30)) rfl (by decide) rfl (by decide) (by omega) (by omega) ?_
  refine jr.aload_n rfl rfl ?_
  refine jr.getf (i := 24) (v := .ref 613) rfl rfl (by decide) rfl (by decide) rfl rfl rfl rfl ?_
  refine jr.iload_n rfl rfl ?_
  refine jr.bipush rfl (by decide) ?_
  refine jr.iast (i := g) (x := 64) rfl (by decide) rfl (by decide) (by omega) (by omega) ?_
  refine jr.aload_n rfl rfl ?_
  refine jr.getf (i := 25) (v := .ref 614) rfl rfl (by decide) rfl (by decide) rfl rfl rfl rfl ?_
  refine jr.iload_n rfl rfl ?_
  refine jr.iconst rfl ?_
  refine jr.iast (i := g) (x := (-1)) rfl (by decide) rfl (by decide) (by omega) (by omega) ?_
  refine jr.aload_n rfl rfl ?_
  refine jr.getf (i := 28) (v := .ref 617) rfl rfl (by decide) rfl (by decide) rfl rfl rfl rfl ?_
  refine jr.iload_n rfl rfl ?_
  refine jr.iconst rfl ?_
  refine jr.iast (i := g) (x := (-1)) rfl (by decide) rfl (by decide) (by omega) (by omega) ?_
  refine jr.iconst rfl ?_
  refine jr.istore (ls' := [_, _, _, _, _, _, _, _]) rfl (by decide) rfl ?_
  refine jr.pick (ls := [_, _, _, _, _, _, _, _]) [0, 7, 6, 5, 4, 3, 2, 1] rfl rfl ?_
  exact r_beginGathering_L83_x q 360 (ju (ju (ju (ju (ju (ju (ju (ju (ju (ju M 606 g 1) 607 g k) 608 g a) 609 g b) 610 g c) 611 g o) 612 g (v1 + 30)) 613 g 64) 614 g (-1)) 617 g (-1)) 0 o c b a k g (RI.u (RI.u (RI.u (RI.u (RI.u (RI.u (RI.u (RI.u (RI.u (RI.u hI_M (a := 606) (i := g) (by rw [xri_row rfl rfl]; show (0 : Int) ≤ _ ∧ _ ≤ (1 : Int); omega)) (a := 607) (i := g) (by rw [xri_row rfl rfl]; show (0 : Int) ≤ _ ∧ _ ≤ (11 : Int); omega)) (a := 608) (i := g) (by rw [xri_row rfl rfl]; show (-9223372036854775808 : Int) ≤ _ ∧ _ ≤ (9223372036854775807 : Int); omega)) (a := 609) (i := g) (by rw [xri_row rfl rfl]; show (-9223372036854775808 : Int) ≤ _ ∧ _ ≤ (9223372036854775807 : Int); omega)) (a := 610) (i := g) (by rw [xri_row rfl rfl]; show (-9223372036854775808 : Int) ≤ _ ∧ _ ≤ (9223372036854775807 : Int); omega)) (a := 611) (i := g) (by rw [xri_row rfl rfl]; show (0 : Int) ≤ _ ∧ _ ≤ (255 : Int); omega)) (a := 612) (i := g) (by rw [xri_row rfl rfl]; show (0 : Int) ≤ _ ∧ _ ≤ (2000030 : Int); omega)) (a := 613) (i := g) (by rw [xri_row rfl rfl]; show (0 : Int) ≤ _ ∧ _ ≤ (720 : Int); omega)) (a := 614) (i := g) (by rw [xri_row rfl rfl]; show (-1 : Int) ≤ _ ∧ _ ≤ (360 : Int); omega)) (a := 617) (i := g) (by rw [xri_row rfl rfl]; show (-1 : Int) ≤ _ ∧ _ ≤ (400 : Int); omega)) (RH.o (RH.o (RH.o (RH.o (RH.o (RH.o (RH.o (RH.o (RH.o (RH.o hH_M (by decide) (by decide) (by decide)) (by decide) (by decide) (by decide)) (by decide) (by decide) (by decide)) (by decide) (by decide) (by decide)) (by decide) (by decide) (by decide)) (by decide) (by decide) (by decide)) (by decide) (by decide) (by decide)) (by decide) (by decide) (by decide)) (by decide) (by decide) (by decide)) (by decide) (by decide) (by decide)) (RF.o (RF.o (RF.o (RF.o (RF.o (RF.o (RF.o (RF.o (RF.o (RF.o hS_M (by decide) (by decide)) (by decide) (by decide)) (by decide) (by decide)) (by decide) (by decide)) (by decide) (by decide)) (by decide) (by decide)) (by decide) (by decide)) (by decide) (by decide)) (by decide) (by decide)) (by decide) (by decide))  (fun a i f606 f607 f608 f609 f610 f611 f612 f613 f614 f616 f617 => ((ju_c _ _ f617).trans ((ju_c _ _ f614).trans ((ju_c _ _ f613).trans ((ju_c _ _ f612).trans ((ju_c _ _ f611).trans ((ju_c _ _ f610).trans ((ju_c _ _ f609).trans ((ju_c _ _ f608).trans ((ju_c _ _ f607).trans ((ju_c _ _ f606).trans rfl))))))))))) (by omega) (by omega) (by omega) (by omega) (by omega) (by omega) (by omega) (RG1.mk (RG1x.s (RG1x.o (RG1x.s (RG1x.o (RG1x.o (RG1x.o (RG1x.o (RG1x.o (RG1x.s (RG1x.s (RG1.x hG1 _) (by decide)) (by decide)) rfl) rfl) rfl) rfl) rfl) (by decide)) rfl) (by decide)) (RGs.new ((ju_c _ _ (by decide)).trans ((ju_c _ _ (by decide)).trans (ju_same _ _ _ _))) (by omega) (ju_same _ _ _ _))) ((((ju_c _ _ (by decide)).trans ((ju_c _ _ (by decide)).trans ((ju_c _ _ (by decide)).trans ((ju_c _ _ (by decide)).trans ((ju_c _ _ (by decide)).trans ((ju_c _ _ (by decide)).trans ((ju_c _ _ (by decide)).trans ((ju_c _ _ (by decide)).trans ((ju_c _ _ (by decide)).trans (ju_same _ _ _ _))))))))))).trans (by omega)) ((((ju_c _ _ (by decide)).trans ((ju_c _ _ (by decide)).trans ((ju_c _ _ (by decide)).trans ((ju_c _ _ (by decide)).trans ((ju_c _ _ (by decide)).trans ((ju_c _ _ (by decide)).trans ((ju_c _ _ (by decide)).trans ((ju_c _ _ (by decide)).trans (ju_same _ _ _ _)))))))))).trans (by omega)) ((((ju_c _ _ (by decide)).trans (ju_same _ _ _ _))).trans (by omega)) (((ju_same _ _ _ _)).trans (by omega)) ((((ju_c _ _ (by decide)).trans ((ju_c _ _ (by decide)).trans (ju_same _ _ _ _)))).trans (by omega)) ((((ju_c _ _ (by decide)).trans ((ju_c _ _ (by decide)).trans ((ju_c _ _ (by decide)).trans ((ju_c _ _ (by decide)).trans ((ju_c _ _ (by decide)).trans ((ju_c _ _ (by decide)).trans ((ju_c _ _ (by decide)).trans (ju_same _ _ _ _))))))))).trans (by omega)) ((((ju_c _ _ (by decide)).trans ((ju_c _ _ (by decide)).trans ((ju_c _ _ (by decide)).trans ((ju_c _ _ (by decide)).trans ((ju_c _ _ (by decide)).trans ((ju_c _ _ (by decide)).trans (ju_same _ _ _ _)))))))).trans (by omega)) ((((ju_c _ _ (by decide)).trans ((ju_c _ _ (by decide)).trans ((ju_c _ _ (by decide)).trans ((ju_c _ _ (by decide)).trans ((ju_c _ _ (by decide)).trans (ju_same _ _ _ _))))))).trans (by omega)) ((((ju_c _ _ (by decide)).trans ((ju_c _ _ (by decide)).trans ((ju_c _ _ (by decide)).trans ((ju_c _ _ (by decide)).trans (ju_same _ _ _ _)))))).trans (by omega)) ((((ju_c _ _ (by decide)).trans ((ju_c _ _ (by decide)).trans ((ju_c _ _ (by decide)).trans (ju_same _ _ _ _))))).trans (by omega)) (fun b0 i hb hj => (ju_i _ _ hj).trans ((ju_i _ _ hj).trans ((ju_i _ _ hj).trans ((ju_i _ _ hj).trans ((ju_i _ _ hj).trans ((ju_i _ _ hj).trans ((ju_i _ _ hj).trans ((ju_i _ _ hj).trans ((ju_i _ _ hj).trans ((ju_i _ _ hj).trans (rfl))))))))))) (fun i _ => by rw [ju_c _ _ (by decide), ju_c _ _ (by decide), ju_c _ _ (by decide), ju_c _ _ (by decide), ju_c _ _ (by decide), ju_c _ _ (by decide), ju_c _ _ (by decide), ju_c _ _ (by decide), ju_c _ _ (by decide), ju_c _ _ (by decide)]) (fun i i0 i1 => absurd i1 (by omega)) (by omega) (by omega) (by omega) (by omega) (by omega) (by omega) (by omega)
end
section
/-! ===== the reference: data laid, headers kept ===== -/
/-- the row of gathering g of the reference -/
noncomputable def wR (M : jm) (g : Int) : Int → Int := fun k => if M 616 (360 * g + k) ≠ 0 then M 615 (360 * g + k) else -1
theorem mlf_s {k o m : Int} (h : 0 ≤ k) (h0 : 0 ≤ o) : (o + k < m → mlf (k + 1) o m = mlf k o m + 1 ∧ mlf k o m = k) ∧ (m ≤ o + k → mlf (k + 1) o m = mlf k o m) := by
  unfold mlf
  (repeat' split) <;> omega
theorem mlf_r {k o m : Int} (h : 0 ≤ k) : 0 ≤ mlf k o m ∧ mlf k o m ≤ k := by
  unfold mlf
  (repeat' split) <;> omega
/-- data laid as far as k -/
noncomputable def LDR (T M : jm) (g x f o m k u v w : Int) : Prop := (∀ j : Int, 0 ≤ j → j < 360 → wR M g j = glay (wR T g) (rf T x) o f (mlf k o m) j) ∧ v = gov (wR T g) o (mlf k o m).toNat ∧ w = mlf k o m - v ∧ u = k - mlf k o m ∧ (∀ j : Int, (j < 360 * g ∨ 360 * g + 360 ≤ j) → M 616 j = T 616 j ∧ M 615 j = T 615 j)
theorem LDR.z {T : jm} {g x f o m : Int} : LDR T T g x f o m 0 0 0 0 := by
  have e : mlf 0 o m = 0 := by unfold mlf; (repeat' split) <;> omega
  refine ⟨fun j _ _ => ?_, by rw [e]; rfl, by rw [e]; rfl, by rw [e]; rfl, fun _ _ => ⟨rfl, rfl⟩⟩
  rw [e]
  unfold glay
  rw [if_neg (by omega)]
theorem LDR.b {T M : jm} {g x f o m k u v w : Int} (h : LDR T M g x f o m k u v w) (hk : 0 ≤ k) (ho : 0 ≤ o) (hm : m ≤ o + k) : LDR T M g x f o m (k + 1) (u + 1) v w := by
  have e := (mlf_s (m := m) hk ho).2 hm
  unfold LDR at h ⊢
  rw [e]
  exact ⟨h.1, h.2.1, h.2.2.1, by have := h.2.2.2.1; omega, h.2.2.2.2⟩
end
