section
theorem r_layData_L36_x {A : Nat → Option (Nat × (Nat → Int32))} {Q : Option Value → jm → Prop} {M0 : jm} {g0 : Int} {x0 : Int} {f0 : Int} {c0 : Int} {o0 : Int} (q : ∀ (M' : jm), RI M' → RH M' → RF M' → (((∀ j : Int, 0 ≤ j → j < 360 → wR M' g0 j = glay (wR M0 g0) (rf M0 x0) o0 f0 (mlf c0 o0 (lpf (M0 614 g0))) j) ∧ (∀ j : Int, (j < 360 * g0 ∨ 360 * g0 + 360 ≤ j) → M' 616 j = M0 616 j ∧ M' 615 j = M0 615 j)) ∧ M' 598 34 = 1 ∧ M' 622 0 = mlf c0 o0 (lpf (M0 614 g0)) - gov (wR M0 g0) o0 (mlf c0 o0 (lpf (M0 614 g0))).toNat ∧ M' 622 1 = gov (wR M0 g0) o0 (mlf c0 o0 (lpf (M0 614 g0))).toNat ∧ M' 622 2 = c0 - mlf c0 o0 (lpf (M0 614 g0)) ∧ M' 622 3 = M0 613 g0 ∧ M' 622 4 = M0 614 g0) → (∀ (a : Nat) (i : Int), a ≠ 598 → a ≠ 615 → a ≠ 616 → a ≠ 622 → M' a i = M0 a i) → (∀ (i : Int), i ≠ 34 → M' 598 i = M0 598 i) → Q none M') : ∀ (nM : Nat) (M : jm) (k : Int) (u : Int) (v : Int) (w : Int) (m : Int) (o : Int) (c : Int) (f : Int) (x : Int) (g : Int), RI M → RH M → RF M → (∀ (a : Nat) (i : Int), a ≠ 598 → a ≠ 615 → a ≠ 616 → a ≠ 622 → M a i = M0 a i) → (∀ (i : Int), i ≠ 34 → M 598 i = M0 598 i) → 0 ≤ k ∧ k ≤ 400 → 0 ≤ u ∧ u ≤ 400 → 0 ≤ v ∧ v ≤ 400 → 0 ≤ w ∧ w ≤ 400 → 0 ≤ m ∧ m ≤ 360 → 0 ≤ o ∧ o ≤ 65528 → 0 ≤ c ∧ c ≤ 400 → 0 ≤ f ∧ f ≤ 400 → 0 ≤ x ∧ x ≤ 23 → 0 ≤ g ∧ g ≤ 7 → f + c ≤ 400 → u ≤ k → v ≤ k → w ≤ k → k ≤ c → LDR M0 M g x f o m k u v w → m = lpf (M0 614 g) → g = g0 → x = x0 → f = f0 → c = c0 → o = o0 → 400 - k ≤ nM → jr A 1 xm_294 36 [(10, .int (Int32.ofInt (k))), (9, .int (Int32.ofInt (u))), (8, .int (Int32.ofInt (v))), (7, .int (Int32.ofInt (w))), (6, .int (Int32.ofInt (m))), (5, .int (Int32.ofInt (o))), (4, .int (Int32.ofInt (c))), (3, .int (Int32.ofInt (f))), (2, .int (Int32.ofInt (x))), (1, .int (Int32.ofInt (g))), (0, .ref (598))] [] M Q := by
  intro nM
  induction nM using Nat.strongRecOn with
  | ind nM ih =>
    intro M k u v w m o c f x g hI_M hH_M hS_M hF_M hG_M h_k h_u h_v h_w h_m h_o h_c h_f h_x h_g hy0 hy1 hy2 hy3 hy4 hy5 hy6 hy7 hy8 hy9 hy10 hy11 hm
    subst hy7
    subst hy8
    subst hy9
    subst hy10
    subst hy11
    refine jr.iload rfl rfl ?_
    refine jr.iload rfl rfl ?_
    refine jr.icmp_ge rfl rfl (by omega) (by omega) (fun h40 => ?_) (fun h40 => ?_)
    · refine jr.aload_n rfl rfl ?_
      refine jr.iconst rfl ?_
      refine jr.putf (i := 34) (x := 1) rfl rfl (by decide) rfl (by decide) rfl rfl rfl rfl rfl ?_
      refine jr.aload_n rfl rfl ?_
      refine jr.getf (i := 33) (v := .ref 622) rfl rfl (by decide) rfl (by decide) rfl rfl rfl rfl ?_
      refine jr.iconst rfl ?_
      refine jr.iload rfl rfl ?_
      refine jr.iast (i := 0) (x := w) rfl (by decide) rfl (by decide) (by omega) (by omega) ?_
      refine jr.aload_n rfl rfl ?_
      refine jr.getf (i := 33) (v := .ref 622) rfl rfl (by decide) rfl (by decide) rfl rfl rfl rfl ?_
      refine jr.iconst rfl ?_
      refine jr.iload rfl rfl ?_
      refine jr.iast (i := 1) (x := v) rfl (by decide) rfl (by decide) (by omega) (by omega) ?_
      refine jr.aload_n rfl rfl ?_
      refine jr.getf (i := 33) (v := .ref 622) rfl rfl (by decide) rfl (by decide) rfl rfl rfl rfl ?_
      refine jr.iconst rfl ?_
      refine jr.iload rfl rfl ?_
      refine jr.iast (i := 2) (x := u) rfl (by decide) rfl (by decide) (by omega) (by omega) ?_
      refine jr.aload_n rfl rfl ?_
      refine jr.getf (i := 33) (v := .ref 622) rfl rfl (by decide) rfl (by decide) rfl rfl rfl rfl ?_
      refine jr.iconst rfl ?_
      refine jr.aload_n rfl rfl ?_
      refine jr.getf (i := 24) (v := .ref 613) rfl rfl (by decide) rfl (by decide) rfl rfl rfl rfl ?_
      refine jr.iload_n rfl rfl ?_
      obtain ⟨v1, e1⟩ : ∃ z, M 613 g = z := ⟨_, rfl⟩
      have b1 : 0 ≤ v1 ∧ v1 ≤ 720 := by rw [← e1]; exact (by have q := hI_M 613 g (by decide); rw [xri_row rfl rfl] at q; exact q)
      refine jr.iald (i := g) (x := v1) rfl (by decide) rfl (by decide) (by omega) (by omega) ((ju_c _ _ (by decide)).trans ((ju_c _ _ (by decide)).trans ((ju_c _ _ (by decide)).trans ((ju_c _ _ (by decide)).trans e1)))) ?_
      refine jr.iast (i := 3) (x := v1) rfl (by decide) rfl (by decide) (by omega) (by omega) ?_
      refine jr.aload_n rfl rfl ?_
      refine jr.getf (i := 33) (v := .ref 622) rfl rfl (by decide) rfl (by decide) rfl rfl rfl rfl ?_
      refine jr.iconst rfl ?_
      refine jr.aload_n rfl rfl ?_
      refine jr.getf (i := 25) (v := .ref 614) rfl rfl (by decide) rfl (by decide) rfl rfl rfl rfl ?_
      refine jr.iload_n rfl rfl ?_
      obtain ⟨v2, e2⟩ : ∃ z, M 614 g = z := ⟨_, rfl⟩
      have b2 : (-1) ≤ v2 ∧ v2 ≤ 360 := by rw [← e2]; exact (by have q := hI_M 614 g (by decide); rw [xri_row rfl rfl] at q; exact q)
      refine jr.iald (i := g) (x := v2) rfl (by decide) rfl (by decide) (by omega) (by omega) ((ju_c _ _ (by decide)).trans ((ju_c _ _ (by decide)).trans ((ju_c _ _ (by decide)).trans ((ju_c _ _ (by decide)).trans ((ju_c _ _ (by decide)).trans e2))))) ?_
      refine jr.iast (i := 4) (x := v2) rfl (by decide) rfl (by decide) (by omega) (by omega) ?_
      exact jr.vreturn rfl rfl (q _ (RI.u (RI.u (RI.u (RI.u (RI.u (RI.u hI_M (a := 598) (i := 34) (show (0 : Int) ≤ _ ∧ _ ≤ (1 : Int) from by omega)) (a := 622) (i := 0) (by rw [xri_row rfl rfl]; show (-1 : Int) ≤ _ ∧ _ ≤ (720 : Int); omega)) (a := 622) (i := 1) (by rw [xri_row rfl rfl]; show (-1 : Int) ≤ _ ∧ _ ≤ (720 : Int); omega)) (a := 622) (i := 2) (by rw [xri_row rfl rfl]; show (-1 : Int) ≤ _ ∧ _ ≤ (720 : Int); omega)) (a := 622) (i := 3) (by rw [xri_row rfl rfl]; show (-1 : Int) ≤ _ ∧ _ ≤ (720 : Int); omega)) (a := 622) (i := 4) (by rw [xri_row rfl rfl]; show (-1 : Int) ≤ _ ∧ _ ≤ (720 : Int); omega)) (RH.o (RH.o (RH.o (RH.o (RH.o (RH.o hH_M (by decide) (by decide) (by decide)) (by decide) (by decide) (by decide)) (by decide) (by decide) (by decide)) (by decide) (by decide) (by decide)) (by decide) (by decide) (by decide)) (by decide) (by decide) (by decide)) (RF.o (RF.o (RF.o (RF.o (RF.o (RF.o hS_M (by decide) (by decide)) (by decide) (by decide)) (by decide) (by decide)) (by decide) (by decide)) (by decide) (by decide)) (by decide) (by decide))  (by have f14 : M 614 g = M0 614 g := hF_M 614 g (by decide) (by decide) (by decide) (by decide); have f13 : M 613 g = M0 613 g := hF_M 613 g (by decide) (by decide) (by decide) (by decide); have h9 := ld_end (M2 := (ju (ju (ju (ju (ju (ju M 598 34 1) 622 0 w) 622 1 v) 622 2 u) 622 3 v1) 622 4 v2)) (s5 := v1) hy5 (show k = c from by omega) (by rw [f14]; exact hy6) (by rw [e2]); rw [f14] at h9; rw [show M0 613 g = v1 from by omega]; exact h9) (fun a i f598 f615 f616 f622 => ((ju_c _ _ f622).trans ((ju_c _ _ f622).trans ((ju_c _ _ f622).trans ((ju_c _ _ f622).trans ((ju_c _ _ f622).trans ((ju_c _ _ f598).trans (hF_M a i f598 f615 f616 f622)))))))) (fun i g34 => ((ju_c _ _ (by decide)).trans ((ju_c _ _ (by decide)).trans ((ju_c _ _ (by decide)).trans ((ju_c _ _ (by decide)).trans ((ju_c _ _ (by decide)).trans ((ju_i _ _ g34).trans (hG_M i g34)))))))))
    · refine jr.iload rfl rfl ?_
      refine jr.iload rfl rfl ?_
      refine jr.iadd rfl ?_
      refine jr.iload rfl rfl ?_
      refine jr.icmp_lt rfl rfl (by omega) (by omega) (fun h50 => ?_) (fun h50 => ?_)
      · refine jr.aload_n rfl rfl ?_
        refine jr.getf (i := 27) (v := .ref 616) rfl rfl (by decide) rfl (by decide) rfl rfl rfl rfl ?_
        refine jr.sipush rfl (by decide) ?_
        refine jr.iload_n rfl rfl ?_
        refine jr.imul rfl ?_
        refine jr.iload rfl rfl ?_
        refine jr.iadd rfl ?_
        refine jr.iload rfl rfl ?_
        refine jr.iadd rfl ?_
        obtain ⟨v3, e3⟩ : ∃ z, M 616 (((360 * g) + o) + k) = z := ⟨_, rfl⟩
        have b3 : 0 ≤ v3 ∧ v3 ≤ 1 := by rw [← e3]; exact (by have q := hI_M 616 (((360 * g) + o) + k) (by decide); rw [xri_row rfl rfl] at q; exact q)
        refine jr.zald (i := (((360 * g) + o) + k)) (x := v3) rfl (by decide) rfl (by decide) (by omega) (by omega) e3 ?_
        refine jr.if_eq rfl rfl (by omega) (fun h75 => ?_) (fun h75 => ?_)
        · refine jr.aload_n rfl rfl ?_
          refine jr.getf (i := 27) (v := .ref 616) rfl rfl (by decide) rfl (by decide) rfl rfl rfl rfl ?_
          refine jr.sipush rfl (by decide) ?_
          refine jr.iload_n rfl rfl ?_
          refine jr.imul rfl ?_
          refine jr.iload rfl rfl ?_
          refine jr.iadd rfl ?_
          refine jr.iload rfl rfl ?_
          refine jr.iadd rfl ?_
          refine jr.iconst rfl ?_
          refine jr.zast (i := (((360 * g) + o) + k)) (x := 1) rfl (by decide) rfl (by decide) (by omega) (by omega) (j_zn (by omega)) ?_
          refine jr.aload_n rfl rfl ?_
          refine jr.getf (i := 26) (v := .ref 615) rfl rfl (by decide) rfl (by decide) rfl rfl rfl rfl ?_
          refine jr.sipush rfl (by decide) ?_
          refine jr.iload_n rfl rfl ?_
          refine jr.imul rfl ?_
          refine jr.iload rfl rfl ?_
          refine jr.iadd rfl ?_
          refine jr.iload rfl rfl ?_
          refine jr.iadd rfl ?_
          refine jr.aload_n rfl rfl ?_
          refine jr.iload_n rfl rfl ?_
          refine jr.iload_n rfl rfl ?_
          refine jr.iload rfl rfl ?_
          refine jr.iadd rfl ?_
          refine jr_v rfl rfl (Or.inl rfl) rfl rfl (by decide) rfl ⟨rfl, Nat.le_of_ble_eq_true rfl, Nat.le_of_ble_eq_true rfl⟩ rfl (jc.deep (r_one (RI.u hI_M (a := 616) (i := (((360 * g) + o) + k)) (by rw [xri_row rfl rfl]; show (0 : Int) ≤ _ ∧ _ ≤ (1 : Int); omega)) (RH.o hH_M (by decide) (by decide) (by decide)) (RF.o hS_M (by decide) (by decide)) (Kp.rfl _) (by omega) (by omega)  (fun r4 z4 w4_0 => ?_)) (by decide))
          refine jr.iast (i := (((360 * g) + o) + k)) (x := r4) rfl (by decide) rfl (by decide) (by omega) (by omega) ?_
          refine jr.iinc (ls' := [_, _, _, _, _, _, _, _, _, _, _]) rfl rfl (by decide) rfl ?_
          refine jr.iinc (ls' := [_, _, _, _, _, _, _, _, _, _, _]) rfl rfl (by decide) rfl ?_
          refine jr.goto rfl rfl ?_
          refine jr.pick (ls := [_, _, _, _, _, _, _, _, _, _, _]) [0, 2, 3, 1, 4, 5, 6, 7, 8, 9, 10] rfl rfl ?_
          exact ih (nM - 1) (by omega) (ju (ju M 616 (((360 * g) + o) + k) 1) 615 (((360 * g) + o) + k) r4) (k + 1) u v (w + 1) m o c f x g (RI.u (RI.u hI_M (a := 616) (i := (((360 * g) + o) + k)) (by rw [xri_row rfl rfl]; show (0 : Int) ≤ _ ∧ _ ≤ (1 : Int); omega)) (a := 615) (i := (((360 * g) + o) + k)) (by rw [xri_row rfl rfl]; show (0 : Int) ≤ _ ∧ _ ≤ (255 : Int); omega)) (RH.o (RH.o hH_M (by decide) (by decide) (by decide)) (by decide) (by decide) (by decide)) (RF.o (RF.o hS_M (by decide) (by decide)) (by decide) (by decide))  (fun a i f598 f615 f616 f622 => ((ju_c _ _ f615).trans ((ju_c _ _ f616).trans (hF_M a i f598 f615 f616 f622)))) (fun i g34 => ((ju_c _ _ (by decide)).trans ((ju_c _ _ (by decide)).trans (hG_M i g34)))) (by omega) (by omega) (by omega) (by omega) (by omega) (by omega) (by omega) (by omega) (by omega) (by omega) (by omega) (by omega) (by omega) (by omega) (by omega) (LDR.w hy5 (by omega) (by omega) (by omega) (by omega) (by omega) (by omega) (by rw [show rf M0 x (f + k) = M0 601 (400 * x + (f + k)) from rfl, ← hF_M 601 _ (by decide) (by decide) (by decide) (by decide)]; have h8 := w4_0; rw [ju_c _ _ (by decide)] at h8; exact h8)) hy6 (by omega) (by omega) (by omega) (by omega) (by omega) (by omega)
        · have sx75 : (1 : Int) ≤ v3 := by omega
          clear h75
          refine jr.iinc (ls' := [_, _, _, _, _, _, _, _, _, _, _]) rfl rfl (by decide) rfl ?_
          refine jr.goto rfl rfl ?_
          refine jr.iinc (ls' := [_, _, _, _, _, _, _, _, _, _, _]) rfl rfl (by decide) rfl ?_
          refine jr.goto rfl rfl ?_
          refine jr.pick (ls := [_, _, _, _, _, _, _, _, _, _, _]) [0, 2, 1, 3, 4, 5, 6, 7, 8, 9, 10] rfl rfl ?_
          exact ih (nM - 1) (by omega) M (k + 1) u (v + 1) w m o c f x g hI_M hH_M hS_M  (fun a i f598 f615 f616 f622 => (hF_M a i f598 f615 f616 f622)) (fun i g34 => (hG_M i g34)) (by omega) (by omega) (by omega) (by omega) (by omega) (by omega) (by omega) (by omega) (by omega) (by omega) (by omega) (by omega) (by omega) (by omega) (by omega) (LDR.o hy5 (by omega) (by omega) (by omega) (by omega) (by omega) (by have h9 : (0 : Int) ≤ M 615 (360 * g + o + k) ∧ M 615 (360 * g + o + k) ≤ 255 := (by have q := hI_M 615 (360 * g + o + k) (by decide); rw [xri_row rfl rfl] at q; exact q); omega)) hy6 (by omega) (by omega) (by omega) (by omega) (by omega) (by omega)
      · refine jr.iinc (ls' := [_, _, _, _, _, _, _, _, _, _, _]) rfl rfl (by decide) rfl ?_
        refine jr.goto rfl rfl ?_
        refine jr.iinc (ls' := [_, _, _, _, _, _, _, _, _, _, _]) rfl rfl (by decide) rfl ?_
        refine jr.goto rfl rfl ?_
        refine jr.pick (ls := [_, _, _, _, _, _, _, _, _, _, _]) [0, 1, 2, 3, 4, 5, 6, 7, 8, 9, 10] rfl rfl ?_
        exact ih (nM - 1) (by omega) M (k + 1) (u + 1) v w m o c f x g hI_M hH_M hS_M  (fun a i f598 f615 f616 f622 => (hF_M a i f598 f615 f616 f622)) (fun i g34 => (hG_M i g34)) (by omega) (by omega) (by omega) (by omega) (by omega) (by omega) (by omega) (by omega) (by omega) (by omega) (by omega) (by omega) (by omega) (by omega) (by omega) (LDR.b hy5 (by omega) (by omega) (by omega)) hy6 (by omega) (by omega) (by omega) (by omega) (by omega) (by omega)
end
