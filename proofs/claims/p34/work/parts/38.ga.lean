/-! ===== the reference: contracts, 38.ga ===== -/
theorem r_keepHeaders_L22 {A : Nat → Option (Nat × (Nat → Int32))} {Q : Option Value → jm → Prop} {M0 : jm} (q : ∀ (M' : jm), RI M' → RH M' → RF M' → RG1 M' → (∀ (a : Nat) (i : Int), a ≠ 617 → a ≠ 618 → a ≠ 619 → a ≠ 620 → a ≠ 621 → M' a i = M0 a i) → Q none M') : ∀ (nM : Nat) (M : jm) (k : Int) (t : Int) (h : Int) (x : Int) (g : Int), RI M → RH M → RF M → (∀ (a : Nat) (i : Int), a ≠ 617 → a ≠ 618 → a ≠ 619 → a ≠ 620 → a ≠ 621 → M a i = M0 a i) → 0 ≤ k ∧ k ≤ 400 → 0 ≤ t ∧ t ≤ 11 → 0 ≤ h ∧ h ≤ 11 → 0 ≤ x ∧ x ≤ 23 → 0 ≤ g ∧ g ≤ 7 → RG1x M g → (M 604 t < k → M 618 (400 * g + M 604 t) = M 601 (400 * x + M 604 t)) → M 617 g = M 604 h + M 605 h → 8 ≤ M 604 h + M 605 h ∧ M 604 t ≤ 380 ∧ M 604 h ≤ 392 ∧ (M 607 g = 2 → (t = h ∧ M 605 h = 4 * (M 601 (400 * x + M 604 h) % 16) ∧ 20 ≤ M 605 h)) → 1 ≤ M 613 g → 400 - k ≤ nM → jr A 1 xm_295 22 [(5, .int (Int32.ofInt (k))), (4, .int (Int32.ofInt (t))), (3, .int (Int32.ofInt (h))), (2, .int (Int32.ofInt (x))), (1, .int (Int32.ofInt (g))), (0, .ref (598))] [] M Q := by
  intro nM
  induction nM using Nat.strongRecOn with
  | ind nM ih =>
    intro M k t h x g hI_M hH_M hS_M hF_M h_k h_t h_h h_x h_g hy0 hy1 hy2 hy3 hy4 hm
    have hx := hy0
    obtain ⟨k1, k2, k3, k4⟩ := hy3
    have hy3 := And.intro k1 (And.intro k2 (And.intro k3 k4))
    have rt := RH.two hH_M (h - 1)
    have r1 := (hH_M (h - 1)).2
    have r2 := (hH_M h).2
    have nb : (0 : Int) ≤ M 604 t ∧ M 604 t ≤ 400 := by have q := hI_M 604 t (by decide); rw [xri_row rfl rfl] at q; exact q
    refine jr.iload rfl rfl ?_
    refine jr.aload_n rfl rfl ?_
    refine jr.getf (i := 28) (v := .ref 617) rfl rfl (by decide) rfl (by decide) rfl rfl rfl rfl ?_
    refine jr.iload_n rfl rfl ?_
    obtain ⟨v1, e1⟩ : ∃ z, M 617 g = z := ⟨_, rfl⟩
    have b1 : (-1) ≤ v1 ∧ v1 ≤ 400 := by rw [← e1]; exact (by have q := hI_M 617 g (by decide); rw [xri_row rfl rfl] at q; exact q)
    refine jr.iald (i := g) (x := v1) rfl (by decide) rfl (by decide) (by omega) (by omega) e1 ?_
    refine jr.icmp_ge rfl rfl (by omega) (by omega) (fun h30 => ?_) (fun h30 => ?_)
    · refine jr.aload_n rfl rfl ?_
      refine jr.getf (i := 30) (v := .ref 619) rfl rfl (by decide) rfl (by decide) rfl rfl rfl rfl ?_
      refine jr.iload_n rfl rfl ?_
      refine jr.aload_n rfl rfl ?_
      refine jr.getf (i := 8) (v := .ref 604) rfl rfl (by decide) rfl (by decide) rfl rfl rfl rfl ?_
      refine jr.iload_n rfl rfl ?_
      obtain ⟨v2, e2⟩ : ∃ z, M 604 h = z := ⟨_, rfl⟩
      have b2 : 0 ≤ v2 ∧ v2 ≤ 400 := by rw [← e2]; exact (by have q := hI_M 604 h (by decide); rw [xri_row rfl rfl] at q; exact q)
      refine jr.iald (i := h) (x := v2) rfl (by decide) rfl (by decide) (by omega) (by omega) e2 ?_
      refine jr.iast (i := g) (x := v2) rfl (by decide) rfl (by decide) (by omega) (by omega) ?_
      refine jr.aload_n rfl rfl ?_
      refine jr.getf (i := 31) (v := .ref 620) rfl rfl (by decide) rfl (by decide) rfl rfl rfl rfl ?_
      refine jr.iload_n rfl rfl ?_
      refine jr.iload_n rfl rfl ?_
      refine jr.if_ne rfl rfl (by omega) (fun h77 => ?_) (fun h77 => ?_)
      · refine jr.aload_n rfl rfl ?_
        refine jr.getf (i := 8) (v := .ref 604) rfl rfl (by decide) rfl (by decide) rfl rfl rfl rfl ?_
        refine jr.iload_n rfl rfl ?_
        refine jr.iconst rfl ?_
        refine jr.isub rfl ?_
        obtain ⟨v3, e3⟩ : ∃ z, M 604 (h - 1) = z := ⟨_, rfl⟩
        have b3 : 0 ≤ v3 ∧ v3 ≤ 400 := by rw [← e3]; exact (by have q := hI_M 604 (h - 1) (by decide); rw [xri_row rfl rfl] at q; exact q)
        refine jr.iald (i := (h - 1)) (x := v3) rfl (by decide) rfl (by decide) (by omega) (by omega) ((ju_c _ _ (by decide)).trans e3) ?_
        refine jr.aload_n rfl rfl ?_
        refine jr.getf (i := 7) (v := .ref 603) rfl rfl (by decide) rfl (by decide) rfl rfl rfl rfl ?_
        refine jr.iload_n rfl rfl ?_
        refine jr.iconst rfl ?_
        refine jr.isub rfl ?_
        obtain ⟨v4, e4⟩ : ∃ z, M 603 (h - 1) = z := ⟨_, rfl⟩
        have b4 : 0 ≤ v4 ∧ v4 ≤ 11 := by rw [← e4]; exact (by have q := hI_M 603 (h - 1) (by decide); rw [xri_row rfl rfl] at q; exact q)
        refine jr.iald (i := (h - 1)) (x := v4) rfl (by decide) rfl (by decide) (by omega) (by omega) ((ju_c _ _ (by decide)).trans e4) ?_
        refine jr.iconst rfl ?_
        refine jr.icmp_ne rfl rfl (by omega) (by omega) (fun h101 => ?_) (fun h101 => ?_)
        · refine jr.iconst rfl ?_
          refine jr.iadd rfl ?_
          refine jr.iast (i := g) (x := (v3 + 0)) rfl (by decide) rfl (by decide) (by omega) (by omega) ?_
          refine jr.aload_n rfl rfl ?_
          refine jr.getf (i := 32) (v := .ref 621) rfl rfl (by decide) rfl (by decide) rfl rfl rfl rfl ?_
          refine jr.iload_n rfl rfl ?_
          refine jr.aload_n rfl rfl ?_
          refine jr.getf (i := 8) (v := .ref 604) rfl rfl (by decide) rfl (by decide) rfl rfl rfl rfl ?_
          refine jr.iload rfl rfl ?_
          obtain ⟨v5, e5⟩ : ∃ z, M 604 t = z := ⟨_, rfl⟩
          have b5 : 0 ≤ v5 ∧ v5 ≤ 400 := by rw [← e5]; exact (by have q := hI_M 604 t (by decide); rw [xri_row rfl rfl] at q; exact q)
          refine jr.iald (i := t) (x := v5) rfl (by decide) rfl (by decide) (by omega) (by omega) ((ju_c _ _ (by decide)).trans ((ju_c _ _ (by decide)).trans e5)) ?_
          refine jr.iast (i := g) (x := v5) rfl (by decide) rfl (by decide) (by omega) (by omega) ?_
          obtain ⟨v6, e6⟩ : ∃ z, M 613 g = z := ⟨_, rfl⟩
          have b6 : 0 ≤ v6 ∧ v6 ≤ 720 := by rw [← e6]; exact (by have q := hI_M 613 g (by decide); rw [xri_row rfl rfl] at q; exact q)
          obtain ⟨v7, e7⟩ : ∃ z, M 607 g = z := ⟨_, rfl⟩
          have b7 : 0 ≤ v7 ∧ v7 ≤ 11 := by rw [← e7]; exact (by have q := hI_M 607 g (by decide); rw [xri_row rfl rfl] at q; exact q)
          obtain ⟨v8, e8⟩ : ∃ z, M 618 (400 * g + (v5)) = z := ⟨_, rfl⟩
          have b8 : 0 ≤ v8 ∧ v8 ≤ 255 := by rw [← e8]; exact (by have q := hI_M 618 (400 * g + (v5)) (by decide); rw [xri_row rfl rfl] at q; exact q)
          exact jr.vreturn rfl rfl (q _ (RI.u (RI.u (RI.u hI_M (a := 619) (i := g) (by rw [xri_row rfl rfl]; show (0 : Int) ≤ _ ∧ _ ≤ (400 : Int); omega)) (a := 620) (i := g) (by rw [xri_row rfl rfl]; show (0 : Int) ≤ _ ∧ _ ≤ (400 : Int); omega)) (a := 621) (i := g) (by rw [xri_row rfl rfl]; show (0 : Int) ≤ _ ∧ _ ≤ (400 : Int); omega)) (RH.o (RH.o (RH.o hH_M (by decide) (by decide) (by decide)) (by decide) (by decide) (by decide)) (by decide) (by decide) (by decide)) (RF.o (RF.o (RF.o hS_M (by decide) (by decide)) (by decide) (by decide)) (by decide) (by decide))  (RG1.mk (RG1x.s (RG1x.s (RG1x.s hx (by decide)) (by decide)) (by decide)) (RGs.mk' ((ju_c _ _ (by decide)).trans ((ju_c _ _ (by decide)).trans ((ju_c _ _ (by decide)).trans e6))) ((ju_c _ _ (by decide)).trans ((ju_c _ _ (by decide)).trans ((ju_c _ _ (by decide)).trans e1))) (ju_same _ _ _ _) ((ju_c _ _ (by decide)).trans ((ju_c _ _ (by decide)).trans (ju_same _ _ _ _))) ((ju_c _ _ (by decide)).trans (ju_same _ _ _ _)) ((ju_c _ _ (by decide)).trans ((ju_c _ _ (by decide)).trans ((ju_c _ _ (by decide)).trans e7))) (e7 := ((ju_c _ _ (by decide)).trans ((ju_c _ _ (by decide)).trans ((ju_c _ _ (by decide)).trans e8)))) (by omega) (by omega) (by omega) (by omega) (by omega) (by omega) (fun q7 => by obtain ⟨z1, z2, z3⟩ := k4 (by omega); subst z1; have z4 := hy1 (by omega); rw [e5] at z2 z4; omega))) (fun a i f617 f618 f619 f620 f621 => ((ju_c _ _ f621).trans ((ju_c _ _ f620).trans ((ju_c _ _ f619).trans (hF_M a i f617 f618 f619 f620 f621))))))
        · refine jr.iconst rfl ?_
          refine jr.goto rfl rfl ?_
          refine jr.iadd rfl ?_
          refine jr.iast (i := g) (x := (v3 + 4)) rfl (by decide) rfl (by decide) (by omega) (by omega) ?_
          refine jr.aload_n rfl rfl ?_
          refine jr.getf (i := 32) (v := .ref 621) rfl rfl (by decide) rfl (by decide) rfl rfl rfl rfl ?_
          refine jr.iload_n rfl rfl ?_
          refine jr.aload_n rfl rfl ?_
          refine jr.getf (i := 8) (v := .ref 604) rfl rfl (by decide) rfl (by decide) rfl rfl rfl rfl ?_
          refine jr.iload rfl rfl ?_
          obtain ⟨v9, e9⟩ : ∃ z, M 604 t = z := ⟨_, rfl⟩
          have b9 : 0 ≤ v9 ∧ v9 ≤ 400 := by rw [← e9]; exact (by have q := hI_M 604 t (by decide); rw [xri_row rfl rfl] at q; exact q)
          refine jr.iald (i := t) (x := v9) rfl (by decide) rfl (by decide) (by omega) (by omega) ((ju_c _ _ (by decide)).trans ((ju_c _ _ (by decide)).trans e9)) ?_
          refine jr.iast (i := g) (x := v9) rfl (by decide) rfl (by decide) (by omega) (by omega) ?_
          obtain ⟨v10, e10⟩ : ∃ z, M 613 g = z := ⟨_, rfl⟩
          have b10 : 0 ≤ v10 ∧ v10 ≤ 720 := by rw [← e10]; exact (by have q := hI_M 613 g (by decide); rw [xri_row rfl rfl] at q; exact q)
          obtain ⟨v11, e11⟩ : ∃ z, M 607 g = z := ⟨_, rfl⟩
          have b11 : 0 ≤ v11 ∧ v11 ≤ 11 := by rw [← e11]; exact (by have q := hI_M 607 g (by decide); rw [xri_row rfl rfl] at q; exact q)
          obtain ⟨v12, e12⟩ : ∃ z, M 618 (400 * g + (v9)) = z := ⟨_, rfl⟩
          have b12 : 0 ≤ v12 ∧ v12 ≤ 255 := by rw [← e12]; exact (by have q := hI_M 618 (400 * g + (v9)) (by decide); rw [xri_row rfl rfl] at q; exact q)
          exact jr.vreturn rfl rfl (q _ (RI.u (RI.u (RI.u hI_M (a := 619) (i := g) (by rw [xri_row rfl rfl]; show (0 : Int) ≤ _ ∧ _ ≤ (400 : Int); omega)) (a := 620) (i := g) (by rw [xri_row rfl rfl]; show (0 : Int) ≤ _ ∧ _ ≤ (400 : Int); omega)) (a := 621) (i := g) (by rw [xri_row rfl rfl]; show (0 : Int) ≤ _ ∧ _ ≤ (400 : Int); omega)) (RH.o (RH.o (RH.o hH_M (by decide) (by decide) (by decide)) (by decide) (by decide) (by decide)) (by decide) (by decide) (by decide)) (RF.o (RF.o (RF.o hS_M (by decide) (by decide)) (by decide) (by decide)) (by decide) (by decide))  (RG1.mk (RG1x.s (RG1x.s (RG1x.s hx (by decide)) (by decide)) (by decide)) (RGs.mk' ((ju_c _ _ (by decide)).trans ((ju_c _ _ (by decide)).trans ((ju_c _ _ (by decide)).trans e10))) ((ju_c _ _ (by decide)).trans ((ju_c _ _ (by decide)).trans ((ju_c _ _ (by decide)).trans e1))) (ju_same _ _ _ _) ((ju_c _ _ (by decide)).trans ((ju_c _ _ (by decide)).trans (ju_same _ _ _ _))) ((ju_c _ _ (by decide)).trans (ju_same _ _ _ _)) ((ju_c _ _ (by decide)).trans ((ju_c _ _ (by decide)).trans ((ju_c _ _ (by decide)).trans e11))) (e7 := ((ju_c _ _ (by decide)).trans ((ju_c _ _ (by decide)).trans ((ju_c _ _ (by decide)).trans e12)))) (by omega) (by omega) (by omega) (by omega) (by omega) (by omega) (fun q7 => by obtain ⟨z1, z2, z3⟩ := k4 (by omega); subst z1; have z4 := hy1 (by omega); rw [e9] at z2 z4; omega))) (fun a i f617 f618 f619 f620 f621 => ((ju_c _ _ f621).trans ((ju_c _ _ f620).trans ((ju_c _ _ f619).trans (hF_M a i f617 f618 f619 f620 f621))))))
      · refine jr.iconst rfl ?_
        refine jr.goto rfl rfl ?_
        refine jr.iast (i := g) (x := 0) rfl (by decide) rfl (by decide) (by omega) (by omega) ?_
        refine jr.aload_n rfl rfl ?_
        refine jr.getf (i := 32) (v := .ref 621) rfl rfl (by decide) rfl (by decide) rfl rfl rfl rfl ?_
        refine jr.iload_n rfl rfl ?_
        refine jr.aload_n rfl rfl ?_
        refine jr.getf (i := 8) (v := .ref 604) rfl rfl (by decide) rfl (by decide) rfl rfl rfl rfl ?_
        refine jr.iload rfl rfl ?_
        obtain ⟨v13, e13⟩ : ∃ z, M 604 t = z := ⟨_, rfl⟩
        have b13 : 0 ≤ v13 ∧ v13 ≤ 400 := by rw [← e13]; exact (by have q := hI_M 604 t (by decide); rw [xri_row rfl rfl] at q; exact q)
        refine jr.iald (i := t) (x := v13) rfl (by decide) rfl (by decide) (by omega) (by omega) ((ju_c _ _ (by decide)).trans ((ju_c _ _ (by decide)).trans e13)) ?_
        refine jr.iast (i := g) (x := v13) rfl (by decide) rfl (by decide) (by omega) (by omega) ?_
        obtain ⟨v14, e14⟩ : ∃ z, M 613 g = z := ⟨_, rfl⟩
        have b14 : 0 ≤ v14 ∧ v14 ≤ 720 := by rw [← e14]; exact (by have q := hI_M 613 g (by decide); rw [xri_row rfl rfl] at q; exact q)
        obtain ⟨v15, e15⟩ : ∃ z, M 607 g = z := ⟨_, rfl⟩
        have b15 : 0 ≤ v15 ∧ v15 ≤ 11 := by rw [← e15]; exact (by have q := hI_M 607 g (by decide); rw [xri_row rfl rfl] at q; exact q)
        obtain ⟨v16, e16⟩ : ∃ z, M 618 (400 * g + (v13)) = z := ⟨_, rfl⟩
        have b16 : 0 ≤ v16 ∧ v16 ≤ 255 := by rw [← e16]; exact (by have q := hI_M 618 (400 * g + (v13)) (by decide); rw [xri_row rfl rfl] at q; exact q)
        exact jr.vreturn rfl rfl (q _ (RI.u (RI.u (RI.u hI_M (a := 619) (i := g) (by rw [xri_row rfl rfl]; show (0 : Int) ≤ _ ∧ _ ≤ (400 : Int); omega)) (a := 620) (i := g) (by rw [xri_row rfl rfl]; show (0 : Int) ≤ _ ∧ _ ≤ (400 : Int); omega)) (a := 621) (i := g) (by rw [xri_row rfl rfl]; show (0 : Int) ≤ _ ∧ _ ≤ (400 : Int); omega)) (RH.o (RH.o (RH.o hH_M (by decide) (by decide) (by decide)) (by decide) (by decide) (by decide)) (by decide) (by decide) (by decide)) (RF.o (RF.o (RF.o hS_M (by decide) (by decide)) (by decide) (by decide)) (by decide) (by decide))  (RG1.mk (RG1x.s (RG1x.s (RG1x.s hx (by decide)) (by decide)) (by decide)) (RGs.mk' ((ju_c _ _ (by decide)).trans ((ju_c _ _ (by decide)).trans ((ju_c _ _ (by decide)).trans e14))) ((ju_c _ _ (by decide)).trans ((ju_c _ _ (by decide)).trans ((ju_c _ _ (by decide)).trans e1))) (ju_same _ _ _ _) ((ju_c _ _ (by decide)).trans ((ju_c _ _ (by decide)).trans (ju_same _ _ _ _))) ((ju_c _ _ (by decide)).trans (ju_same _ _ _ _)) ((ju_c _ _ (by decide)).trans ((ju_c _ _ (by decide)).trans ((ju_c _ _ (by decide)).trans e15))) (e7 := ((ju_c _ _ (by decide)).trans ((ju_c _ _ (by decide)).trans ((ju_c _ _ (by decide)).trans e16)))) (by omega) (by omega) (by omega) (by omega) (by omega) (by omega) (fun q7 => by obtain ⟨z1, z2, z3⟩ := k4 (by omega); subst z1; have z4 := hy1 (by omega); rw [e13] at z2 z4; omega))) (fun a i f617 f618 f619 f620 f621 => ((ju_c _ _ f621).trans ((ju_c _ _ f620).trans ((ju_c _ _ f619).trans (hF_M a i f617 f618 f619 f620 f621))))))
    · refine jr.aload_n rfl rfl ?_
      refine jr.getf (i := 29) (v := .ref 618) rfl rfl (by decide) rfl (by decide) rfl rfl rfl rfl ?_
      refine jr.sipush rfl (by decide) ?_
      refine jr.iload_n rfl rfl ?_
      refine jr.imul rfl ?_
      refine jr.iload rfl rfl ?_
      refine jr.iadd rfl ?_
      refine jr.aload_n rfl rfl ?_
      refine jr.iload_n rfl rfl ?_
      refine jr.iload rfl rfl ?_
      refine jr_v rfl rfl (Or.inl rfl) rfl rfl (by decide) rfl ⟨rfl, Nat.le_of_ble_eq_true rfl, Nat.le_of_ble_eq_true rfl⟩ rfl (jc.deep (r_one hI_M hH_M hS_M (Kp.rfl _) (by omega) (by omega)  (fun r17 z17 w17_0 => ?_)) (by decide))
      refine jr.iast (i := ((400 * g) + k)) (x := r17) rfl (by decide) rfl (by decide) (by omega) (by omega) ?_
      refine jr.iinc rfl rfl (by decide) rfl ?_
      refine jr.goto rfl rfl ?_
      refine jr.pick [0, 1, 2, 3, 4, 5] rfl rfl ?_
      exact ih (nM - 1) (by omega) (ju M 618 ((400 * g) + k) r17) (k + 1) t h x g (RI.u hI_M (a := 618) (i := ((400 * g) + k)) (by rw [xri_row rfl rfl]; show (0 : Int) ≤ _ ∧ _ ≤ (255 : Int); omega)) (RH.o hH_M (by decide) (by decide) (by decide)) (RF.o hS_M (by decide) (by decide))  (fun a i f617 f618 f619 f620 f621 => ((ju_c _ _ f618).trans (hF_M a i f617 f618 f619 f620 f621))) (by omega) (by omega) (by omega) (by omega) (by omega) (RG1x.b hx (by omega) (by omega)) (by intro q; rw [ju_c _ _ (by decide : (604 : Nat) ≠ 618)] at q ⊢; rw [ju_c _ _ (by decide : (601 : Nat) ≠ 618)]; by_cases z : M 604 t = k; (rw [z, ju_same]; first | omega | (rw [← w17_0])); (rw [ju_i _ _ (by omega)]; exact hy1 (by omega))) (by rw [ju_c _ _ (by decide), ju_c _ _ (by decide), ju_c _ _ (by decide)]; exact hy2) (by rw [ju_c _ _ (by decide), ju_c _ _ (by decide), ju_c _ _ (by decide), ju_c _ _ (by decide), ju_c _ _ (by decide)]; exact hy3) (by rw [ju_c _ _ (by decide)]; exact hy4) (by omega)
theorem r_keepHeaders {A : Nat → Option (Nat × (Nat → Int32))} {Q : Option Value → jm → Prop} {M : jm} (hI_M : RI M) (hH_M : RH M) (hS_M : RF M) {g : Int} (h_g : 0 ≤ g ∧ g ≤ 7) {x : Int} (h_x : 0 ≤ x ∧ x ≤ 23) {h : Int} (h_h : 0 ≤ h ∧ h ≤ 11) {t : Int} (h_t : 0 ≤ t ∧ t ≤ 11) (p0 : 8 ≤ M 604 h + M 605 h) (p1 : M 604 t ≤ 380) (p2 : M 604 h ≤ 392) (p3 : (M 607 g = 2 → (t = h ∧ M 605 h = 4 * (M 601 (400 * x + M 604 h) % 16) ∧ 20 ≤ M 605 h))) (p4 : 1 ≤ M 613 g) (p5 : RG1 M) (q : ∀ (M' : jm), RI M' → RH M' → RF M' → RG1 M' → (∀ (a : Nat) (i : Int), a ≠ 617 → a ≠ 618 → a ≠ 619 → a ≠ 620 → a ≠ 621 → M' a i = M a i) → Q none M') : jc A 2 295 [.ref (598), .int (Int32.ofInt (g)), .int (Int32.ofInt (x)), .int (Int32.ofInt (h)), .int (Int32.ofInt (t))] M Q := by
  have hG1 := p5
  have nb : (0 : Int) ≤ M 604 t ∧ M 604 t ≤ 400 := by have q := hI_M 604 t (by decide); rw [xri_row rfl rfl] at q; exact q
  have rt := RH.two hH_M (h - 1)
  have r1 := (hH_M (h - 1)).2
  have r2 := (hH_M h).2
  refine jc_of (m := xm_295) rfl (Nat.le_of_ble_eq_true rfl) rfl ?_
  refine jr.aload_n rfl rfl ?_
  refine jr.getf (i := 28) (v := .ref 617) rfl rfl (by decide) rfl (by decide) rfl rfl rfl rfl ?_
  refine jr.iload_n rfl rfl ?_
  refine jr.aload_n rfl rfl ?_
  refine jr.getf (i := 8) (v := .ref 604) rfl rfl (by decide) rfl (by decide) rfl rfl rfl rfl ?_
  refine jr.iload_n rfl rfl ?_
  obtain ⟨v1, e1⟩ : ∃ z, M 604 h = z := ⟨_, rfl⟩
  have b1 : 0 ≤ v1 ∧ v1 ≤ 400 := by rw [← e1]; exact (by have q := hI_M 604 h (by decide); rw [xri_row rfl rfl] at q; exact q)
  refine jr.iald (i := h) (x := v1) rfl (by decide) rfl (by decide) (by omega) (by omega) e1 ?_
  refine jr.aload_n rfl rfl ?_
  refine jr.getf (i := 9) (v := .ref 605) rfl rfl (by decide) rfl (by decide) rfl rfl rfl rfl ?_
  refine jr.iload_n rfl rfl ?_
  obtain ⟨v2, e2⟩ : ∃ z, M 605 h = z := ⟨_, rfl⟩
  have b2 : 0 ≤ v2 ∧ v2 ≤ 400 := by rw [← e2]; exact (by have q := hI_M 605 h (by decide); rw [xri_row rfl rfl] at q; exact q)
  refine jr.iald (i := h) (x := v2) rfl (by decide) rfl (by decide) (by omega) (by omega) e2 ?_
  refine jr.iadd rfl ?_
  refine jr.iast (i := g) (x := (v1 + v2)) rfl (by decide) rfl (by decide) (by omega) (by omega) ?_
  refine jr.iconst rfl ?_
  refine jr.istore rfl (by decide) rfl ?_
  refine jr.pick [0, 5, 4, 3, 2, 1] rfl rfl ?_
  exact r_keepHeaders_L22 q 400 (ju M 617 g (v1 + v2)) 0 t h x g (RI.u hI_M (a := 617) (i := g) (by rw [xri_row rfl rfl]; show (-1 : Int) ≤ _ ∧ _ ≤ (400 : Int); omega)) (RH.o hH_M (by decide) (by decide) (by decide)) (RF.o hS_M (by decide) (by decide))  (fun a i f617 f618 f619 f620 f621 => ((ju_c _ _ f617).trans rfl)) (by omega) (by omega) (by omega) (by omega) (by omega) (RG1x.s (RG1.x hG1 _) (by decide)) (fun q => by exfalso; rw [ju_c _ _ (by decide)] at q; omega) (by rw [ju_same, ju_c _ _ (by decide), ju_c _ _ (by decide)]; omega) (by rw [ju_c _ _ (by decide), ju_c _ _ (by decide), ju_c _ _ (by decide), ju_c _ _ (by decide), ju_c _ _ (by decide)]; exact ⟨p0, p1, p2, p3⟩) (by rw [ju_c _ _ (by decide)]; exact p4) (by omega)
theorem r_finish_L222 {A : Nat → Option (Nat × (Nat → Int32))} {Q : Option Value → jm → Prop} {M0 : jm} (q : ∀ (r : Int) (M' : jm), RI M' → RH M' → RF M' → (-5) ≤ r ∧ r ≤ 23 → RG1 M' → (∀ (a : Nat) (i : Int), a ≠ 600 → a ≠ 601 → a ≠ 602 → a ≠ 606 → M' a i = M0 a i) → Q (some (.int (Int32.ofInt r))) M') : ∀ (nM : Nat) (M : jm) (k : Int) (d : Int) (p : Int) (g : Int), RI M → RH M → RF M → (∀ (a : Nat) (i : Int), a ≠ 600 → a ≠ 601 → a ≠ 602 → a ≠ 606 → M a i = M0 a i) → 0 ≤ k ∧ k ≤ 360 → 0 ≤ d ∧ d ≤ 400 → 0 ≤ p ∧ p ≤ 23 → 0 ≤ g ∧ g ≤ 7 → RG1 M → M 606 g ≠ 0 → M 617 g ≠ -1 → 0 ≤ M 614 g → ((M 607 g = 2 ∧ d = M 617 g) ∨ (M 607 g ≠ 2 ∧ d = M 617 g - 8)) → d + M 614 g ≤ 400 → M 600 p = d + M 614 g → BF M g p d → 360 - k ≤ nM → jr A 2 xm_296 222 [(5, .int (Int32.ofInt (k))), (4, .int (Int32.ofInt (d))), (3, .int (Int32.ofInt (p))), (1, .int (Int32.ofInt (g))), (0, .ref (598))] [] M Q := by
  intro nM
  induction nM using Nat.strongRecOn with
  | ind nM ih =>
    intro M k d p g hI_M hH_M hS_M hF_M h_k h_d h_p h_g hy0 hy1 hy2 hy3 hy4 hy5 hy6 hy7 hm
    have hG1 := hy0
    have hb := hy7
    have zg := (hG1 g (by omega) hy1).2 hy2
    refine jr.iload rfl rfl ?_
    refine jr.aload_n rfl rfl ?_
    refine jr.getf (i := 25) (v := .ref 614) rfl rfl (by decide) rfl (by decide) rfl rfl rfl rfl ?_
    refine jr.iload_n rfl rfl ?_
    obtain ⟨v1, e1⟩ : ∃ z, M 614 g = z := ⟨_, rfl⟩
    have b1 : (-1) ≤ v1 ∧ v1 ≤ 360 := by rw [← e1]; exact (by have q := hI_M 614 g (by decide); rw [xri_row rfl rfl] at q; exact q)
    refine jr.iald (i := g) (x := v1) rfl (by decide) rfl (by decide) (by omega) (by omega) e1 ?_
    refine jr.icmp_ge rfl rfl (by omega) (by omega) (fun h230 => ?_) (fun h230 => ?_)
    · refine jr.aload_n rfl rfl ?_
      refine jr.getf (i := 32) (v := .ref 621) rfl rfl (by decide) rfl (by decide) rfl rfl rfl rfl ?_
      refine jr.iload_n rfl rfl ?_
      obtain ⟨v2, e2⟩ : ∃ z, M 621 g = z := ⟨_, rfl⟩
      have b2 : 0 ≤ v2 ∧ v2 ≤ 400 := by rw [← e2]; exact (by have q := hI_M 621 g (by decide); rw [xri_row rfl rfl] at q; exact q)
      refine jr.iald (i := g) (x := v2) rfl (by decide) rfl (by decide) (by omega) (by omega) e2 ?_
      refine jr.istore rfl (by decide) rfl ?_
      refine jr.aload_n rfl rfl ?_
      refine jr.getf (i := 18) (v := .ref 607) rfl rfl (by decide) rfl (by decide) rfl rfl rfl rfl ?_
      refine jr.iload_n rfl rfl ?_
      obtain ⟨v3, e3⟩ : ∃ z, M 607 g = z := ⟨_, rfl⟩
      have b3 : 0 ≤ v3 ∧ v3 ≤ 11 := by rw [← e3]; exact (by have q := hI_M 607 g (by decide); rw [xri_row rfl rfl] at q; exact q)
      refine jr.iald (i := g) (x := v3) rfl (by decide) rfl (by decide) (by omega) (by omega) e3 ?_
      refine jr.iconst rfl ?_
      refine jr.icmp_ne rfl rfl (by omega) (by omega) (fun h283 => ?_) (fun h283 => ?_)
      · refine jr.aload_n rfl rfl ?_
        refine jr.getf (i := 4) (v := .ref 601) rfl rfl (by decide) rfl (by decide) rfl rfl rfl rfl ?_
        refine jr.sipush rfl (by decide) ?_
        refine jr.iload_n rfl rfl ?_
        refine jr.imul rfl ?_
        refine jr.aload_n rfl rfl ?_
        refine jr.getf (i := 31) (v := .ref 620) rfl rfl (by decide) rfl (by decide) rfl rfl rfl rfl ?_
        refine jr.iload_n rfl rfl ?_
        obtain ⟨v4, e4⟩ : ∃ z, M 620 g = z := ⟨_, rfl⟩
        have b4 : 0 ≤ v4 ∧ v4 ≤ 400 := by rw [← e4]; exact (by have q := hI_M 620 g (by decide); rw [xri_row rfl rfl] at q; exact q)
        refine jr.iald (i := g) (x := v4) rfl (by decide) rfl (by decide) (by omega) (by omega) e4 ?_
        refine jr.iadd rfl ?_
        refine jr.aload_n rfl rfl ?_
        refine jr.getf (i := 29) (v := .ref 618) rfl rfl (by decide) rfl (by decide) rfl rfl rfl rfl ?_
        refine jr.sipush rfl (by decide) ?_
        refine jr.iload_n rfl rfl ?_
        refine jr.imul rfl ?_
        refine jr.aload_n rfl rfl ?_
        refine jr.getf (i := 30) (v := .ref 619) rfl rfl (by decide) rfl (by decide) rfl rfl rfl rfl ?_
        refine jr.iload_n rfl rfl ?_
        obtain ⟨v5, e5⟩ : ∃ z, M 619 g = z := ⟨_, rfl⟩
        have b5 : 0 ≤ v5 ∧ v5 ≤ 400 := by rw [← e5]; exact (by have q := hI_M 619 g (by decide); rw [xri_row rfl rfl] at q; exact q)
        refine jr.iald (i := g) (x := v5) rfl (by decide) rfl (by decide) (by omega) (by omega) e5 ?_
        refine jr.iadd rfl ?_
        obtain ⟨v6, e6⟩ : ∃ z, M 618 ((400 * g) + v5) = z := ⟨_, rfl⟩
        have b6 : 0 ≤ v6 ∧ v6 ≤ 255 := by rw [← e6]; exact (by have q := hI_M 618 ((400 * g) + v5) (by decide); rw [xri_row rfl rfl] at q; exact q)
        refine jr.iald (i := ((400 * g) + v5)) (x := v6) rfl (by decide) rfl (by decide) (by omega) (by omega) e6 ?_
        refine jr.iast (i := ((400 * p) + v4)) (x := v6) rfl (by decide) rfl (by decide) (by omega) (by omega) ?_
        refine jr.aload_n rfl rfl ?_
        refine jr.iload_n rfl rfl ?_
        refine jr.iload rfl rfl ?_
        refine jr.iconst rfl ?_
        refine jr.iadd rfl ?_
        refine jr.aload_n rfl rfl ?_
        refine jr.getf (i := 3) (v := .ref 600) rfl rfl (by decide) rfl (by decide) rfl rfl rfl rfl ?_
        refine jr.iload_n rfl rfl ?_
        obtain ⟨v7, e7⟩ : ∃ z, M 600 p = z := ⟨_, rfl⟩
        have b7 : (-1) ≤ v7 ∧ v7 ≤ 400 := by rw [← e7]; exact (by have q := hI_M 600 p (by decide); rw [xri_row rfl rfl] at q; exact q)
        refine jr.iald (i := p) (x := v7) rfl (by decide) rfl (by decide) (by omega) (by omega) ((ju_c _ _ (by decide)).trans e7) ?_
        refine jr.iload rfl rfl ?_
        refine jr.isub rfl ?_
        refine jr.bipush rfl (by decide) ?_
        refine jr.isub rfl ?_
        refine jr_v rfl rfl (Or.inl rfl) rfl rfl (by decide) rfl ⟨rfl, Nat.le_of_ble_eq_true rfl, Nat.le_of_ble_eq_true rfl⟩ rfl (jc.deep (r_layTwo (RI.u hI_M (a := 601) (i := ((400 * p) + v4)) (by rw [xri_row rfl rfl]; show (0 : Int) ≤ _ ∧ _ ≤ (255 : Int); omega)) (RH.o hH_M (by decide) (by decide) (by decide)) (RF.o hS_M (by decide) (by decide)) (Kp.rfl _) (by omega) (by omega) (by omega)  (fun M8 hI_M8 hH_M8 hS_M8 ht_M8 w8_0 w8_1 => ?_)) (by decide))
        refine jr.aload_n rfl rfl ?_
        refine jr.getf (i := 17) (v := .ref 606) rfl rfl (by decide) rfl (by decide) rfl rfl rfl rfl ?_
        refine jr.iload_n rfl rfl ?_
        refine jr.iconst rfl ?_
        refine jr.zast (i := g) (x := 0) rfl (by decide) rfl (by decide) (by omega) (by omega) (j_zn (by omega)) ?_
        refine jr.iload_n rfl rfl ?_
        exact jr.ireturn rfl rfl rfl (q _ _ (RI.u hI_M8 (a := 606) (i := g) (by rw [xri_row rfl rfl]; show (0 : Int) ≤ _ ∧ _ ≤ (1 : Int); omega)) (RH.o hH_M8 (by decide) (by decide) (by decide)) (RF.o hS_M8 (by decide) (by decide))  (by omega) (RG1.off (RG1.kp (RG1.o hG1 rfl) ht_M8) _) (fun a i f600 f601 f602 f606 => ((ju_c _ _ f606).trans ((w8_1 a i f601).trans ((ju_c _ _ f601).trans (hF_M a i f600 f601 f602 f606))))))
      · refine jr.aload_n rfl rfl ?_
        refine jr.iload_n rfl rfl ?_
        refine jr.iload rfl rfl ?_
        refine jr.iconst rfl ?_
        refine jr.iadd rfl ?_
        refine jr.aload_n rfl rfl ?_
        refine jr.getf (i := 3) (v := .ref 600) rfl rfl (by decide) rfl (by decide) rfl rfl rfl rfl ?_
        refine jr.iload_n rfl rfl ?_
        obtain ⟨v9, e9⟩ : ∃ z, M 600 p = z := ⟨_, rfl⟩
        have b9 : (-1) ≤ v9 ∧ v9 ≤ 400 := by rw [← e9]; exact (by have q := hI_M 600 p (by decide); rw [xri_row rfl rfl] at q; exact q)
        refine jr.iald (i := p) (x := v9) rfl (by decide) rfl (by decide) (by omega) (by omega) e9 ?_
        refine jr.iload rfl rfl ?_
        refine jr.isub rfl ?_
        refine jr_v rfl rfl (Or.inl rfl) rfl rfl (by decide) rfl ⟨rfl, Nat.le_of_ble_eq_true rfl, Nat.le_of_ble_eq_true rfl⟩ rfl (jc.deep (r_layTwo hI_M hH_M hS_M (Kp.rfl _) (by omega) (by omega) (by omega)  (fun M10 hI_M10 hH_M10 hS_M10 ht_M10 w10_0 w10_1 => ?_)) (by decide))
        refine jr.aload_n rfl rfl ?_
        refine jr.iload_n rfl rfl ?_
        refine jr.iload rfl rfl ?_
        refine jr.bipush rfl (by decide) ?_
        refine jr.iadd rfl ?_
        refine jr.iconst rfl ?_
        refine jr_v rfl rfl (Or.inl rfl) rfl rfl (by decide) rfl ⟨rfl, Nat.le_of_ble_eq_true rfl, Nat.le_of_ble_eq_true rfl⟩ rfl (jc.deep (r_layTwo hI_M10 hH_M10 hS_M10 (Kp.rfl _) (by omega) (by omega) (by omega)  (fun M11 hI_M11 hH_M11 hS_M11 ht_M11 w11_0 w11_1 => ?_)) (by decide))
        refine jr.aload_n rfl rfl ?_
        refine jr.iload_n rfl rfl ?_
        refine jr.iload rfl rfl ?_
        refine jr.bipush rfl (by decide) ?_
        refine jr.iadd rfl ?_
        refine jr.aload_n rfl rfl ?_
        refine jr.iload_n rfl rfl ?_
        refine jr.iload rfl rfl ?_
        refine jr.iload rfl rfl ?_
        refine jr.iconst rfl ?_
        refine jr.aload_n rfl rfl ?_
        refine jr.iload_n rfl rfl ?_
        refine jr.iload rfl rfl ?_
        refine jr_v rfl rfl (Or.inl rfl) rfl rfl (by decide) rfl ⟨rfl, Nat.le_of_ble_eq_true rfl, Nat.le_of_ble_eq_true rfl⟩ rfl (jc.deep (r_one hI_M11 hH_M11 hS_M11 (Kp.rfl _) (by omega) (by omega)  (fun r12 z12 w12_0 => ?_)) (by decide))
        have zz := (hG1 g (by omega) hy1).2 hy2
        have zb := hb (by omega) (by omega)
        rw [e2] at zb zz
        have z1 := w11_0 (400 * p + v2) (by omega) (by omega)
        have z2 := w10_0 (400 * p + v2) (by omega) (by omega)
        refine jr.bipush rfl (by decide) ?_
        refine jr.iand rfl ?_
        have b13 : j_and r12 15 = r12 % 16 := j_and_mask 4 (by decide) (by omega) (by omega)
        generalize j_and r12 15 = v13 at b13 ⊢
        refine jr.imul rfl ?_
        refine jr.iadd rfl ?_
        refine jr.iload rfl rfl ?_
        refine jr.bipush rfl (by decide) ?_
        refine jr.iadd rfl ?_
        refine jr_v rfl rfl (Or.inl rfl) rfl rfl (by decide) rfl ⟨rfl, Nat.le_of_ble_eq_true rfl, Nat.le_of_ble_eq_true rfl⟩ rfl (jc.deep (r_added hI_M11 hH_M11 hS_M11 (Kp.rfl _) (by omega) (by omega) (by omega) (by omega)  (fun r14 z14  => ?_)) (by decide))
        refine jr_s rfl rfl (Or.inl rfl) ⟨Nat.le_of_ble_eq_true rfl, Nat.le_of_ble_eq_true rfl⟩ rfl rfl (jc.deep (r_turned hI_M11 hH_M11 hS_M11 (Kp.rfl _) (by omega)  (fun r15 z15  => ?_)) (by decide))
        refine jr_v rfl rfl (Or.inl rfl) rfl rfl (by decide) rfl ⟨rfl, Nat.le_of_ble_eq_true rfl, Nat.le_of_ble_eq_true rfl⟩ rfl (jc.deep (r_layTwo hI_M11 hH_M11 hS_M11 (Kp.rfl _) (by omega) (by omega) (by omega)  (fun M16 hI_M16 hH_M16 hS_M16 ht_M16 w16_0 w16_1 => ?_)) (by decide))
        refine jr.goto rfl rfl ?_
        refine jr.aload_n rfl rfl ?_
        refine jr.getf (i := 17) (v := .ref 606) rfl rfl (by decide) rfl (by decide) rfl rfl rfl rfl ?_
        refine jr.iload_n rfl rfl ?_
        refine jr.iconst rfl ?_
        refine jr.zast (i := g) (x := 0) rfl (by decide) rfl (by decide) (by omega) (by omega) (j_zn (by omega)) ?_
        refine jr.iload_n rfl rfl ?_
        exact jr.ireturn rfl rfl rfl (q _ _ (RI.u hI_M16 (a := 606) (i := g) (by rw [xri_row rfl rfl]; show (0 : Int) ≤ _ ∧ _ ≤ (1 : Int); omega)) (RH.o hH_M16 (by decide) (by decide) (by decide)) (RF.o hS_M16 (by decide) (by decide))  (by omega) (RG1.off (RG1.kp (RG1.kp (RG1.kp hG1 ht_M10) ht_M11) ht_M16) _) (fun a i f600 f601 f602 f606 => ((ju_c _ _ f606).trans ((w16_1 a i f601).trans ((w11_1 a i f601).trans ((w10_1 a i f601).trans (hF_M a i f600 f601 f602 f606)))))))
    · refine jr.aload_n rfl rfl ?_
      refine jr.getf (i := 4) (v := .ref 601) rfl rfl (by decide) rfl (by decide) rfl rfl rfl rfl ?_
      refine jr.sipush rfl (by decide) ?_
      refine jr.iload_n rfl rfl ?_
      refine jr.imul rfl ?_
      refine jr.iload rfl rfl ?_
      refine jr.iadd rfl ?_
      refine jr.iload rfl rfl ?_
      refine jr.iadd rfl ?_
      refine jr.aload_n rfl rfl ?_
      refine jr.getf (i := 26) (v := .ref 615) rfl rfl (by decide) rfl (by decide) rfl rfl rfl rfl ?_
      refine jr.sipush rfl (by decide) ?_
      refine jr.iload_n rfl rfl ?_
      refine jr.imul rfl ?_
      refine jr.iload rfl rfl ?_
      refine jr.iadd rfl ?_
      obtain ⟨v17, e17⟩ : ∃ z, M 615 ((360 * g) + k) = z := ⟨_, rfl⟩
      have b17 : 0 ≤ v17 ∧ v17 ≤ 255 := by rw [← e17]; exact (by have q := hI_M 615 ((360 * g) + k) (by decide); rw [xri_row rfl rfl] at q; exact q)
      refine jr.iald (i := ((360 * g) + k)) (x := v17) rfl (by decide) rfl (by decide) (by omega) (by omega) e17 ?_
      refine jr.iast (i := (((400 * p) + d) + k)) (x := v17) rfl (by decide) rfl (by decide) (by omega) (by omega) ?_
      refine jr.iinc rfl rfl (by decide) rfl ?_
      refine jr.goto rfl rfl ?_
      obtain ⟨v18, e18⟩ : ∃ z, M 606 g = z := ⟨_, rfl⟩
      have b18 : 0 ≤ v18 ∧ v18 ≤ 1 := by rw [← e18]; exact (by have q := hI_M 606 g (by decide); rw [xri_row rfl rfl] at q; exact q)
      obtain ⟨v19, e19⟩ : ∃ z, M 617 g = z := ⟨_, rfl⟩
      have b19 : (-1) ≤ v19 ∧ v19 ≤ 400 := by rw [← e19]; exact (by have q := hI_M 617 g (by decide); rw [xri_row rfl rfl] at q; exact q)
      obtain ⟨v20, e20⟩ : ∃ z, M 607 g = z := ⟨_, rfl⟩
      have b20 : 0 ≤ v20 ∧ v20 ≤ 11 := by rw [← e20]; exact (by have q := hI_M 607 g (by decide); rw [xri_row rfl rfl] at q; exact q)
      obtain ⟨v21, e21⟩ : ∃ z, M 600 p = z := ⟨_, rfl⟩
      have b21 : (-1) ≤ v21 ∧ v21 ≤ 400 := by rw [← e21]; exact (by have q := hI_M 600 p (by decide); rw [xri_row rfl rfl] at q; exact q)
      refine jr.pick [0, 1, 2, 3, 4] rfl rfl ?_
      exact ih (nM - 1) (by omega) (ju M 601 (((400 * p) + d) + k) v17) (k + 1) d p g (RI.u hI_M (a := 601) (i := (((400 * p) + d) + k)) (by rw [xri_row rfl rfl]; show (0 : Int) ≤ _ ∧ _ ≤ (255 : Int); omega)) (RH.o hH_M (by decide) (by decide) (by decide)) (RF.o hS_M (by decide) (by decide))  (fun a i f600 f601 f602 f606 => ((ju_c _ _ f601).trans (hF_M a i f600 f601 f602 f606))) (by omega) (by omega) (by omega) (by omega) (RG1.o hG1 rfl) (by rw [((ju_c _ _ (by decide)).trans e18)] <;> omega) (by rw [((ju_c _ _ (by decide)).trans e19)] <;> omega) (by rw [((ju_c _ _ (by decide)).trans e1)] <;> omega) (by rw [((ju_c _ _ (by decide)).trans e20), ((ju_c _ _ (by decide)).trans e19)] <;> omega) (by rw [((ju_c _ _ (by decide)).trans e1)] <;> omega) (by rw [((ju_c _ _ (by decide)).trans e21), ((ju_c _ _ (by decide)).trans e1)] <;> omega) (BF.w hb (fun q => by have z := (hG1 g (by omega) hy1).2 hy2; omega)) (by omega)
theorem r_finish_L180 {A : Nat → Option (Nat × (Nat → Int32))} {Q : Option Value → jm → Prop} {M0 : jm} (q : ∀ (r : Int) (M' : jm), RI M' → RH M' → RF M' → (-5) ≤ r ∧ r ≤ 23 → RG1 M' → (∀ (a : Nat) (i : Int), a ≠ 600 → a ≠ 601 → a ≠ 602 → a ≠ 606 → M' a i = M0 a i) → Q (some (.int (Int32.ofInt r))) M') : ∀ (nM : Nat) (M : jm) (k : Int) (d : Int) (p : Int) (g : Int), RI M → RH M → RF M → (∀ (a : Nat) (i : Int), a ≠ 600 → a ≠ 601 → a ≠ 602 → a ≠ 606 → M a i = M0 a i) → 0 ≤ k ∧ k ≤ 400 → 0 ≤ d ∧ d ≤ 400 → 0 ≤ p ∧ p ≤ 23 → 0 ≤ g ∧ g ≤ 7 → RG1 M → M 606 g ≠ 0 → M 617 g ≠ -1 → 0 ≤ M 614 g → ((M 607 g = 2 ∧ d = M 617 g) ∨ (M 607 g ≠ 2 ∧ d = M 617 g - 8)) → d + M 614 g ≤ 400 → M 600 p = d + M 614 g → BF M g p k → 400 - k ≤ nM → jr A 2 xm_296 180 [(5, .int (Int32.ofInt (k))), (4, .int (Int32.ofInt (d))), (3, .int (Int32.ofInt (p))), (1, .int (Int32.ofInt (g))), (0, .ref (598))] [] M Q := by
  intro nM
  induction nM using Nat.strongRecOn with
  | ind nM ih =>
    intro M k d p g hI_M hH_M hS_M hF_M h_k h_d h_p h_g hy0 hy1 hy2 hy3 hy4 hy5 hy6 hy7 hm
    have hG1 := hy0
    have hb := hy7
    have zg := (hG1 g (by omega) hy1).2 hy2
    refine jr.iload rfl rfl ?_
    refine jr.iload rfl rfl ?_
    refine jr.icmp_ge rfl rfl (by omega) (by omega) (fun h184 => ?_) (fun h184 => ?_)
    · refine jr.iconst rfl ?_
      refine jr.istore rfl (by decide) rfl ?_
      obtain ⟨v1, e1⟩ : ∃ z, M 606 g = z := ⟨_, rfl⟩
      have b1 : 0 ≤ v1 ∧ v1 ≤ 1 := by rw [← e1]; exact (by have q := hI_M 606 g (by decide); rw [xri_row rfl rfl] at q; exact q)
      obtain ⟨v2, e2⟩ : ∃ z, M 617 g = z := ⟨_, rfl⟩
      have b2 : (-1) ≤ v2 ∧ v2 ≤ 400 := by rw [← e2]; exact (by have q := hI_M 617 g (by decide); rw [xri_row rfl rfl] at q; exact q)
      obtain ⟨v3, e3⟩ : ∃ z, M 614 g = z := ⟨_, rfl⟩
      have b3 : (-1) ≤ v3 ∧ v3 ≤ 360 := by rw [← e3]; exact (by have q := hI_M 614 g (by decide); rw [xri_row rfl rfl] at q; exact q)
      obtain ⟨v4, e4⟩ : ∃ z, M 607 g = z := ⟨_, rfl⟩
      have b4 : 0 ≤ v4 ∧ v4 ≤ 11 := by rw [← e4]; exact (by have q := hI_M 607 g (by decide); rw [xri_row rfl rfl] at q; exact q)
      obtain ⟨v5, e5⟩ : ∃ z, M 600 p = z := ⟨_, rfl⟩
      have b5 : (-1) ≤ v5 ∧ v5 ≤ 400 := by rw [← e5]; exact (by have q := hI_M 600 p (by decide); rw [xri_row rfl rfl] at q; exact q)
      refine jr.pick [0, 1, 2, 3, 4] rfl rfl ?_
      exact r_finish_L222 q 360 M 0 d p g hI_M hH_M hS_M  (fun a i f600 f601 f602 f606 => (hF_M a i f600 f601 f602 f606)) (by omega) (by omega) (by omega) (by omega) hG1 (by rw [e1] <;> omega) (by rw [e2] <;> omega) (by rw [e3] <;> omega) (by rw [e4, e2] <;> omega) (by rw [e3] <;> omega) (by rw [e5, e3] <;> omega) (fun a b => hb a (by omega)) (by omega)
    · refine jr.aload_n rfl rfl ?_
      refine jr.getf (i := 4) (v := .ref 601) rfl rfl (by decide) rfl (by decide) rfl rfl rfl rfl ?_
      refine jr.sipush rfl (by decide) ?_
      refine jr.iload_n rfl rfl ?_
      refine jr.imul rfl ?_
      refine jr.iload rfl rfl ?_
      refine jr.iadd rfl ?_
      refine jr.aload_n rfl rfl ?_
      refine jr.getf (i := 29) (v := .ref 618) rfl rfl (by decide) rfl (by decide) rfl rfl rfl rfl ?_
      refine jr.sipush rfl (by decide) ?_
      refine jr.iload_n rfl rfl ?_
      refine jr.imul rfl ?_
      refine jr.iload rfl rfl ?_
      refine jr.iadd rfl ?_
      obtain ⟨v6, e6⟩ : ∃ z, M 618 ((400 * g) + k) = z := ⟨_, rfl⟩
      have b6 : 0 ≤ v6 ∧ v6 ≤ 255 := by rw [← e6]; exact (by have q := hI_M 618 ((400 * g) + k) (by decide); rw [xri_row rfl rfl] at q; exact q)
      refine jr.iald (i := ((400 * g) + k)) (x := v6) rfl (by decide) rfl (by decide) (by omega) (by omega) e6 ?_
      refine jr.iast (i := ((400 * p) + k)) (x := v6) rfl (by decide) rfl (by decide) (by omega) (by omega) ?_
      refine jr.iinc rfl rfl (by decide) rfl ?_
      refine jr.goto rfl rfl ?_
      obtain ⟨v7, e7⟩ : ∃ z, M 606 g = z := ⟨_, rfl⟩
      have b7 : 0 ≤ v7 ∧ v7 ≤ 1 := by rw [← e7]; exact (by have q := hI_M 606 g (by decide); rw [xri_row rfl rfl] at q; exact q)
      obtain ⟨v8, e8⟩ : ∃ z, M 617 g = z := ⟨_, rfl⟩
      have b8 : (-1) ≤ v8 ∧ v8 ≤ 400 := by rw [← e8]; exact (by have q := hI_M 617 g (by decide); rw [xri_row rfl rfl] at q; exact q)
      obtain ⟨v9, e9⟩ : ∃ z, M 614 g = z := ⟨_, rfl⟩
      have b9 : (-1) ≤ v9 ∧ v9 ≤ 360 := by rw [← e9]; exact (by have q := hI_M 614 g (by decide); rw [xri_row rfl rfl] at q; exact q)
      obtain ⟨v10, e10⟩ : ∃ z, M 607 g = z := ⟨_, rfl⟩
      have b10 : 0 ≤ v10 ∧ v10 ≤ 11 := by rw [← e10]; exact (by have q := hI_M 607 g (by decide); rw [xri_row rfl rfl] at q; exact q)
      obtain ⟨v11, e11⟩ : ∃ z, M 600 p = z := ⟨_, rfl⟩
      have b11 : (-1) ≤ v11 ∧ v11 ≤ 400 := by rw [← e11]; exact (by have q := hI_M 600 p (by decide); rw [xri_row rfl rfl] at q; exact q)
      refine jr.pick [0, 1, 2, 3, 4] rfl rfl ?_
      exact ih (nM - 1) (by omega) (ju M 601 ((400 * p) + k) v6) (k + 1) d p g (RI.u hI_M (a := 601) (i := ((400 * p) + k)) (by rw [xri_row rfl rfl]; show (0 : Int) ≤ _ ∧ _ ≤ (255 : Int); omega)) (RH.o hH_M (by decide) (by decide) (by decide)) (RF.o hS_M (by decide) (by decide))  (fun a i f600 f601 f602 f606 => ((ju_c _ _ f601).trans (hF_M a i f600 f601 f602 f606))) (by omega) (by omega) (by omega) (by omega) (RG1.o hG1 rfl) (by rw [((ju_c _ _ (by decide)).trans e7)] <;> omega) (by rw [((ju_c _ _ (by decide)).trans e8)] <;> omega) (by rw [((ju_c _ _ (by decide)).trans e9)] <;> omega) (by rw [((ju_c _ _ (by decide)).trans e10), ((ju_c _ _ (by decide)).trans e8)] <;> omega) (by rw [((ju_c _ _ (by decide)).trans e9)] <;> omega) (by rw [((ju_c _ _ (by decide)).trans e11), ((ju_c _ _ (by decide)).trans e9)] <;> omega) (BF.step hb e6) (by omega)
theorem r_finish_L73 {A : Nat → Option (Nat × (Nat → Int32))} {Q : Option Value → jm → Prop} {M0 : jm} (q : ∀ (r : Int) (M' : jm), RI M' → RH M' → RF M' → (-5) ≤ r ∧ r ≤ 23 → RG1 M' → (∀ (a : Nat) (i : Int), a ≠ 600 → a ≠ 601 → a ≠ 602 → a ≠ 606 → M' a i = M0 a i) → Q (some (.int (Int32.ofInt r))) M') : ∀ (nM : Nat) (M : jm) (k : Int) (p : Int) (g : Int), RI M → RH M → RF M → (∀ (a : Nat) (i : Int), a ≠ 600 → a ≠ 601 → a ≠ 602 → a ≠ 606 → M a i = M0 a i) → (-1) ≤ k ∧ k ≤ 23 → (-1) ≤ p ∧ p ≤ 23 → 0 ≤ g ∧ g ≤ 7 → RG1 M → M 606 g ≠ 0 → M 617 g ≠ -1 → 0 ≤ M 614 g → k + 1 ≤ nM → jr A 2 xm_296 73 [(4, .int (Int32.ofInt (k))), (3, .int (Int32.ofInt (p))), (1, .int (Int32.ofInt (g))), (0, .ref (598))] [] M Q := by
  intro nM
  induction nM using Nat.strongRecOn with
  | ind nM ih =>
    intro M k p g hI_M hH_M hS_M hF_M h_k h_p h_g hy0 hy1 hy2 hy3 hm
    have hG1 := hy0
    have zg := (hG1 g (by omega) hy1).2 hy2
    have nt : (0 : Int) ≤ M 621 g ∧ M 621 g ≤ 400 := by have q := hI_M 621 g (by decide); rw [xri_row rfl rfl] at q; exact q
    refine jr.iload rfl rfl ?_
    refine jr.if_lt rfl rfl (by omega) (fun h75 => ?_) (fun h75 => ?_)
    · refine jr.aload_n rfl rfl ?_
      refine jr.getf (i := 18) (v := .ref 607) rfl rfl (by decide) rfl (by decide) rfl rfl rfl rfl ?_
      refine jr.iload_n rfl rfl ?_
      obtain ⟨v1, e1⟩ : ∃ z, M 607 g = z := ⟨_, rfl⟩
      have b1 : 0 ≤ v1 ∧ v1 ≤ 11 := by rw [← e1]; exact (by have q := hI_M 607 g (by decide); rw [xri_row rfl rfl] at q; exact q)
      refine jr.iald (i := g) (x := v1) rfl (by decide) rfl (by decide) (by omega) (by omega) e1 ?_
      refine jr.iconst rfl ?_
      refine jr.icmp_ne rfl rfl (by omega) (by omega) (fun h109 => ?_) (fun h109 => ?_)
      · refine jr.aload_n rfl rfl ?_
        refine jr.getf (i := 28) (v := .ref 617) rfl rfl (by decide) rfl (by decide) rfl rfl rfl rfl ?_
        refine jr.iload_n rfl rfl ?_
        obtain ⟨v2, e2⟩ : ∃ z, M 617 g = z := ⟨_, rfl⟩
        have b2 : (-1) ≤ v2 ∧ v2 ≤ 400 := by rw [← e2]; exact (by have q := hI_M 617 g (by decide); rw [xri_row rfl rfl] at q; exact q)
        refine jr.iald (i := g) (x := v2) rfl (by decide) rfl (by decide) (by omega) (by omega) e2 ?_
        refine jr.bipush rfl (by decide) ?_
        refine jr.isub rfl ?_
        refine jr.istore rfl (by decide) rfl ?_
        refine jr.iload_n rfl rfl ?_
        refine jr.iconst rfl ?_
        refine jr.icmp_eq rfl rfl (by omega) (by omega) (fun h134 => ?_) (fun h134 => ?_)
        · refine jr.bipush rfl (by decide) ?_
          exact jr.ireturn rfl rfl rfl (q _ _ hI_M hH_M hS_M  (by omega) hG1 (fun a i f600 f601 f602 f606 => (hF_M a i f600 f601 f602 f606)))
        · refine jr.iload rfl rfl ?_
          refine jr.aload_n rfl rfl ?_
          refine jr.getf (i := 25) (v := .ref 614) rfl rfl (by decide) rfl (by decide) rfl rfl rfl rfl ?_
          refine jr.iload_n rfl rfl ?_
          obtain ⟨v3, e3⟩ : ∃ z, M 614 g = z := ⟨_, rfl⟩
          have b3 : (-1) ≤ v3 ∧ v3 ≤ 360 := by rw [← e3]; exact (by have q := hI_M 614 g (by decide); rw [xri_row rfl rfl] at q; exact q)
          refine jr.iald (i := g) (x := v3) rfl (by decide) rfl (by decide) (by omega) (by omega) e3 ?_
          refine jr.iadd rfl ?_
          refine jr.sipush rfl (by decide) ?_
          refine jr.icmp_le rfl rfl (by omega) (by omega) (fun h149 => ?_) (fun h149 => ?_)
          · refine jr.aload_n rfl rfl ?_
            refine jr.getf (i := 3) (v := .ref 600) rfl rfl (by decide) rfl (by decide) rfl rfl rfl rfl ?_
            refine jr.iload_n rfl rfl ?_
            refine jr.iload rfl rfl ?_
            refine jr.aload_n rfl rfl ?_
            refine jr.getf (i := 25) (v := .ref 614) rfl rfl (by decide) rfl (by decide) rfl rfl rfl rfl ?_
            refine jr.iload_n rfl rfl ?_
            refine jr.iald (i := g) (x := v3) rfl (by decide) rfl (by decide) (by omega) (by omega) e3 ?_
            refine jr.iadd rfl ?_
            refine jr.iast (i := p) (x := ((v2 - 8) + v3)) rfl (by decide) rfl (by decide) (by omega) (by omega) ?_
            refine jr.aload_n rfl rfl ?_
            refine jr.getf (i := 5) (v := .ref 602) rfl rfl (by decide) rfl (by decide) rfl rfl rfl rfl ?_
            refine jr.iload_n rfl rfl ?_
            refine jr.lconst (x := 0) rfl (by decide) ?_
            refine jr.last (i := p) (x := 0) rfl (by decide) rfl (by decide) (by omega) (by omega) ?_
            refine jr.iconst rfl ?_
            refine jr.istore rfl (by decide) rfl ?_
            obtain ⟨v4, e4⟩ : ∃ z, M 606 g = z := ⟨_, rfl⟩
            have b4 : 0 ≤ v4 ∧ v4 ≤ 1 := by rw [← e4]; exact (by have q := hI_M 606 g (by decide); rw [xri_row rfl rfl] at q; exact q)
            refine jr.pick [0, 1, 2, 3, 4] rfl rfl ?_
            exact r_finish_L180 q 400 (ju (ju M 600 p ((v2 - 8) + v3)) 602 p 0) 0 (v2 - 8) p g (RI.u (RI.u hI_M (a := 600) (i := p) (by rw [xri_row rfl rfl]; show (-1 : Int) ≤ _ ∧ _ ≤ (400 : Int); omega)) (a := 602) (i := p) (by rw [xri_row rfl rfl]; show (-9223372036854775808 : Int) ≤ _ ∧ _ ≤ (9223372036854775807 : Int); omega)) (RH.o (RH.o hH_M (by decide) (by decide) (by decide)) (by decide) (by decide) (by decide)) (RF.o (RF.o hS_M (by decide) (by decide)) (by decide) (by decide))  (fun a i f600 f601 f602 f606 => ((ju_c _ _ f602).trans ((ju_c _ _ f600).trans (hF_M a i f600 f601 f602 f606)))) (by omega) (by omega) (by omega) (by omega) (RG1.o (RG1.o hG1 rfl) rfl) (by rw [((ju_c _ _ (by decide)).trans ((ju_c _ _ (by decide)).trans e4))] <;> omega) (by rw [((ju_c _ _ (by decide)).trans ((ju_c _ _ (by decide)).trans e2))] <;> omega) (by rw [((ju_c _ _ (by decide)).trans ((ju_c _ _ (by decide)).trans e3))] <;> omega) (by rw [((ju_c _ _ (by decide)).trans ((ju_c _ _ (by decide)).trans e1)), ((ju_c _ _ (by decide)).trans ((ju_c _ _ (by decide)).trans e2))] <;> omega) (by rw [((ju_c _ _ (by decide)).trans ((ju_c _ _ (by decide)).trans e3))] <;> omega) (by rw [((ju_c _ _ (by decide)).trans (ju_same _ _ _ _)), ((ju_c _ _ (by decide)).trans ((ju_c _ _ (by decide)).trans e3))] <;> omega) (fun _ q => by exfalso; rw [ju_c _ _ (by decide), ju_c _ _ (by decide)] at q; omega) (by omega)
          · refine jr.bipush rfl (by decide) ?_
            exact jr.ireturn rfl rfl rfl (q _ _ hI_M hH_M hS_M  (by omega) hG1 (fun a i f600 f601 f602 f606 => (hF_M a i f600 f601 f602 f606)))
      · refine jr.aload_n rfl rfl ?_
        refine jr.getf (i := 28) (v := .ref 617) rfl rfl (by decide) rfl (by decide) rfl rfl rfl rfl ?_
        refine jr.iload_n rfl rfl ?_
        obtain ⟨v5, e5⟩ : ∃ z, M 617 g = z := ⟨_, rfl⟩
        have b5 : (-1) ≤ v5 ∧ v5 ≤ 400 := by rw [← e5]; exact (by have q := hI_M 617 g (by decide); rw [xri_row rfl rfl] at q; exact q)
        refine jr.iald (i := g) (x := v5) rfl (by decide) rfl (by decide) (by omega) (by omega) e5 ?_
        refine jr.goto rfl rfl ?_
        refine jr.istore rfl (by decide) rfl ?_
        refine jr.iload_n rfl rfl ?_
        refine jr.iconst rfl ?_
        refine jr.icmp_eq rfl rfl (by omega) (by omega) (fun h134 => ?_) (fun h134 => ?_)
        · refine jr.bipush rfl (by decide) ?_
          exact jr.ireturn rfl rfl rfl (q _ _ hI_M hH_M hS_M  (by omega) hG1 (fun a i f600 f601 f602 f606 => (hF_M a i f600 f601 f602 f606)))
        · refine jr.iload rfl rfl ?_
          refine jr.aload_n rfl rfl ?_
          refine jr.getf (i := 25) (v := .ref 614) rfl rfl (by decide) rfl (by decide) rfl rfl rfl rfl ?_
          refine jr.iload_n rfl rfl ?_
          obtain ⟨v6, e6⟩ : ∃ z, M 614 g = z := ⟨_, rfl⟩
          have b6 : (-1) ≤ v6 ∧ v6 ≤ 360 := by rw [← e6]; exact (by have q := hI_M 614 g (by decide); rw [xri_row rfl rfl] at q; exact q)
          refine jr.iald (i := g) (x := v6) rfl (by decide) rfl (by decide) (by omega) (by omega) e6 ?_
          refine jr.iadd rfl ?_
          refine jr.sipush rfl (by decide) ?_
          refine jr.icmp_le rfl rfl (by omega) (by omega) (fun h149 => ?_) (fun h149 => ?_)
          · refine jr.aload_n rfl rfl ?_
            refine jr.getf (i := 3) (v := .ref 600) rfl rfl (by decide) rfl (by decide) rfl rfl rfl rfl ?_
            refine jr.iload_n rfl rfl ?_
            refine jr.iload rfl rfl ?_
            refine jr.aload_n rfl rfl ?_
            refine jr.getf (i := 25) (v := .ref 614) rfl rfl (by decide) rfl (by decide) rfl rfl rfl rfl ?_
            refine jr.iload_n rfl rfl ?_
            refine jr.iald (i := g) (x := v6) rfl (by decide) rfl (by decide) (by omega) (by omega) e6 ?_
            refine jr.iadd rfl ?_
            refine jr.iast (i := p) (x := (v5 + v6)) rfl (by decide) rfl (by decide) (by omega) (by omega) ?_
            refine jr.aload_n rfl rfl ?_
            refine jr.getf (i := 5) (v := .ref 602) rfl rfl (by decide) rfl (by decide) rfl rfl rfl rfl ?_
            refine jr.iload_n rfl rfl ?_
            refine jr.lconst (x := 0) rfl (by decide) ?_
            refine jr.last (i := p) (x := 0) rfl (by decide) rfl (by decide) (by omega) (by omega) ?_
            refine jr.iconst rfl ?_
            refine jr.istore rfl (by decide) rfl ?_
            obtain ⟨v7, e7⟩ : ∃ z, M 606 g = z := ⟨_, rfl⟩
            have b7 : 0 ≤ v7 ∧ v7 ≤ 1 := by rw [← e7]; exact (by have q := hI_M 606 g (by decide); rw [xri_row rfl rfl] at q; exact q)
            refine jr.pick [0, 1, 2, 3, 4] rfl rfl ?_
            exact r_finish_L180 q 400 (ju (ju M 600 p (v5 + v6)) 602 p 0) 0 v5 p g (RI.u (RI.u hI_M (a := 600) (i := p) (by rw [xri_row rfl rfl]; show (-1 : Int) ≤ _ ∧ _ ≤ (400 : Int); omega)) (a := 602) (i := p) (by rw [xri_row rfl rfl]; show (-9223372036854775808 : Int) ≤ _ ∧ _ ≤ (9223372036854775807 : Int); omega)) (RH.o (RH.o hH_M (by decide) (by decide) (by decide)) (by decide) (by decide) (by decide)) (RF.o (RF.o hS_M (by decide) (by decide)) (by decide) (by decide))  (fun a i f600 f601 f602 f606 => ((ju_c _ _ f602).trans ((ju_c _ _ f600).trans (hF_M a i f600 f601 f602 f606)))) (by omega) (by omega) (by omega) (by omega) (RG1.o (RG1.o hG1 rfl) rfl) (by rw [((ju_c _ _ (by decide)).trans ((ju_c _ _ (by decide)).trans e7))] <;> omega) (by rw [((ju_c _ _ (by decide)).trans ((ju_c _ _ (by decide)).trans e5))] <;> omega) (by rw [((ju_c _ _ (by decide)).trans ((ju_c _ _ (by decide)).trans e6))] <;> omega) (by rw [((ju_c _ _ (by decide)).trans ((ju_c _ _ (by decide)).trans e1)), ((ju_c _ _ (by decide)).trans ((ju_c _ _ (by decide)).trans e5))] <;> omega) (by rw [((ju_c _ _ (by decide)).trans ((ju_c _ _ (by decide)).trans e6))] <;> omega) (by rw [((ju_c _ _ (by decide)).trans (ju_same _ _ _ _)), ((ju_c _ _ (by decide)).trans ((ju_c _ _ (by decide)).trans e6))] <;> omega) (fun _ q => by exfalso; rw [ju_c _ _ (by decide), ju_c _ _ (by decide)] at q; omega) (by omega)
          · refine jr.bipush rfl (by decide) ?_
            exact jr.ireturn rfl rfl rfl (q _ _ hI_M hH_M hS_M  (by omega) hG1 (fun a i f600 f601 f602 f606 => (hF_M a i f600 f601 f602 f606)))
    · refine jr.aload_n rfl rfl ?_
      refine jr.getf (i := 3) (v := .ref 600) rfl rfl (by decide) rfl (by decide) rfl rfl rfl rfl ?_
      refine jr.iload rfl rfl ?_
      obtain ⟨v8, e8⟩ : ∃ z, M 600 k = z := ⟨_, rfl⟩
      have b8 : (-1) ≤ v8 ∧ v8 ≤ 400 := by rw [← e8]; exact (by have q := hI_M 600 k (by decide); rw [xri_row rfl rfl] at q; exact q)
      refine jr.iald (i := k) (x := v8) rfl (by decide) rfl (by decide) (by omega) (by omega) e8 ?_
      refine jr.iconst rfl ?_
      refine jr.icmp_ne rfl rfl (by omega) (by omega) (fun h86 => ?_) (fun h86 => ?_)
      · refine jr.iload_n rfl rfl ?_
        refine jr.istore_n rfl (by decide) rfl ?_
        refine jr.iinc rfl rfl (by decide) rfl ?_
        refine jr.goto rfl rfl ?_
        obtain ⟨v9, e9⟩ : ∃ z, M 606 g = z := ⟨_, rfl⟩
        have b9 : 0 ≤ v9 ∧ v9 ≤ 1 := by rw [← e9]; exact (by have q := hI_M 606 g (by decide); rw [xri_row rfl rfl] at q; exact q)
        obtain ⟨v10, e10⟩ : ∃ z, M 617 g = z := ⟨_, rfl⟩
        have b10 : (-1) ≤ v10 ∧ v10 ≤ 400 := by rw [← e10]; exact (by have q := hI_M 617 g (by decide); rw [xri_row rfl rfl] at q; exact q)
        obtain ⟨v11, e11⟩ : ∃ z, M 614 g = z := ⟨_, rfl⟩
        have b11 : (-1) ≤ v11 ∧ v11 ≤ 360 := by rw [← e11]; exact (by have q := hI_M 614 g (by decide); rw [xri_row rfl rfl] at q; exact q)
        refine jr.pick [0, 1, 2, 3] rfl rfl ?_
        exact ih (nM - 1) (by omega) M (k + (-1)) p g hI_M hH_M hS_M  (fun a i f600 f601 f602 f606 => (hF_M a i f600 f601 f602 f606)) (by omega) (by omega) (by omega) hG1 (by rw [e9] <;> omega) (by rw [e10] <;> omega) (by rw [e11] <;> omega) (by omega)
      · refine jr.iload rfl rfl ?_
        refine jr.goto rfl rfl ?_
        refine jr.istore_n rfl (by decide) rfl ?_
        refine jr.iinc rfl rfl (by decide) rfl ?_
        refine jr.goto rfl rfl ?_
        obtain ⟨v12, e12⟩ : ∃ z, M 606 g = z := ⟨_, rfl⟩
        have b12 : 0 ≤ v12 ∧ v12 ≤ 1 := by rw [← e12]; exact (by have q := hI_M 606 g (by decide); rw [xri_row rfl rfl] at q; exact q)
        obtain ⟨v13, e13⟩ : ∃ z, M 617 g = z := ⟨_, rfl⟩
        have b13 : (-1) ≤ v13 ∧ v13 ≤ 400 := by rw [← e13]; exact (by have q := hI_M 617 g (by decide); rw [xri_row rfl rfl] at q; exact q)
        obtain ⟨v14, e14⟩ : ∃ z, M 614 g = z := ⟨_, rfl⟩
        have b14 : (-1) ≤ v14 ∧ v14 ≤ 360 := by rw [← e14]; exact (by have q := hI_M 614 g (by decide); rw [xri_row rfl rfl] at q; exact q)
        refine jr.pick [0, 1, 2, 3] rfl rfl ?_
        exact ih (nM - 1) (by omega) M (k + (-1)) k g hI_M hH_M hS_M  (fun a i f600 f601 f602 f606 => (hF_M a i f600 f601 f602 f606)) (by omega) (by omega) (by omega) hG1 (by rw [e12] <;> omega) (by rw [e13] <;> omega) (by rw [e14] <;> omega) (by omega)
theorem r_finish_L28 {A : Nat → Option (Nat × (Nat → Int32))} {Q : Option Value → jm → Prop} {M0 : jm} (q : ∀ (r : Int) (M' : jm), RI M' → RH M' → RF M' → (-5) ≤ r ∧ r ≤ 23 → RG1 M' → (∀ (a : Nat) (i : Int), a ≠ 600 → a ≠ 601 → a ≠ 602 → a ≠ 606 → M' a i = M0 a i) → Q (some (.int (Int32.ofInt r))) M') : ∀ (nM : Nat) (M : jm) (k : Int) (w : Int) (g : Int), RI M → RH M → RF M → (∀ (a : Nat) (i : Int), a ≠ 600 → a ≠ 601 → a ≠ 602 → a ≠ 606 → M a i = M0 a i) → 0 ≤ k ∧ k ≤ 360 → 0 ≤ w ∧ w ≤ 1 → 0 ≤ g ∧ g ≤ 7 → RG1 M → M 606 g ≠ 0 → (w = 1 → M 614 g ≠ -1 ∧ M 617 g ≠ -1) → 360 - k ≤ nM → jr A 2 xm_296 28 [(3, .int (Int32.ofInt (k))), (2, .int (Int32.ofInt (w))), (1, .int (Int32.ofInt (g))), (0, .ref (598))] [] M Q := by
  intro nM
  induction nM using Nat.strongRecOn with
  | ind nM ih =>
    intro M k w g hI_M hH_M hS_M hF_M h_k h_w h_g hy0 hy1 hy2 hm
    have hG1 := hy0
    refine jr.iload_n rfl rfl ?_
    refine jr.if_eq rfl rfl (by omega) (fun h29 => ?_) (fun h29 => ?_)
    · refine jr.iload_n rfl rfl ?_
      refine jr.if_ne rfl rfl (by omega) (fun h62 => ?_) (fun h62 => ?_)
      · exact absurd h62 (by omega)
      · refine jr.iconst rfl ?_
        exact jr.ireturn rfl rfl rfl (q _ _ hI_M hH_M hS_M  (by omega) hG1 (fun a i f600 f601 f602 f606 => (hF_M a i f600 f601 f602 f606)))
    · refine jr.iload_n rfl rfl ?_
      refine jr.aload_n rfl rfl ?_
      refine jr.getf (i := 25) (v := .ref 614) rfl rfl (by decide) rfl (by decide) rfl rfl rfl rfl ?_
      refine jr.iload_n rfl rfl ?_
      obtain ⟨v1, e1⟩ : ∃ z, M 614 g = z := ⟨_, rfl⟩
      have b1 : (-1) ≤ v1 ∧ v1 ≤ 360 := by rw [← e1]; exact (by have q := hI_M 614 g (by decide); rw [xri_row rfl rfl] at q; exact q)
      refine jr.iald (i := g) (x := v1) rfl (by decide) rfl (by decide) (by omega) (by omega) e1 ?_
      refine jr.icmp_ge rfl rfl (by omega) (by omega) (fun h39 => ?_) (fun h39 => ?_)
      · refine jr.iload_n rfl rfl ?_
        refine jr.if_ne rfl rfl (by omega) (fun h62 => ?_) (fun h62 => ?_)
        · refine jr.iconst rfl ?_
          refine jr.istore_n rfl (by decide) rfl ?_
          refine jr.bipush rfl (by decide) ?_
          refine jr.istore rfl (by decide) rfl ?_
          obtain ⟨v2, e2⟩ : ∃ z, M 606 g = z := ⟨_, rfl⟩
          have b2 : 0 ≤ v2 ∧ v2 ≤ 1 := by rw [← e2]; exact (by have q := hI_M 606 g (by decide); rw [xri_row rfl rfl] at q; exact q)
          obtain ⟨v3, e3⟩ : ∃ z, M 617 g = z := ⟨_, rfl⟩
          have b3 : (-1) ≤ v3 ∧ v3 ≤ 400 := by rw [← e3]; exact (by have q := hI_M 617 g (by decide); rw [xri_row rfl rfl] at q; exact q)
          refine jr.pick [0, 1, 3, 4] rfl rfl ?_
          exact r_finish_L73 q 24 M 23 (-1) g hI_M hH_M hS_M  (fun a i f600 f601 f602 f606 => (hF_M a i f600 f601 f602 f606)) (by omega) (by omega) (by omega) hG1 (by rw [e2] <;> omega) (by rw [e3] <;> omega) (by rw [e1] <;> omega) (by omega)
        · exact absurd (by omega) h62
      · refine jr.aload_n rfl rfl ?_
        refine jr.getf (i := 27) (v := .ref 616) rfl rfl (by decide) rfl (by decide) rfl rfl rfl rfl ?_
        refine jr.sipush rfl (by decide) ?_
        refine jr.iload_n rfl rfl ?_
        refine jr.imul rfl ?_
        refine jr.iload_n rfl rfl ?_
        refine jr.iadd rfl ?_
        obtain ⟨v4, e4⟩ : ∃ z, M 616 ((360 * g) + k) = z := ⟨_, rfl⟩
        have b4 : 0 ≤ v4 ∧ v4 ≤ 1 := by rw [← e4]; exact (by have q := hI_M 616 ((360 * g) + k) (by decide); rw [xri_row rfl rfl] at q; exact q)
        refine jr.zald (i := ((360 * g) + k)) (x := v4) rfl (by decide) rfl (by decide) (by omega) (by omega) e4 ?_
        refine jr.istore_n rfl (by decide) rfl ?_
        refine jr.iinc rfl rfl (by decide) rfl ?_
        refine jr.goto rfl rfl ?_
        obtain ⟨v5, e5⟩ : ∃ z, M 606 g = z := ⟨_, rfl⟩
        have b5 : 0 ≤ v5 ∧ v5 ≤ 1 := by rw [← e5]; exact (by have q := hI_M 606 g (by decide); rw [xri_row rfl rfl] at q; exact q)
        refine jr.pick [0, 1, 2, 3] rfl rfl ?_
        exact ih (nM - 1) (by omega) M (k + 1) v4 g hI_M hH_M hS_M  (fun a i f600 f601 f602 f606 => (hF_M a i f600 f601 f602 f606)) (by omega) (by omega) (by omega) hG1 (by rw [e5] <;> omega) (by omega) (by omega)
theorem r_finish {A : Nat → Option (Nat × (Nat → Int32))} {Q : Option Value → jm → Prop} {M : jm} (hI_M : RI M) (hH_M : RH M) (hS_M : RF M) {g : Int} (h_g : 0 ≤ g ∧ g ≤ 7) (p0 : RG1 M) (p1 : M 606 g ≠ 0) (q : ∀ (r : Int) (M' : jm), RI M' → RH M' → RF M' → (-5) ≤ r ∧ r ≤ 23 → RG1 M' → (∀ (a : Nat) (i : Int), a ≠ 600 → a ≠ 601 → a ≠ 602 → a ≠ 606 → M' a i = M a i) → Q (some (.int (Int32.ofInt r))) M') : jc A 3 296 [.ref (598), .int (Int32.ofInt (g))] M Q := by
  have hG1 := p0
  refine jc_of (m := xm_296) rfl (Nat.le_of_ble_eq_true rfl) rfl ?_
  refine jr.aload_n rfl rfl ?_
  refine jr.getf (i := 25) (v := .ref 614) rfl rfl (by decide) rfl (by decide) rfl rfl rfl rfl ?_
  refine jr.iload_n rfl rfl ?_
  obtain ⟨v1, e1⟩ : ∃ z, M 614 g = z := ⟨_, rfl⟩
  have b1 : (-1) ≤ v1 ∧ v1 ≤ 360 := by rw [← e1]; exact (by have q := hI_M 614 g (by decide); rw [xri_row rfl rfl] at q; exact q)
  refine jr.iald (i := g) (x := v1) rfl (by decide) rfl (by decide) (by omega) (by omega) e1 ?_
  refine jr.iconst rfl ?_
  refine jr.icmp_eq rfl rfl (by omega) (by omega) (fun h7 => ?_) (fun h7 => ?_)
  · refine jr.iconst rfl ?_
    refine jr.istore_n rfl (by decide) rfl ?_
    refine jr.iconst rfl ?_
    refine jr.istore_n rfl (by decide) rfl ?_
    obtain ⟨v2, e2⟩ : ∃ z, M 606 g = z := ⟨_, rfl⟩
    have b2 : 0 ≤ v2 ∧ v2 ≤ 1 := by rw [← e2]; exact (by have q := hI_M 606 g (by decide); rw [xri_row rfl rfl] at q; exact q)
    refine jr.pick [0, 1, 3, 2] rfl rfl ?_
    exact r_finish_L28 q 360 M 0 0 g hI_M hH_M hS_M  (fun a i f600 f601 f602 f606 => rfl) (by omega) (by omega) (by omega) hG1 (by rw [e2] <;> omega) (by omega) (by omega)
  · refine jr.aload_n rfl rfl ?_
    refine jr.getf (i := 28) (v := .ref 617) rfl rfl (by decide) rfl (by decide) rfl rfl rfl rfl ?_
    refine jr.iload_n rfl rfl ?_
    obtain ⟨v3, e3⟩ : ∃ z, M 617 g = z := ⟨_, rfl⟩
    have b3 : (-1) ≤ v3 ∧ v3 ≤ 400 := by rw [← e3]; exact (by have q := hI_M 617 g (by decide); rw [xri_row rfl rfl] at q; exact q)
    refine jr.iald (i := g) (x := v3) rfl (by decide) rfl (by decide) (by omega) (by omega) e3 ?_
    refine jr.iconst rfl ?_
    refine jr.icmp_eq rfl rfl (by omega) (by omega) (fun h17 => ?_) (fun h17 => ?_)
    · refine jr.iconst rfl ?_
      refine jr.istore_n rfl (by decide) rfl ?_
      refine jr.iconst rfl ?_
      refine jr.istore_n rfl (by decide) rfl ?_
      obtain ⟨v4, e4⟩ : ∃ z, M 606 g = z := ⟨_, rfl⟩
      have b4 : 0 ≤ v4 ∧ v4 ≤ 1 := by rw [← e4]; exact (by have q := hI_M 606 g (by decide); rw [xri_row rfl rfl] at q; exact q)
      refine jr.pick [0, 1, 3, 2] rfl rfl ?_
      exact r_finish_L28 q 360 M 0 0 g hI_M hH_M hS_M  (fun a i f600 f601 f602 f606 => rfl) (by omega) (by omega) (by omega) hG1 (by rw [e4] <;> omega) (by omega) (by omega)
    · refine jr.iconst rfl ?_
      refine jr.goto rfl rfl ?_
      refine jr.istore_n rfl (by decide) rfl ?_
      refine jr.iconst rfl ?_
      refine jr.istore_n rfl (by decide) rfl ?_
      obtain ⟨v5, e5⟩ : ∃ z, M 606 g = z := ⟨_, rfl⟩
      have b5 : 0 ≤ v5 ∧ v5 ≤ 1 := by rw [← e5]; exact (by have q := hI_M 606 g (by decide); rw [xri_row rfl rfl] at q; exact q)
      refine jr.pick [0, 1, 3, 2] rfl rfl ?_
      exact r_finish_L28 q 360 M 0 1 g hI_M hH_M hS_M  (fun a i f600 f601 f602 f606 => rfl) (by omega) (by omega) (by omega) hG1 (by rw [e5] <;> omega) (by omega) (by omega)
def KT (M : jm) (o c f t k h x : Int) : Prop := (k = 2 ∨ k = 6) ∧ f + c ≤ 400 ∧ 8 ≤ M 604 h + M 605 h ∧ M 604 t ≤ 380 ∧ M 604 h ≤ 392 ∧ (k = 2 → (t = h ∧ M 605 h = 4 * (M 601 (400 * x + M 604 h) % 16) ∧ 20 ≤ M 605 h))
theorem KT.fr {M M' : jm} {o c f t k h x : Int} (q : KT M o c f t k h x) (e1 : ∀ i, M' 601 i = M 601 i) (e4 : ∀ i, M' 604 i = M 604 i) (e5 : ∀ i, M' 605 i = M 605 i) : KT M' o c f t k h x := by
  unfold KT at q ⊢
  rw [e4, e4, e5, e1]
  exact q
def HK (M : jm) (x h t k a : Int) : Prop := M 603 h = k ∧ M 604 h = a ∧ a + M 605 h ≤ M 600 x ∧ M 604 t ≤ 380 ∧ ((k = 2 ∧ a ≤ 380 ∧ t = h ∧ M 605 h = 4 * (M 601 (400 * x + M 604 h) % 16) ∧ 20 ≤ M 605 h) ∨ (k = 6 ∧ a ≤ 392 ∧ 8 ≤ M 605 h ∧ M 604 t ≤ 376))
theorem HK.mk' {M : jm} {x h t k a : Int} (hH : RH M) (hl : LK x M) (h0 : 0 ≤ h) (h1 : h < M 598 6) (e1 : M 603 h = k) (e2 : M 604 h = a) (hk : M 603 h = 2 ∧ M 604 h ≤ 380 ∨ M 603 h = 6 ∧ M 604 h ≤ 392 ∧ 1 ≤ h) (ht0 : t = -1 ∨ (0 ≤ t ∧ t < M 598 6 ∧ (M 603 t = 2 ∧ M 604 t ≤ 380 ∨ M 603 t = 3 ∧ M 604 t ≤ 376))) (hn : ∀ j : Int, 0 ≤ j → j < t → M 603 j ≠ 2 ∧ M 603 j ≠ 3) (hn2 : t = -1 → ∀ j : Int, 0 ≤ j → j < M 598 6 → M 603 j ≠ 2 ∧ M 603 j ≠ 3) (hp : ∃ s : Int, 0 ≤ s ∧ s < M 598 6 ∧ (M 603 s = 2 ∨ M 603 s = 3) ∧ (∀ j : Int, 0 ≤ j → j < s → M 603 j ≠ 2 ∧ M 603 j ≠ 3) ∧ ((M 603 h = 2 ∧ s = h) ∨ (M 603 h = 6 ∧ M 603 s = 3))) : 0 ≤ t ∧ HK M x h t k a := by
  obtain ⟨s, s0, s1, s2, s3, s4⟩ := hp
  have tn : t ≠ -1 := by
    intro z
    have z1 := hn2 z s s0 s1
    omega
  have e : t = s := by
    rcases Int.lt_trichotomy t s with y | y | y
    · exfalso
      have z2 := s3 t (by omega) y
      omega
    · exact y
    · exfalso
      have z2 := hn s s0 y
      omega
  subst e
  have l0 := hl h h0 h1
  have lk := lst_k (M 603 h)
  refine ⟨s0, e1, e2, by omega, by omega, ?_⟩
  rcases s4 with ⟨q1, q2⟩ | ⟨q1, q2⟩
  · exact Or.inl ⟨by omega, by omega, q2, l0.2.2 q1, by omega⟩
  · exact Or.inr ⟨by omega, by omega, by omega, by omega⟩
theorem r_gather_L459 {A : Nat → Option (Nat × (Nat → Int32))} {Q : Option Value → jm → Prop} {M0 : jm} (q : ∀ (r : Int) (M' : jm), RI M' → RH M' → RF M' → (-5) ≤ r ∧ r ≤ 23 → RG1 M' → (∀ (a : Nat) (i : Int), a ≠ 598 → a ≠ 600 → a ≠ 601 → a ≠ 602 → a ≠ 603 → a ≠ 604 → a ≠ 605 → a ≠ 606 → a ≠ 607 → a ≠ 608 → a ≠ 609 → a ≠ 610 → a ≠ 611 → a ≠ 612 → a ≠ 613 → a ≠ 614 → a ≠ 615 → a ≠ 616 → a ≠ 617 → a ≠ 618 → a ≠ 619 → a ≠ 620 → a ≠ 621 → a ≠ 622 → M' a i = M0 a i) → (∀ (i : Int), i ≠ 6 → i ≠ 10 → i ≠ 11 → i ≠ 12 → i ≠ 34 → M' 598 i = M0 598 i) → Q (some (.int (Int32.ofInt r))) M') : ∀ (M : jm) (g : Int) (o : Int) (c : Int) (f : Int) (t : Int) (k : Int) (h : Int) (x : Int), RI M → RH M → RF M → (∀ (a : Nat) (i : Int), a ≠ 598 → a ≠ 600 → a ≠ 601 → a ≠ 602 → a ≠ 603 → a ≠ 604 → a ≠ 605 → a ≠ 606 → a ≠ 607 → a ≠ 608 → a ≠ 609 → a ≠ 610 → a ≠ 611 → a ≠ 612 → a ≠ 613 → a ≠ 614 → a ≠ 615 → a ≠ 616 → a ≠ 617 → a ≠ 618 → a ≠ 619 → a ≠ 620 → a ≠ 621 → a ≠ 622 → M a i = M0 a i) → (∀ (i : Int), i ≠ 6 → i ≠ 10 → i ≠ 11 → i ≠ 12 → i ≠ 34 → M 598 i = M0 598 i) → 0 ≤ g ∧ g ≤ 7 → 0 ≤ o ∧ o ≤ 65528 → 1 ≤ c ∧ c ≤ 400 → 0 ≤ f ∧ f ≤ 400 → 0 ≤ t ∧ t ≤ 11 → 0 ≤ k ∧ k ≤ 11 → 0 ≤ h ∧ h ≤ 11 → 0 ≤ x ∧ x ≤ 23 → RG1 M → KT M o c f t k h x → (M 606 g ≠ 0 ∧ M 607 g = k) → jr A 5 xm_292 459 [(18, .int (Int32.ofInt (g))), (9, .int (Int32.ofInt (o))), (8, .int (Int32.ofInt (c))), (7, .int (Int32.ofInt (f))), (5, .int (Int32.ofInt (t))), (3, .int (Int32.ofInt (k))), (2, .int (Int32.ofInt (h))), (1, .int (Int32.ofInt (x))), (0, .ref (598))] [] M Q := by
    intro M g o c f t k h x hI_M hH_M hS_M hF_M hG_M h_g h_o h_c h_f h_t h_k h_h h_x hy0 hy1 hy2
    have hG1 := hy0
    have kt := hy1
    obtain ⟨t1, t2, t3, t4, t5, t6⟩ := hy1
    have gs := hG1 g (by omega) hy2.1
    refine jr.aload_n rfl rfl ?_
    refine jr.iload rfl rfl ?_
    refine jr.iload_n rfl rfl ?_
    refine jr.iload rfl rfl ?_
    refine jr.iload rfl rfl ?_
    refine jr.iload rfl rfl ?_
    refine jr_v rfl rfl (Or.inl rfl) rfl rfl (by decide) rfl ⟨rfl, Nat.le_of_ble_eq_true rfl, Nat.le_of_ble_eq_true rfl⟩ rfl (jc.deep (r_layData hI_M hH_M hS_M (Kp.rfl _) (by omega) (by omega) (by omega) (by omega) (by omega) (by omega) (fun M1 hI_M1 hH_M1 hS_M1 ht_M1 w1_0 w1_1 => ?_)) (by decide))
    refine jr.iload rfl rfl ?_
    refine jr.if_ne rfl rfl (by omega) (fun h474 => ?_) (fun h474 => ?_)
    · refine jr.aload_n rfl rfl ?_
      refine jr.iload rfl rfl ?_
      obtain ⟨v3, e3⟩ : ∃ z, M 606 g = z := ⟨_, rfl⟩
      have b3 : 0 ≤ v3 ∧ v3 ≤ 1 := by rw [← e3]; exact (by have q := hI_M 606 g (by decide); rw [xri_row rfl rfl] at q; exact q)
      have e4 : M1 606 g = v3 := ((w1_0 606 g (by decide) (by decide) (by decide) (by decide)).trans e3)
      refine jr_v rfl rfl (Or.inl rfl) rfl rfl (by decide) rfl ⟨rfl, Nat.le_of_ble_eq_true rfl, Nat.le_of_ble_eq_true rfl⟩ rfl (jc.deep (r_finish hI_M1 hH_M1 hS_M1  (by omega) (RG1.kp hG1 ht_M1) (by rw [e4]; omega) (fun r2 M2 hI_M2 hH_M2 hS_M2  z2 w2_0 w2_1 => ?_)) (by decide))
      exact jr.ireturn rfl rfl rfl (q _ _ hI_M2 hH_M2 hS_M2  (by omega) w2_0 (fun a i f598 f600 f601 f602 f603 f604 f605 f606 f607 f608 f609 f610 f611 f612 f613 f614 f615 f616 f617 f618 f619 f620 f621 f622 => ((w2_1 a i f600 f601 f602 f606).trans ((w1_0 a i f598 f615 f616 f622).trans (hF_M a i f598 f600 f601 f602 f603 f604 f605 f606 f607 f608 f609 f610 f611 f612 f613 f614 f615 f616 f617 f618 f619 f620 f621 f622)))) (fun i g6 g10 g11 g12 g34 => ((w2_1 598 i (by decide) (by decide) (by decide) (by decide)).trans ((w1_1 i g34).trans (hG_M i g6 g10 g11 g12 g34)))))
    · refine jr.aload_n rfl rfl ?_
      refine jr.getf (i := 28) (v := .ref 617) rfl rfl (by decide) rfl (by decide) rfl rfl rfl rfl ?_
      refine jr.iload rfl rfl ?_
      obtain ⟨v5, e5⟩ : ∃ z, M 617 g = z := ⟨_, rfl⟩
      have b5 : (-1) ≤ v5 ∧ v5 ≤ 400 := by rw [← e5]; exact (by have q := hI_M 617 g (by decide); rw [xri_row rfl rfl] at q; exact q)
      have e6 : M1 617 g = v5 := ((w1_0 617 g (by decide) (by decide) (by decide) (by decide)).trans e5)
      refine jr.iald (i := g) (x := v5) rfl (by decide) rfl (by decide) (by omega) (by omega) e6 ?_
      refine jr.iconst rfl ?_
      refine jr.icmp_ne rfl rfl (by omega) (by omega) (fun h485 => ?_) (fun h485 => ?_)
      · refine jr.aload_n rfl rfl ?_
        refine jr.iload rfl rfl ?_
        obtain ⟨v8, e8⟩ : ∃ z, M 606 g = z := ⟨_, rfl⟩
        have b8 : 0 ≤ v8 ∧ v8 ≤ 1 := by rw [← e8]; exact (by have q := hI_M 606 g (by decide); rw [xri_row rfl rfl] at q; exact q)
        have e9 : M1 606 g = v8 := ((w1_0 606 g (by decide) (by decide) (by decide) (by decide)).trans e8)
        refine jr_v rfl rfl (Or.inl rfl) rfl rfl (by decide) rfl ⟨rfl, Nat.le_of_ble_eq_true rfl, Nat.le_of_ble_eq_true rfl⟩ rfl (jc.deep (r_finish hI_M1 hH_M1 hS_M1  (by omega) (RG1.kp hG1 ht_M1) (by rw [e9]; omega) (fun r7 M7 hI_M7 hH_M7 hS_M7  z7 w7_0 w7_1 => ?_)) (by decide))
        exact jr.ireturn rfl rfl rfl (q _ _ hI_M7 hH_M7 hS_M7  (by omega) w7_0 (fun a i f598 f600 f601 f602 f603 f604 f605 f606 f607 f608 f609 f610 f611 f612 f613 f614 f615 f616 f617 f618 f619 f620 f621 f622 => ((w7_1 a i f600 f601 f602 f606).trans ((w1_0 a i f598 f615 f616 f622).trans (hF_M a i f598 f600 f601 f602 f603 f604 f605 f606 f607 f608 f609 f610 f611 f612 f613 f614 f615 f616 f617 f618 f619 f620 f621 f622)))) (fun i g6 g10 g11 g12 g34 => ((w7_1 598 i (by decide) (by decide) (by decide) (by decide)).trans ((w1_1 i g34).trans (hG_M i g6 g10 g11 g12 g34)))))
      · refine jr.aload_n rfl rfl ?_
        refine jr.iload rfl rfl ?_
        refine jr.iload_n rfl rfl ?_
        refine jr.iload_n rfl rfl ?_
        refine jr.iload rfl rfl ?_
        obtain ⟨v11, e11⟩ : ∃ z, M 604 h = z := ⟨_, rfl⟩
        have b11 : 0 ≤ v11 ∧ v11 ≤ 400 := by rw [← e11]; exact (by have q := hI_M 604 h (by decide); rw [xri_row rfl rfl] at q; exact q)
        have e12 : M1 604 h = v11 := ((w1_0 604 h (by decide) (by decide) (by decide) (by decide)).trans e11)
        obtain ⟨v13, e13⟩ : ∃ z, M 605 h = z := ⟨_, rfl⟩
        have b13 : 0 ≤ v13 ∧ v13 ≤ 400 := by rw [← e13]; exact (by have q := hI_M 605 h (by decide); rw [xri_row rfl rfl] at q; exact q)
        have e14 : M1 605 h = v13 := ((w1_0 605 h (by decide) (by decide) (by decide) (by decide)).trans e13)
        obtain ⟨v15, e15⟩ : ∃ z, M 604 t = z := ⟨_, rfl⟩
        have b15 : 0 ≤ v15 ∧ v15 ≤ 400 := by rw [← e15]; exact (by have q := hI_M 604 t (by decide); rw [xri_row rfl rfl] at q; exact q)
        have e16 : M1 604 t = v15 := ((w1_0 604 t (by decide) (by decide) (by decide) (by decide)).trans e15)
        obtain ⟨v17, e17⟩ : ∃ z, M 607 g = z := ⟨_, rfl⟩
        have b17 : 0 ≤ v17 ∧ v17 ≤ 11 := by rw [← e17]; exact (by have q := hI_M 607 g (by decide); rw [xri_row rfl rfl] at q; exact q)
        have e18 : M1 607 g = v17 := ((w1_0 607 g (by decide) (by decide) (by decide) (by decide)).trans e17)
        obtain ⟨v19, e19⟩ : ∃ z, M 613 g = z := ⟨_, rfl⟩
        have b19 : 0 ≤ v19 ∧ v19 ≤ 720 := by rw [← e19]; exact (by have q := hI_M 613 g (by decide); rw [xri_row rfl rfl] at q; exact q)
        have e20 : M1 613 g = v19 := ((w1_0 613 g (by decide) (by decide) (by decide) (by decide)).trans e19)
        refine jr_v rfl rfl (Or.inl rfl) rfl rfl (by decide) rfl ⟨rfl, Nat.le_of_ble_eq_true rfl, Nat.le_of_ble_eq_true rfl⟩ rfl (jc.deep (r_keepHeaders hI_M1 hH_M1 hS_M1  (by omega) (by omega) (by omega) (by omega) (by rw [e12, e14]; omega) (by rw [e16]; omega) (by rw [e12]; omega) (fun q => (KT.fr kt (fun i => (w1_0 601 i (by decide) (by decide) (by decide) (by decide)).trans ((fun i => rfl) i)) (fun i => (w1_0 604 i (by decide) (by decide) (by decide) (by decide)).trans ((fun i => rfl) i)) (fun i => (w1_0 605 i (by decide) (by decide) (by decide) (by decide)).trans ((fun i => rfl) i))).2.2.2.2.2 (by rw [e18] at q; omega)) (by rw [e20]; omega) (RG1.kp hG1 ht_M1) (fun M10 hI_M10 hH_M10 hS_M10  w10_0 w10_1 => ?_)) (by decide))
        refine jr.aload_n rfl rfl ?_
        refine jr.iload rfl rfl ?_
        obtain ⟨v22, e22⟩ : ∃ z, M 606 g = z := ⟨_, rfl⟩
        have b22 : 0 ≤ v22 ∧ v22 ≤ 1 := by rw [← e22]; exact (by have q := hI_M 606 g (by decide); rw [xri_row rfl rfl] at q; exact q)
        have e23 : M1 606 g = v22 := ((w1_0 606 g (by decide) (by decide) (by decide) (by decide)).trans e22)
        have e24 : M10 606 g = v22 := ((w10_1 606 g (by decide) (by decide) (by decide) (by decide) (by decide)).trans e23)
        refine jr_v rfl rfl (Or.inl rfl) rfl rfl (by decide) rfl ⟨rfl, Nat.le_of_ble_eq_true rfl, Nat.le_of_ble_eq_true rfl⟩ rfl (jc.deep (r_finish hI_M10 hH_M10 hS_M10  (by omega) w10_0 (by rw [e24]; omega) (fun r21 M21 hI_M21 hH_M21 hS_M21  z21 w21_0 w21_1 => ?_)) (by decide))
        exact jr.ireturn rfl rfl rfl (q _ _ hI_M21 hH_M21 hS_M21  (by omega) w21_0 (fun a i f598 f600 f601 f602 f603 f604 f605 f606 f607 f608 f609 f610 f611 f612 f613 f614 f615 f616 f617 f618 f619 f620 f621 f622 => ((w21_1 a i f600 f601 f602 f606).trans ((w10_1 a i f617 f618 f619 f620 f621).trans ((w1_0 a i f598 f615 f616 f622).trans (hF_M a i f598 f600 f601 f602 f603 f604 f605 f606 f607 f608 f609 f610 f611 f612 f613 f614 f615 f616 f617 f618 f619 f620 f621 f622))))) (fun i g6 g10 g11 g12 g34 => ((w21_1 598 i (by decide) (by decide) (by decide) (by decide)).trans ((w10_1 598 i (by decide) (by decide) (by decide) (by decide) (by decide)).trans ((w1_1 i g34).trans (hG_M i g6 g10 g11 g12 g34))))))
theorem r_gather_L418 {A : Nat → Option (Nat × (Nat → Int32))} {Q : Option Value → jm → Prop} {M0 : jm} (q : ∀ (r : Int) (M' : jm), RI M' → RH M' → RF M' → (-5) ≤ r ∧ r ≤ 23 → RG1 M' → (∀ (a : Nat) (i : Int), a ≠ 598 → a ≠ 600 → a ≠ 601 → a ≠ 602 → a ≠ 603 → a ≠ 604 → a ≠ 605 → a ≠ 606 → a ≠ 607 → a ≠ 608 → a ≠ 609 → a ≠ 610 → a ≠ 611 → a ≠ 612 → a ≠ 613 → a ≠ 614 → a ≠ 615 → a ≠ 616 → a ≠ 617 → a ≠ 618 → a ≠ 619 → a ≠ 620 → a ≠ 621 → a ≠ 622 → M' a i = M0 a i) → (∀ (i : Int), i ≠ 6 → i ≠ 10 → i ≠ 11 → i ≠ 12 → i ≠ 34 → M' 598 i = M0 598 i) → Q (some (.int (Int32.ofInt r))) M') : ∀ (M : jm) (i : Int) (g : Int) (o : Int) (c : Int) (f : Int) (t : Int) (k : Int) (h : Int) (x : Int), RI M → RH M → RF M → (∀ (a : Nat) (i : Int), a ≠ 598 → a ≠ 600 → a ≠ 601 → a ≠ 602 → a ≠ 603 → a ≠ 604 → a ≠ 605 → a ≠ 606 → a ≠ 607 → a ≠ 608 → a ≠ 609 → a ≠ 610 → a ≠ 611 → a ≠ 612 → a ≠ 613 → a ≠ 614 → a ≠ 615 → a ≠ 616 → a ≠ 617 → a ≠ 618 → a ≠ 619 → a ≠ 620 → a ≠ 621 → a ≠ 622 → M a i = M0 a i) → (∀ (i : Int), i ≠ 6 → i ≠ 10 → i ≠ 11 → i ≠ 12 → i ≠ 34 → M 598 i = M0 598 i) → 0 ≤ i ∧ i ≤ 1 → 0 ≤ g ∧ g ≤ 7 → 0 ≤ o ∧ o ≤ 65528 → 1 ≤ c ∧ c ≤ 400 → 0 ≤ f ∧ f ≤ 400 → 0 ≤ t ∧ t ≤ 11 → 0 ≤ k ∧ k ≤ 11 → 0 ≤ h ∧ h ≤ 11 → 0 ≤ x ∧ x ≤ 23 → RG1 M → KT M o c f t k h x → (M 606 g ≠ 0 ∧ M 607 g = k) → (i = 1 → o + c ≤ 360) → jr A 5 xm_292 418 [(19, .int (Int32.ofInt (i))), (18, .int (Int32.ofInt (g))), (9, .int (Int32.ofInt (o))), (8, .int (Int32.ofInt (c))), (7, .int (Int32.ofInt (f))), (5, .int (Int32.ofInt (t))), (3, .int (Int32.ofInt (k))), (2, .int (Int32.ofInt (h))), (1, .int (Int32.ofInt (x))), (0, .ref (598))] [] M Q := by
    intro M i g o c f t k h x hI_M hH_M hS_M hF_M hG_M h_i h_g h_o h_c h_f h_t h_k h_h h_x hy0 hy1 hy2 hy3
    have hG1 := hy0
    have kt := hy1
    obtain ⟨t1, t2, t3, t4, t5, t6⟩ := hy1
    have gs := hG1 g (by omega) hy2.1
    refine jr.iload rfl rfl ?_
    refine jr.if_eq rfl rfl (by omega) (fun h420 => ?_) (fun h420 => ?_)
    · refine jr.aload_n rfl rfl ?_
      refine jr.getf (i := 25) (v := .ref 614) rfl rfl (by decide) rfl (by decide) rfl rfl rfl rfl ?_
      refine jr.iload rfl rfl ?_
      obtain ⟨v1, e1⟩ : ∃ z, M 614 g = z := ⟨_, rfl⟩
      have b1 : (-1) ≤ v1 ∧ v1 ≤ 360 := by rw [← e1]; exact (by have q := hI_M 614 g (by decide); rw [xri_row rfl rfl] at q; exact q)
      refine jr.iald (i := g) (x := v1) rfl (by decide) rfl (by decide) (by omega) (by omega) e1 ?_
      refine jr.iconst rfl ?_
      refine jr.icmp_ne rfl rfl (by omega) (by omega) (fun h445 => ?_) (fun h445 => ?_)
      · obtain ⟨v2, e2⟩ : ∃ z, M 606 g = z := ⟨_, rfl⟩
        have b2 : 0 ≤ v2 ∧ v2 ≤ 1 := by rw [← e2]; exact (by have q := hI_M 606 g (by decide); rw [xri_row rfl rfl] at q; exact q)
        obtain ⟨v3, e3⟩ : ∃ z, M 607 g = z := ⟨_, rfl⟩
        have b3 : 0 ≤ v3 ∧ v3 ≤ 11 := by rw [← e3]; exact (by have q := hI_M 607 g (by decide); rw [xri_row rfl rfl] at q; exact q)
        refine jr.pick [1, 2, 3, 4, 5, 6, 7, 8, 9] rfl rfl ?_
        exact r_gather_L459 q M g o c f t k h x hI_M hH_M hS_M  (fun a i f598 f600 f601 f602 f603 f604 f605 f606 f607 f608 f609 f610 f611 f612 f613 f614 f615 f616 f617 f618 f619 f620 f621 f622 => (hF_M a i f598 f600 f601 f602 f603 f604 f605 f606 f607 f608 f609 f610 f611 f612 f613 f614 f615 f616 f617 f618 f619 f620 f621 f622)) (fun i g6 g10 g11 g12 g34 => (hG_M i g6 g10 g11 g12 g34)) (by omega) (by omega) (by omega) (by omega) (by omega) (by omega) (by omega) (by omega) hG1 (KT.fr kt (fun i => rfl) (fun i => rfl) (fun i => rfl)) (by rw [e2, e3] <;> omega)
      · refine jr.aload_n rfl rfl ?_
        refine jr.iload rfl rfl ?_
        refine jr.iload rfl rfl ?_
        refine jr.iload rfl rfl ?_
        refine jr.iadd rfl ?_
        obtain ⟨v5, e5⟩ : ∃ z, M 613 g = z := ⟨_, rfl⟩
        have b5 : 0 ≤ v5 ∧ v5 ≤ 720 := by rw [← e5]; exact (by have q := hI_M 613 g (by decide); rw [xri_row rfl rfl] at q; exact q)
        refine jr_v rfl rfl (Or.inl rfl) rfl rfl (by decide) rfl ⟨rfl, Nat.le_of_ble_eq_true rfl, Nat.le_of_ble_eq_true rfl⟩ rfl (jc.deep (r_growRow hI_M hH_M hS_M  (by omega) (by omega) (by rw [e5]; omega) hG1 (fun M4 hI_M4 hH_M4 hS_M4  w4_0 w4_1 => ?_)) (by decide))
        obtain ⟨v6, e6⟩ : ∃ z, M 606 g = z := ⟨_, rfl⟩
        have b6 : 0 ≤ v6 ∧ v6 ≤ 1 := by rw [← e6]; exact (by have q := hI_M 606 g (by decide); rw [xri_row rfl rfl] at q; exact q)
        have e7 : M4 606 g = v6 := ((w4_1 606 g (by decide)).trans e6)
        obtain ⟨v8, e8⟩ : ∃ z, M 607 g = z := ⟨_, rfl⟩
        have b8 : 0 ≤ v8 ∧ v8 ≤ 11 := by rw [← e8]; exact (by have q := hI_M 607 g (by decide); rw [xri_row rfl rfl] at q; exact q)
        have e9 : M4 607 g = v8 := ((w4_1 607 g (by decide)).trans e8)
        refine jr.pick [1, 2, 3, 4, 5, 6, 7, 8, 9] rfl rfl ?_
        exact r_gather_L459 q M4 g o c f t k h x hI_M4 hH_M4 hS_M4  (fun a i f598 f600 f601 f602 f603 f604 f605 f606 f607 f608 f609 f610 f611 f612 f613 f614 f615 f616 f617 f618 f619 f620 f621 f622 => ((w4_1 a i f613).trans (hF_M a i f598 f600 f601 f602 f603 f604 f605 f606 f607 f608 f609 f610 f611 f612 f613 f614 f615 f616 f617 f618 f619 f620 f621 f622))) (fun i g6 g10 g11 g12 g34 => ((w4_1 598 i (by decide)).trans (hG_M i g6 g10 g11 g12 g34))) (by omega) (by omega) (by omega) (by omega) (by omega) (by omega) (by omega) (by omega) w4_0 (KT.fr kt (fun i => (w4_1 601 i (by decide)).trans ((fun i => rfl) i)) (fun i => (w4_1 604 i (by decide)).trans ((fun i => rfl) i)) (fun i => (w4_1 605 i (by decide)).trans ((fun i => rfl) i))) (by rw [e7, e9] <;> omega)
    · refine jr.aload_n rfl rfl ?_
      refine jr.iload rfl rfl ?_
      refine jr.iload rfl rfl ?_
      refine jr.iload rfl rfl ?_
      refine jr.iadd rfl ?_
      refine jr_v rfl rfl (Or.inl rfl) rfl rfl (by decide) rfl ⟨rfl, Nat.le_of_ble_eq_true rfl, Nat.le_of_ble_eq_true rfl⟩ rfl (jc.deep (r_tellWhole hI_M hH_M hS_M  (by omega) (by omega) hG1 (fun M10 hI_M10 hH_M10 hS_M10  w10_0 w10_1 => ?_)) (by decide))
      refine jr.goto rfl rfl ?_
      obtain ⟨v11, e11⟩ : ∃ z, M 606 g = z := ⟨_, rfl⟩
      have b11 : 0 ≤ v11 ∧ v11 ≤ 1 := by rw [← e11]; exact (by have q := hI_M 606 g (by decide); rw [xri_row rfl rfl] at q; exact q)
      have e12 : M10 606 g = v11 := ((w10_1 606 g (by decide) (by decide) (by decide)).trans e11)
      obtain ⟨v13, e13⟩ : ∃ z, M 607 g = z := ⟨_, rfl⟩
      have b13 : 0 ≤ v13 ∧ v13 ≤ 11 := by rw [← e13]; exact (by have q := hI_M 607 g (by decide); rw [xri_row rfl rfl] at q; exact q)
      have e14 : M10 607 g = v13 := ((w10_1 607 g (by decide) (by decide) (by decide)).trans e13)
      refine jr.pick [1, 2, 3, 4, 5, 6, 7, 8, 9] rfl rfl ?_
      exact r_gather_L459 q M10 g o c f t k h x hI_M10 hH_M10 hS_M10  (fun a i f598 f600 f601 f602 f603 f604 f605 f606 f607 f608 f609 f610 f611 f612 f613 f614 f615 f616 f617 f618 f619 f620 f621 f622 => ((w10_1 a i f613 f614 f616).trans (hF_M a i f598 f600 f601 f602 f603 f604 f605 f606 f607 f608 f609 f610 f611 f612 f613 f614 f615 f616 f617 f618 f619 f620 f621 f622))) (fun i g6 g10 g11 g12 g34 => ((w10_1 598 i (by decide) (by decide) (by decide)).trans (hG_M i g6 g10 g11 g12 g34))) (by omega) (by omega) (by omega) (by omega) (by omega) (by omega) (by omega) (by omega) w10_0 (KT.fr kt (fun i => (w10_1 601 i (by decide) (by decide) (by decide)).trans ((fun i => rfl) i)) (fun i => (w10_1 604 i (by decide) (by decide) (by decide)).trans ((fun i => rfl) i)) (fun i => (w10_1 605 i (by decide) (by decide) (by decide)).trans ((fun i => rfl) i))) (by rw [e12, e14] <;> omega)
theorem r_gather_L345 {A : Nat → Option (Nat × (Nat → Int32))} {Q : Option Value → jm → Prop} {M0 : jm} (q : ∀ (r : Int) (M' : jm), RI M' → RH M' → RF M' → (-5) ≤ r ∧ r ≤ 23 → RG1 M' → (∀ (a : Nat) (i : Int), a ≠ 598 → a ≠ 600 → a ≠ 601 → a ≠ 602 → a ≠ 603 → a ≠ 604 → a ≠ 605 → a ≠ 606 → a ≠ 607 → a ≠ 608 → a ≠ 609 → a ≠ 610 → a ≠ 611 → a ≠ 612 → a ≠ 613 → a ≠ 614 → a ≠ 615 → a ≠ 616 → a ≠ 617 → a ≠ 618 → a ≠ 619 → a ≠ 620 → a ≠ 621 → a ≠ 622 → M' a i = M0 a i) → (∀ (i : Int), i ≠ 6 → i ≠ 10 → i ≠ 11 → i ≠ 12 → i ≠ 34 → M' 598 i = M0 598 i) → Q (some (.int (Int32.ofInt r))) M') : ∀ (M : jm) (i : Int) (g : Int) (a : Int) (b : Int) (d : Int) (e : Int) (m : Int) (o : Int) (c : Int) (f : Int) (t : Int) (k : Int) (h : Int) (x : Int), RI M → RH M → RF M → (∀ (a : Nat) (i : Int), a ≠ 598 → a ≠ 600 → a ≠ 601 → a ≠ 602 → a ≠ 603 → a ≠ 604 → a ≠ 605 → a ≠ 606 → a ≠ 607 → a ≠ 608 → a ≠ 609 → a ≠ 610 → a ≠ 611 → a ≠ 612 → a ≠ 613 → a ≠ 614 → a ≠ 615 → a ≠ 616 → a ≠ 617 → a ≠ 618 → a ≠ 619 → a ≠ 620 → a ≠ 621 → a ≠ 622 → M a i = M0 a i) → (∀ (i : Int), i ≠ 6 → i ≠ 10 → i ≠ 11 → i ≠ 12 → i ≠ 34 → M 598 i = M0 598 i) → 0 ≤ i ∧ i ≤ 1 → (-1) ≤ g ∧ g ≤ 7 → (-9223372036854775808) ≤ a ∧ a ≤ 9223372036854775807 → (-9223372036854775808) ≤ b ∧ b ≤ 9223372036854775807 → (-9223372036854775808) ≤ d ∧ d ≤ 9223372036854775807 → 0 ≤ e ∧ e ≤ 255 → 0 ≤ m ∧ m ≤ 1 → 0 ≤ o ∧ o ≤ 65528 → 0 ≤ c ∧ c ≤ 400 → 0 ≤ f ∧ f ≤ 400 → 0 ≤ t ∧ t ≤ 11 → 0 ≤ k ∧ k ≤ 11 → 0 ≤ h ∧ h ≤ 11 → 0 ≤ x ∧ x ≤ 23 → RG1 M → KT M o c f t k h x → (g = -1 ∨ (0 ≤ g ∧ M 606 g ≠ 0 ∧ M 607 g = k)) → jr A 5 xm_292 345 [(19, .int (Int32.ofInt (i))), (18, .int (Int32.ofInt (g))), (16, .long (Int64.ofInt (a))), (14, .long (Int64.ofInt (b))), (12, .long (Int64.ofInt (d))), (11, .int (Int32.ofInt (e))), (10, .int (Int32.ofInt (m))), (9, .int (Int32.ofInt (o))), (8, .int (Int32.ofInt (c))), (7, .int (Int32.ofInt (f))), (5, .int (Int32.ofInt (t))), (3, .int (Int32.ofInt (k))), (2, .int (Int32.ofInt (h))), (1, .int (Int32.ofInt (x))), (0, .ref (598))] [] M Q := by
    intro M i g a b d e m o c f t k h x hI_M hH_M hS_M hF_M hG_M h_i h_g h_a h_b h_d h_e h_m h_o h_c h_f h_t h_k h_h h_x hy0 hy1 hy2
    have hG1 := hy0
    have kt := hy1
    obtain ⟨t1, t2, t3, t4, t5, t6⟩ := hy1
    refine jr.iload rfl rfl ?_
    refine jr.if_eq rfl rfl (by omega) (fun h347 => ?_) (fun h347 => ?_)
    · refine jr.bipush rfl (by decide) ?_
      exact jr.ireturn rfl rfl rfl (q _ _ hI_M hH_M hS_M  (by omega) hG1 (fun a i f598 f600 f601 f602 f603 f604 f605 f606 f607 f608 f609 f610 f611 f612 f613 f614 f615 f616 f617 f618 f619 f620 f621 f622 => (hF_M a i f598 f600 f601 f602 f603 f604 f605 f606 f607 f608 f609 f610 f611 f612 f613 f614 f615 f616 f617 f618 f619 f620 f621 f622)) (fun i g6 g10 g11 g12 g34 => (hG_M i g6 g10 g11 g12 g34)))
    · refine jr.iload rfl rfl ?_
      refine jr.if_eq rfl rfl (by omega) (fun h352 => ?_) (fun h352 => ?_)
      · refine jr.iload rfl rfl ?_
        refine jr.if_eq rfl rfl (by omega) (fun h365 => ?_) (fun h365 => ?_)
        · refine jr.iload rfl rfl ?_
          refine jr.iconst rfl ?_
          refine jr.icmp_ne rfl rfl (by omega) (by omega) (fun h385 => ?_) (fun h385 => ?_)
          · obtain ⟨v1, e1⟩ : ∃ z, M 606 g = z := ⟨_, rfl⟩
            have b1 : 0 ≤ v1 ∧ v1 ≤ 1 := by rw [← e1]; exact (by have q := hI_M 606 g (by decide); rw [xri_row rfl rfl] at q; exact q)
            obtain ⟨v2, e2⟩ : ∃ z, M 607 g = z := ⟨_, rfl⟩
            have b2 : 0 ≤ v2 ∧ v2 ≤ 11 := by rw [← e2]; exact (by have q := hI_M 607 g (by decide); rw [xri_row rfl rfl] at q; exact q)
            refine jr.pick [0, 1, 7, 8, 9, 10, 11, 12, 13, 14] rfl rfl ?_
            exact r_gather_L418 q M i g o c f t k h x hI_M hH_M hS_M  (fun a i f598 f600 f601 f602 f603 f604 f605 f606 f607 f608 f609 f610 f611 f612 f613 f614 f615 f616 f617 f618 f619 f620 f621 f622 => (hF_M a i f598 f600 f601 f602 f603 f604 f605 f606 f607 f608 f609 f610 f611 f612 f613 f614 f615 f616 f617 f618 f619 f620 f621 f622)) (fun i g6 g10 g11 g12 g34 => (hG_M i g6 g10 g11 g12 g34)) (by omega) (by omega) (by omega) (by omega) (by omega) (by omega) (by omega) (by omega) (by omega) hG1 (KT.fr kt (fun i => rfl) (fun i => rfl) (fun i => rfl)) (by rw [e1, e2] <;> omega) (by omega)
          · refine jr.aload_n rfl rfl ?_
            refine jr_v rfl rfl (Or.inl rfl) rfl rfl (by decide) rfl ⟨rfl, Nat.le_of_ble_eq_true rfl, Nat.le_of_ble_eq_true rfl⟩ rfl (jc.deep (r_freeGathering hI_M hH_M hS_M (Kp.rfl _)   (fun r3 z3  => ?_)) (by decide))
            refine jr.istore rfl (by decide) rfl ?_
            refine jr.iload rfl rfl ?_
            refine jr.iconst rfl ?_
            refine jr.icmp_ne rfl rfl (by omega) (by omega) (fun h397 => ?_) (fun h397 => ?_)
            · refine jr.aload_n rfl rfl ?_
              refine jr.iload rfl rfl ?_
              refine jr.iload_n rfl rfl ?_
              refine jr.lload rfl rfl ?_
              refine jr.lload rfl rfl ?_
              refine jr.lload rfl rfl ?_
              refine jr.iload rfl rfl ?_
              refine jr_v rfl rfl (Or.inl rfl) rfl rfl (by decide) rfl ⟨rfl, Nat.le_of_ble_eq_true rfl, Nat.le_of_ble_eq_true rfl⟩ rfl (jc.deep (r_beginGathering hI_M hH_M hS_M  (by omega) (by omega) (by omega) (by omega) (by omega) (by omega) hG1 (fun M4 hI_M4 hH_M4 hS_M4  w4_0 w4_1 w4_2 w4_3 w4_4 w4_5 w4_6 => ?_)) (by decide))
              obtain ⟨v5, e5⟩ : ∃ z, M4 606 r3 = z := ⟨_, rfl⟩
              have b5 : 0 ≤ v5 ∧ v5 ≤ 1 := by rw [← e5]; exact (by have q := hI_M4 606 r3 (by decide); rw [xri_row rfl rfl] at q; exact q)
              obtain ⟨v6, e6⟩ : ∃ z, M4 607 r3 = z := ⟨_, rfl⟩
              have b6 : 0 ≤ v6 ∧ v6 ≤ 11 := by rw [← e6]; exact (by have q := hI_M4 607 r3 (by decide); rw [xri_row rfl rfl] at q; exact q)
              refine jr.pick [1, 0, 7, 8, 9, 10, 11, 12, 13, 14] rfl rfl ?_
              exact r_gather_L418 q M4 i r3 o c f t k h x hI_M4 hH_M4 hS_M4  (fun a i f598 f600 f601 f602 f603 f604 f605 f606 f607 f608 f609 f610 f611 f612 f613 f614 f615 f616 f617 f618 f619 f620 f621 f622 => ((w4_6 a i f606 f607 f608 f609 f610 f611 f612 f613 f614 f616 f617).trans (hF_M a i f598 f600 f601 f602 f603 f604 f605 f606 f607 f608 f609 f610 f611 f612 f613 f614 f615 f616 f617 f618 f619 f620 f621 f622))) (fun i g6 g10 g11 g12 g34 => ((w4_6 598 i (by decide) (by decide) (by decide) (by decide) (by decide) (by decide) (by decide) (by decide) (by decide) (by decide) (by decide)).trans (hG_M i g6 g10 g11 g12 g34))) (by omega) (by omega) (by omega) (by omega) (by omega) (by omega) (by omega) (by omega) (by omega) w4_0 (KT.fr kt (fun i => (w4_6 601 i (by decide) (by decide) (by decide) (by decide) (by decide) (by decide) (by decide) (by decide) (by decide) (by decide) (by decide)).trans ((fun i => rfl) i)) (fun i => (w4_6 604 i (by decide) (by decide) (by decide) (by decide) (by decide) (by decide) (by decide) (by decide) (by decide) (by decide) (by decide)).trans ((fun i => rfl) i)) (fun i => (w4_6 605 i (by decide) (by decide) (by decide) (by decide) (by decide) (by decide) (by decide) (by decide) (by decide) (by decide) (by decide)).trans ((fun i => rfl) i))) (by rw [e5, e6] <;> omega) (by omega)
            · refine jr.bipush rfl (by decide) ?_
              exact jr.ireturn rfl rfl rfl (q _ _ hI_M hH_M hS_M  (by omega) hG1 (fun a i f598 f600 f601 f602 f603 f604 f605 f606 f607 f608 f609 f610 f611 f612 f613 f614 f615 f616 f617 f618 f619 f620 f621 f622 => (hF_M a i f598 f600 f601 f602 f603 f604 f605 f606 f607 f608 f609 f610 f611 f612 f613 f614 f615 f616 f617 f618 f619 f620 f621 f622)) (fun i g6 g10 g11 g12 g34 => (hG_M i g6 g10 g11 g12 g34)))
        · refine jr.iload rfl rfl ?_
          refine jr.iload rfl rfl ?_
          refine jr.iadd rfl ?_
          refine jr.sipush rfl (by decide) ?_
          refine jr.icmp_le rfl rfl (by omega) (by omega) (fun h376 => ?_) (fun h376 => ?_)
          · refine jr.iload rfl rfl ?_
            refine jr.iconst rfl ?_
            refine jr.icmp_ne rfl rfl (by omega) (by omega) (fun h385 => ?_) (fun h385 => ?_)
            · obtain ⟨v7, e7⟩ : ∃ z, M 606 g = z := ⟨_, rfl⟩
              have b7 : 0 ≤ v7 ∧ v7 ≤ 1 := by rw [← e7]; exact (by have q := hI_M 606 g (by decide); rw [xri_row rfl rfl] at q; exact q)
              obtain ⟨v8, e8⟩ : ∃ z, M 607 g = z := ⟨_, rfl⟩
              have b8 : 0 ≤ v8 ∧ v8 ≤ 11 := by rw [← e8]; exact (by have q := hI_M 607 g (by decide); rw [xri_row rfl rfl] at q; exact q)
              refine jr.pick [0, 1, 7, 8, 9, 10, 11, 12, 13, 14] rfl rfl ?_
              exact r_gather_L418 q M i g o c f t k h x hI_M hH_M hS_M  (fun a i f598 f600 f601 f602 f603 f604 f605 f606 f607 f608 f609 f610 f611 f612 f613 f614 f615 f616 f617 f618 f619 f620 f621 f622 => (hF_M a i f598 f600 f601 f602 f603 f604 f605 f606 f607 f608 f609 f610 f611 f612 f613 f614 f615 f616 f617 f618 f619 f620 f621 f622)) (fun i g6 g10 g11 g12 g34 => (hG_M i g6 g10 g11 g12 g34)) (by omega) (by omega) (by omega) (by omega) (by omega) (by omega) (by omega) (by omega) (by omega) hG1 (KT.fr kt (fun i => rfl) (fun i => rfl) (fun i => rfl)) (by rw [e7, e8] <;> omega) (by omega)
            · refine jr.aload_n rfl rfl ?_
              refine jr_v rfl rfl (Or.inl rfl) rfl rfl (by decide) rfl ⟨rfl, Nat.le_of_ble_eq_true rfl, Nat.le_of_ble_eq_true rfl⟩ rfl (jc.deep (r_freeGathering hI_M hH_M hS_M (Kp.rfl _)   (fun r9 z9  => ?_)) (by decide))
              refine jr.istore rfl (by decide) rfl ?_
              refine jr.iload rfl rfl ?_
              refine jr.iconst rfl ?_
              refine jr.icmp_ne rfl rfl (by omega) (by omega) (fun h397 => ?_) (fun h397 => ?_)
              · refine jr.aload_n rfl rfl ?_
                refine jr.iload rfl rfl ?_
                refine jr.iload_n rfl rfl ?_
                refine jr.lload rfl rfl ?_
                refine jr.lload rfl rfl ?_
                refine jr.lload rfl rfl ?_
                refine jr.iload rfl rfl ?_
                refine jr_v rfl rfl (Or.inl rfl) rfl rfl (by decide) rfl ⟨rfl, Nat.le_of_ble_eq_true rfl, Nat.le_of_ble_eq_true rfl⟩ rfl (jc.deep (r_beginGathering hI_M hH_M hS_M  (by omega) (by omega) (by omega) (by omega) (by omega) (by omega) hG1 (fun M10 hI_M10 hH_M10 hS_M10  w10_0 w10_1 w10_2 w10_3 w10_4 w10_5 w10_6 => ?_)) (by decide))
                obtain ⟨v11, e11⟩ : ∃ z, M10 606 r9 = z := ⟨_, rfl⟩
                have b11 : 0 ≤ v11 ∧ v11 ≤ 1 := by rw [← e11]; exact (by have q := hI_M10 606 r9 (by decide); rw [xri_row rfl rfl] at q; exact q)
                obtain ⟨v12, e12⟩ : ∃ z, M10 607 r9 = z := ⟨_, rfl⟩
                have b12 : 0 ≤ v12 ∧ v12 ≤ 11 := by rw [← e12]; exact (by have q := hI_M10 607 r9 (by decide); rw [xri_row rfl rfl] at q; exact q)
                refine jr.pick [1, 0, 7, 8, 9, 10, 11, 12, 13, 14] rfl rfl ?_
                exact r_gather_L418 q M10 i r9 o c f t k h x hI_M10 hH_M10 hS_M10  (fun a i f598 f600 f601 f602 f603 f604 f605 f606 f607 f608 f609 f610 f611 f612 f613 f614 f615 f616 f617 f618 f619 f620 f621 f622 => ((w10_6 a i f606 f607 f608 f609 f610 f611 f612 f613 f614 f616 f617).trans (hF_M a i f598 f600 f601 f602 f603 f604 f605 f606 f607 f608 f609 f610 f611 f612 f613 f614 f615 f616 f617 f618 f619 f620 f621 f622))) (fun i g6 g10 g11 g12 g34 => ((w10_6 598 i (by decide) (by decide) (by decide) (by decide) (by decide) (by decide) (by decide) (by decide) (by decide) (by decide) (by decide)).trans (hG_M i g6 g10 g11 g12 g34))) (by omega) (by omega) (by omega) (by omega) (by omega) (by omega) (by omega) (by omega) (by omega) w10_0 (KT.fr kt (fun i => (w10_6 601 i (by decide) (by decide) (by decide) (by decide) (by decide) (by decide) (by decide) (by decide) (by decide) (by decide) (by decide)).trans ((fun i => rfl) i)) (fun i => (w10_6 604 i (by decide) (by decide) (by decide) (by decide) (by decide) (by decide) (by decide) (by decide) (by decide) (by decide) (by decide)).trans ((fun i => rfl) i)) (fun i => (w10_6 605 i (by decide) (by decide) (by decide) (by decide) (by decide) (by decide) (by decide) (by decide) (by decide) (by decide) (by decide)).trans ((fun i => rfl) i))) (by rw [e11, e12] <;> omega) (by omega)
              · refine jr.bipush rfl (by decide) ?_
                exact jr.ireturn rfl rfl rfl (q _ _ hI_M hH_M hS_M  (by omega) hG1 (fun a i f598 f600 f601 f602 f603 f604 f605 f606 f607 f608 f609 f610 f611 f612 f613 f614 f615 f616 f617 f618 f619 f620 f621 f622 => (hF_M a i f598 f600 f601 f602 f603 f604 f605 f606 f607 f608 f609 f610 f611 f612 f613 f614 f615 f616 f617 f618 f619 f620 f621 f622)) (fun i g6 g10 g11 g12 g34 => (hG_M i g6 g10 g11 g12 g34)))
          · refine jr.bipush rfl (by decide) ?_
            exact jr.ireturn rfl rfl rfl (q _ _ hI_M hH_M hS_M  (by omega) hG1 (fun a i f598 f600 f601 f602 f603 f604 f605 f606 f607 f608 f609 f610 f611 f612 f613 f614 f615 f616 f617 f618 f619 f620 f621 f622 => (hF_M a i f598 f600 f601 f602 f603 f604 f605 f606 f607 f608 f609 f610 f611 f612 f613 f614 f615 f616 f617 f618 f619 f620 f621 f622)) (fun i g6 g10 g11 g12 g34 => (hG_M i g6 g10 g11 g12 g34)))
      · refine jr.iload rfl rfl ?_
        refine jr.bipush rfl (by decide) ?_
        refine jr.irem rfl (by decide) ?_
        have b13 : j_rem c 8 = c % 8 := j_rem_ex (by omega) (by omega)
        generalize j_rem c 8 = v13 at b13 ⊢
        refine jr.if_ne rfl rfl (by omega) (fun h360 => ?_) (fun h360 => ?_)
        · refine jr.bipush rfl (by decide) ?_
          exact jr.ireturn rfl rfl rfl (q _ _ hI_M hH_M hS_M  (by omega) hG1 (fun a i f598 f600 f601 f602 f603 f604 f605 f606 f607 f608 f609 f610 f611 f612 f613 f614 f615 f616 f617 f618 f619 f620 f621 f622 => (hF_M a i f598 f600 f601 f602 f603 f604 f605 f606 f607 f608 f609 f610 f611 f612 f613 f614 f615 f616 f617 f618 f619 f620 f621 f622)) (fun i g6 g10 g11 g12 g34 => (hG_M i g6 g10 g11 g12 g34)))
        · refine jr.iload rfl rfl ?_
          refine jr.if_eq rfl rfl (by omega) (fun h365 => ?_) (fun h365 => ?_)
          · refine jr.iload rfl rfl ?_
            refine jr.iconst rfl ?_
            refine jr.icmp_ne rfl rfl (by omega) (by omega) (fun h385 => ?_) (fun h385 => ?_)
            · obtain ⟨v14, e14⟩ : ∃ z, M 606 g = z := ⟨_, rfl⟩
              have b14 : 0 ≤ v14 ∧ v14 ≤ 1 := by rw [← e14]; exact (by have q := hI_M 606 g (by decide); rw [xri_row rfl rfl] at q; exact q)
              obtain ⟨v15, e15⟩ : ∃ z, M 607 g = z := ⟨_, rfl⟩
              have b15 : 0 ≤ v15 ∧ v15 ≤ 11 := by rw [← e15]; exact (by have q := hI_M 607 g (by decide); rw [xri_row rfl rfl] at q; exact q)
              refine jr.pick [0, 1, 7, 8, 9, 10, 11, 12, 13, 14] rfl rfl ?_
              exact r_gather_L418 q M i g o c f t k h x hI_M hH_M hS_M  (fun a i f598 f600 f601 f602 f603 f604 f605 f606 f607 f608 f609 f610 f611 f612 f613 f614 f615 f616 f617 f618 f619 f620 f621 f622 => (hF_M a i f598 f600 f601 f602 f603 f604 f605 f606 f607 f608 f609 f610 f611 f612 f613 f614 f615 f616 f617 f618 f619 f620 f621 f622)) (fun i g6 g10 g11 g12 g34 => (hG_M i g6 g10 g11 g12 g34)) (by omega) (by omega) (by omega) (by omega) (by omega) (by omega) (by omega) (by omega) (by omega) hG1 (KT.fr kt (fun i => rfl) (fun i => rfl) (fun i => rfl)) (by rw [e14, e15] <;> omega) (by omega)
            · refine jr.aload_n rfl rfl ?_
              refine jr_v rfl rfl (Or.inl rfl) rfl rfl (by decide) rfl ⟨rfl, Nat.le_of_ble_eq_true rfl, Nat.le_of_ble_eq_true rfl⟩ rfl (jc.deep (r_freeGathering hI_M hH_M hS_M (Kp.rfl _)   (fun r16 z16  => ?_)) (by decide))
              refine jr.istore rfl (by decide) rfl ?_
              refine jr.iload rfl rfl ?_
              refine jr.iconst rfl ?_
              refine jr.icmp_ne rfl rfl (by omega) (by omega) (fun h397 => ?_) (fun h397 => ?_)
              · refine jr.aload_n rfl rfl ?_
                refine jr.iload rfl rfl ?_
                refine jr.iload_n rfl rfl ?_
                refine jr.lload rfl rfl ?_
                refine jr.lload rfl rfl ?_
                refine jr.lload rfl rfl ?_
                refine jr.iload rfl rfl ?_
                refine jr_v rfl rfl (Or.inl rfl) rfl rfl (by decide) rfl ⟨rfl, Nat.le_of_ble_eq_true rfl, Nat.le_of_ble_eq_true rfl⟩ rfl (jc.deep (r_beginGathering hI_M hH_M hS_M  (by omega) (by omega) (by omega) (by omega) (by omega) (by omega) hG1 (fun M17 hI_M17 hH_M17 hS_M17  w17_0 w17_1 w17_2 w17_3 w17_4 w17_5 w17_6 => ?_)) (by decide))
                obtain ⟨v18, e18⟩ : ∃ z, M17 606 r16 = z := ⟨_, rfl⟩
                have b18 : 0 ≤ v18 ∧ v18 ≤ 1 := by rw [← e18]; exact (by have q := hI_M17 606 r16 (by decide); rw [xri_row rfl rfl] at q; exact q)
                obtain ⟨v19, e19⟩ : ∃ z, M17 607 r16 = z := ⟨_, rfl⟩
                have b19 : 0 ≤ v19 ∧ v19 ≤ 11 := by rw [← e19]; exact (by have q := hI_M17 607 r16 (by decide); rw [xri_row rfl rfl] at q; exact q)
                refine jr.pick [1, 0, 7, 8, 9, 10, 11, 12, 13, 14] rfl rfl ?_
                exact r_gather_L418 q M17 i r16 o c f t k h x hI_M17 hH_M17 hS_M17  (fun a i f598 f600 f601 f602 f603 f604 f605 f606 f607 f608 f609 f610 f611 f612 f613 f614 f615 f616 f617 f618 f619 f620 f621 f622 => ((w17_6 a i f606 f607 f608 f609 f610 f611 f612 f613 f614 f616 f617).trans (hF_M a i f598 f600 f601 f602 f603 f604 f605 f606 f607 f608 f609 f610 f611 f612 f613 f614 f615 f616 f617 f618 f619 f620 f621 f622))) (fun i g6 g10 g11 g12 g34 => ((w17_6 598 i (by decide) (by decide) (by decide) (by decide) (by decide) (by decide) (by decide) (by decide) (by decide) (by decide) (by decide)).trans (hG_M i g6 g10 g11 g12 g34))) (by omega) (by omega) (by omega) (by omega) (by omega) (by omega) (by omega) (by omega) (by omega) w17_0 (KT.fr kt (fun i => (w17_6 601 i (by decide) (by decide) (by decide) (by decide) (by decide) (by decide) (by decide) (by decide) (by decide) (by decide) (by decide)).trans ((fun i => rfl) i)) (fun i => (w17_6 604 i (by decide) (by decide) (by decide) (by decide) (by decide) (by decide) (by decide) (by decide) (by decide) (by decide) (by decide)).trans ((fun i => rfl) i)) (fun i => (w17_6 605 i (by decide) (by decide) (by decide) (by decide) (by decide) (by decide) (by decide) (by decide) (by decide) (by decide) (by decide)).trans ((fun i => rfl) i))) (by rw [e18, e19] <;> omega) (by omega)
              · refine jr.bipush rfl (by decide) ?_
                exact jr.ireturn rfl rfl rfl (q _ _ hI_M hH_M hS_M  (by omega) hG1 (fun a i f598 f600 f601 f602 f603 f604 f605 f606 f607 f608 f609 f610 f611 f612 f613 f614 f615 f616 f617 f618 f619 f620 f621 f622 => (hF_M a i f598 f600 f601 f602 f603 f604 f605 f606 f607 f608 f609 f610 f611 f612 f613 f614 f615 f616 f617 f618 f619 f620 f621 f622)) (fun i g6 g10 g11 g12 g34 => (hG_M i g6 g10 g11 g12 g34)))
          · refine jr.iload rfl rfl ?_
            refine jr.iload rfl rfl ?_
            refine jr.iadd rfl ?_
            refine jr.sipush rfl (by decide) ?_
            refine jr.icmp_le rfl rfl (by omega) (by omega) (fun h376 => ?_) (fun h376 => ?_)
            · refine jr.iload rfl rfl ?_
              refine jr.iconst rfl ?_
              refine jr.icmp_ne rfl rfl (by omega) (by omega) (fun h385 => ?_) (fun h385 => ?_)
              · obtain ⟨v20, e20⟩ : ∃ z, M 606 g = z := ⟨_, rfl⟩
                have b20 : 0 ≤ v20 ∧ v20 ≤ 1 := by rw [← e20]; exact (by have q := hI_M 606 g (by decide); rw [xri_row rfl rfl] at q; exact q)
                obtain ⟨v21, e21⟩ : ∃ z, M 607 g = z := ⟨_, rfl⟩
                have b21 : 0 ≤ v21 ∧ v21 ≤ 11 := by rw [← e21]; exact (by have q := hI_M 607 g (by decide); rw [xri_row rfl rfl] at q; exact q)
                refine jr.pick [0, 1, 7, 8, 9, 10, 11, 12, 13, 14] rfl rfl ?_
                exact r_gather_L418 q M i g o c f t k h x hI_M hH_M hS_M  (fun a i f598 f600 f601 f602 f603 f604 f605 f606 f607 f608 f609 f610 f611 f612 f613 f614 f615 f616 f617 f618 f619 f620 f621 f622 => (hF_M a i f598 f600 f601 f602 f603 f604 f605 f606 f607 f608 f609 f610 f611 f612 f613 f614 f615 f616 f617 f618 f619 f620 f621 f622)) (fun i g6 g10 g11 g12 g34 => (hG_M i g6 g10 g11 g12 g34)) (by omega) (by omega) (by omega) (by omega) (by omega) (by omega) (by omega) (by omega) (by omega) hG1 (KT.fr kt (fun i => rfl) (fun i => rfl) (fun i => rfl)) (by rw [e20, e21] <;> omega) (by omega)
              · refine jr.aload_n rfl rfl ?_
                refine jr_v rfl rfl (Or.inl rfl) rfl rfl (by decide) rfl ⟨rfl, Nat.le_of_ble_eq_true rfl, Nat.le_of_ble_eq_true rfl⟩ rfl (jc.deep (r_freeGathering hI_M hH_M hS_M (Kp.rfl _)   (fun r22 z22  => ?_)) (by decide))
                refine jr.istore rfl (by decide) rfl ?_
                refine jr.iload rfl rfl ?_
                refine jr.iconst rfl ?_
                refine jr.icmp_ne rfl rfl (by omega) (by omega) (fun h397 => ?_) (fun h397 => ?_)
                · refine jr.aload_n rfl rfl ?_
                  refine jr.iload rfl rfl ?_
                  refine jr.iload_n rfl rfl ?_
                  refine jr.lload rfl rfl ?_
                  refine jr.lload rfl rfl ?_
                  refine jr.lload rfl rfl ?_
                  refine jr.iload rfl rfl ?_
                  refine jr_v rfl rfl (Or.inl rfl) rfl rfl (by decide) rfl ⟨rfl, Nat.le_of_ble_eq_true rfl, Nat.le_of_ble_eq_true rfl⟩ rfl (jc.deep (r_beginGathering hI_M hH_M hS_M  (by omega) (by omega) (by omega) (by omega) (by omega) (by omega) hG1 (fun M23 hI_M23 hH_M23 hS_M23  w23_0 w23_1 w23_2 w23_3 w23_4 w23_5 w23_6 => ?_)) (by decide))
                  obtain ⟨v24, e24⟩ : ∃ z, M23 606 r22 = z := ⟨_, rfl⟩
                  have b24 : 0 ≤ v24 ∧ v24 ≤ 1 := by rw [← e24]; exact (by have q := hI_M23 606 r22 (by decide); rw [xri_row rfl rfl] at q; exact q)
                  obtain ⟨v25, e25⟩ : ∃ z, M23 607 r22 = z := ⟨_, rfl⟩
                  have b25 : 0 ≤ v25 ∧ v25 ≤ 11 := by rw [← e25]; exact (by have q := hI_M23 607 r22 (by decide); rw [xri_row rfl rfl] at q; exact q)
                  refine jr.pick [1, 0, 7, 8, 9, 10, 11, 12, 13, 14] rfl rfl ?_
                  exact r_gather_L418 q M23 i r22 o c f t k h x hI_M23 hH_M23 hS_M23  (fun a i f598 f600 f601 f602 f603 f604 f605 f606 f607 f608 f609 f610 f611 f612 f613 f614 f615 f616 f617 f618 f619 f620 f621 f622 => ((w23_6 a i f606 f607 f608 f609 f610 f611 f612 f613 f614 f616 f617).trans (hF_M a i f598 f600 f601 f602 f603 f604 f605 f606 f607 f608 f609 f610 f611 f612 f613 f614 f615 f616 f617 f618 f619 f620 f621 f622))) (fun i g6 g10 g11 g12 g34 => ((w23_6 598 i (by decide) (by decide) (by decide) (by decide) (by decide) (by decide) (by decide) (by decide) (by decide) (by decide) (by decide)).trans (hG_M i g6 g10 g11 g12 g34))) (by omega) (by omega) (by omega) (by omega) (by omega) (by omega) (by omega) (by omega) (by omega) w23_0 (KT.fr kt (fun i => (w23_6 601 i (by decide) (by decide) (by decide) (by decide) (by decide) (by decide) (by decide) (by decide) (by decide) (by decide) (by decide)).trans ((fun i => rfl) i)) (fun i => (w23_6 604 i (by decide) (by decide) (by decide) (by decide) (by decide) (by decide) (by decide) (by decide) (by decide) (by decide) (by decide)).trans ((fun i => rfl) i)) (fun i => (w23_6 605 i (by decide) (by decide) (by decide) (by decide) (by decide) (by decide) (by decide) (by decide) (by decide) (by decide) (by decide)).trans ((fun i => rfl) i))) (by rw [e24, e25] <;> omega) (by omega)
                · refine jr.bipush rfl (by decide) ?_
                  exact jr.ireturn rfl rfl rfl (q _ _ hI_M hH_M hS_M  (by omega) hG1 (fun a i f598 f600 f601 f602 f603 f604 f605 f606 f607 f608 f609 f610 f611 f612 f613 f614 f615 f616 f617 f618 f619 f620 f621 f622 => (hF_M a i f598 f600 f601 f602 f603 f604 f605 f606 f607 f608 f609 f610 f611 f612 f613 f614 f615 f616 f617 f618 f619 f620 f621 f622)) (fun i g6 g10 g11 g12 g34 => (hG_M i g6 g10 g11 g12 g34)))
            · refine jr.bipush rfl (by decide) ?_
              exact jr.ireturn rfl rfl rfl (q _ _ hI_M hH_M hS_M  (by omega) hG1 (fun a i f598 f600 f601 f602 f603 f604 f605 f606 f607 f608 f609 f610 f611 f612 f613 f614 f615 f616 f617 f618 f619 f620 f621 f622 => (hF_M a i f598 f600 f601 f602 f603 f604 f605 f606 f607 f608 f609 f610 f611 f612 f613 f614 f615 f616 f617 f618 f619 f620 f621 f622)) (fun i g6 g10 g11 g12 g34 => (hG_M i g6 g10 g11 g12 g34)))
theorem r_gather_L301 {A : Nat → Option (Nat × (Nat → Int32))} {Q : Option Value → jm → Prop} {M0 : jm} (q : ∀ (r : Int) (M' : jm), RI M' → RH M' → RF M' → (-5) ≤ r ∧ r ≤ 23 → RG1 M' → (∀ (a : Nat) (i : Int), a ≠ 598 → a ≠ 600 → a ≠ 601 → a ≠ 602 → a ≠ 603 → a ≠ 604 → a ≠ 605 → a ≠ 606 → a ≠ 607 → a ≠ 608 → a ≠ 609 → a ≠ 610 → a ≠ 611 → a ≠ 612 → a ≠ 613 → a ≠ 614 → a ≠ 615 → a ≠ 616 → a ≠ 617 → a ≠ 618 → a ≠ 619 → a ≠ 620 → a ≠ 621 → a ≠ 622 → M' a i = M0 a i) → (∀ (i : Int), i ≠ 6 → i ≠ 10 → i ≠ 11 → i ≠ 12 → i ≠ 34 → M' 598 i = M0 598 i) → Q (some (.int (Int32.ofInt r))) M') : ∀ (M : jm) (u : Int) (b : Int) (d : Int) (e : Int) (m : Int) (o : Int) (c : Int) (f : Int) (t : Int) (a : Int) (k : Int) (h : Int) (x : Int), RI M → RH M → RF M → (∀ (a : Nat) (i : Int), a ≠ 598 → a ≠ 600 → a ≠ 601 → a ≠ 602 → a ≠ 603 → a ≠ 604 → a ≠ 605 → a ≠ 606 → a ≠ 607 → a ≠ 608 → a ≠ 609 → a ≠ 610 → a ≠ 611 → a ≠ 612 → a ≠ 613 → a ≠ 614 → a ≠ 615 → a ≠ 616 → a ≠ 617 → a ≠ 618 → a ≠ 619 → a ≠ 620 → a ≠ 621 → a ≠ 622 → M a i = M0 a i) → (∀ (i : Int), i ≠ 6 → i ≠ 10 → i ≠ 11 → i ≠ 12 → i ≠ 34 → M 598 i = M0 598 i) → (-9223372036854775808) ≤ u ∧ u ≤ 9223372036854775807 → (-9223372036854775808) ≤ b ∧ b ≤ 9223372036854775807 → (-9223372036854775808) ≤ d ∧ d ≤ 9223372036854775807 → 0 ≤ e ∧ e ≤ 255 → 0 ≤ m ∧ m ≤ 1 → 0 ≤ o ∧ o ≤ 65528 → 0 ≤ c ∧ c ≤ 400 → 0 ≤ f ∧ f ≤ 400 → 0 ≤ t ∧ t ≤ 11 → 0 ≤ a ∧ a ≤ 400 → 0 ≤ k ∧ k ≤ 11 → 0 ≤ h ∧ h ≤ 11 → 0 ≤ x ∧ x ≤ 23 → RG1 M → HK M x h t k a → f + c ≤ 400 → jr A 5 xm_292 301 [(16, .long (Int64.ofInt (u))), (14, .long (Int64.ofInt (b))), (12, .long (Int64.ofInt (d))), (11, .int (Int32.ofInt (e))), (10, .int (Int32.ofInt (m))), (9, .int (Int32.ofInt (o))), (8, .int (Int32.ofInt (c))), (7, .int (Int32.ofInt (f))), (5, .int (Int32.ofInt (t))), (4, .int (Int32.ofInt (a))), (3, .int (Int32.ofInt (k))), (2, .int (Int32.ofInt (h))), (1, .int (Int32.ofInt (x))), (0, .ref (598))] [] M Q := by
    intro M u b d e m o c f t a k h x hI_M hH_M hS_M hF_M hG_M h_u h_b h_d h_e h_m h_o h_c h_f h_t h_a h_k h_h h_x hy0 hy1 hy2
    have hG1 := hy0
    have hk := hy1
    obtain ⟨k1, k2, k3, k4, k5⟩ := hy1
    refine jr.aload_n rfl rfl ?_
    refine jr.iload_n rfl rfl ?_
    refine jr.lload rfl rfl ?_
    refine jr.lload rfl rfl ?_
    refine jr.lload rfl rfl ?_
    refine jr.iload rfl rfl ?_
    refine jr_v rfl rfl (Or.inl rfl) rfl rfl (by decide) rfl ⟨rfl, Nat.le_of_ble_eq_true rfl, Nat.le_of_ble_eq_true rfl⟩ rfl (jc.deep (r_gathering hI_M hH_M hS_M (Kp.rfl _) (by omega) (by omega) (by omega) (by omega) (by omega)  (fun r1 z1 w1_0 => ?_)) (by decide))
    refine jr.istore rfl (by decide) rfl ?_
    refine jr.iload rfl rfl ?_
    refine jr.if_ne rfl rfl (by omega) (fun h318 => ?_) (fun h318 => ?_)
    · refine jr.iconst rfl ?_
      refine jr.istore rfl (by decide) rfl ?_
      refine jr.pick [0, 1, 2, 3, 4, 5, 6, 7, 8, 9, 10, 12, 13, 14, 15] rfl rfl ?_
      exact r_gather_L345 q M 0 r1 u b d e m o c f t k h x hI_M hH_M hS_M  (fun a i f598 f600 f601 f602 f603 f604 f605 f606 f607 f608 f609 f610 f611 f612 f613 f614 f615 f616 f617 f618 f619 f620 f621 f622 => (hF_M a i f598 f600 f601 f602 f603 f604 f605 f606 f607 f608 f609 f610 f611 f612 f613 f614 f615 f616 f617 f618 f619 f620 f621 f622)) (fun i g6 g10 g11 g12 g34 => (hG_M i g6 g10 g11 g12 g34)) (by omega) (by omega) (by omega) (by omega) (by omega) (by omega) (by omega) (by omega) (by omega) (by omega) (by omega) (by omega) (by omega) (by omega) hG1 ⟨by omega, by omega, by omega, by omega, by omega, fun q => by rcases k5 with z | z; (exact ⟨z.2.2.1, z.2.2.2.1, z.2.2.2.2⟩); (exact absurd q (by omega))⟩ (by omega)
    · refine jr.iload rfl rfl ?_
      refine jr.iconst rfl ?_
      refine jr.icmp_eq rfl rfl (by omega) (by omega) (fun h324 => ?_) (fun h324 => ?_)
      · refine jr.iconst rfl ?_
        refine jr.goto rfl rfl ?_
        refine jr.istore rfl (by decide) rfl ?_
        refine jr.pick [0, 1, 2, 3, 4, 5, 6, 7, 8, 9, 10, 12, 13, 14, 15] rfl rfl ?_
        exact r_gather_L345 q M 1 r1 u b d e m o c f t k h x hI_M hH_M hS_M  (fun a i f598 f600 f601 f602 f603 f604 f605 f606 f607 f608 f609 f610 f611 f612 f613 f614 f615 f616 f617 f618 f619 f620 f621 f622 => (hF_M a i f598 f600 f601 f602 f603 f604 f605 f606 f607 f608 f609 f610 f611 f612 f613 f614 f615 f616 f617 f618 f619 f620 f621 f622)) (fun i g6 g10 g11 g12 g34 => (hG_M i g6 g10 g11 g12 g34)) (by omega) (by omega) (by omega) (by omega) (by omega) (by omega) (by omega) (by omega) (by omega) (by omega) (by omega) (by omega) (by omega) (by omega) hG1 ⟨by omega, by omega, by omega, by omega, by omega, fun q => by rcases k5 with z | z; (exact ⟨z.2.2.1, z.2.2.2.1, z.2.2.2.2⟩); (exact absurd q (by omega))⟩ (by omega)
      · refine jr.aload_n rfl rfl ?_
        refine jr.getf (i := 25) (v := .ref 614) rfl rfl (by decide) rfl (by decide) rfl rfl rfl rfl ?_
        refine jr.iload rfl rfl ?_
        obtain ⟨v2, e2⟩ : ∃ z, M 614 r1 = z := ⟨_, rfl⟩
        have b2 : (-1) ≤ v2 ∧ v2 ≤ 360 := by rw [← e2]; exact (by have q := hI_M 614 r1 (by decide); rw [xri_row rfl rfl] at q; exact q)
        refine jr.iald (i := r1) (x := v2) rfl (by decide) rfl (by decide) (by omega) (by omega) e2 ?_
        refine jr.iconst rfl ?_
        refine jr.icmp_ne rfl rfl (by omega) (by omega) (fun h335 => ?_) (fun h335 => ?_)
        · refine jr.iconst rfl ?_
          refine jr.istore rfl (by decide) rfl ?_
          refine jr.pick [0, 1, 2, 3, 4, 5, 6, 7, 8, 9, 10, 12, 13, 14, 15] rfl rfl ?_
          exact r_gather_L345 q M 0 r1 u b d e m o c f t k h x hI_M hH_M hS_M  (fun a i f598 f600 f601 f602 f603 f604 f605 f606 f607 f608 f609 f610 f611 f612 f613 f614 f615 f616 f617 f618 f619 f620 f621 f622 => (hF_M a i f598 f600 f601 f602 f603 f604 f605 f606 f607 f608 f609 f610 f611 f612 f613 f614 f615 f616 f617 f618 f619 f620 f621 f622)) (fun i g6 g10 g11 g12 g34 => (hG_M i g6 g10 g11 g12 g34)) (by omega) (by omega) (by omega) (by omega) (by omega) (by omega) (by omega) (by omega) (by omega) (by omega) (by omega) (by omega) (by omega) (by omega) hG1 ⟨by omega, by omega, by omega, by omega, by omega, fun q => by rcases k5 with z | z; (exact ⟨z.2.2.1, z.2.2.2.1, z.2.2.2.2⟩); (exact absurd q (by omega))⟩ (by omega)
        · refine jr.iconst rfl ?_
          refine jr.goto rfl rfl ?_
          refine jr.istore rfl (by decide) rfl ?_
          refine jr.pick [0, 1, 2, 3, 4, 5, 6, 7, 8, 9, 10, 12, 13, 14, 15] rfl rfl ?_
          exact r_gather_L345 q M 1 r1 u b d e m o c f t k h x hI_M hH_M hS_M  (fun a i f598 f600 f601 f602 f603 f604 f605 f606 f607 f608 f609 f610 f611 f612 f613 f614 f615 f616 f617 f618 f619 f620 f621 f622 => (hF_M a i f598 f600 f601 f602 f603 f604 f605 f606 f607 f608 f609 f610 f611 f612 f613 f614 f615 f616 f617 f618 f619 f620 f621 f622)) (fun i g6 g10 g11 g12 g34 => (hG_M i g6 g10 g11 g12 g34)) (by omega) (by omega) (by omega) (by omega) (by omega) (by omega) (by omega) (by omega) (by omega) (by omega) (by omega) (by omega) (by omega) (by omega) hG1 ⟨by omega, by omega, by omega, by omega, by omega, fun q => by rcases k5 with z | z; (exact ⟨z.2.2.1, z.2.2.2.1, z.2.2.2.2⟩); (exact absurd q (by omega))⟩ (by omega)
theorem r_gather_L268 {A : Nat → Option (Nat × (Nat → Int32))} {Q : Option Value → jm → Prop} {M0 : jm} (q : ∀ (r : Int) (M' : jm), RI M' → RH M' → RF M' → (-5) ≤ r ∧ r ≤ 23 → RG1 M' → (∀ (a : Nat) (i : Int), a ≠ 598 → a ≠ 600 → a ≠ 601 → a ≠ 602 → a ≠ 603 → a ≠ 604 → a ≠ 605 → a ≠ 606 → a ≠ 607 → a ≠ 608 → a ≠ 609 → a ≠ 610 → a ≠ 611 → a ≠ 612 → a ≠ 613 → a ≠ 614 → a ≠ 615 → a ≠ 616 → a ≠ 617 → a ≠ 618 → a ≠ 619 → a ≠ 620 → a ≠ 621 → a ≠ 622 → M' a i = M0 a i) → (∀ (i : Int), i ≠ 6 → i ≠ 10 → i ≠ 11 → i ≠ 12 → i ≠ 34 → M' 598 i = M0 598 i) → Q (some (.int (Int32.ofInt r))) M') : ∀ (M : jm) (b : Int) (d : Int) (e : Int) (m : Int) (o : Int) (c : Int) (f : Int) (z : Int) (t : Int) (a : Int) (k : Int) (h : Int) (x : Int), RI M → RH M → RF M → (∀ (a : Nat) (i : Int), a ≠ 598 → a ≠ 600 → a ≠ 601 → a ≠ 602 → a ≠ 603 → a ≠ 604 → a ≠ 605 → a ≠ 606 → a ≠ 607 → a ≠ 608 → a ≠ 609 → a ≠ 610 → a ≠ 611 → a ≠ 612 → a ≠ 613 → a ≠ 614 → a ≠ 615 → a ≠ 616 → a ≠ 617 → a ≠ 618 → a ≠ 619 → a ≠ 620 → a ≠ 621 → a ≠ 622 → M a i = M0 a i) → (∀ (i : Int), i ≠ 6 → i ≠ 10 → i ≠ 11 → i ≠ 12 → i ≠ 34 → M 598 i = M0 598 i) → (-9223372036854775808) ≤ b ∧ b ≤ 9223372036854775807 → (-9223372036854775808) ≤ d ∧ d ≤ 9223372036854775807 → 0 ≤ e ∧ e ≤ 255 → 0 ≤ m ∧ m ≤ 1 → 0 ≤ o ∧ o ≤ 65528 → 0 ≤ c ∧ c ≤ 400 → 0 ≤ f ∧ f ≤ 400 → 0 ≤ z ∧ z ≤ 1 → 0 ≤ t ∧ t ≤ 11 → 0 ≤ a ∧ a ≤ 400 → 0 ≤ k ∧ k ≤ 11 → 0 ≤ h ∧ h ≤ 11 → 0 ≤ x ∧ x ≤ 23 → RG1 M → HK M x h t k a → ((z = 1 ∧ k = 2) ∨ (z = 0 ∧ k ≠ 2)) → f + c ≤ 400 → jr A 5 xm_292 268 [(14, .long (Int64.ofInt (b))), (12, .long (Int64.ofInt (d))), (11, .int (Int32.ofInt (e))), (10, .int (Int32.ofInt (m))), (9, .int (Int32.ofInt (o))), (8, .int (Int32.ofInt (c))), (7, .int (Int32.ofInt (f))), (6, .int (Int32.ofInt (z))), (5, .int (Int32.ofInt (t))), (4, .int (Int32.ofInt (a))), (3, .int (Int32.ofInt (k))), (2, .int (Int32.ofInt (h))), (1, .int (Int32.ofInt (x))), (0, .ref (598))] [] M Q := by
    intro M b d e m o c f z t a k h x hI_M hH_M hS_M hF_M hG_M h_b h_d h_e h_m h_o h_c h_f h_z h_t h_a h_k h_h h_x hy0 hy1 hy2 hy3
    have hG1 := hy0
    have hk := hy1
    obtain ⟨k1, k2, k3, k4, k5⟩ := hy1
    refine jr.iload rfl rfl ?_
    refine jr.if_eq rfl rfl (by omega) (fun h270 => ?_) (fun h270 => ?_)
    · refine jr.aload_n rfl rfl ?_
      refine jr.iload_n rfl rfl ?_
      refine jr.aload_n rfl rfl ?_
      refine jr.getf (i := 8) (v := .ref 604) rfl rfl (by decide) rfl (by decide) rfl rfl rfl rfl ?_
      refine jr.iload rfl rfl ?_
      obtain ⟨v1, e1⟩ : ∃ z, M 604 t = z := ⟨_, rfl⟩
      have b1 : 0 ≤ v1 ∧ v1 ≤ 400 := by rw [← e1]; exact (by have q := hI_M 604 t (by decide); rw [xri_row rfl rfl] at q; exact q)
      refine jr.iald (i := t) (x := v1) rfl (by decide) rfl (by decide) (by omega) (by omega) e1 ?_
      refine jr.bipush rfl (by decide) ?_
      refine jr_v rfl rfl (Or.inl rfl) rfl rfl (by decide) rfl ⟨rfl, Nat.le_of_ble_eq_true rfl, Nat.le_of_ble_eq_true rfl⟩ rfl (jc.deep (r_ofSix hI_M hH_M hS_M (Kp.rfl _) (by omega) (by omega) (by omega)  (fun r2 z2  => ?_)) (by decide))
      refine jr.lstore rfl (by decide) rfl ?_
      refine jr.pick [0, 1, 2, 3, 4, 5, 6, 7, 9, 10, 11, 12, 13, 14] rfl rfl ?_
      exact r_gather_L301 q M r2 b d e m o c f t a k h x hI_M hH_M hS_M  (fun a i f598 f600 f601 f602 f603 f604 f605 f606 f607 f608 f609 f610 f611 f612 f613 f614 f615 f616 f617 f618 f619 f620 f621 f622 => (hF_M a i f598 f600 f601 f602 f603 f604 f605 f606 f607 f608 f609 f610 f611 f612 f613 f614 f615 f616 f617 f618 f619 f620 f621 f622)) (fun i g6 g10 g11 g12 g34 => (hG_M i g6 g10 g11 g12 g34)) (by omega) (by omega) (by omega) (by omega) (by omega) (by omega) (by omega) (by omega) (by omega) (by omega) (by omega) (by omega) (by omega) hG1 hk (by omega)
    · refine jr.aload_n rfl rfl ?_
      refine jr.iload_n rfl rfl ?_
      refine jr.iload rfl rfl ?_
      refine jr.bipush rfl (by decide) ?_
      refine jr_v rfl rfl (Or.inl rfl) rfl rfl (by decide) rfl ⟨rfl, Nat.le_of_ble_eq_true rfl, Nat.le_of_ble_eq_true rfl⟩ rfl (jc.deep (r_ofFour hI_M hH_M hS_M (Kp.rfl _) (by omega) (by omega) (by omega)  (fun r3 z3 w3_0 => ?_)) (by decide))
      refine jr.goto rfl rfl ?_
      refine jr.lstore rfl (by decide) rfl ?_
      refine jr.pick [0, 1, 2, 3, 4, 5, 6, 7, 9, 10, 11, 12, 13, 14] rfl rfl ?_
      exact r_gather_L301 q M r3 b d e m o c f t a k h x hI_M hH_M hS_M  (fun a i f598 f600 f601 f602 f603 f604 f605 f606 f607 f608 f609 f610 f611 f612 f613 f614 f615 f616 f617 f618 f619 f620 f621 f622 => (hF_M a i f598 f600 f601 f602 f603 f604 f605 f606 f607 f608 f609 f610 f611 f612 f613 f614 f615 f616 f617 f618 f619 f620 f621 f622)) (fun i g6 g10 g11 g12 g34 => (hG_M i g6 g10 g11 g12 g34)) (by omega) (by omega) (by omega) (by omega) (by omega) (by omega) (by omega) (by omega) (by omega) (by omega) (by omega) (by omega) (by omega) hG1 hk (by omega)
theorem r_gather_L207 {A : Nat → Option (Nat × (Nat → Int32))} {Q : Option Value → jm → Prop} {M0 : jm} (q : ∀ (r : Int) (M' : jm), RI M' → RH M' → RF M' → (-5) ≤ r ∧ r ≤ 23 → RG1 M' → (∀ (a : Nat) (i : Int), a ≠ 598 → a ≠ 600 → a ≠ 601 → a ≠ 602 → a ≠ 603 → a ≠ 604 → a ≠ 605 → a ≠ 606 → a ≠ 607 → a ≠ 608 → a ≠ 609 → a ≠ 610 → a ≠ 611 → a ≠ 612 → a ≠ 613 → a ≠ 614 → a ≠ 615 → a ≠ 616 → a ≠ 617 → a ≠ 618 → a ≠ 619 → a ≠ 620 → a ≠ 621 → a ≠ 622 → M' a i = M0 a i) → (∀ (i : Int), i ≠ 6 → i ≠ 10 → i ≠ 11 → i ≠ 12 → i ≠ 34 → M' 598 i = M0 598 i) → Q (some (.int (Int32.ofInt r))) M') : ∀ (M : jm) (e : Int) (m : Int) (o : Int) (c : Int) (f : Int) (z : Int) (t : Int) (a : Int) (k : Int) (h : Int) (x : Int), RI M → RH M → RF M → (∀ (a : Nat) (i : Int), a ≠ 598 → a ≠ 600 → a ≠ 601 → a ≠ 602 → a ≠ 603 → a ≠ 604 → a ≠ 605 → a ≠ 606 → a ≠ 607 → a ≠ 608 → a ≠ 609 → a ≠ 610 → a ≠ 611 → a ≠ 612 → a ≠ 613 → a ≠ 614 → a ≠ 615 → a ≠ 616 → a ≠ 617 → a ≠ 618 → a ≠ 619 → a ≠ 620 → a ≠ 621 → a ≠ 622 → M a i = M0 a i) → (∀ (i : Int), i ≠ 6 → i ≠ 10 → i ≠ 11 → i ≠ 12 → i ≠ 34 → M 598 i = M0 598 i) → 0 ≤ e ∧ e ≤ 255 → 0 ≤ m ∧ m ≤ 1 → 0 ≤ o ∧ o ≤ 65528 → 0 ≤ c ∧ c ≤ 400 → 0 ≤ f ∧ f ≤ 400 → 0 ≤ z ∧ z ≤ 1 → 0 ≤ t ∧ t ≤ 11 → 0 ≤ a ∧ a ≤ 400 → 0 ≤ k ∧ k ≤ 11 → 0 ≤ h ∧ h ≤ 11 → 0 ≤ x ∧ x ≤ 23 → RG1 M → HK M x h t k a → ((z = 1 ∧ k = 2) ∨ (z = 0 ∧ k ≠ 2)) → f + c ≤ 400 → jr A 5 xm_292 207 [(11, .int (Int32.ofInt (e))), (10, .int (Int32.ofInt (m))), (9, .int (Int32.ofInt (o))), (8, .int (Int32.ofInt (c))), (7, .int (Int32.ofInt (f))), (6, .int (Int32.ofInt (z))), (5, .int (Int32.ofInt (t))), (4, .int (Int32.ofInt (a))), (3, .int (Int32.ofInt (k))), (2, .int (Int32.ofInt (h))), (1, .int (Int32.ofInt (x))), (0, .ref (598))] [] M Q := by
    intro M e m o c f z t a k h x hI_M hH_M hS_M hF_M hG_M h_e h_m h_o h_c h_f h_z h_t h_a h_k h_h h_x hy0 hy1 hy2 hy3
    have hG1 := hy0
    have hk := hy1
    obtain ⟨k1, k2, k3, k4, k5⟩ := hy1
    refine jr.iload rfl rfl ?_
    refine jr.if_eq rfl rfl (by omega) (fun h209 => ?_) (fun h209 => ?_)
    · refine jr.aload_n rfl rfl ?_
      refine jr.iload_n rfl rfl ?_
      refine jr.iload rfl rfl ?_
      refine jr.iconst rfl ?_
      refine jr.iadd rfl ?_
      refine jr_v rfl rfl (Or.inl rfl) rfl rfl (by decide) rfl ⟨rfl, Nat.le_of_ble_eq_true rfl, Nat.le_of_ble_eq_true rfl⟩ rfl (jc.deep (r_four hI_M hH_M hS_M (Kp.rfl _) (by omega) (by omega)  (fun r1 z1  => ?_)) (by decide))
      refine jr.lstore rfl (by decide) rfl ?_
      refine jr.iload rfl rfl ?_
      refine jr.if_eq rfl rfl (by omega) (fun h238 => ?_) (fun h238 => ?_)
      · refine jr.aload_n rfl rfl ?_
        refine jr.iload_n rfl rfl ?_
        refine jr.aload_n rfl rfl ?_
        refine jr.getf (i := 8) (v := .ref 604) rfl rfl (by decide) rfl (by decide) rfl rfl rfl rfl ?_
        refine jr.iload rfl rfl ?_
        obtain ⟨v2, e2⟩ : ∃ z, M 604 t = z := ⟨_, rfl⟩
        have b2 : 0 ≤ v2 ∧ v2 ≤ 400 := by rw [← e2]; exact (by have q := hI_M 604 t (by decide); rw [xri_row rfl rfl] at q; exact q)
        refine jr.iald (i := t) (x := v2) rfl (by decide) rfl (by decide) (by omega) (by omega) e2 ?_
        refine jr.iconst rfl ?_
        refine jr_v rfl rfl (Or.inl rfl) rfl rfl (by decide) rfl ⟨rfl, Nat.le_of_ble_eq_true rfl, Nat.le_of_ble_eq_true rfl⟩ rfl (jc.deep (r_ofSix hI_M hH_M hS_M (Kp.rfl _) (by omega) (by omega) (by omega)  (fun r3 z3  => ?_)) (by decide))
        refine jr.lstore rfl (by decide) rfl ?_
        refine jr.pick [0, 1, 2, 3, 4, 5, 6, 7, 8, 9, 10, 11, 12, 13] rfl rfl ?_
        exact r_gather_L268 q M r3 r1 e m o c f z t a k h x hI_M hH_M hS_M  (fun a i f598 f600 f601 f602 f603 f604 f605 f606 f607 f608 f609 f610 f611 f612 f613 f614 f615 f616 f617 f618 f619 f620 f621 f622 => (hF_M a i f598 f600 f601 f602 f603 f604 f605 f606 f607 f608 f609 f610 f611 f612 f613 f614 f615 f616 f617 f618 f619 f620 f621 f622)) (fun i g6 g10 g11 g12 g34 => (hG_M i g6 g10 g11 g12 g34)) (by omega) (by omega) (by omega) (by omega) (by omega) (by omega) (by omega) (by omega) (by omega) (by omega) (by omega) (by omega) (by omega) hG1 hk (by omega) (by omega)
      · exact absurd (by omega) h238
    · refine jr.aload_n rfl rfl ?_
      refine jr.iload_n rfl rfl ?_
      refine jr.iload rfl rfl ?_
      refine jr.iconst rfl ?_
      refine jr.iadd rfl ?_
      refine jr_v rfl rfl (Or.inl rfl) rfl rfl (by decide) rfl ⟨rfl, Nat.le_of_ble_eq_true rfl, Nat.le_of_ble_eq_true rfl⟩ rfl (jc.deep (r_two hI_M hH_M hS_M (Kp.rfl _) (by omega) (by omega)  (fun r4 z4  => ?_)) (by decide))
      refine jr.i2l rfl (by omega) ?_
      refine jr.goto rfl rfl ?_
      refine jr.lstore rfl (by decide) rfl ?_
      refine jr.iload rfl rfl ?_
      refine jr.if_eq rfl rfl (by omega) (fun h238 => ?_) (fun h238 => ?_)
      · exact absurd h238 (by omega)
      · refine jr.aload_n rfl rfl ?_
        refine jr.iload_n rfl rfl ?_
        refine jr.iload rfl rfl ?_
        refine jr.bipush rfl (by decide) ?_
        refine jr_v rfl rfl (Or.inl rfl) rfl rfl (by decide) rfl ⟨rfl, Nat.le_of_ble_eq_true rfl, Nat.le_of_ble_eq_true rfl⟩ rfl (jc.deep (r_ofFour hI_M hH_M hS_M (Kp.rfl _) (by omega) (by omega) (by omega)  (fun r5 z5 w5_0 => ?_)) (by decide))
        refine jr.goto rfl rfl ?_
        refine jr.lstore rfl (by decide) rfl ?_
        refine jr.pick [0, 1, 2, 3, 4, 5, 6, 7, 8, 9, 10, 11, 12, 13] rfl rfl ?_
        exact r_gather_L268 q M r5 r4 e m o c f z t a k h x hI_M hH_M hS_M  (fun a i f598 f600 f601 f602 f603 f604 f605 f606 f607 f608 f609 f610 f611 f612 f613 f614 f615 f616 f617 f618 f619 f620 f621 f622 => (hF_M a i f598 f600 f601 f602 f603 f604 f605 f606 f607 f608 f609 f610 f611 f612 f613 f614 f615 f616 f617 f618 f619 f620 f621 f622)) (fun i g6 g10 g11 g12 g34 => (hG_M i g6 g10 g11 g12 g34)) (by omega) (by omega) (by omega) (by omega) (by omega) (by omega) (by omega) (by omega) (by omega) (by omega) (by omega) (by omega) (by omega) hG1 hk (by omega) (by omega)
theorem r_gather_L130 {A : Nat → Option (Nat × (Nat → Int32))} {Q : Option Value → jm → Prop} {M0 : jm} (q : ∀ (r : Int) (M' : jm), RI M' → RH M' → RF M' → (-5) ≤ r ∧ r ≤ 23 → RG1 M' → (∀ (a : Nat) (i : Int), a ≠ 598 → a ≠ 600 → a ≠ 601 → a ≠ 602 → a ≠ 603 → a ≠ 604 → a ≠ 605 → a ≠ 606 → a ≠ 607 → a ≠ 608 → a ≠ 609 → a ≠ 610 → a ≠ 611 → a ≠ 612 → a ≠ 613 → a ≠ 614 → a ≠ 615 → a ≠ 616 → a ≠ 617 → a ≠ 618 → a ≠ 619 → a ≠ 620 → a ≠ 621 → a ≠ 622 → M' a i = M0 a i) → (∀ (i : Int), i ≠ 6 → i ≠ 10 → i ≠ 11 → i ≠ 12 → i ≠ 34 → M' 598 i = M0 598 i) → Q (some (.int (Int32.ofInt r))) M') : ∀ (M : jm) (o : Int) (c : Int) (f : Int) (z : Int) (t : Int) (a : Int) (k : Int) (h : Int) (x : Int), RI M → RH M → RF M → (∀ (a : Nat) (i : Int), a ≠ 598 → a ≠ 600 → a ≠ 601 → a ≠ 602 → a ≠ 603 → a ≠ 604 → a ≠ 605 → a ≠ 606 → a ≠ 607 → a ≠ 608 → a ≠ 609 → a ≠ 610 → a ≠ 611 → a ≠ 612 → a ≠ 613 → a ≠ 614 → a ≠ 615 → a ≠ 616 → a ≠ 617 → a ≠ 618 → a ≠ 619 → a ≠ 620 → a ≠ 621 → a ≠ 622 → M a i = M0 a i) → (∀ (i : Int), i ≠ 6 → i ≠ 10 → i ≠ 11 → i ≠ 12 → i ≠ 34 → M 598 i = M0 598 i) → 0 ≤ o ∧ o ≤ 65528 → 0 ≤ c ∧ c ≤ 400 → 0 ≤ f ∧ f ≤ 400 → 0 ≤ z ∧ z ≤ 1 → 0 ≤ t ∧ t ≤ 11 → 0 ≤ a ∧ a ≤ 400 → 0 ≤ k ∧ k ≤ 11 → 0 ≤ h ∧ h ≤ 11 → 0 ≤ x ∧ x ≤ 23 → RG1 M → HK M x h t k a → ((z = 1 ∧ k = 2) ∨ (z = 0 ∧ k ≠ 2)) → f + c ≤ 400 → jr A 5 xm_292 130 [(9, .int (Int32.ofInt (o))), (8, .int (Int32.ofInt (c))), (7, .int (Int32.ofInt (f))), (6, .int (Int32.ofInt (z))), (5, .int (Int32.ofInt (t))), (4, .int (Int32.ofInt (a))), (3, .int (Int32.ofInt (k))), (2, .int (Int32.ofInt (h))), (1, .int (Int32.ofInt (x))), (0, .ref (598))] [] M Q := by
    intro M o c f z t a k h x hI_M hH_M hS_M hF_M hG_M h_o h_c h_f h_z h_t h_a h_k h_h h_x hy0 hy1 hy2 hy3
    have hG1 := hy0
    have hk := hy1
    obtain ⟨k1, k2, k3, k4, k5⟩ := hy1
    refine jr.iload rfl rfl ?_
    refine jr.if_eq rfl rfl (by omega) (fun h132 => ?_) (fun h132 => ?_)
    · refine jr.aload_n rfl rfl ?_
      refine jr.iload_n rfl rfl ?_
      refine jr.iload rfl rfl ?_
      refine jr.iconst rfl ?_
      refine jr.iadd rfl ?_
      refine jr_v rfl rfl (Or.inl rfl) rfl rfl (by decide) rfl ⟨rfl, Nat.le_of_ble_eq_true rfl, Nat.le_of_ble_eq_true rfl⟩ rfl (jc.deep (r_two hI_M hH_M hS_M (Kp.rfl _) (by omega) (by omega)  (fun r1 z1  => ?_)) (by decide))
      refine jr.iconst rfl ?_
      refine jr.iand rfl ?_
      have b2 : 0 ≤ j_and r1 1 ∧ j_and r1 1 ≤ 1 := j_and_le (by decide)
      generalize j_and r1 1 = v2 at b2 ⊢
      refine jr.iconst rfl ?_
      refine jr.icmp_ne rfl rfl (by omega) (by omega) (fun h170 => ?_) (fun h170 => ?_)
      · refine jr.iconst rfl ?_
        refine jr.istore rfl (by decide) rfl ?_
        refine jr.iload rfl rfl ?_
        refine jr.if_eq rfl rfl (by omega) (fun h182 => ?_) (fun h182 => ?_)
        · refine jr.aload_n rfl rfl ?_
          refine jr.iload_n rfl rfl ?_
          refine jr.iload rfl rfl ?_
          refine jr_v rfl rfl (Or.inl rfl) rfl rfl (by decide) rfl ⟨rfl, Nat.le_of_ble_eq_true rfl, Nat.le_of_ble_eq_true rfl⟩ rfl (jc.deep (r_one hI_M hH_M hS_M (Kp.rfl _) (by omega) (by omega)  (fun r3 z3 w3_0 => ?_)) (by decide))
          refine jr.istore rfl (by decide) rfl ?_
          refine jr.pick [0, 1, 2, 3, 4, 5, 6, 7, 8, 9, 10, 11] rfl rfl ?_
          exact r_gather_L207 q M r3 0 o c f z t a k h x hI_M hH_M hS_M  (fun a i f598 f600 f601 f602 f603 f604 f605 f606 f607 f608 f609 f610 f611 f612 f613 f614 f615 f616 f617 f618 f619 f620 f621 f622 => (hF_M a i f598 f600 f601 f602 f603 f604 f605 f606 f607 f608 f609 f610 f611 f612 f613 f614 f615 f616 f617 f618 f619 f620 f621 f622)) (fun i g6 g10 g11 g12 g34 => (hG_M i g6 g10 g11 g12 g34)) (by omega) (by omega) (by omega) (by omega) (by omega) (by omega) (by omega) (by omega) (by omega) (by omega) (by omega) hG1 hk (by omega) (by omega)
        · exact absurd (by omega) h182
      · refine jr.iconst rfl ?_
        refine jr.goto rfl rfl ?_
        refine jr.istore rfl (by decide) rfl ?_
        refine jr.iload rfl rfl ?_
        refine jr.if_eq rfl rfl (by omega) (fun h182 => ?_) (fun h182 => ?_)
        · refine jr.aload_n rfl rfl ?_
          refine jr.iload_n rfl rfl ?_
          refine jr.iload rfl rfl ?_
          refine jr_v rfl rfl (Or.inl rfl) rfl rfl (by decide) rfl ⟨rfl, Nat.le_of_ble_eq_true rfl, Nat.le_of_ble_eq_true rfl⟩ rfl (jc.deep (r_one hI_M hH_M hS_M (Kp.rfl _) (by omega) (by omega)  (fun r4 z4 w4_0 => ?_)) (by decide))
          refine jr.istore rfl (by decide) rfl ?_
          refine jr.pick [0, 1, 2, 3, 4, 5, 6, 7, 8, 9, 10, 11] rfl rfl ?_
          exact r_gather_L207 q M r4 1 o c f z t a k h x hI_M hH_M hS_M  (fun a i f598 f600 f601 f602 f603 f604 f605 f606 f607 f608 f609 f610 f611 f612 f613 f614 f615 f616 f617 f618 f619 f620 f621 f622 => (hF_M a i f598 f600 f601 f602 f603 f604 f605 f606 f607 f608 f609 f610 f611 f612 f613 f614 f615 f616 f617 f618 f619 f620 f621 f622)) (fun i g6 g10 g11 g12 g34 => (hG_M i g6 g10 g11 g12 g34)) (by omega) (by omega) (by omega) (by omega) (by omega) (by omega) (by omega) (by omega) (by omega) (by omega) (by omega) hG1 hk (by omega) (by omega)
        · exact absurd (by omega) h182
    · refine jr.aload_n rfl rfl ?_
      refine jr.iload_n rfl rfl ?_
      refine jr.iload rfl rfl ?_
      refine jr.iconst rfl ?_
      refine jr_v rfl rfl (Or.inl rfl) rfl rfl (by decide) rfl ⟨rfl, Nat.le_of_ble_eq_true rfl, Nat.le_of_ble_eq_true rfl⟩ rfl (jc.deep (r_ofFour hI_M hH_M hS_M (Kp.rfl _) (by omega) (by omega) (by omega)  (fun r5 z5 w5_0 => ?_)) (by decide))
      refine jr.lconst (x := 1) rfl (by decide) ?_
      refine jr.land rfl ?_
      have b6 : 0 ≤ jl_and r5 1 ∧ jl_and r5 1 ≤ 1 := jl_and_le (by decide)
      generalize jl_and r5 1 = v6 at b6 ⊢
      refine jr.lconst (x := 1) rfl (by decide) ?_
      refine jr.lcmp_ne rfl rfl rfl (by omega) (by omega) (fun h146 => ?_) (fun h146 => ?_)
      · refine jr.iconst rfl ?_
        refine jr.goto rfl rfl ?_
        refine jr.istore rfl (by decide) rfl ?_
        refine jr.iload rfl rfl ?_
        refine jr.if_eq rfl rfl (by omega) (fun h182 => ?_) (fun h182 => ?_)
        · exact absurd h182 (by omega)
        · refine jr.aload_n rfl rfl ?_
          refine jr.iload_n rfl rfl ?_
          refine jr.iload rfl rfl ?_
          refine jr.bipush rfl (by decide) ?_
          refine jr.iadd rfl ?_
          refine jr_v rfl rfl (Or.inl rfl) rfl rfl (by decide) rfl ⟨rfl, Nat.le_of_ble_eq_true rfl, Nat.le_of_ble_eq_true rfl⟩ rfl (jc.deep (r_one hI_M hH_M hS_M (Kp.rfl _) (by omega) (by omega)  (fun r7 z7 w7_0 => ?_)) (by decide))
          refine jr.goto rfl rfl ?_
          refine jr.istore rfl (by decide) rfl ?_
          refine jr.pick [0, 1, 2, 3, 4, 5, 6, 7, 8, 9, 10, 11] rfl rfl ?_
          exact r_gather_L207 q M r7 0 o c f z t a k h x hI_M hH_M hS_M  (fun a i f598 f600 f601 f602 f603 f604 f605 f606 f607 f608 f609 f610 f611 f612 f613 f614 f615 f616 f617 f618 f619 f620 f621 f622 => (hF_M a i f598 f600 f601 f602 f603 f604 f605 f606 f607 f608 f609 f610 f611 f612 f613 f614 f615 f616 f617 f618 f619 f620 f621 f622)) (fun i g6 g10 g11 g12 g34 => (hG_M i g6 g10 g11 g12 g34)) (by omega) (by omega) (by omega) (by omega) (by omega) (by omega) (by omega) (by omega) (by omega) (by omega) (by omega) hG1 hk (by omega) (by omega)
      · refine jr.iconst rfl ?_
        refine jr.goto rfl rfl ?_
        refine jr.istore rfl (by decide) rfl ?_
        refine jr.iload rfl rfl ?_
        refine jr.if_eq rfl rfl (by omega) (fun h182 => ?_) (fun h182 => ?_)
        · exact absurd h182 (by omega)
        · refine jr.aload_n rfl rfl ?_
          refine jr.iload_n rfl rfl ?_
          refine jr.iload rfl rfl ?_
          refine jr.bipush rfl (by decide) ?_
          refine jr.iadd rfl ?_
          refine jr_v rfl rfl (Or.inl rfl) rfl rfl (by decide) rfl ⟨rfl, Nat.le_of_ble_eq_true rfl, Nat.le_of_ble_eq_true rfl⟩ rfl (jc.deep (r_one hI_M hH_M hS_M (Kp.rfl _) (by omega) (by omega)  (fun r8 z8 w8_0 => ?_)) (by decide))
          refine jr.goto rfl rfl ?_
          refine jr.istore rfl (by decide) rfl ?_
          refine jr.pick [0, 1, 2, 3, 4, 5, 6, 7, 8, 9, 10, 11] rfl rfl ?_
          exact r_gather_L207 q M r8 1 o c f z t a k h x hI_M hH_M hS_M  (fun a i f598 f600 f601 f602 f603 f604 f605 f606 f607 f608 f609 f610 f611 f612 f613 f614 f615 f616 f617 f618 f619 f620 f621 f622 => (hF_M a i f598 f600 f601 f602 f603 f604 f605 f606 f607 f608 f609 f610 f611 f612 f613 f614 f615 f616 f617 f618 f619 f620 f621 f622)) (fun i g6 g10 g11 g12 g34 => (hG_M i g6 g10 g11 g12 g34)) (by omega) (by omega) (by omega) (by omega) (by omega) (by omega) (by omega) (by omega) (by omega) (by omega) (by omega) hG1 hk (by omega) (by omega)
theorem r_gather_L62 {A : Nat → Option (Nat × (Nat → Int32))} {Q : Option Value → jm → Prop} {M0 : jm} (q : ∀ (r : Int) (M' : jm), RI M' → RH M' → RF M' → (-5) ≤ r ∧ r ≤ 23 → RG1 M' → (∀ (a : Nat) (i : Int), a ≠ 598 → a ≠ 600 → a ≠ 601 → a ≠ 602 → a ≠ 603 → a ≠ 604 → a ≠ 605 → a ≠ 606 → a ≠ 607 → a ≠ 608 → a ≠ 609 → a ≠ 610 → a ≠ 611 → a ≠ 612 → a ≠ 613 → a ≠ 614 → a ≠ 615 → a ≠ 616 → a ≠ 617 → a ≠ 618 → a ≠ 619 → a ≠ 620 → a ≠ 621 → a ≠ 622 → M' a i = M0 a i) → (∀ (i : Int), i ≠ 6 → i ≠ 10 → i ≠ 11 → i ≠ 12 → i ≠ 34 → M' 598 i = M0 598 i) → Q (some (.int (Int32.ofInt r))) M') : ∀ (M : jm) (t : Int) (a : Int) (k : Int) (h : Int) (x : Int), RI M → RH M → RF M → (∀ (a : Nat) (i : Int), a ≠ 598 → a ≠ 600 → a ≠ 601 → a ≠ 602 → a ≠ 603 → a ≠ 604 → a ≠ 605 → a ≠ 606 → a ≠ 607 → a ≠ 608 → a ≠ 609 → a ≠ 610 → a ≠ 611 → a ≠ 612 → a ≠ 613 → a ≠ 614 → a ≠ 615 → a ≠ 616 → a ≠ 617 → a ≠ 618 → a ≠ 619 → a ≠ 620 → a ≠ 621 → a ≠ 622 → M a i = M0 a i) → (∀ (i : Int), i ≠ 6 → i ≠ 10 → i ≠ 11 → i ≠ 12 → i ≠ 34 → M 598 i = M0 598 i) → 0 ≤ t ∧ t ≤ 11 → 0 ≤ a ∧ a ≤ 400 → 0 ≤ k ∧ k ≤ 11 → 0 ≤ h ∧ h ≤ 11 → 0 ≤ x ∧ x ≤ 23 → RG1 M → HK M x h t k a → 0 ≤ M 600 x ∧ M 600 x ≤ 400 → jr A 5 xm_292 62 [(5, .int (Int32.ofInt (t))), (4, .int (Int32.ofInt (a))), (3, .int (Int32.ofInt (k))), (2, .int (Int32.ofInt (h))), (1, .int (Int32.ofInt (x))), (0, .ref (598))] [] M Q := by
    intro M t a k h x hI_M hH_M hS_M hF_M hG_M h_t h_a h_k h_h h_x hy0 hy1 hy2
    have hG1 := hy0
    have hk := hy1
    obtain ⟨k1, k2, k3, k4, k5⟩ := hy1
    refine jr.iload_n rfl rfl ?_
    refine jr.iconst rfl ?_
    refine jr.icmp_ne rfl rfl (by omega) (by omega) (fun h64 => ?_) (fun h64 => ?_)
    · refine jr.iconst rfl ?_
      refine jr.istore rfl (by decide) rfl ?_
      refine jr.iload rfl rfl ?_
      refine jr.aload_n rfl rfl ?_
      refine jr.getf (i := 9) (v := .ref 605) rfl rfl (by decide) rfl (by decide) rfl rfl rfl rfl ?_
      refine jr.iload_n rfl rfl ?_
      obtain ⟨v1, e1⟩ : ∃ z, M 605 h = z := ⟨_, rfl⟩
      have b1 : 0 ≤ v1 ∧ v1 ≤ 400 := by rw [← e1]; exact (by have q := hI_M 605 h (by decide); rw [xri_row rfl rfl] at q; exact q)
      refine jr.iald (i := h) (x := v1) rfl (by decide) rfl (by decide) (by omega) (by omega) e1 ?_
      refine jr.iadd rfl ?_
      refine jr.istore rfl (by decide) rfl ?_
      refine jr.aload_n rfl rfl ?_
      refine jr.getf (i := 3) (v := .ref 600) rfl rfl (by decide) rfl (by decide) rfl rfl rfl rfl ?_
      refine jr.iload_n rfl rfl ?_
      obtain ⟨v2, e2⟩ : ∃ z, M 600 x = z := ⟨_, rfl⟩
      have b2 : (-1) ≤ v2 ∧ v2 ≤ 400 := by rw [← e2]; exact (by have q := hI_M 600 x (by decide); rw [xri_row rfl rfl] at q; exact q)
      refine jr.iald (i := x) (x := v2) rfl (by decide) rfl (by decide) (by omega) (by omega) e2 ?_
      refine jr.iload rfl rfl ?_
      refine jr.isub rfl ?_
      refine jr.istore rfl (by decide) rfl ?_
      refine jr.bipush rfl (by decide) ?_
      refine jr.iload rfl rfl ?_
      refine jr.if_eq rfl rfl (by omega) (fun _ => ?_) (fun h => absurd (by decide) h)
      refine jr.aload_n rfl rfl ?_
      refine jr.iload_n rfl rfl ?_
      refine jr.iload rfl rfl ?_
      refine jr.iconst rfl ?_
      refine jr.iadd rfl ?_
      refine jr_v rfl rfl (Or.inl rfl) rfl rfl (by decide) rfl ⟨rfl, Nat.le_of_ble_eq_true rfl, Nat.le_of_ble_eq_true rfl⟩ rfl (jc.deep (r_two hI_M hH_M hS_M (Kp.rfl _) (by omega) (by omega)  (fun r3 z3  => ?_)) (by decide))
      refine jr.iconst rfl ?_
      refine jr.ishr rfl ?_
      have b4 : j_shr r3 3 = r3 / 8 := j_shr_ex 3 (by decide) (by omega) (by omega)
      generalize j_shr r3 3 = v4 at b4 ⊢
      refine jr.i2l rfl (by omega) ?_
      refine jr.l2i rfl ?_
      refine jr.imul rfl ?_
      refine jr.istore rfl (by decide) rfl ?_
      refine jr.pick [0, 1, 2, 3, 4, 5, 6, 7, 8, 9] rfl rfl ?_
      exact r_gather_L130 q M (8 * v4) (v2 - (a + v1)) (a + v1) 0 t a k h x hI_M hH_M hS_M  (fun a i f598 f600 f601 f602 f603 f604 f605 f606 f607 f608 f609 f610 f611 f612 f613 f614 f615 f616 f617 f618 f619 f620 f621 f622 => (hF_M a i f598 f600 f601 f602 f603 f604 f605 f606 f607 f608 f609 f610 f611 f612 f613 f614 f615 f616 f617 f618 f619 f620 f621 f622)) (fun i g6 g10 g11 g12 g34 => (hG_M i g6 g10 g11 g12 g34)) (by omega) (by omega) (by omega) (by omega) (by omega) (by omega) (by omega) (by omega) (by omega) hG1 hk (by omega) (by omega)
    · refine jr.iconst rfl ?_
      refine jr.goto rfl rfl ?_
      refine jr.istore rfl (by decide) rfl ?_
      refine jr.iload rfl rfl ?_
      refine jr.aload_n rfl rfl ?_
      refine jr.getf (i := 9) (v := .ref 605) rfl rfl (by decide) rfl (by decide) rfl rfl rfl rfl ?_
      refine jr.iload_n rfl rfl ?_
      obtain ⟨v5, e5⟩ : ∃ z, M 605 h = z := ⟨_, rfl⟩
      have b5 : 0 ≤ v5 ∧ v5 ≤ 400 := by rw [← e5]; exact (by have q := hI_M 605 h (by decide); rw [xri_row rfl rfl] at q; exact q)
      refine jr.iald (i := h) (x := v5) rfl (by decide) rfl (by decide) (by omega) (by omega) e5 ?_
      refine jr.iadd rfl ?_
      refine jr.istore rfl (by decide) rfl ?_
      refine jr.aload_n rfl rfl ?_
      refine jr.getf (i := 3) (v := .ref 600) rfl rfl (by decide) rfl (by decide) rfl rfl rfl rfl ?_
      refine jr.iload_n rfl rfl ?_
      obtain ⟨v6, e6⟩ : ∃ z, M 600 x = z := ⟨_, rfl⟩
      have b6 : (-1) ≤ v6 ∧ v6 ≤ 400 := by rw [← e6]; exact (by have q := hI_M 600 x (by decide); rw [xri_row rfl rfl] at q; exact q)
      refine jr.iald (i := x) (x := v6) rfl (by decide) rfl (by decide) (by omega) (by omega) e6 ?_
      refine jr.iload rfl rfl ?_
      refine jr.isub rfl ?_
      refine jr.istore rfl (by decide) rfl ?_
      refine jr.bipush rfl (by decide) ?_
      refine jr.iload rfl rfl ?_
      refine jr.if_eq rfl rfl (by omega) (fun h => absurd h (by decide)) (fun _ => ?_)
      refine jr.aload_n rfl rfl ?_
      refine jr.iload_n rfl rfl ?_
      refine jr.iload rfl rfl ?_
      refine jr.iconst rfl ?_
      refine jr_v rfl rfl (Or.inl rfl) rfl rfl (by decide) rfl ⟨rfl, Nat.le_of_ble_eq_true rfl, Nat.le_of_ble_eq_true rfl⟩ rfl (jc.deep (r_ofFour hI_M hH_M hS_M (Kp.rfl _) (by omega) (by omega) (by omega)  (fun r7 z7 w7_0 => ?_)) (by decide))
      refine jr.goto rfl rfl ?_
      refine jr.l2i rfl ?_
      refine jr.imul rfl ?_
      refine jr.istore rfl (by decide) rfl ?_
      refine jr.pick [0, 1, 2, 3, 4, 5, 6, 7, 8, 9] rfl rfl ?_
      exact r_gather_L130 q M (8 * r7) (v6 - (a + v5)) (a + v5) 1 t a k h x hI_M hH_M hS_M  (fun a i f598 f600 f601 f602 f603 f604 f605 f606 f607 f608 f609 f610 f611 f612 f613 f614 f615 f616 f617 f618 f619 f620 f621 f622 => (hF_M a i f598 f600 f601 f602 f603 f604 f605 f606 f607 f608 f609 f610 f611 f612 f613 f614 f615 f616 f617 f618 f619 f620 f621 f622)) (fun i g6 g10 g11 g12 g34 => (hG_M i g6 g10 g11 g12 g34)) (by omega) (by omega) (by omega) (by omega) (by omega) (by omega) (by omega) (by omega) (by omega) hG1 hk (by omega) (by omega)
theorem r_gather {A : Nat → Option (Nat × (Nat → Int32))} {Q : Option Value → jm → Prop} {M : jm} (hI_M : RI M) (hH_M : RH M) (hS_M : RF M) {x : Int} (h_x : (-2147483648) ≤ x ∧ x ≤ 2147483647) (p0 : RG1 M) (q : ∀ (r : Int) (M' : jm), RI M' → RH M' → RF M' → (-5) ≤ r ∧ r ≤ 23 → RG1 M' → (∀ (a : Nat) (i : Int), a ≠ 598 → a ≠ 600 → a ≠ 601 → a ≠ 602 → a ≠ 603 → a ≠ 604 → a ≠ 605 → a ≠ 606 → a ≠ 607 → a ≠ 608 → a ≠ 609 → a ≠ 610 → a ≠ 611 → a ≠ 612 → a ≠ 613 → a ≠ 614 → a ≠ 615 → a ≠ 616 → a ≠ 617 → a ≠ 618 → a ≠ 619 → a ≠ 620 → a ≠ 621 → a ≠ 622 → M' a i = M a i) → (∀ (i : Int), i ≠ 6 → i ≠ 10 → i ≠ 11 → i ≠ 12 → i ≠ 34 → M' 598 i = M 598 i) → Q (some (.int (Int32.ofInt r))) M') : jc A 6 292 [.ref (598), .int (Int32.ofInt (x))] M Q := by
  have hG1 := p0
  refine jc_of (m := xm_292) rfl (Nat.le_of_ble_eq_true rfl) rfl ?_
  refine jr.aload_n rfl rfl ?_
  refine jr.iload_n rfl rfl ?_
  refine jr_v rfl rfl (Or.inl rfl) rfl rfl (by decide) rfl ⟨rfl, Nat.le_of_ble_eq_true rfl, Nat.le_of_ble_eq_true rfl⟩ rfl (jc.deep (c_isThere hI_M (by omega) (fun l2 u2 t2 => ?_) (fun n2 => ?_)) (by decide))
  · refine jr.if_ne rfl rfl (by omega) (fun _ => ?_) (fun h => absurd (by decide) h)
    refine jr.aload_n rfl rfl ?_
    refine jr.iload_n rfl rfl ?_
    obtain ⟨v2, e2⟩ : ∃ z, M 600 x = z := ⟨_, rfl⟩
    have b2 : (-1) ≤ v2 ∧ v2 ≤ 400 := by rw [← e2]; exact (by have q := hI_M 600 x (by decide); rw [xri_row rfl rfl] at q; exact q)
    refine jr_v rfl rfl (Or.inl rfl) rfl rfl (by decide) rfl ⟨rfl, Nat.le_of_ble_eq_true rfl, Nat.le_of_ble_eq_true rfl⟩ rfl (jc.deep (r_look hI_M hH_M hS_M (Kp.rfl _) (by omega) (by rw [e2]; omega) (fun M1 hI_M1 hH_M1 hS_M1 ht_M1 w1_0 w1_1 w1_2 => ?_)) (by decide))
    refine jr.aload_n rfl rfl ?_
    obtain ⟨v3, e3⟩ : ∃ z, M1 598 10 = z := ⟨_, rfl⟩
    have b3 : 0 ≤ v3 ∧ v3 ≤ 6 := by rw [← e3]; exact hI_M1 598 10 (by decide)
    refine jr.getf (i := 10) (x := v3) (v := .int (Int32.ofInt (v3))) rfl rfl (by decide) rfl (by decide) rfl rfl e3 rfl ?_
    refine jr.if_eq rfl rfl (by omega) (fun h20 => ?_) (fun h20 => ?_)
    · refine jr.aload_n rfl rfl ?_
      refine jr.iload_n rfl rfl ?_
      refine jr_v rfl rfl (Or.inl rfl) rfl rfl (by decide) rfl ⟨rfl, Nat.le_of_ble_eq_true rfl, Nat.le_of_ble_eq_true rfl⟩ rfl (jc.deep (r_piece hI_M1 hH_M1 hS_M1 (Kp.rfl _) (by omega)  (fun r4 z4 w4_0 w4_1 => ?_)) (by decide))
      refine jr.istore_n rfl (by decide) rfl ?_
      refine jr.iload_n rfl rfl ?_
      refine jr.iconst rfl ?_
      refine jr.icmp_ne rfl rfl (by omega) (by omega) (fun h35 => ?_) (fun h35 => ?_)
      · refine jr.aload_n rfl rfl ?_
        refine jr.getf (i := 7) (v := .ref 603) rfl rfl (by decide) rfl (by decide) rfl rfl rfl rfl ?_
        refine jr.iload_n rfl rfl ?_
        obtain ⟨v5, e5⟩ : ∃ z, M1 603 r4 = z := ⟨_, rfl⟩
        have b5 : 0 ≤ v5 ∧ v5 ≤ 11 := by rw [← e5]; exact (by have q := hI_M1 603 r4 (by decide); rw [xri_row rfl rfl] at q; exact q)
        refine jr.iald (i := r4) (x := v5) rfl (by decide) rfl (by decide) (by omega) (by omega) e5 ?_
        refine jr.istore_n rfl (by decide) rfl ?_
        refine jr.aload_n rfl rfl ?_
        refine jr.getf (i := 8) (v := .ref 604) rfl rfl (by decide) rfl (by decide) rfl rfl rfl rfl ?_
        refine jr.iload_n rfl rfl ?_
        obtain ⟨v6, e6⟩ : ∃ z, M1 604 r4 = z := ⟨_, rfl⟩
        have b6 : 0 ≤ v6 ∧ v6 ≤ 400 := by rw [← e6]; exact (by have q := hI_M1 604 r4 (by decide); rw [xri_row rfl rfl] at q; exact q)
        refine jr.iald (i := r4) (x := v6) rfl (by decide) rfl (by decide) (by omega) (by omega) e6 ?_
        refine jr.istore rfl (by decide) rfl ?_
        refine jr.aload_n rfl rfl ?_
        refine jr_v rfl rfl (Or.inl rfl) rfl rfl (by decide) rfl ⟨rfl, Nat.le_of_ble_eq_true rfl, Nat.le_of_ble_eq_true rfl⟩ rfl (jc.deep (r_net hI_M1 hH_M1 hS_M1 (Kp.rfl _)   (fun r7 z7 w7_0 w7_1 w7_2 => ?_)) (by decide))
        have rn4 : r4 ≠ -1 := by clear w4_1; omega
        have hk := HK.mk' (x := x) hH_M1 w1_0 (h := r4) (by clear w4_1; omega) (by clear w4_1; omega) e5 e6 ((w4_0.resolve_left rn4).2.2) w7_0 w7_2 w7_1 (w4_1 rn4)
        clear w4_1
        have t0 := hk.1
        refine jr.istore rfl (by decide) rfl ?_
        have e8 : M1 600 x = v2 := ((w1_1 600 x (by decide) (by decide) (by decide) (by decide)).trans e2)
        refine jr.pick [0, 1, 2, 3, 5, 4] rfl rfl ?_
        exact r_gather_L62 q M1 r7 v6 v5 r4 x hI_M1 hH_M1 hS_M1  (fun a i f598 f600 f601 f602 f603 f604 f605 f606 f607 f608 f609 f610 f611 f612 f613 f614 f615 f616 f617 f618 f619 f620 f621 f622 => ((w1_1 a i f598 f603 f604 f605).trans rfl)) (fun i g6 g10 g11 g12 g34 => ((w1_2 i g6 g10 g11 g12).trans rfl)) (by omega) (by omega) (by omega) (by omega) (by omega) (RG1.kp hG1 ht_M1) hk.2 (by rw [e8] <;> omega)
      · refine jr.bipush rfl (by decide) ?_
        exact jr.ireturn rfl rfl rfl (q _ _ hI_M1 hH_M1 hS_M1  (by omega) (RG1.kp hG1 ht_M1) (fun a i f598 f600 f601 f602 f603 f604 f605 f606 f607 f608 f609 f610 f611 f612 f613 f614 f615 f616 f617 f618 f619 f620 f621 f622 => ((w1_1 a i f598 f603 f604 f605).trans rfl)) (fun i g6 g10 g11 g12 g34 => ((w1_2 i g6 g10 g11 g12).trans rfl)))
    · refine jr.iconst rfl ?_
      refine jr.goto rfl rfl ?_
      refine jr.istore_n rfl (by decide) rfl ?_
      refine jr.iload_n rfl rfl ?_
      refine jr.iconst rfl ?_
      refine jr.icmp_ne rfl rfl (by omega) (by omega) (fun h => absurd h (by decide)) (fun _ => ?_)
      refine jr.bipush rfl (by decide) ?_
      exact jr.ireturn rfl rfl rfl (q _ _ hI_M1 hH_M1 hS_M1  (by omega) (RG1.kp hG1 ht_M1) (fun a i f598 f600 f601 f602 f603 f604 f605 f606 f607 f608 f609 f610 f611 f612 f613 f614 f615 f616 f617 f618 f619 f620 f621 f622 => ((w1_1 a i f598 f603 f604 f605).trans rfl)) (fun i g6 g10 g11 g12 g34 => ((w1_2 i g6 g10 g11 g12).trans rfl)))
  · refine jr.if_ne rfl rfl (by omega) (fun h => absurd h (by decide)) (fun _ => ?_)
    refine jr.bipush rfl (by decide) ?_
    exact jr.ireturn rfl rfl rfl (q _ _ hI_M hH_M hS_M  (by omega) hG1 (fun a i f598 f600 f601 f602 f603 f604 f605 f606 f607 f608 f609 f610 f611 f612 f613 f614 f615 f616 f617 f618 f619 f620 f621 f622 => rfl) (fun i g6 g10 g11 g12 g34 => rfl))
