section
/-! ===== the reference: headers kept ===== -/
theorem r_keepHeaders_L22_x {A : Nat → Option (Nat × (Nat → Int32))} {Q : Option Value → jm → Prop} {M0 : jm} {g0 : Int} {x0 : Int} {h0 : Int} {t0 : Int} (q : ∀ (M' : jm), RI M' → RH M' → RF M' → RG1 M' → ((M' 617 g0 = M0 604 h0 + M0 605 h0 ∧ M' 619 g0 = M0 604 h0 ∧ M' 621 g0 = M0 604 t0 ∧ M' 620 g0 = (if h0 = 0 then 0 else M0 604 (h0 - 1) + (if M0 603 (h0 - 1) = 3 then 4 else 0))) ∧ (∀ i : Int, 0 ≤ i → i < M0 604 h0 + M0 605 h0 → M' 618 (400 * g0 + i) = rf M0 x0 i) ∧ (∀ (b : Nat) (j : Int), b ≠ 618 → j ≠ g0 → M' b j = M0 b j) ∧ (∀ j : Int, (j < 400 * g0 ∨ 400 * g0 + 400 ≤ j) → M' 618 j = M0 618 j)) → (∀ (a : Nat) (i : Int), a ≠ 617 → a ≠ 618 → a ≠ 619 → a ≠ 620 → a ≠ 621 → M' a i = M0 a i) → Q none M') : ∀ (nM : Nat) (M : jm) (k : Int) (t : Int) (h : Int) (x : Int) (g : Int), RI M → RH M → RF M → (∀ (a : Nat) (i : Int), a ≠ 617 → a ≠ 618 → a ≠ 619 → a ≠ 620 → a ≠ 621 → M a i = M0 a i) → 0 ≤ k ∧ k ≤ 400 → 0 ≤ t ∧ t ≤ 11 → 0 ≤ h ∧ h ≤ 11 → 0 ≤ x ∧ x ≤ 23 → 0 ≤ g ∧ g ≤ 7 → RG1x M g → (M 604 t < k → M 618 (400 * g + M 604 t) = M 601 (400 * x + M 604 t)) → M 617 g = M 604 h + M 605 h → 8 ≤ M 604 h + M 605 h ∧ M 604 t ≤ 380 ∧ M 604 h ≤ 392 ∧ (M 607 g = 2 → (t = h ∧ M 605 h = 4 * (M 601 (400 * x + M 604 h) % 16) ∧ 20 ≤ M 605 h)) → 1 ≤ M 613 g → (∀ i : Int, 0 ≤ i → i < k → M 618 (400 * g + i) = rf M0 x i) → (∀ (b : Nat) (j : Int), b ≠ 618 → j ≠ g → M b j = M0 b j) → (∀ j : Int, (j < 400 * g ∨ 400 * g + 400 ≤ j) → M 618 j = M0 618 j) → g = g0 → x = x0 → h = h0 → t = t0 → 400 - k ≤ nM → jr A 1 xm_295 22 [(5, .int (Int32.ofInt (k))), (4, .int (Int32.ofInt (t))), (3, .int (Int32.ofInt (h))), (2, .int (Int32.ofInt (x))), (1, .int (Int32.ofInt (g))), (0, .ref (598))] [] M Q := by
  intro nM
  induction nM using Nat.strongRecOn with
  | ind nM ih =>
    intro M k t h x g hI_M hH_M hS_M hF_M h_k h_t h_h h_x h_g hy0 hy1 hy2 hy3 hy4 hy5 hy6 hy7 hy8 hy9 hy10 hy11 hm
    subst hy8
    subst hy9
    subst hy10
    subst hy11
    have hx := hy0
    obtain ⟨k1, k2, k3, k4⟩ := hy3
    have hy3 := And.intro k1 (And.intro k2 (And.intro k3 k4))
    have rt := RH.two hH_M (h - 1)
    have r1 := (hH_M (h - 1)).2
    have r2 := (hH_M h).2
    have nb : (0 : Int) ≤ M 604 t ∧ M 604 t ≤ 400 := by have q := hI_M 604 t (by decide); rw [xri_row rfl rfl] at q; exact q
    refine jr.iload rfl rfl ?_
    refine jr.aload_n rfl rfl ?_
    refine jr.getf (i := 28) (v := .ref 617) rfl rfl (by decide) rfl (by decide) rfl rfl rfl rfl ?_
    refine jr.iload_n rfl rfl ?_
    obtain ⟨v1, e1⟩ : ∃ z, M 617 g = z := ⟨_, rfl⟩
    have b1 : (-1) ≤ v1 ∧ v1 ≤ 400 := by rw [← e1]; exact (by have q := hI_M 617 g (by decide); rw [xri_row rfl rfl] at q; exact q)
    refine jr.iald (i := g) (x := v1) rfl (by decide) rfl (by decide) (by omega) (by omega) e1 ?_
    refine jr.icmp_ge rfl rfl (by omega) (by omega) (fun h30 => ?_) (fun h30 => ?_)
    · refine jr.aload_n rfl rfl ?_
      refine jr.getf (i := 30) (v := .ref 619) rfl rfl (by decide) rfl (by decide) rfl rfl rfl rfl ?_
      refine jr.iload_n rfl rfl ?_
      refine jr.aload_n rfl rfl ?_
      refine jr.getf (i := 8) (v := .ref 604) rfl rfl (by decide) rfl (by decide) rfl rfl rfl rfl ?_
      refine jr.iload_n rfl rfl ?_
      obtain ⟨v2, e2⟩ : ∃ z, M 604 h = z := ⟨_, rfl⟩
      have b2 : 0 ≤ v2 ∧ v2 ≤ 400 := by rw [← e2]; exact (by have q := hI_M 604 h (by decide); rw [xri_row rfl rfl] at q; exact q)
      refine jr.iald (i := h) (x := v2) rfl (by decide) rfl (by decide) (by omega) (by omega) e2 ?_
      refine jr.iast (i := g) (x := v2) rfl (by decide) rfl (by decide) (by omega) (by omega) ?_
      refine jr.aload_n rfl rfl ?_
      refine jr.getf (i := 31) (v := .ref 620) rfl rfl (by decide) rfl (by decide) rfl rfl rfl rfl ?_
      refine jr.iload_n rfl rfl ?_
      refine jr.iload_n rfl rfl ?_
      refine jr.if_ne rfl rfl (by omega) (fun h77 => ?_) (fun h77 => ?_)
      · have sx77 : (1 : Int) ≤ h := by omega
        clear h77
        refine jr.aload_n rfl rfl ?_
        refine jr.getf (i := 8) (v := .ref 604) rfl rfl (by decide) rfl (by decide) rfl rfl rfl rfl ?_
        refine jr.iload_n rfl rfl ?_
        refine jr.iconst rfl ?_
        refine jr.isub rfl ?_
        obtain ⟨v3, e3⟩ : ∃ z, M 604 (h - 1) = z := ⟨_, rfl⟩
        have b3 : 0 ≤ v3 ∧ v3 ≤ 400 := by rw [← e3]; exact (by have q := hI_M 604 (h - 1) (by decide); rw [xri_row rfl rfl] at q; exact q)
        refine jr.iald (i := (h - 1)) (x := v3) rfl (by decide) rfl (by decide) (by omega) (by omega) ((ju_c _ _ (by decide)).trans e3) ?_
        refine jr.aload_n rfl rfl ?_
        refine jr.getf (i := 7) (v := .ref 603) rfl rfl (by decide) rfl (by decide) rfl rfl rfl rfl ?_
        refine jr.iload_n rfl rfl ?_
        refine jr.iconst rfl ?_
        refine jr.isub rfl ?_
        obtain ⟨v4, e4⟩ : ∃ z, M 603 (h - 1) = z := ⟨_, rfl⟩
        have b4 : 0 ≤ v4 ∧ v4 ≤ 11 := by rw [← e4]; exact (by have q := hI_M 603 (h - 1) (by decide); rw [xri_row rfl rfl] at q; exact q)
        refine jr.iald (i := (h - 1)) (x := v4) rfl (by decide) rfl (by decide) (by omega) (by omega) ((ju_c _ _ (by decide)).trans e4) ?_
        refine jr.iconst rfl ?_
        refine jr.icmp_ne rfl rfl (by omega) (by omega) (fun h101 => ?_) (fun h101 => ?_)
        · refine jr.iconst rfl ?_
          refine jr.iadd rfl ?_
          refine jr.iast (i := g) (x := (v3 + 0)) rfl (by decide) rfl (by decide) (by omega) (by omega) ?_
          refine jr.aload_n rfl rfl ?_
          refine jr.getf (i := 32) (v := .ref 621) rfl rfl (by decide) rfl (by decide) rfl rfl rfl rfl ?_
          refine jr.iload_n rfl rfl ?_
          refine jr.aload_n rfl rfl ?_
          refine jr.getf (i := 8) (v := .ref 604) rfl rfl (by decide) rfl (by decide) rfl rfl rfl rfl ?_
          refine jr.iload rfl rfl ?_
          obtain ⟨v5, e5⟩ : ∃ z, M 604 t = z := ⟨_, rfl⟩
          have b5 : 0 ≤ v5 ∧ v5 ≤ 400 := by rw [← e5]; exact (by have q := hI_M 604 t (by decide); rw [xri_row rfl rfl] at q; exact q)
          refine jr.iald (i := t) (x := v5) rfl (by decide) rfl (by decide) (by omega) (by omega) ((ju_c _ _ (by decide)).trans ((ju_c _ _ (by decide)).trans e5)) ?_
          refine jr.iast (i := g) (x := v5) rfl (by decide) rfl (by decide) (by omega) (by omega) ?_
          obtain ⟨v6, e6⟩ : ∃ z, M 613 g = z := ⟨_, rfl⟩
          have b6 : 0 ≤ v6 ∧ v6 ≤ 720 := by rw [← e6]; exact (by have q := hI_M 613 g (by decide); rw [xri_row rfl rfl] at q; exact q)
          obtain ⟨v7, e7⟩ : ∃ z, M 607 g = z := ⟨_, rfl⟩
          have b7 : 0 ≤ v7 ∧ v7 ≤ 11 := by rw [← e7]; exact (by have q := hI_M 607 g (by decide); rw [xri_row rfl rfl] at q; exact q)
          obtain ⟨v8, e8⟩ : ∃ z, M 618 (400 * g + (v5)) = z := ⟨_, rfl⟩
          have b8 : 0 ≤ v8 ∧ v8 ≤ 255 := by rw [← e8]; exact (by have q := hI_M 618 (400 * g + (v5)) (by decide); rw [xri_row rfl rfl] at q; exact q)
          exact jr.vreturn rfl rfl (q _ (RI.u (RI.u (RI.u hI_M (a := 619) (i := g) (by rw [xri_row rfl rfl]; show (0 : Int) ≤ _ ∧ _ ≤ (400 : Int); omega)) (a := 620) (i := g) (by rw [xri_row rfl rfl]; show (0 : Int) ≤ _ ∧ _ ≤ (400 : Int); omega)) (a := 621) (i := g) (by rw [xri_row rfl rfl]; show (0 : Int) ≤ _ ∧ _ ≤ (400 : Int); omega)) (RH.o (RH.o (RH.o hH_M (by decide) (by decide) (by decide)) (by decide) (by decide) (by decide)) (by decide) (by decide) (by decide)) (RF.o (RF.o (RF.o hS_M (by decide) (by decide)) (by decide) (by decide)) (by decide) (by decide))  (RG1.mk (RG1x.s (RG1x.s (RG1x.s hx (by decide)) (by decide)) (by decide)) (RGs.mk' ((ju_c _ _ (by decide)).trans ((ju_c _ _ (by decide)).trans ((ju_c _ _ (by decide)).trans e6))) ((ju_c _ _ (by decide)).trans ((ju_c _ _ (by decide)).trans ((ju_c _ _ (by decide)).trans e1))) (ju_same _ _ _ _) ((ju_c _ _ (by decide)).trans ((ju_c _ _ (by decide)).trans (ju_same _ _ _ _))) ((ju_c _ _ (by decide)).trans (ju_same _ _ _ _)) ((ju_c _ _ (by decide)).trans ((ju_c _ _ (by decide)).trans ((ju_c _ _ (by decide)).trans e7))) (e7 := ((ju_c _ _ (by decide)).trans ((ju_c _ _ (by decide)).trans ((ju_c _ _ (by decide)).trans e8)))) (by omega) (by omega) (by omega) (by omega) (by omega) (by omega) (fun q7 => by obtain ⟨z1, z2, z3⟩ := k4 (by omega); subst z1; have z4 := hy1 (by omega); rw [e5] at z2 z4; omega))) (by have a1 := hF_M 604 h (by decide) (by decide) (by decide) (by decide) (by decide); have a2 := hF_M 605 h (by decide) (by decide) (by decide) (by decide) (by decide); have a3 := hF_M 604 t (by decide) (by decide) (by decide) (by decide) (by decide); have a4 := hF_M 604 (h - 1) (by decide) (by decide) (by decide) (by decide) (by decide); have a5 := hF_M 603 (h - 1) (by decide) (by decide) (by decide) (by decide) (by decide); exact ⟨⟨(by rw [show (ju (ju (ju M 619 g v2) 620 g (v3 + 0)) 621 g v5) 617 g = v1 from ((ju_c _ _ (by decide)).trans ((ju_c _ _ (by decide)).trans ((ju_c _ _ (by decide)).trans e1)))]; have h9 := hy2; omega), (by rw [show (ju (ju (ju M 619 g v2) 620 g (v3 + 0)) 621 g v5) 619 g = v2 from ((ju_c _ _ (by decide)).trans ((ju_c _ _ (by decide)).trans (ju_same _ _ _ _)))]; omega), (by rw [show (ju (ju (ju M 619 g v2) 620 g (v3 + 0)) 621 g v5) 621 g = v5 from (ju_same _ _ _ _)]; omega), (by rw [show (ju (ju (ju M 619 g v2) 620 g (v3 + 0)) 621 g v5) 620 g = v3 + 0 from ((ju_c _ _ (by decide)).trans (ju_same _ _ _ _))]; first | (rw [if_pos (by omega)]) | (rw [if_neg (by omega)]; first | (rw [if_pos (by omega)]; omega) | (rw [if_neg (by omega)]; omega)))⟩, fun i i0 i1 => by rw [ju_c _ _ (by decide), ju_c _ _ (by decide), ju_c _ _ (by decide)]; exact hy5 i i0 (by omega), fun b j hb hj => by rw [ju_i _ _ hj, ju_i _ _ hj, ju_i _ _ hj]; exact hy6 b j hb hj, fun j hj => by rw [ju_c _ _ (by decide), ju_c _ _ (by decide), ju_c _ _ (by decide)]; exact hy7 j hj⟩) (fun a i f617 f618 f619 f620 f621 => ((ju_c _ _ f621).trans ((ju_c _ _ f620).trans ((ju_c _ _ f619).trans (hF_M a i f617 f618 f619 f620 f621))))))
        · refine jr.iconst rfl ?_
          refine jr.goto rfl rfl ?_
          refine jr.iadd rfl ?_
          refine jr.iast (i := g) (x := (v3 + 4)) rfl (by decide) rfl (by decide) (by omega) (by omega) ?_
          refine jr.aload_n rfl rfl ?_
          refine jr.getf (i := 32) (v := .ref 621) rfl rfl (by decide) rfl (by decide) rfl rfl rfl rfl ?_
          refine jr.iload_n rfl rfl ?_
          refine jr.aload_n rfl rfl ?_
          refine jr.getf (i := 8) (v := .ref 604) rfl rfl (by decide) rfl (by decide) rfl rfl rfl rfl ?_
          refine jr.iload rfl rfl ?_
          obtain ⟨v9, e9⟩ : ∃ z, M 604 t = z := ⟨_, rfl⟩
          have b9 : 0 ≤ v9 ∧ v9 ≤ 400 := by rw [← e9]; exact (by have q := hI_M 604 t (by decide); rw [xri_row rfl rfl] at q; exact q)
          refine jr.iald (i := t) (x := v9) rfl (by decide) rfl (by decide) (by omega) (by omega) ((ju_c _ _ (by decide)).trans ((ju_c _ _ (by decide)).trans e9)) ?_
          refine jr.iast (i := g) (x := v9) rfl (by decide) rfl (by decide) (by omega) (by omega) ?_
          obtain ⟨v10, e10⟩ : ∃ z, M 613 g = z := ⟨_, rfl⟩
          have b10 : 0 ≤ v10 ∧ v10 ≤ 720 := by rw [← e10]; exact (by have q := hI_M 613 g (by decide); rw [xri_row rfl rfl] at q; exact q)
          obtain ⟨v11, e11⟩ : ∃ z, M 607 g = z := ⟨_, rfl⟩
          have b11 : 0 ≤ v11 ∧ v11 ≤ 11 := by rw [← e11]; exact (by have q := hI_M 607 g (by decide); rw [xri_row rfl rfl] at q; exact q)
          obtain ⟨v12, e12⟩ : ∃ z, M 618 (400 * g + (v9)) = z := ⟨_, rfl⟩
          have b12 : 0 ≤ v12 ∧ v12 ≤ 255 := by rw [← e12]; exact (by have q := hI_M 618 (400 * g + (v9)) (by decide); rw [xri_row rfl rfl] at q; exact q)
          exact jr.vreturn rfl rfl (q _ (RI.u (RI.u (RI.u hI_M (a := 619) (i := g) (by rw [xri_row rfl rfl]; show (0 : Int) ≤ _ ∧ _ ≤ (400 : Int); omega)) (a := 620) (i := g) (by rw [xri_row rfl rfl]; show (0 : Int) ≤ _ ∧ _ ≤ (400 : Int); omega)) (a := 621) (i := g) (by rw [xri_row rfl rfl]; show (0 : Int) ≤ _ ∧ _ ≤ (400 : Int); omega)) (RH.o (RH.o (RH.o hH_M (by decide) (by decide) (by decide)) (by decide) (by decide) (by decide)) (by decide) (by decide) (by decide)) (RF.o (RF.o (RF.o hS_M (by decide) (by decide)) (by decide) (by decide)) (by decide) (by decide))  (RG1.mk (RG1x.s (RG1x.s (RG1x.s hx (by decide)) (by decide)) (by decide)) (RGs.mk' ((ju_c _ _ (by decide)).trans ((ju_c _ _ (by decide)).trans ((ju_c _ _ (by decide)).trans e10))) ((ju_c _ _ (by decide)).trans ((ju_c _ _ (by decide)).trans ((ju_c _ _ (by decide)).trans e1))) (ju_same _ _ _ _) ((ju_c _ _ (by decide)).trans ((ju_c _ _ (by decide)).trans (ju_same _ _ _ _))) ((ju_c _ _ (by decide)).trans (ju_same _ _ _ _)) ((ju_c _ _ (by decide)).trans ((ju_c _ _ (by decide)).trans ((ju_c _ _ (by decide)).trans e11))) (e7 := ((ju_c _ _ (by decide)).trans ((ju_c _ _ (by decide)).trans ((ju_c _ _ (by decide)).trans e12)))) (by omega) (by omega) (by omega) (by omega) (by omega) (by omega) (fun q7 => by obtain ⟨z1, z2, z3⟩ := k4 (by omega); subst z1; have z4 := hy1 (by omega); rw [e9] at z2 z4; omega))) (by have a1 := hF_M 604 h (by decide) (by decide) (by decide) (by decide) (by decide); have a2 := hF_M 605 h (by decide) (by decide) (by decide) (by decide) (by decide); have a3 := hF_M 604 t (by decide) (by decide) (by decide) (by decide) (by decide); have a4 := hF_M 604 (h - 1) (by decide) (by decide) (by decide) (by decide) (by decide); have a5 := hF_M 603 (h - 1) (by decide) (by decide) (by decide) (by decide) (by decide); exact ⟨⟨(by rw [show (ju (ju (ju M 619 g v2) 620 g (v3 + 4)) 621 g v9) 617 g = v1 from ((ju_c _ _ (by decide)).trans ((ju_c _ _ (by decide)).trans ((ju_c _ _ (by decide)).trans e1)))]; have h9 := hy2; omega), (by rw [show (ju (ju (ju M 619 g v2) 620 g (v3 + 4)) 621 g v9) 619 g = v2 from ((ju_c _ _ (by decide)).trans ((ju_c _ _ (by decide)).trans (ju_same _ _ _ _)))]; omega), (by rw [show (ju (ju (ju M 619 g v2) 620 g (v3 + 4)) 621 g v9) 621 g = v9 from (ju_same _ _ _ _)]; omega), (by rw [show (ju (ju (ju M 619 g v2) 620 g (v3 + 4)) 621 g v9) 620 g = v3 + 4 from ((ju_c _ _ (by decide)).trans (ju_same _ _ _ _))]; first | (rw [if_pos (by omega)]) | (rw [if_neg (by omega)]; first | (rw [if_pos (by omega)]; omega) | (rw [if_neg (by omega)]; omega)))⟩, fun i i0 i1 => by rw [ju_c _ _ (by decide), ju_c _ _ (by decide), ju_c _ _ (by decide)]; exact hy5 i i0 (by omega), fun b j hb hj => by rw [ju_i _ _ hj, ju_i _ _ hj, ju_i _ _ hj]; exact hy6 b j hb hj, fun j hj => by rw [ju_c _ _ (by decide), ju_c _ _ (by decide), ju_c _ _ (by decide)]; exact hy7 j hj⟩) (fun a i f617 f618 f619 f620 f621 => ((ju_c _ _ f621).trans ((ju_c _ _ f620).trans ((ju_c _ _ f619).trans (hF_M a i f617 f618 f619 f620 f621))))))
      · refine jr.iconst rfl ?_
        refine jr.goto rfl rfl ?_
        refine jr.iast (i := g) (x := 0) rfl (by decide) rfl (by decide) (by omega) (by omega) ?_
        refine jr.aload_n rfl rfl ?_
        refine jr.getf (i := 32) (v := .ref 621) rfl rfl (by decide) rfl (by decide) rfl rfl rfl rfl ?_
        refine jr.iload_n rfl rfl ?_
        refine jr.aload_n rfl rfl ?_
        refine jr.getf (i := 8) (v := .ref 604) rfl rfl (by decide) rfl (by decide) rfl rfl rfl rfl ?_
        refine jr.iload rfl rfl ?_
        obtain ⟨v13, e13⟩ : ∃ z, M 604 t = z := ⟨_, rfl⟩
        have b13 : 0 ≤ v13 ∧ v13 ≤ 400 := by rw [← e13]; exact (by have q := hI_M 604 t (by decide); rw [xri_row rfl rfl] at q; exact q)
        refine jr.iald (i := t) (x := v13) rfl (by decide) rfl (by decide) (by omega) (by omega) ((ju_c _ _ (by decide)).trans ((ju_c _ _ (by decide)).trans e13)) ?_
        refine jr.iast (i := g) (x := v13) rfl (by decide) rfl (by decide) (by omega) (by omega) ?_
        obtain ⟨v14, e14⟩ : ∃ z, M 613 g = z := ⟨_, rfl⟩
        have b14 : 0 ≤ v14 ∧ v14 ≤ 720 := by rw [← e14]; exact (by have q := hI_M 613 g (by decide); rw [xri_row rfl rfl] at q; exact q)
        obtain ⟨v15, e15⟩ : ∃ z, M 607 g = z := ⟨_, rfl⟩
        have b15 : 0 ≤ v15 ∧ v15 ≤ 11 := by rw [← e15]; exact (by have q := hI_M 607 g (by decide); rw [xri_row rfl rfl] at q; exact q)
        obtain ⟨v16, e16⟩ : ∃ z, M 618 (400 * g + (v13)) = z := ⟨_, rfl⟩
        have b16 : 0 ≤ v16 ∧ v16 ≤ 255 := by rw [← e16]; exact (by have q := hI_M 618 (400 * g + (v13)) (by decide); rw [xri_row rfl rfl] at q; exact q)
        exact jr.vreturn rfl rfl (q _ (RI.u (RI.u (RI.u hI_M (a := 619) (i := g) (by rw [xri_row rfl rfl]; show (0 : Int) ≤ _ ∧ _ ≤ (400 : Int); omega)) (a := 620) (i := g) (by rw [xri_row rfl rfl]; show (0 : Int) ≤ _ ∧ _ ≤ (400 : Int); omega)) (a := 621) (i := g) (by rw [xri_row rfl rfl]; show (0 : Int) ≤ _ ∧ _ ≤ (400 : Int); omega)) (RH.o (RH.o (RH.o hH_M (by decide) (by decide) (by decide)) (by decide) (by decide) (by decide)) (by decide) (by decide) (by decide)) (RF.o (RF.o (RF.o hS_M (by decide) (by decide)) (by decide) (by decide)) (by decide) (by decide))  (RG1.mk (RG1x.s (RG1x.s (RG1x.s hx (by decide)) (by decide)) (by decide)) (RGs.mk' ((ju_c _ _ (by decide)).trans ((ju_c _ _ (by decide)).trans ((ju_c _ _ (by decide)).trans e14))) ((ju_c _ _ (by decide)).trans ((ju_c _ _ (by decide)).trans ((ju_c _ _ (by decide)).trans e1))) (ju_same _ _ _ _) ((ju_c _ _ (by decide)).trans ((ju_c _ _ (by decide)).trans (ju_same _ _ _ _))) ((ju_c _ _ (by decide)).trans (ju_same _ _ _ _)) ((ju_c _ _ (by decide)).trans ((ju_c _ _ (by decide)).trans ((ju_c _ _ (by decide)).trans e15))) (e7 := ((ju_c _ _ (by decide)).trans ((ju_c _ _ (by decide)).trans ((ju_c _ _ (by decide)).trans e16)))) (by omega) (by omega) (by omega) (by omega) (by omega) (by omega) (fun q7 => by obtain ⟨z1, z2, z3⟩ := k4 (by omega); subst z1; have z4 := hy1 (by omega); rw [e13] at z2 z4; omega))) (by have a1 := hF_M 604 h (by decide) (by decide) (by decide) (by decide) (by decide); have a2 := hF_M 605 h (by decide) (by decide) (by decide) (by decide) (by decide); have a3 := hF_M 604 t (by decide) (by decide) (by decide) (by decide) (by decide); have a4 := hF_M 604 (h - 1) (by decide) (by decide) (by decide) (by decide) (by decide); have a5 := hF_M 603 (h - 1) (by decide) (by decide) (by decide) (by decide) (by decide); exact ⟨⟨(by rw [show (ju (ju (ju M 619 g v2) 620 g 0) 621 g v13) 617 g = v1 from ((ju_c _ _ (by decide)).trans ((ju_c _ _ (by decide)).trans ((ju_c _ _ (by decide)).trans e1)))]; have h9 := hy2; omega), (by rw [show (ju (ju (ju M 619 g v2) 620 g 0) 621 g v13) 619 g = v2 from ((ju_c _ _ (by decide)).trans ((ju_c _ _ (by decide)).trans (ju_same _ _ _ _)))]; omega), (by rw [show (ju (ju (ju M 619 g v2) 620 g 0) 621 g v13) 621 g = v13 from (ju_same _ _ _ _)]; omega), (by rw [show (ju (ju (ju M 619 g v2) 620 g 0) 621 g v13) 620 g = 0 from ((ju_c _ _ (by decide)).trans (ju_same _ _ _ _))]; first | (rw [if_pos (by omega)]) | (rw [if_neg (by omega)]; first | (rw [if_pos (by omega)]; omega) | (rw [if_neg (by omega)]; omega)))⟩, fun i i0 i1 => by rw [ju_c _ _ (by decide), ju_c _ _ (by decide), ju_c _ _ (by decide)]; exact hy5 i i0 (by omega), fun b j hb hj => by rw [ju_i _ _ hj, ju_i _ _ hj, ju_i _ _ hj]; exact hy6 b j hb hj, fun j hj => by rw [ju_c _ _ (by decide), ju_c _ _ (by decide), ju_c _ _ (by decide)]; exact hy7 j hj⟩) (fun a i f617 f618 f619 f620 f621 => ((ju_c _ _ f621).trans ((ju_c _ _ f620).trans ((ju_c _ _ f619).trans (hF_M a i f617 f618 f619 f620 f621))))))
    · refine jr.aload_n rfl rfl ?_
      refine jr.getf (i := 29) (v := .ref 618) rfl rfl (by decide) rfl (by decide) rfl rfl rfl rfl ?_
      refine jr.sipush rfl (by decide) ?_
      refine jr.iload_n rfl rfl ?_
      refine jr.imul rfl ?_
      refine jr.iload rfl rfl ?_
      refine jr.iadd rfl ?_
      refine jr.aload_n rfl rfl ?_
      refine jr.iload_n rfl rfl ?_
      refine jr.iload rfl rfl ?_
      refine jr_v rfl rfl (Or.inl rfl) rfl rfl (by decide) rfl ⟨rfl, Nat.le_of_ble_eq_true rfl, Nat.le_of_ble_eq_true rfl⟩ rfl (jc.deep (r_one hI_M hH_M hS_M (Kp.rfl _) (by omega) (by omega)  (fun r17 z17 w17_0 => ?_)) (by decide))
      refine jr.iast (i := ((400 * g) + k)) (x := r17) rfl (by decide) rfl (by decide) (by omega) (by omega) ?_
      refine jr.iinc (ls' := [_, _, _, _, _, _]) rfl rfl (by decide) rfl ?_
      refine jr.goto rfl rfl ?_
      refine jr.pick (ls := [_, _, _, _, _, _]) [0, 1, 2, 3, 4, 5] rfl rfl ?_
      exact ih (nM - 1) (by omega) (ju M 618 ((400 * g) + k) r17) (k + 1) t h x g (RI.u hI_M (a := 618) (i := ((400 * g) + k)) (by rw [xri_row rfl rfl]; show (0 : Int) ≤ _ ∧ _ ≤ (255 : Int); omega)) (RH.o hH_M (by decide) (by decide) (by decide)) (RF.o hS_M (by decide) (by decide))  (fun a i f617 f618 f619 f620 f621 => ((ju_c _ _ f618).trans (hF_M a i f617 f618 f619 f620 f621))) (by omega) (by omega) (by omega) (by omega) (by omega) (RG1x.b hx (by omega) (by omega)) (by intro q; rw [ju_c _ _ (by decide : (604 : Nat) ≠ 618)] at q ⊢; rw [ju_c _ _ (by decide : (601 : Nat) ≠ 618)]; by_cases z : M 604 t = k; (rw [z, ju_same]; first | omega | (rw [← w17_0])); (rw [ju_i _ _ (by omega)]; exact hy1 (by omega))) (by rw [ju_c _ _ (by decide), ju_c _ _ (by decide), ju_c _ _ (by decide)]; exact hy2) (by rw [ju_c _ _ (by decide), ju_c _ _ (by decide), ju_c _ _ (by decide), ju_c _ _ (by decide), ju_c _ _ (by decide)]; exact hy3) (by rw [ju_c _ _ (by decide)]; exact hy4) (fun i i0 i1 => by by_cases e : i = k; (rw [e, ju_same, rf_a, ← hF_M 601 (400 * x + k) (by decide) (by decide) (by decide) (by decide) (by decide)]; have h9 := w17_0; omega); (rw [ju_i _ _ (by omega)]; exact hy5 i i0 (by omega))) (fun b j hb hj => (ju_c _ _ hb).trans (hy6 b j hb hj)) (fun j hj => (ju_i _ _ (by omega)).trans (hy7 j hj)) (by omega) (by omega) (by omega) (by omega) (by omega)
theorem r_keepHeaders_x {A : Nat → Option (Nat × (Nat → Int32))} {Q : Option Value → jm → Prop} {M : jm} (hI_M : RI M) (hH_M : RH M) (hS_M : RF M) {g : Int} (h_g : 0 ≤ g ∧ g ≤ 7) {x : Int} (h_x : 0 ≤ x ∧ x ≤ 23) {h : Int} (h_h : 0 ≤ h ∧ h ≤ 11) {t : Int} (h_t : 0 ≤ t ∧ t ≤ 11) (p0 : 8 ≤ M 604 h + M 605 h) (p1 : M 604 t ≤ 380) (p2 : M 604 h ≤ 392) (p3 : (M 607 g = 2 → (t = h ∧ M 605 h = 4 * (M 601 (400 * x + M 604 h) % 16) ∧ 20 ≤ M 605 h))) (p4 : 1 ≤ M 613 g) (p5 : RG1 M) (q : ∀ (M' : jm), RI M' → RH M' → RF M' → RG1 M' → ((M' 617 g = M 604 h + M 605 h ∧ M' 619 g = M 604 h ∧ M' 621 g = M 604 t ∧ M' 620 g = (if h = 0 then 0 else M 604 (h - 1) + (if M 603 (h - 1) = 3 then 4 else 0))) ∧ (∀ i : Int, 0 ≤ i → i < M 604 h + M 605 h → M' 618 (400 * g + i) = rf M x i) ∧ (∀ (b : Nat) (j : Int), b ≠ 618 → j ≠ g → M' b j = M b j) ∧ (∀ j : Int, (j < 400 * g ∨ 400 * g + 400 ≤ j) → M' 618 j = M 618 j)) → (∀ (a : Nat) (i : Int), a ≠ 617 → a ≠ 618 → a ≠ 619 → a ≠ 620 → a ≠ 621 → M' a i = M a i) → Q none M') : jc A 2 295 [.ref (598), .int (Int32.ofInt (g)), .int (Int32.ofInt (x)), .int (Int32.ofInt (h)), .int (Int32.ofInt (t))] M Q := by
  have hG1 := p5
  have nb : (0 : Int) ≤ M 604 t ∧ M 604 t ≤ 400 := by have q := hI_M 604 t (by decide); rw [xri_row rfl rfl] at q; exact q
  have rt := RH.two hH_M (h - 1)
  have r1 := (hH_M (h - 1)).2
  have r2 := (hH_M h).2
  refine jc_of (m := xm_295) rfl (Nat.le_of_ble_eq_true rfl) rfl ?_
  refine jr.aload_n rfl rfl ?_
  refine jr.getf (i := 28) (v := .ref 617) rfl rfl (by decide) rfl (by decide) rfl rfl rfl rfl ?_
  refine jr.iload_n rfl rfl ?_
  refine jr.aload_n rfl rfl ?_
  refine jr.getf (i := 8) (v := .ref 604) rfl rfl (by decide) rfl (by decide) rfl rfl rfl rfl ?_
  refine jr.iload_n rfl rfl ?_
  obtain ⟨v1, e1⟩ : ∃ z, M 604 h = z := ⟨_, rfl⟩
  have b1 : 0 ≤ v1 ∧ v1 ≤ 400 := by rw [← e1]; exact (by have q := hI_M 604 h (by decide); rw [xri_row rfl rfl] at q; exact q)
  refine jr.iald (i := h) (x := v1) rfl (by decide) rfl (by decide) (by omega) (by omega) e1 ?_
  refine jr.aload_n rfl rfl ?_
  refine jr.getf (i := 9) (v := .ref 605) rfl rfl (by decide) rfl (by decide) rfl rfl rfl rfl ?_
  refine jr.iload_n rfl rfl ?_
  obtain ⟨v2, e2⟩ : ∃ z, M 605 h = z := ⟨_, rfl⟩
  have b2 : 0 ≤ v2 ∧ v2 ≤ 400 := by rw [← e2]; exact (by have q := hI_M 605 h (by decide); rw [xri_row rfl rfl] at q; exact q)
  refine jr.iald (i := h) (x := v2) rfl (by decide) rfl (by decide) (by omega) (by omega) e2 ?_
  refine jr.iadd rfl ?_
  refine jr.iast (i := g) (x := (v1 + v2)) rfl (by decide) rfl (by decide) (by omega) (by omega) ?_
  refine jr.iconst rfl ?_
  refine jr.istore (ls' := [_, _, _, _, _, _]) rfl (by decide) rfl ?_
  refine jr.pick (ls := [_, _, _, _, _, _]) [0, 5, 4, 3, 2, 1] rfl rfl ?_
  exact r_keepHeaders_L22_x q 400 (ju M 617 g (v1 + v2)) 0 t h x g (RI.u hI_M (a := 617) (i := g) (by rw [xri_row rfl rfl]; show (-1 : Int) ≤ _ ∧ _ ≤ (400 : Int); omega)) (RH.o hH_M (by decide) (by decide) (by decide)) (RF.o hS_M (by decide) (by decide))  (fun a i f617 f618 f619 f620 f621 => ((ju_c _ _ f617).trans rfl)) (by omega) (by omega) (by omega) (by omega) (by omega) (RG1x.s (RG1.x hG1 _) (by decide)) (fun q => by exfalso; rw [ju_c _ _ (by decide)] at q; omega) (by rw [ju_same, ju_c _ _ (by decide), ju_c _ _ (by decide)]; omega) (by rw [ju_c _ _ (by decide), ju_c _ _ (by decide), ju_c _ _ (by decide), ju_c _ _ (by decide), ju_c _ _ (by decide)]; exact ⟨p0, p1, p2, p3⟩) (by rw [ju_c _ _ (by decide)]; exact p4) (fun i i0 i1 => absurd i1 (by omega)) (fun b j hb hj => ju_i _ _ hj) (fun j hj => ju_c _ _ (by decide)) (by omega) (by omega) (by omega) (by omega) (by omega)
end
