/-! ===== the reference: contracts, 35.pb ===== -/
theorem r_emit {A : Nat → Option (Nat × (Nat → Int32))} {M : jm} {Q : Option Value → jm → Prop} {c : Int} (e_c : M 598 90 = c) (h_c : 0 ≤ c ∧ c ≤ 2199) {op : Int} (h_op : 0 ≤ op ∧ op ≤ 1000) {a : Int} (h_a : (-9223372036854775808) ≤ a ∧ a ≤ 9223372036854775807) (q : Q none (ju (ju (ju M 659 c op) 660 c a) 598 90 (c + 1))) : jc A 1 350 [.ref (598), .int (Int32.ofInt (op)), .long (Int64.ofInt (a))] M Q := by
  refine jc_of (m := xm_350) rfl (Nat.le_of_ble_eq_true rfl) rfl ?_
  refine jr.aload_n rfl rfl ?_
  refine jr.getf (i := 94) (v := .ref 659) rfl rfl (by decide) rfl (by decide) rfl rfl rfl rfl ?_
  refine jr.aload_n rfl rfl ?_
  refine jr.getf (i := 90) (x := c) (v := .int (Int32.ofInt (c))) rfl rfl (by decide) rfl (by decide) rfl rfl e_c rfl ?_
  refine jr.iload_n rfl rfl ?_
  refine jr.iast (i := c) (x := op) rfl (by decide) rfl (by decide) (by omega) (by omega) ?_
  refine jr.aload_n rfl rfl ?_
  refine jr.getf (i := 95) (v := .ref 660) rfl rfl (by decide) rfl (by decide) rfl rfl rfl rfl ?_
  refine jr.aload_n rfl rfl ?_
  refine jr.getf (i := 90) (x := c) (v := .int (Int32.ofInt (c))) rfl rfl (by decide) rfl (by decide) rfl rfl ((ju_c _ _ (by decide)).trans e_c) rfl ?_
  refine jr.lload_n rfl rfl ?_
  refine jr.last (i := c) (x := a) rfl (by decide) rfl (by decide) (by omega) (by omega) ?_
  refine jr.aload_n rfl rfl ?_
  refine jr.dup rfl rfl ?_
  refine jr.getf (i := 90) (x := c) (v := .int (Int32.ofInt (c))) rfl rfl (by decide) rfl (by decide) rfl rfl ((ju_c _ _ (by decide)).trans ((ju_c _ _ (by decide)).trans e_c)) rfl ?_
  refine jr.iconst rfl ?_
  refine jr.iadd rfl ?_
  refine jr.putf (i := 90) (x := (c + 1)) rfl rfl (by decide) rfl (by decide) rfl rfl rfl rfl rfl ?_
  exact jr.vreturn rfl rfl q
theorem r_push {A : Nat → Option (Nat × (Nat → Int32))} {M : jm} {Q : Option Value → jm → Prop} {c : Int} (e_c : M 598 102 = c) (h_c : 0 ≤ c ∧ c ≤ 399) {s : Int} (h_s : 0 ≤ s ∧ s ≤ 255) {w : Int} (h_w : (-1) ≤ w ∧ w ≤ 68) (q : Q none (ju (ju (ju (ju M 664 c s) 666 c w) 667 c 1) 598 102 (c + 1))) : jc A 1 356 [.ref (598), .int (Int32.ofInt (s)), .int (Int32.ofInt (w))] M Q := by
  refine jc_of (m := xm_356) rfl (Nat.le_of_ble_eq_true rfl) rfl ?_
  refine jr.aload_n rfl rfl ?_
  refine jr.getf (i := 103) (v := .ref 664) rfl rfl (by decide) rfl (by decide) rfl rfl rfl rfl ?_
  refine jr.aload_n rfl rfl ?_
  refine jr.getf (i := 102) (x := c) (v := .int (Int32.ofInt (c))) rfl rfl (by decide) rfl (by decide) rfl rfl e_c rfl ?_
  refine jr.iload_n rfl rfl ?_
  refine jr.iast (i := c) (x := s) rfl (by decide) rfl (by decide) (by omega) (by omega) ?_
  refine jr.aload_n rfl rfl ?_
  refine jr.getf (i := 105) (v := .ref 666) rfl rfl (by decide) rfl (by decide) rfl rfl rfl rfl ?_
  refine jr.aload_n rfl rfl ?_
  refine jr.getf (i := 102) (x := c) (v := .int (Int32.ofInt (c))) rfl rfl (by decide) rfl (by decide) rfl rfl ((ju_c _ _ (by decide)).trans e_c) rfl ?_
  refine jr.iload_n rfl rfl ?_
  refine jr.iast (i := c) (x := w) rfl (by decide) rfl (by decide) (by omega) (by omega) ?_
  refine jr.aload_n rfl rfl ?_
  refine jr.getf (i := 106) (v := .ref 667) rfl rfl (by decide) rfl (by decide) rfl rfl rfl rfl ?_
  refine jr.aload_n rfl rfl ?_
  refine jr.getf (i := 102) (x := c) (v := .int (Int32.ofInt (c))) rfl rfl (by decide) rfl (by decide) rfl rfl ((ju_c _ _ (by decide)).trans ((ju_c _ _ (by decide)).trans e_c)) rfl ?_
  refine jr.iconst rfl ?_
  refine jr.iast (i := c) (x := 1) rfl (by decide) rfl (by decide) (by omega) (by omega) ?_
  refine jr.aload_n rfl rfl ?_
  refine jr.dup rfl rfl ?_
  refine jr.getf (i := 102) (x := c) (v := .int (Int32.ofInt (c))) rfl rfl (by decide) rfl (by decide) rfl rfl ((ju_c _ _ (by decide)).trans ((ju_c _ _ (by decide)).trans ((ju_c _ _ (by decide)).trans e_c))) rfl ?_
  refine jr.iconst rfl ?_
  refine jr.iadd rfl ?_
  refine jr.putf (i := 102) (x := (c + 1)) rfl rfl (by decide) rfl (by decide) rfl rfl rfl rfl rfl ?_
  exact jr.vreturn rfl rfl q
theorem ES.fv {M : jm} {b o k d z x : Int} (h : ES M b o k d z x) {i f : Int} (h0 : 0 ≤ i ∧ i ≤ 13) (h1 : 0 ≤ f ∧ f ≤ 10) (h2 : M 650 (11 * i + f) ≠ -1) : FV (16 * i + f) := by
  obtain ⟨ht, P, D, E, ⟨g1, _⟩, _⟩ := h
  obtain ⟨q1, q2⟩ := g1 i f h0.1 h0.2 h1.1 h1.2 h2
  exact ⟨i, f, rfl, h1.1, h1.2, h0.1, h0.2, q1, q2⟩
theorem r_reduce_L0 {A : Nat → Option (Nat × (Nat → Int32))} {Q : Option Value → jm → Prop} {b : Int} {M0 : jm} {y0 : Int} (q : ∀ (M' : jm), RI M' → RH M' → RF M' → GS M' b 1 → (M' 598 102 = 0 ∨ strn (M' 664 (M' 598 102 - 1)) < y0) → TK M' = TK M0 → (∀ (a : Nat) (i : Int), a ≠ 598 → a ≠ 659 → a ≠ 660 → M' a i = M0 a i) → (∀ (i : Int), i ≠ 90 → i ≠ 100 → i ≠ 102 → M' 598 i = M0 598 i) → Q none M') : ∀ (nM : Nat) (M : jm) (y : Int), RI M → RH M → RF M → (∀ (a : Nat) (i : Int), a ≠ 598 → a ≠ 659 → a ≠ 660 → M a i = M0 a i) → (∀ (i : Int), i ≠ 90 → i ≠ 100 → i ≠ 102 → M 598 i = M0 598 i) → 1 ≤ y ∧ y ≤ 6 → GS M b 1 → TK M = TK M0 → y = y0 → M 598 102 ≤ nM → jr A 1 xm_355 0 [(1, .int (Int32.ofInt (y))), (0, .ref (598))] [] M Q := by
  intro nM
  induction nM using Nat.strongRecOn with
  | ind nM ih =>
    intro M y hI_M hH_M hS_M hF_M hG_M h_y hy0 hy1 hy2 hm
    subst hy2
    obtain ⟨gs1, gs2, gs3, gs4, gs5, gs6⟩ := id hy0
    have hE := gs2
    have sl := ES.sgle gs2
    have b107 : (0 : Int) ≤ M 598 107 ∧ M 598 107 ≤ 16 := hI_M 598 107 (by decide)
    have b73 : (0 : Int) ≤ M 598 73 ∧ M 598 73 ≤ 1600 := hI_M 598 73 (by decide)
    have b88 : (0 : Int) ≤ M 598 88 ∧ M 598 88 ≤ 16 := hI_M 598 88 (by decide)
    have b100 : (0 : Int) ≤ M 598 100 ∧ M 598 100 ≤ 13 := hI_M 598 100 (by decide)
    refine jr.aload_n rfl rfl ?_
    obtain ⟨v1, e1⟩ : ∃ z, M 598 102 = z := ⟨_, rfl⟩
    have b1 : 0 ≤ v1 ∧ v1 ≤ 400 := by rw [← e1]; exact hI_M 598 102 (by decide)
    refine jr.getf (i := 102) (x := v1) (v := .int (Int32.ofInt (v1))) rfl rfl (by decide) rfl (by decide) rfl rfl e1 rfl ?_
    refine jr.if_le rfl rfl (by omega) (fun h4 => ?_) (fun h4 => ?_)
    · exact jr.vreturn rfl rfl (q _ hI_M hH_M hS_M  hy0 (Or.inl (by omega)) hy1 (fun a i f598 f659 f660 => (hF_M a i f598 f659 f660)) (fun i g90 g100 g102 => (hG_M i g90 g100 g102)))
    · refine jr.aload_n rfl rfl ?_
      refine jr.getf (i := 103) (v := .ref 664) rfl rfl (by decide) rfl (by decide) rfl rfl rfl rfl ?_
      refine jr.aload_n rfl rfl ?_
      refine jr.getf (i := 102) (x := v1) (v := .int (Int32.ofInt (v1))) rfl rfl (by decide) rfl (by decide) rfl rfl e1 rfl ?_
      refine jr.iconst rfl ?_
      refine jr.isub rfl ?_
      obtain ⟨v2, e2⟩ : ∃ z, M 664 (v1 - 1) = z := ⟨_, rfl⟩
      have b2 : 0 ≤ v2 ∧ v2 ≤ 255 := by rw [← e2]; exact (by have q := hI_M 664 (v1 - 1) (by decide); rw [xri_row rfl rfl] at q; exact q)
      refine jr.iald (i := (v1 - 1)) (x := v2) rfl (by decide) rfl (by decide) (by omega) (by omega) e2 ?_
      refine jr.bipush rfl (by decide) ?_
      refine jr.icmp_eq rfl rfl (by omega) (by omega) (fun h20 => ?_) (fun h20 => ?_)
      · exact jr.vreturn rfl rfl (q _ hI_M hH_M hS_M  hy0 (by rw [e1]; first | exact Or.inr (by rw [e2, h20]; show (0 : Int) < y; omega) | exact Or.inr (by rw [e2]; omega)) hy1 (fun a i f598 f659 f660 => (hF_M a i f598 f659 f660)) (fun i g90 g100 g102 => (hG_M i g90 g100 g102)))
      · refine jr.aload_n rfl rfl ?_
        refine jr.getf (i := 103) (v := .ref 664) rfl rfl (by decide) rfl (by decide) rfl rfl rfl rfl ?_
        refine jr.aload_n rfl rfl ?_
        refine jr.getf (i := 102) (x := v1) (v := .int (Int32.ofInt (v1))) rfl rfl (by decide) rfl (by decide) rfl rfl e1 rfl ?_
        refine jr.iconst rfl ?_
        refine jr.isub rfl ?_
        refine jr.iald (i := (v1 - 1)) (x := v2) rfl (by decide) rfl (by decide) (by omega) (by omega) e2 ?_
        refine jr_s rfl rfl (Or.inl rfl) ⟨Nat.le_of_ble_eq_true rfl, Nat.le_of_ble_eq_true rfl⟩ rfl rfl (jc.deep (r_strength hI_M hH_M hS_M (Kp.rfl _) (by omega)  (fun r3 z3 w3_0 => ?_)) (by decide))
        have tp := ES.top gs2 (by omega)
        rw [e1, e2] at tp
        refine jr.iload_n rfl rfl ?_
        refine jr.icmp_lt rfl rfl (by omega) (by omega) (fun h38 => ?_) (fun h38 => ?_)
        · exact jr.vreturn rfl rfl (q _ hI_M hH_M hS_M  hy0 (by rw [e1]; first | exact Or.inr (by rw [e2, h20]; show (0 : Int) < y; omega) | exact Or.inr (by rw [e2]; omega)) hy1 (fun a i f598 f659 f660 => (hF_M a i f598 f659 f660)) (fun i g90 g100 g102 => (hG_M i g90 g100 g102)))
        · refine jr.aload_n rfl rfl ?_
          refine jr.dup rfl rfl ?_
          refine jr.getf (i := 102) (x := v1) (v := .int (Int32.ofInt (v1))) rfl rfl (by decide) rfl (by decide) rfl rfl e1 rfl ?_
          refine jr.iconst rfl ?_
          refine jr.isub rfl ?_
          refine jr.putf (i := 102) (x := (v1 - 1)) rfl rfl (by decide) rfl (by decide) rfl rfl rfl rfl rfl ?_
          refine jr.aload_n rfl rfl ?_
          refine jr.getf (i := 103) (v := .ref 664) rfl rfl (by decide) rfl (by decide) rfl rfl rfl rfl ?_
          refine jr.aload_n rfl rfl ?_
          refine jr.getf (i := 102) (x := (v1 - 1)) (v := .int (Int32.ofInt (v1 - 1))) rfl rfl (by decide) rfl (by decide) rfl rfl (ju_same _ _ _ _) rfl ?_
          refine jr.iald (i := (v1 - 1)) (x := v2) rfl (by decide) rfl (by decide) (by omega) (by omega) ((ju_c _ _ (by decide)).trans e2) ?_
          refine jr.istore_n rfl (by decide) rfl ?_
          refine jr.iload_n rfl rfl ?_
          refine jr.bipush rfl (by decide) ?_
          refine jr.icmp_eq rfl rfl (by omega) (by omega) (fun h64 => ?_) (fun h64 => ?_)
          · refine jr.aload_n rfl rfl ?_
            refine jr.iload_n rfl rfl ?_
            refine jr.lconst (x := 0) rfl (by decide) ?_
            obtain ⟨v4, e4⟩ : ∃ z, M 598 90 = z := ⟨_, rfl⟩
            have b4 : 0 ≤ v4 ∧ v4 ≤ 2200 := by rw [← e4]; exact hI_M 598 90 (by decide)
            refine jr_v rfl rfl (Or.inl rfl) rfl rfl (by decide) rfl ⟨rfl, Nat.le_of_ble_eq_true rfl, Nat.le_of_ble_eq_true rfl⟩ rfl (jc.deep (r_emit ((ju_i _ _ (by decide)).trans e4) (by omega) (by omega) (by omega) ?_) (by decide))
            refine jr.aload_n rfl rfl ?_
            refine jr.dup rfl rfl ?_
            obtain ⟨v5, e5⟩ : ∃ z, M 598 100 = z := ⟨_, rfl⟩
            have b5 : 0 ≤ v5 ∧ v5 ≤ 13 := by rw [← e5]; exact hI_M 598 100 (by decide)
            refine jr.getf (i := 100) (x := v5) (v := .int (Int32.ofInt (v5))) rfl rfl (by decide) rfl (by decide) rfl rfl ((ju_i _ _ (by decide)).trans ((ju_c _ _ (by decide)).trans ((ju_c _ _ (by decide)).trans ((ju_i _ _ (by decide)).trans e5)))) rfl ?_
            refine jr.iconst rfl ?_
            refine jr.isub rfl ?_
            refine jr.putf (i := 100) (x := (v5 - 1)) rfl rfl (by decide) rfl (by decide) rfl rfl rfl rfl rfl ?_
            refine jr.goto rfl rfl ?_
            refine jr.goto rfl rfl ?_
            obtain ⟨v6, e6⟩ : ∃ z, M 598 72 = z := ⟨_, rfl⟩
            have b6 : 0 ≤ v6 ∧ v6 ≤ 1600 := by rw [← e6]; exact hI_M 598 72 (by decide)
            have y7 : (ju (ju (ju (ju (ju M 598 102 (v1 - 1)) 659 v4 v2) 660 v4 0) 598 90 (v4 + 1)) 598 100 (v5 - 1)) 598 72 = v6 := ((ju_i _ _ (by decide)).trans ((ju_i _ _ (by decide)).trans ((ju_c _ _ (by decide)).trans ((ju_c _ _ (by decide)).trans ((ju_i _ _ (by decide)).trans e6)))))
            obtain ⟨v8, e8⟩ : ∃ z, M 598 73 = z := ⟨_, rfl⟩
            have b8 : 0 ≤ v8 ∧ v8 ≤ 1600 := by rw [← e8]; exact hI_M 598 73 (by decide)
            have y9 : (ju (ju (ju (ju (ju M 598 102 (v1 - 1)) 659 v4 v2) 660 v4 0) 598 90 (v4 + 1)) 598 100 (v5 - 1)) 598 73 = v8 := ((ju_i _ _ (by decide)).trans ((ju_i _ _ (by decide)).trans ((ju_c _ _ (by decide)).trans ((ju_c _ _ (by decide)).trans ((ju_i _ _ (by decide)).trans e8)))))
            obtain ⟨v10, e10⟩ : ∃ z, M 598 74 = z := ⟨_, rfl⟩
            have b10 : 0 ≤ v10 ∧ v10 ≤ 4 := by rw [← e10]; exact hI_M 598 74 (by decide)
            have y11 : (ju (ju (ju (ju (ju M 598 102 (v1 - 1)) 659 v4 v2) 660 v4 0) 598 90 (v4 + 1)) 598 100 (v5 - 1)) 598 74 = v10 := ((ju_i _ _ (by decide)).trans ((ju_i _ _ (by decide)).trans ((ju_c _ _ (by decide)).trans ((ju_c _ _ (by decide)).trans ((ju_i _ _ (by decide)).trans e10)))))
            obtain ⟨v12, e12⟩ : ∃ z, M 598 79 = z := ⟨_, rfl⟩
            have b12 : 0 ≤ v12 ∧ v12 ≤ 255 := by rw [← e12]; exact hI_M 598 79 (by decide)
            have y13 : (ju (ju (ju (ju (ju M 598 102 (v1 - 1)) 659 v4 v2) 660 v4 0) 598 90 (v4 + 1)) 598 100 (v5 - 1)) 598 79 = v12 := ((ju_i _ _ (by decide)).trans ((ju_i _ _ (by decide)).trans ((ju_c _ _ (by decide)).trans ((ju_c _ _ (by decide)).trans ((ju_i _ _ (by decide)).trans e12)))))
            obtain ⟨v14, e14⟩ : ∃ z, M 598 80 = z := ⟨_, rfl⟩
            have b14 : 0 ≤ v14 ∧ v14 ≤ 7 := by rw [← e14]; exact hI_M 598 80 (by decide)
            have y15 : (ju (ju (ju (ju (ju M 598 102 (v1 - 1)) 659 v4 v2) 660 v4 0) 598 90 (v4 + 1)) 598 100 (v5 - 1)) 598 80 = v14 := ((ju_i _ _ (by decide)).trans ((ju_i _ _ (by decide)).trans ((ju_c _ _ (by decide)).trans ((ju_c _ _ (by decide)).trans ((ju_i _ _ (by decide)).trans e14)))))
            obtain ⟨v16, e16⟩ : ∃ z, M 598 89 = z := ⟨_, rfl⟩
            have b16 : 0 ≤ v16 ∧ v16 ≤ 301 := by rw [← e16]; exact hI_M 598 89 (by decide)
            have y17 : (ju (ju (ju (ju (ju M 598 102 (v1 - 1)) 659 v4 v2) 660 v4 0) 598 90 (v4 + 1)) 598 100 (v5 - 1)) 598 89 = v16 := ((ju_i _ _ (by decide)).trans ((ju_i _ _ (by decide)).trans ((ju_c _ _ (by decide)).trans ((ju_c _ _ (by decide)).trans ((ju_i _ _ (by decide)).trans e16)))))
            have y18 : (ju (ju (ju (ju (ju M 598 102 (v1 - 1)) 659 v4 v2) 660 v4 0) 598 90 (v4 + 1)) 598 100 (v5 - 1)) 598 100 = v5 - 1 := (ju_same _ _ _ _)
            refine jr.pick [1, 2] rfl rfl ?_
            exact ih (nM - 1) (by omega) (ju (ju (ju (ju (ju M 598 102 (v1 - 1)) 659 v4 v2) 660 v4 0) 598 90 (v4 + 1)) 598 100 (v5 - 1)) y (RI.u (RI.u (RI.u (RI.u (RI.u hI_M (a := 598) (i := 102) (show (0 : Int) ≤ _ ∧ _ ≤ (400 : Int) from by omega)) (a := 659) (i := v4) (by rw [xri_row rfl rfl]; show (0 : Int) ≤ _ ∧ _ ≤ (1000 : Int); omega)) (a := 660) (i := v4) (by rw [xri_row rfl rfl]; show (-9223372036854775808 : Int) ≤ _ ∧ _ ≤ (9223372036854775807 : Int); omega)) (a := 598) (i := 90) (show (0 : Int) ≤ _ ∧ _ ≤ (2200 : Int) from by omega)) (a := 598) (i := 100) (show (0 : Int) ≤ _ ∧ _ ≤ (13 : Int) from by omega)) (RH.o (RH.o (RH.o (RH.o (RH.o hH_M (by decide) (by decide) (by decide)) (by decide) (by decide) (by decide)) (by decide) (by decide) (by decide)) (by decide) (by decide) (by decide)) (by decide) (by decide) (by decide)) (RF.o (RF.o (RF.o (RF.o (RF.o hS_M (by decide) (by decide)) (by decide) (by decide)) (by decide) (by decide)) (by decide) (by decide)) (by decide) (by decide))  (fun a i f598 f659 f660 => ((ju_c _ _ f598).trans ((ju_c _ _ f598).trans ((ju_c _ _ f660).trans ((ju_c _ _ f659).trans ((ju_c _ _ f598).trans (hF_M a i f598 f659 f660))))))) (fun i g90 g100 g102 => ((ju_i _ _ g100).trans ((ju_i _ _ g90).trans ((ju_c _ _ (by decide)).trans ((ju_c _ _ (by decide)).trans ((ju_i _ _ g102).trans (hG_M i g90 g100 g102))))))) (by omega) ⟨by omega, ES.adj (ES.redU gs2 e1 e4 e5 e2 (by omega) (by omega) (by omega)) (k' := 0) (z' := 0) (by omega) (by omega) (by omega), by omega, by omega, by omega, by omega⟩ ((((TK.o (Or.inr ⟨by decide, by decide⟩)).trans ((TK.o (Or.inr ⟨by decide, by decide⟩)).trans ((TK.o (Or.inl (by decide))).trans ((TK.o (Or.inl (by decide))).trans ((TK.o (Or.inr ⟨by decide, by decide⟩)).trans rfl)))))).trans hy1) (by omega) (by rw [((ju_i _ _ (by decide)).trans ((ju_i _ _ (by decide)).trans ((ju_c _ _ (by decide)).trans ((ju_c _ _ (by decide)).trans (ju_same _ _ _ _)))))]; omega)
          · refine jr.iload_n rfl rfl ?_
            refine jr.bipush rfl (by decide) ?_
            refine jr.icmp_ne rfl rfl (by omega) (by omega) (fun h70 => ?_) (fun h70 => ?_)
            · refine jr.iload_n rfl rfl ?_
              refine jr.bipush rfl (by decide) ?_
              refine jr.icmp_eq rfl rfl (by omega) (by omega) (fun h95 => ?_) (fun h95 => ?_)
              · refine jr.aload_n rfl rfl ?_
                refine jr.bipush rfl (by decide) ?_
                refine jr.lconst (x := 0) rfl (by decide) ?_
                obtain ⟨v19, e19⟩ : ∃ z, M 598 90 = z := ⟨_, rfl⟩
                have b19 : 0 ≤ v19 ∧ v19 ≤ 2200 := by rw [← e19]; exact hI_M 598 90 (by decide)
                refine jr_v rfl rfl (Or.inl rfl) rfl rfl (by decide) rfl ⟨rfl, Nat.le_of_ble_eq_true rfl, Nat.le_of_ble_eq_true rfl⟩ rfl (jc.deep (r_emit ((ju_i _ _ (by decide)).trans e19) (by omega) (by omega) (by omega) ?_) (by decide))
                refine jr.aload_n rfl rfl ?_
                refine jr.getf (i := 95) (v := .ref 660) rfl rfl (by decide) rfl (by decide) rfl rfl rfl rfl ?_
                refine jr.aload_n rfl rfl ?_
                refine jr.getf (i := 104) (v := .ref 665) rfl rfl (by decide) rfl (by decide) rfl rfl rfl rfl ?_
                refine jr.aload_n rfl rfl ?_
                refine jr.getf (i := 102) (x := (v1 - 1)) (v := .int (Int32.ofInt (v1 - 1))) rfl rfl (by decide) rfl (by decide) rfl rfl ((ju_i _ _ (by decide)).trans ((ju_c _ _ (by decide)).trans ((ju_c _ _ (by decide)).trans (ju_same _ _ _ _)))) rfl ?_
                obtain ⟨v20, e20⟩ : ∃ z, M 665 (v1 - 1) = z := ⟨_, rfl⟩
                have b20 : 0 ≤ v20 ∧ v20 ≤ 2200 := by rw [← e20]; exact (by have q := hI_M 665 (v1 - 1) (by decide); rw [xri_row rfl rfl] at q; exact q)
                refine jr.iald (i := (v1 - 1)) (x := v20) rfl (by decide) rfl (by decide) (by omega) (by omega) ((ju_c _ _ (by decide)).trans ((ju_c _ _ (by decide)).trans ((ju_c _ _ (by decide)).trans ((ju_c _ _ (by decide)).trans e20)))) ?_
                refine jr.aload_n rfl rfl ?_
                refine jr.getf (i := 90) (x := (v19 + 1)) (v := .int (Int32.ofInt (v19 + 1))) rfl rfl (by decide) rfl (by decide) rfl rfl (ju_same _ _ _ _) rfl ?_
                refine jr.i2l rfl (by omega) ?_
                refine jr.last (i := v20) (x := (v19 + 1)) rfl (by decide) rfl (by decide) (by omega) (by omega) ?_
                refine jr.goto rfl rfl ?_
                refine jr.goto rfl rfl ?_
                obtain ⟨v21, e21⟩ : ∃ z, M 598 72 = z := ⟨_, rfl⟩
                have b21 : 0 ≤ v21 ∧ v21 ≤ 1600 := by rw [← e21]; exact hI_M 598 72 (by decide)
                have y22 : (ju (ju (ju (ju (ju M 598 102 (v1 - 1)) 659 v19 9) 660 v19 0) 598 90 (v19 + 1)) 660 v20 (v19 + 1)) 598 72 = v21 := ((ju_c _ _ (by decide)).trans ((ju_i _ _ (by decide)).trans ((ju_c _ _ (by decide)).trans ((ju_c _ _ (by decide)).trans ((ju_i _ _ (by decide)).trans e21)))))
                obtain ⟨v23, e23⟩ : ∃ z, M 598 73 = z := ⟨_, rfl⟩
                have b23 : 0 ≤ v23 ∧ v23 ≤ 1600 := by rw [← e23]; exact hI_M 598 73 (by decide)
                have y24 : (ju (ju (ju (ju (ju M 598 102 (v1 - 1)) 659 v19 9) 660 v19 0) 598 90 (v19 + 1)) 660 v20 (v19 + 1)) 598 73 = v23 := ((ju_c _ _ (by decide)).trans ((ju_i _ _ (by decide)).trans ((ju_c _ _ (by decide)).trans ((ju_c _ _ (by decide)).trans ((ju_i _ _ (by decide)).trans e23)))))
                obtain ⟨v25, e25⟩ : ∃ z, M 598 74 = z := ⟨_, rfl⟩
                have b25 : 0 ≤ v25 ∧ v25 ≤ 4 := by rw [← e25]; exact hI_M 598 74 (by decide)
                have y26 : (ju (ju (ju (ju (ju M 598 102 (v1 - 1)) 659 v19 9) 660 v19 0) 598 90 (v19 + 1)) 660 v20 (v19 + 1)) 598 74 = v25 := ((ju_c _ _ (by decide)).trans ((ju_i _ _ (by decide)).trans ((ju_c _ _ (by decide)).trans ((ju_c _ _ (by decide)).trans ((ju_i _ _ (by decide)).trans e25)))))
                obtain ⟨v27, e27⟩ : ∃ z, M 598 79 = z := ⟨_, rfl⟩
                have b27 : 0 ≤ v27 ∧ v27 ≤ 255 := by rw [← e27]; exact hI_M 598 79 (by decide)
                have y28 : (ju (ju (ju (ju (ju M 598 102 (v1 - 1)) 659 v19 9) 660 v19 0) 598 90 (v19 + 1)) 660 v20 (v19 + 1)) 598 79 = v27 := ((ju_c _ _ (by decide)).trans ((ju_i _ _ (by decide)).trans ((ju_c _ _ (by decide)).trans ((ju_c _ _ (by decide)).trans ((ju_i _ _ (by decide)).trans e27)))))
                obtain ⟨v29, e29⟩ : ∃ z, M 598 80 = z := ⟨_, rfl⟩
                have b29 : 0 ≤ v29 ∧ v29 ≤ 7 := by rw [← e29]; exact hI_M 598 80 (by decide)
                have y30 : (ju (ju (ju (ju (ju M 598 102 (v1 - 1)) 659 v19 9) 660 v19 0) 598 90 (v19 + 1)) 660 v20 (v19 + 1)) 598 80 = v29 := ((ju_c _ _ (by decide)).trans ((ju_i _ _ (by decide)).trans ((ju_c _ _ (by decide)).trans ((ju_c _ _ (by decide)).trans ((ju_i _ _ (by decide)).trans e29)))))
                obtain ⟨v31, e31⟩ : ∃ z, M 598 89 = z := ⟨_, rfl⟩
                have b31 : 0 ≤ v31 ∧ v31 ≤ 301 := by rw [← e31]; exact hI_M 598 89 (by decide)
                have y32 : (ju (ju (ju (ju (ju M 598 102 (v1 - 1)) 659 v19 9) 660 v19 0) 598 90 (v19 + 1)) 660 v20 (v19 + 1)) 598 89 = v31 := ((ju_c _ _ (by decide)).trans ((ju_i _ _ (by decide)).trans ((ju_c _ _ (by decide)).trans ((ju_c _ _ (by decide)).trans ((ju_i _ _ (by decide)).trans e31)))))
                obtain ⟨v33, e33⟩ : ∃ z, M 598 100 = z := ⟨_, rfl⟩
                have b33 : 0 ≤ v33 ∧ v33 ≤ 13 := by rw [← e33]; exact hI_M 598 100 (by decide)
                have y34 : (ju (ju (ju (ju (ju M 598 102 (v1 - 1)) 659 v19 9) 660 v19 0) 598 90 (v19 + 1)) 660 v20 (v19 + 1)) 598 100 = v33 := ((ju_c _ _ (by decide)).trans ((ju_i _ _ (by decide)).trans ((ju_c _ _ (by decide)).trans ((ju_c _ _ (by decide)).trans ((ju_i _ _ (by decide)).trans e33)))))
                refine jr.pick [1, 2] rfl rfl ?_
                exact ih (nM - 1) (by omega) (ju (ju (ju (ju (ju M 598 102 (v1 - 1)) 659 v19 9) 660 v19 0) 598 90 (v19 + 1)) 660 v20 (v19 + 1)) y (RI.u (RI.u (RI.u (RI.u (RI.u hI_M (a := 598) (i := 102) (show (0 : Int) ≤ _ ∧ _ ≤ (400 : Int) from by omega)) (a := 659) (i := v19) (by rw [xri_row rfl rfl]; show (0 : Int) ≤ _ ∧ _ ≤ (1000 : Int); omega)) (a := 660) (i := v19) (by rw [xri_row rfl rfl]; show (-9223372036854775808 : Int) ≤ _ ∧ _ ≤ (9223372036854775807 : Int); omega)) (a := 598) (i := 90) (show (0 : Int) ≤ _ ∧ _ ≤ (2200 : Int) from by omega)) (a := 660) (i := v20) (by rw [xri_row rfl rfl]; show (-9223372036854775808 : Int) ≤ _ ∧ _ ≤ (9223372036854775807 : Int); omega)) (RH.o (RH.o (RH.o (RH.o (RH.o hH_M (by decide) (by decide) (by decide)) (by decide) (by decide) (by decide)) (by decide) (by decide) (by decide)) (by decide) (by decide) (by decide)) (by decide) (by decide) (by decide)) (RF.o (RF.o (RF.o (RF.o (RF.o hS_M (by decide) (by decide)) (by decide) (by decide)) (by decide) (by decide)) (by decide) (by decide)) (by decide) (by decide))  (fun a i f598 f659 f660 => ((ju_c _ _ f660).trans ((ju_c _ _ f598).trans ((ju_c _ _ f660).trans ((ju_c _ _ f659).trans ((ju_c _ _ f598).trans (hF_M a i f598 f659 f660))))))) (fun i g90 g100 g102 => ((ju_c _ _ (by decide)).trans ((ju_i _ _ g90).trans ((ju_c _ _ (by decide)).trans ((ju_c _ _ (by decide)).trans ((ju_i _ _ g102).trans (hG_M i g90 g100 g102))))))) (by omega) ⟨by omega, ES.adj (ES.redA gs2 e1 e19 e20 (by omega) (by rw [e2]; omega) (by omega)) (k' := 0) (z' := 0) (by omega) (by omega) (by omega), by omega, by omega, by omega, by omega⟩ ((((TK.o (Or.inl (by decide))).trans ((TK.o (Or.inr ⟨by decide, by decide⟩)).trans ((TK.o (Or.inl (by decide))).trans ((TK.o (Or.inl (by decide))).trans ((TK.o (Or.inr ⟨by decide, by decide⟩)).trans rfl)))))).trans hy1) (by omega) (by rw [((ju_c _ _ (by decide)).trans ((ju_i _ _ (by decide)).trans ((ju_c _ _ (by decide)).trans ((ju_c _ _ (by decide)).trans (ju_same _ _ _ _)))))]; omega)
              · refine jr.iload_n rfl rfl ?_
                refine jr.bipush rfl (by decide) ?_
                refine jr.icmp_ne rfl rfl (by omega) (by omega) (fun h101 => ?_) (fun h101 => ?_)
                · refine jr.aload_n rfl rfl ?_
                  refine jr.bipush rfl (by decide) ?_
                  refine jr.iload_n rfl rfl ?_
                  refine jr.iadd rfl ?_
                  refine jr.lconst (x := 0) rfl (by decide) ?_
                  obtain ⟨v35, e35⟩ : ∃ z, M 598 90 = z := ⟨_, rfl⟩
                  have b35 : 0 ≤ v35 ∧ v35 ≤ 2200 := by rw [← e35]; exact hI_M 598 90 (by decide)
                  refine jr_v rfl rfl (Or.inl rfl) rfl rfl (by decide) rfl ⟨rfl, Nat.le_of_ble_eq_true rfl, Nat.le_of_ble_eq_true rfl⟩ rfl (jc.deep (r_emit ((ju_i _ _ (by decide)).trans e35) (by omega) (by omega) (by omega) ?_) (by decide))
                  refine jr.goto rfl rfl ?_
                  obtain ⟨v36, e36⟩ : ∃ z, M 598 72 = z := ⟨_, rfl⟩
                  have b36 : 0 ≤ v36 ∧ v36 ≤ 1600 := by rw [← e36]; exact hI_M 598 72 (by decide)
                  have y37 : (ju (ju (ju (ju M 598 102 (v1 - 1)) 659 v35 (100 + v2)) 660 v35 0) 598 90 (v35 + 1)) 598 72 = v36 := ((ju_i _ _ (by decide)).trans ((ju_c _ _ (by decide)).trans ((ju_c _ _ (by decide)).trans ((ju_i _ _ (by decide)).trans e36))))
                  obtain ⟨v38, e38⟩ : ∃ z, M 598 73 = z := ⟨_, rfl⟩
                  have b38 : 0 ≤ v38 ∧ v38 ≤ 1600 := by rw [← e38]; exact hI_M 598 73 (by decide)
                  have y39 : (ju (ju (ju (ju M 598 102 (v1 - 1)) 659 v35 (100 + v2)) 660 v35 0) 598 90 (v35 + 1)) 598 73 = v38 := ((ju_i _ _ (by decide)).trans ((ju_c _ _ (by decide)).trans ((ju_c _ _ (by decide)).trans ((ju_i _ _ (by decide)).trans e38))))
                  obtain ⟨v40, e40⟩ : ∃ z, M 598 74 = z := ⟨_, rfl⟩
                  have b40 : 0 ≤ v40 ∧ v40 ≤ 4 := by rw [← e40]; exact hI_M 598 74 (by decide)
                  have y41 : (ju (ju (ju (ju M 598 102 (v1 - 1)) 659 v35 (100 + v2)) 660 v35 0) 598 90 (v35 + 1)) 598 74 = v40 := ((ju_i _ _ (by decide)).trans ((ju_c _ _ (by decide)).trans ((ju_c _ _ (by decide)).trans ((ju_i _ _ (by decide)).trans e40))))
                  obtain ⟨v42, e42⟩ : ∃ z, M 598 79 = z := ⟨_, rfl⟩
                  have b42 : 0 ≤ v42 ∧ v42 ≤ 255 := by rw [← e42]; exact hI_M 598 79 (by decide)
                  have y43 : (ju (ju (ju (ju M 598 102 (v1 - 1)) 659 v35 (100 + v2)) 660 v35 0) 598 90 (v35 + 1)) 598 79 = v42 := ((ju_i _ _ (by decide)).trans ((ju_c _ _ (by decide)).trans ((ju_c _ _ (by decide)).trans ((ju_i _ _ (by decide)).trans e42))))
                  obtain ⟨v44, e44⟩ : ∃ z, M 598 80 = z := ⟨_, rfl⟩
                  have b44 : 0 ≤ v44 ∧ v44 ≤ 7 := by rw [← e44]; exact hI_M 598 80 (by decide)
                  have y45 : (ju (ju (ju (ju M 598 102 (v1 - 1)) 659 v35 (100 + v2)) 660 v35 0) 598 90 (v35 + 1)) 598 80 = v44 := ((ju_i _ _ (by decide)).trans ((ju_c _ _ (by decide)).trans ((ju_c _ _ (by decide)).trans ((ju_i _ _ (by decide)).trans e44))))
                  obtain ⟨v46, e46⟩ : ∃ z, M 598 89 = z := ⟨_, rfl⟩
                  have b46 : 0 ≤ v46 ∧ v46 ≤ 301 := by rw [← e46]; exact hI_M 598 89 (by decide)
                  have y47 : (ju (ju (ju (ju M 598 102 (v1 - 1)) 659 v35 (100 + v2)) 660 v35 0) 598 90 (v35 + 1)) 598 89 = v46 := ((ju_i _ _ (by decide)).trans ((ju_c _ _ (by decide)).trans ((ju_c _ _ (by decide)).trans ((ju_i _ _ (by decide)).trans e46))))
                  obtain ⟨v48, e48⟩ : ∃ z, M 598 100 = z := ⟨_, rfl⟩
                  have b48 : 0 ≤ v48 ∧ v48 ≤ 13 := by rw [← e48]; exact hI_M 598 100 (by decide)
                  have y49 : (ju (ju (ju (ju M 598 102 (v1 - 1)) 659 v35 (100 + v2)) 660 v35 0) 598 90 (v35 + 1)) 598 100 = v48 := ((ju_i _ _ (by decide)).trans ((ju_c _ _ (by decide)).trans ((ju_c _ _ (by decide)).trans ((ju_i _ _ (by decide)).trans e48))))
                  refine jr.pick [1, 2] rfl rfl ?_
                  exact ih (nM - 1) (by omega) (ju (ju (ju (ju M 598 102 (v1 - 1)) 659 v35 (100 + v2)) 660 v35 0) 598 90 (v35 + 1)) y (RI.u (RI.u (RI.u (RI.u hI_M (a := 598) (i := 102) (show (0 : Int) ≤ _ ∧ _ ≤ (400 : Int) from by omega)) (a := 659) (i := v35) (by rw [xri_row rfl rfl]; show (0 : Int) ≤ _ ∧ _ ≤ (1000 : Int); omega)) (a := 660) (i := v35) (by rw [xri_row rfl rfl]; show (-9223372036854775808 : Int) ≤ _ ∧ _ ≤ (9223372036854775807 : Int); omega)) (a := 598) (i := 90) (show (0 : Int) ≤ _ ∧ _ ≤ (2200 : Int) from by omega)) (RH.o (RH.o (RH.o (RH.o hH_M (by decide) (by decide) (by decide)) (by decide) (by decide) (by decide)) (by decide) (by decide) (by decide)) (by decide) (by decide) (by decide)) (RF.o (RF.o (RF.o (RF.o hS_M (by decide) (by decide)) (by decide) (by decide)) (by decide) (by decide)) (by decide) (by decide))  (fun a i f598 f659 f660 => ((ju_c _ _ f598).trans ((ju_c _ _ f660).trans ((ju_c _ _ f659).trans ((ju_c _ _ f598).trans (hF_M a i f598 f659 f660)))))) (fun i g90 g100 g102 => ((ju_i _ _ g90).trans ((ju_c _ _ (by decide)).trans ((ju_c _ _ (by decide)).trans ((ju_i _ _ g102).trans (hG_M i g90 g100 g102)))))) (by omega) ⟨by omega, ES.adj (ES.redB gs2 e1 e35 e2 (by omega) (by omega) (by omega)) (k' := 0) (z' := 0) (by omega) (by omega) (by omega), by omega, by omega, by omega, by omega⟩ ((((TK.o (Or.inr ⟨by decide, by decide⟩)).trans ((TK.o (Or.inl (by decide))).trans ((TK.o (Or.inl (by decide))).trans ((TK.o (Or.inr ⟨by decide, by decide⟩)).trans rfl))))).trans hy1) (by omega) (by rw [((ju_i _ _ (by decide)).trans ((ju_c _ _ (by decide)).trans ((ju_c _ _ (by decide)).trans (ju_same _ _ _ _))))]; omega)
                · refine jr.aload_n rfl rfl ?_
                  refine jr.bipush rfl (by decide) ?_
                  refine jr.lconst (x := 0) rfl (by decide) ?_
                  obtain ⟨v50, e50⟩ : ∃ z, M 598 90 = z := ⟨_, rfl⟩
                  have b50 : 0 ≤ v50 ∧ v50 ≤ 2200 := by rw [← e50]; exact hI_M 598 90 (by decide)
                  refine jr_v rfl rfl (Or.inl rfl) rfl rfl (by decide) rfl ⟨rfl, Nat.le_of_ble_eq_true rfl, Nat.le_of_ble_eq_true rfl⟩ rfl (jc.deep (r_emit ((ju_i _ _ (by decide)).trans e50) (by omega) (by omega) (by omega) ?_) (by decide))
                  refine jr.aload_n rfl rfl ?_
                  refine jr.getf (i := 95) (v := .ref 660) rfl rfl (by decide) rfl (by decide) rfl rfl rfl rfl ?_
                  refine jr.aload_n rfl rfl ?_
                  refine jr.getf (i := 104) (v := .ref 665) rfl rfl (by decide) rfl (by decide) rfl rfl rfl rfl ?_
                  refine jr.aload_n rfl rfl ?_
                  refine jr.getf (i := 102) (x := (v1 - 1)) (v := .int (Int32.ofInt (v1 - 1))) rfl rfl (by decide) rfl (by decide) rfl rfl ((ju_i _ _ (by decide)).trans ((ju_c _ _ (by decide)).trans ((ju_c _ _ (by decide)).trans (ju_same _ _ _ _)))) rfl ?_
                  obtain ⟨v51, e51⟩ : ∃ z, M 665 (v1 - 1) = z := ⟨_, rfl⟩
                  have b51 : 0 ≤ v51 ∧ v51 ≤ 2200 := by rw [← e51]; exact (by have q := hI_M 665 (v1 - 1) (by decide); rw [xri_row rfl rfl] at q; exact q)
                  refine jr.iald (i := (v1 - 1)) (x := v51) rfl (by decide) rfl (by decide) (by omega) (by omega) ((ju_c _ _ (by decide)).trans ((ju_c _ _ (by decide)).trans ((ju_c _ _ (by decide)).trans ((ju_c _ _ (by decide)).trans e51)))) ?_
                  refine jr.aload_n rfl rfl ?_
                  refine jr.getf (i := 90) (x := (v50 + 1)) (v := .int (Int32.ofInt (v50 + 1))) rfl rfl (by decide) rfl (by decide) rfl rfl (ju_same _ _ _ _) rfl ?_
                  refine jr.i2l rfl (by omega) ?_
                  refine jr.last (i := v51) (x := (v50 + 1)) rfl (by decide) rfl (by decide) (by omega) (by omega) ?_
                  refine jr.goto rfl rfl ?_
                  refine jr.goto rfl rfl ?_
                  obtain ⟨v52, e52⟩ : ∃ z, M 598 72 = z := ⟨_, rfl⟩
                  have b52 : 0 ≤ v52 ∧ v52 ≤ 1600 := by rw [← e52]; exact hI_M 598 72 (by decide)
                  have y53 : (ju (ju (ju (ju (ju M 598 102 (v1 - 1)) 659 v50 9) 660 v50 0) 598 90 (v50 + 1)) 660 v51 (v50 + 1)) 598 72 = v52 := ((ju_c _ _ (by decide)).trans ((ju_i _ _ (by decide)).trans ((ju_c _ _ (by decide)).trans ((ju_c _ _ (by decide)).trans ((ju_i _ _ (by decide)).trans e52)))))
                  obtain ⟨v54, e54⟩ : ∃ z, M 598 73 = z := ⟨_, rfl⟩
                  have b54 : 0 ≤ v54 ∧ v54 ≤ 1600 := by rw [← e54]; exact hI_M 598 73 (by decide)
                  have y55 : (ju (ju (ju (ju (ju M 598 102 (v1 - 1)) 659 v50 9) 660 v50 0) 598 90 (v50 + 1)) 660 v51 (v50 + 1)) 598 73 = v54 := ((ju_c _ _ (by decide)).trans ((ju_i _ _ (by decide)).trans ((ju_c _ _ (by decide)).trans ((ju_c _ _ (by decide)).trans ((ju_i _ _ (by decide)).trans e54)))))
                  obtain ⟨v56, e56⟩ : ∃ z, M 598 74 = z := ⟨_, rfl⟩
                  have b56 : 0 ≤ v56 ∧ v56 ≤ 4 := by rw [← e56]; exact hI_M 598 74 (by decide)
                  have y57 : (ju (ju (ju (ju (ju M 598 102 (v1 - 1)) 659 v50 9) 660 v50 0) 598 90 (v50 + 1)) 660 v51 (v50 + 1)) 598 74 = v56 := ((ju_c _ _ (by decide)).trans ((ju_i _ _ (by decide)).trans ((ju_c _ _ (by decide)).trans ((ju_c _ _ (by decide)).trans ((ju_i _ _ (by decide)).trans e56)))))
                  obtain ⟨v58, e58⟩ : ∃ z, M 598 79 = z := ⟨_, rfl⟩
                  have b58 : 0 ≤ v58 ∧ v58 ≤ 255 := by rw [← e58]; exact hI_M 598 79 (by decide)
                  have y59 : (ju (ju (ju (ju (ju M 598 102 (v1 - 1)) 659 v50 9) 660 v50 0) 598 90 (v50 + 1)) 660 v51 (v50 + 1)) 598 79 = v58 := ((ju_c _ _ (by decide)).trans ((ju_i _ _ (by decide)).trans ((ju_c _ _ (by decide)).trans ((ju_c _ _ (by decide)).trans ((ju_i _ _ (by decide)).trans e58)))))
                  obtain ⟨v60, e60⟩ : ∃ z, M 598 80 = z := ⟨_, rfl⟩
                  have b60 : 0 ≤ v60 ∧ v60 ≤ 7 := by rw [← e60]; exact hI_M 598 80 (by decide)
                  have y61 : (ju (ju (ju (ju (ju M 598 102 (v1 - 1)) 659 v50 9) 660 v50 0) 598 90 (v50 + 1)) 660 v51 (v50 + 1)) 598 80 = v60 := ((ju_c _ _ (by decide)).trans ((ju_i _ _ (by decide)).trans ((ju_c _ _ (by decide)).trans ((ju_c _ _ (by decide)).trans ((ju_i _ _ (by decide)).trans e60)))))
                  obtain ⟨v62, e62⟩ : ∃ z, M 598 89 = z := ⟨_, rfl⟩
                  have b62 : 0 ≤ v62 ∧ v62 ≤ 301 := by rw [← e62]; exact hI_M 598 89 (by decide)
                  have y63 : (ju (ju (ju (ju (ju M 598 102 (v1 - 1)) 659 v50 9) 660 v50 0) 598 90 (v50 + 1)) 660 v51 (v50 + 1)) 598 89 = v62 := ((ju_c _ _ (by decide)).trans ((ju_i _ _ (by decide)).trans ((ju_c _ _ (by decide)).trans ((ju_c _ _ (by decide)).trans ((ju_i _ _ (by decide)).trans e62)))))
                  obtain ⟨v64, e64⟩ : ∃ z, M 598 100 = z := ⟨_, rfl⟩
                  have b64 : 0 ≤ v64 ∧ v64 ≤ 13 := by rw [← e64]; exact hI_M 598 100 (by decide)
                  have y65 : (ju (ju (ju (ju (ju M 598 102 (v1 - 1)) 659 v50 9) 660 v50 0) 598 90 (v50 + 1)) 660 v51 (v50 + 1)) 598 100 = v64 := ((ju_c _ _ (by decide)).trans ((ju_i _ _ (by decide)).trans ((ju_c _ _ (by decide)).trans ((ju_c _ _ (by decide)).trans ((ju_i _ _ (by decide)).trans e64)))))
                  refine jr.pick [1, 2] rfl rfl ?_
                  exact ih (nM - 1) (by omega) (ju (ju (ju (ju (ju M 598 102 (v1 - 1)) 659 v50 9) 660 v50 0) 598 90 (v50 + 1)) 660 v51 (v50 + 1)) y (RI.u (RI.u (RI.u (RI.u (RI.u hI_M (a := 598) (i := 102) (show (0 : Int) ≤ _ ∧ _ ≤ (400 : Int) from by omega)) (a := 659) (i := v50) (by rw [xri_row rfl rfl]; show (0 : Int) ≤ _ ∧ _ ≤ (1000 : Int); omega)) (a := 660) (i := v50) (by rw [xri_row rfl rfl]; show (-9223372036854775808 : Int) ≤ _ ∧ _ ≤ (9223372036854775807 : Int); omega)) (a := 598) (i := 90) (show (0 : Int) ≤ _ ∧ _ ≤ (2200 : Int) from by omega)) (a := 660) (i := v51) (by rw [xri_row rfl rfl]; show (-9223372036854775808 : Int) ≤ _ ∧ _ ≤ (9223372036854775807 : Int); omega)) (RH.o (RH.o (RH.o (RH.o (RH.o hH_M (by decide) (by decide) (by decide)) (by decide) (by decide) (by decide)) (by decide) (by decide) (by decide)) (by decide) (by decide) (by decide)) (by decide) (by decide) (by decide)) (RF.o (RF.o (RF.o (RF.o (RF.o hS_M (by decide) (by decide)) (by decide) (by decide)) (by decide) (by decide)) (by decide) (by decide)) (by decide) (by decide))  (fun a i f598 f659 f660 => ((ju_c _ _ f660).trans ((ju_c _ _ f598).trans ((ju_c _ _ f660).trans ((ju_c _ _ f659).trans ((ju_c _ _ f598).trans (hF_M a i f598 f659 f660))))))) (fun i g90 g100 g102 => ((ju_c _ _ (by decide)).trans ((ju_i _ _ g90).trans ((ju_c _ _ (by decide)).trans ((ju_c _ _ (by decide)).trans ((ju_i _ _ g102).trans (hG_M i g90 g100 g102))))))) (by omega) ⟨by omega, ES.adj (ES.redA gs2 e1 e50 e51 (by omega) (by rw [e2]; omega) (by omega)) (k' := 0) (z' := 0) (by omega) (by omega) (by omega), by omega, by omega, by omega, by omega⟩ ((((TK.o (Or.inl (by decide))).trans ((TK.o (Or.inr ⟨by decide, by decide⟩)).trans ((TK.o (Or.inl (by decide))).trans ((TK.o (Or.inl (by decide))).trans ((TK.o (Or.inr ⟨by decide, by decide⟩)).trans rfl)))))).trans hy1) (by omega) (by rw [((ju_c _ _ (by decide)).trans ((ju_i _ _ (by decide)).trans ((ju_c _ _ (by decide)).trans ((ju_c _ _ (by decide)).trans (ju_same _ _ _ _)))))]; omega)
            · refine jr.aload_n rfl rfl ?_
              refine jr.iload_n rfl rfl ?_
              refine jr.lconst (x := 0) rfl (by decide) ?_
              obtain ⟨v66, e66⟩ : ∃ z, M 598 90 = z := ⟨_, rfl⟩
              have b66 : 0 ≤ v66 ∧ v66 ≤ 2200 := by rw [← e66]; exact hI_M 598 90 (by decide)
              refine jr_v rfl rfl (Or.inl rfl) rfl rfl (by decide) rfl ⟨rfl, Nat.le_of_ble_eq_true rfl, Nat.le_of_ble_eq_true rfl⟩ rfl (jc.deep (r_emit ((ju_i _ _ (by decide)).trans e66) (by omega) (by omega) (by omega) ?_) (by decide))
              refine jr.aload_n rfl rfl ?_
              refine jr.dup rfl rfl ?_
              obtain ⟨v67, e67⟩ : ∃ z, M 598 100 = z := ⟨_, rfl⟩
              have b67 : 0 ≤ v67 ∧ v67 ≤ 13 := by rw [← e67]; exact hI_M 598 100 (by decide)
              refine jr.getf (i := 100) (x := v67) (v := .int (Int32.ofInt (v67))) rfl rfl (by decide) rfl (by decide) rfl rfl ((ju_i _ _ (by decide)).trans ((ju_c _ _ (by decide)).trans ((ju_c _ _ (by decide)).trans ((ju_i _ _ (by decide)).trans e67)))) rfl ?_
              refine jr.iconst rfl ?_
              refine jr.isub rfl ?_
              refine jr.putf (i := 100) (x := (v67 - 1)) rfl rfl (by decide) rfl (by decide) rfl rfl rfl rfl rfl ?_
              refine jr.goto rfl rfl ?_
              refine jr.goto rfl rfl ?_
              obtain ⟨v68, e68⟩ : ∃ z, M 598 72 = z := ⟨_, rfl⟩
              have b68 : 0 ≤ v68 ∧ v68 ≤ 1600 := by rw [← e68]; exact hI_M 598 72 (by decide)
              have y69 : (ju (ju (ju (ju (ju M 598 102 (v1 - 1)) 659 v66 v2) 660 v66 0) 598 90 (v66 + 1)) 598 100 (v67 - 1)) 598 72 = v68 := ((ju_i _ _ (by decide)).trans ((ju_i _ _ (by decide)).trans ((ju_c _ _ (by decide)).trans ((ju_c _ _ (by decide)).trans ((ju_i _ _ (by decide)).trans e68)))))
              obtain ⟨v70, e70⟩ : ∃ z, M 598 73 = z := ⟨_, rfl⟩
              have b70 : 0 ≤ v70 ∧ v70 ≤ 1600 := by rw [← e70]; exact hI_M 598 73 (by decide)
              have y71 : (ju (ju (ju (ju (ju M 598 102 (v1 - 1)) 659 v66 v2) 660 v66 0) 598 90 (v66 + 1)) 598 100 (v67 - 1)) 598 73 = v70 := ((ju_i _ _ (by decide)).trans ((ju_i _ _ (by decide)).trans ((ju_c _ _ (by decide)).trans ((ju_c _ _ (by decide)).trans ((ju_i _ _ (by decide)).trans e70)))))
              obtain ⟨v72, e72⟩ : ∃ z, M 598 74 = z := ⟨_, rfl⟩
              have b72 : 0 ≤ v72 ∧ v72 ≤ 4 := by rw [← e72]; exact hI_M 598 74 (by decide)
              have y73 : (ju (ju (ju (ju (ju M 598 102 (v1 - 1)) 659 v66 v2) 660 v66 0) 598 90 (v66 + 1)) 598 100 (v67 - 1)) 598 74 = v72 := ((ju_i _ _ (by decide)).trans ((ju_i _ _ (by decide)).trans ((ju_c _ _ (by decide)).trans ((ju_c _ _ (by decide)).trans ((ju_i _ _ (by decide)).trans e72)))))
              obtain ⟨v74, e74⟩ : ∃ z, M 598 79 = z := ⟨_, rfl⟩
              have b74 : 0 ≤ v74 ∧ v74 ≤ 255 := by rw [← e74]; exact hI_M 598 79 (by decide)
              have y75 : (ju (ju (ju (ju (ju M 598 102 (v1 - 1)) 659 v66 v2) 660 v66 0) 598 90 (v66 + 1)) 598 100 (v67 - 1)) 598 79 = v74 := ((ju_i _ _ (by decide)).trans ((ju_i _ _ (by decide)).trans ((ju_c _ _ (by decide)).trans ((ju_c _ _ (by decide)).trans ((ju_i _ _ (by decide)).trans e74)))))
              obtain ⟨v76, e76⟩ : ∃ z, M 598 80 = z := ⟨_, rfl⟩
              have b76 : 0 ≤ v76 ∧ v76 ≤ 7 := by rw [← e76]; exact hI_M 598 80 (by decide)
              have y77 : (ju (ju (ju (ju (ju M 598 102 (v1 - 1)) 659 v66 v2) 660 v66 0) 598 90 (v66 + 1)) 598 100 (v67 - 1)) 598 80 = v76 := ((ju_i _ _ (by decide)).trans ((ju_i _ _ (by decide)).trans ((ju_c _ _ (by decide)).trans ((ju_c _ _ (by decide)).trans ((ju_i _ _ (by decide)).trans e76)))))
              obtain ⟨v78, e78⟩ : ∃ z, M 598 89 = z := ⟨_, rfl⟩
              have b78 : 0 ≤ v78 ∧ v78 ≤ 301 := by rw [← e78]; exact hI_M 598 89 (by decide)
              have y79 : (ju (ju (ju (ju (ju M 598 102 (v1 - 1)) 659 v66 v2) 660 v66 0) 598 90 (v66 + 1)) 598 100 (v67 - 1)) 598 89 = v78 := ((ju_i _ _ (by decide)).trans ((ju_i _ _ (by decide)).trans ((ju_c _ _ (by decide)).trans ((ju_c _ _ (by decide)).trans ((ju_i _ _ (by decide)).trans e78)))))
              have y80 : (ju (ju (ju (ju (ju M 598 102 (v1 - 1)) 659 v66 v2) 660 v66 0) 598 90 (v66 + 1)) 598 100 (v67 - 1)) 598 100 = v67 - 1 := (ju_same _ _ _ _)
              refine jr.pick [1, 2] rfl rfl ?_
              exact ih (nM - 1) (by omega) (ju (ju (ju (ju (ju M 598 102 (v1 - 1)) 659 v66 v2) 660 v66 0) 598 90 (v66 + 1)) 598 100 (v67 - 1)) y (RI.u (RI.u (RI.u (RI.u (RI.u hI_M (a := 598) (i := 102) (show (0 : Int) ≤ _ ∧ _ ≤ (400 : Int) from by omega)) (a := 659) (i := v66) (by rw [xri_row rfl rfl]; show (0 : Int) ≤ _ ∧ _ ≤ (1000 : Int); omega)) (a := 660) (i := v66) (by rw [xri_row rfl rfl]; show (-9223372036854775808 : Int) ≤ _ ∧ _ ≤ (9223372036854775807 : Int); omega)) (a := 598) (i := 90) (show (0 : Int) ≤ _ ∧ _ ≤ (2200 : Int) from by omega)) (a := 598) (i := 100) (show (0 : Int) ≤ _ ∧ _ ≤ (13 : Int) from by omega)) (RH.o (RH.o (RH.o (RH.o (RH.o hH_M (by decide) (by decide) (by decide)) (by decide) (by decide) (by decide)) (by decide) (by decide) (by decide)) (by decide) (by decide) (by decide)) (by decide) (by decide) (by decide)) (RF.o (RF.o (RF.o (RF.o (RF.o hS_M (by decide) (by decide)) (by decide) (by decide)) (by decide) (by decide)) (by decide) (by decide)) (by decide) (by decide))  (fun a i f598 f659 f660 => ((ju_c _ _ f598).trans ((ju_c _ _ f598).trans ((ju_c _ _ f660).trans ((ju_c _ _ f659).trans ((ju_c _ _ f598).trans (hF_M a i f598 f659 f660))))))) (fun i g90 g100 g102 => ((ju_i _ _ g100).trans ((ju_i _ _ g90).trans ((ju_c _ _ (by decide)).trans ((ju_c _ _ (by decide)).trans ((ju_i _ _ g102).trans (hG_M i g90 g100 g102))))))) (by omega) ⟨by omega, ES.adj (ES.redU gs2 e1 e66 e67 e2 (by omega) (by omega) (by omega)) (k' := 0) (z' := 0) (by omega) (by omega) (by omega), by omega, by omega, by omega, by omega⟩ ((((TK.o (Or.inr ⟨by decide, by decide⟩)).trans ((TK.o (Or.inr ⟨by decide, by decide⟩)).trans ((TK.o (Or.inl (by decide))).trans ((TK.o (Or.inl (by decide))).trans ((TK.o (Or.inr ⟨by decide, by decide⟩)).trans rfl)))))).trans hy1) (by omega) (by rw [((ju_i _ _ (by decide)).trans ((ju_i _ _ (by decide)).trans ((ju_c _ _ (by decide)).trans ((ju_c _ _ (by decide)).trans (ju_same _ _ _ _)))))]; omega)
theorem r_reduce {A : Nat → Option (Nat × (Nat → Int32))} {Q : Option Value → jm → Prop} {b : Int} {M : jm} (hI_M : RI M) (hH_M : RH M) (hS_M : RF M) {y : Int} (h_y : 1 ≤ y ∧ y ≤ 6) (p0 : GS M b 1) (q : ∀ (M' : jm), RI M' → RH M' → RF M' → GS M' b 1 → (M' 598 102 = 0 ∨ strn (M' 664 (M' 598 102 - 1)) < y) → TK M' = TK M → (∀ (a : Nat) (i : Int), a ≠ 598 → a ≠ 659 → a ≠ 660 → M' a i = M a i) → (∀ (i : Int), i ≠ 90 → i ≠ 100 → i ≠ 102 → M' 598 i = M 598 i) → Q none M') : jc A 2 355 [.ref (598), .int (Int32.ofInt (y))] M Q := by
  refine jc_of (m := xm_355) rfl (Nat.le_of_ble_eq_true rfl) rfl ?_
  refine jr.aload_n rfl rfl ?_
  obtain ⟨v1, e1⟩ : ∃ z, M 598 102 = z := ⟨_, rfl⟩
  have b1 : 0 ≤ v1 ∧ v1 ≤ 400 := by rw [← e1]; exact hI_M 598 102 (by decide)
  refine jr.getf (i := 102) (x := v1) (v := .int (Int32.ofInt (v1))) rfl rfl (by decide) rfl (by decide) rfl rfl e1 rfl ?_
  refine jr.if_le rfl rfl (by omega) (fun h4 => ?_) (fun h4 => ?_)
  · exact jr.vreturn rfl rfl (q _ hI_M hH_M hS_M  hy0 (Or.inl (by omega)) hy1 (fun a i f598 f659 f660 => rfl) (fun i g90 g100 g102 => rfl))
  · refine jr.aload_n rfl rfl ?_
    refine jr.getf (i := 103) (v := .ref 664) rfl rfl (by decide) rfl (by decide) rfl rfl rfl rfl ?_
    refine jr.aload_n rfl rfl ?_
    refine jr.getf (i := 102) (x := v1) (v := .int (Int32.ofInt (v1))) rfl rfl (by decide) rfl (by decide) rfl rfl e1 rfl ?_
    refine jr.iconst rfl ?_
    refine jr.isub rfl ?_
    obtain ⟨v2, e2⟩ : ∃ z, M 664 (v1 - 1) = z := ⟨_, rfl⟩
    have b2 : 0 ≤ v2 ∧ v2 ≤ 255 := by rw [← e2]; exact (by have q := hI_M 664 (v1 - 1) (by decide); rw [xri_row rfl rfl] at q; exact q)
    refine jr.iald (i := (v1 - 1)) (x := v2) rfl (by decide) rfl (by decide) (by omega) (by omega) e2 ?_
    refine jr.bipush rfl (by decide) ?_
    refine jr.icmp_eq rfl rfl (by omega) (by omega) (fun h20 => ?_) (fun h20 => ?_)
    · exact jr.vreturn rfl rfl (q _ hI_M hH_M hS_M  hy0 (by rw [e1]; first | exact Or.inr (by rw [e2, h20]; show (0 : Int) < y; omega) | exact Or.inr (by rw [e2]; omega)) hy1 (fun a i f598 f659 f660 => rfl) (fun i g90 g100 g102 => rfl))
    · refine jr.aload_n rfl rfl ?_
      refine jr.getf (i := 103) (v := .ref 664) rfl rfl (by decide) rfl (by decide) rfl rfl rfl rfl ?_
      refine jr.aload_n rfl rfl ?_
      refine jr.getf (i := 102) (x := v1) (v := .int (Int32.ofInt (v1))) rfl rfl (by decide) rfl (by decide) rfl rfl e1 rfl ?_
      refine jr.iconst rfl ?_
      refine jr.isub rfl ?_
      refine jr.iald (i := (v1 - 1)) (x := v2) rfl (by decide) rfl (by decide) (by omega) (by omega) e2 ?_
      refine jr_s rfl rfl (Or.inl rfl) ⟨Nat.le_of_ble_eq_true rfl, Nat.le_of_ble_eq_true rfl⟩ rfl rfl (jc.deep (r_strength hI_M hH_M hS_M (Kp.rfl _) (by omega)  (fun r3 z3 w3_0 => ?_)) (by decide))
      have tp := ES.top gs2 (by omega)
      rw [e1, e2] at tp
      refine jr.iload_n rfl rfl ?_
      refine jr.icmp_lt rfl rfl (by omega) (by omega) (fun h38 => ?_) (fun h38 => ?_)
      · exact jr.vreturn rfl rfl (q _ hI_M hH_M hS_M  hy0 (by rw [e1]; first | exact Or.inr (by rw [e2, h20]; show (0 : Int) < y; omega) | exact Or.inr (by rw [e2]; omega)) hy1 (fun a i f598 f659 f660 => rfl) (fun i g90 g100 g102 => rfl))
      · refine jr.aload_n rfl rfl ?_
        refine jr.dup rfl rfl ?_
        refine jr.getf (i := 102) (x := v1) (v := .int (Int32.ofInt (v1))) rfl rfl (by decide) rfl (by decide) rfl rfl e1 rfl ?_
        refine jr.iconst rfl ?_
        refine jr.isub rfl ?_
        refine jr.putf (i := 102) (x := (v1 - 1)) rfl rfl (by decide) rfl (by decide) rfl rfl rfl rfl rfl ?_
        refine jr.aload_n rfl rfl ?_
        refine jr.getf (i := 103) (v := .ref 664) rfl rfl (by decide) rfl (by decide) rfl rfl rfl rfl ?_
        refine jr.aload_n rfl rfl ?_
        refine jr.getf (i := 102) (x := (v1 - 1)) (v := .int (Int32.ofInt (v1 - 1))) rfl rfl (by decide) rfl (by decide) rfl rfl (ju_same _ _ _ _) rfl ?_
        refine jr.iald (i := (v1 - 1)) (x := v2) rfl (by decide) rfl (by decide) (by omega) (by omega) ((ju_c _ _ (by decide)).trans e2) ?_
        refine jr.istore_n rfl (by decide) rfl ?_
        refine jr.iload_n rfl rfl ?_
        refine jr.bipush rfl (by decide) ?_
        refine jr.icmp_eq rfl rfl (by omega) (by omega) (fun h64 => ?_) (fun h64 => ?_)
        · refine jr.aload_n rfl rfl ?_
          refine jr.iload_n rfl rfl ?_
          refine jr.lconst (x := 0) rfl (by decide) ?_
          obtain ⟨v4, e4⟩ : ∃ z, M 598 90 = z := ⟨_, rfl⟩
          have b4 : 0 ≤ v4 ∧ v4 ≤ 2200 := by rw [← e4]; exact hI_M 598 90 (by decide)
          refine jr_v rfl rfl (Or.inl rfl) rfl rfl (by decide) rfl ⟨rfl, Nat.le_of_ble_eq_true rfl, Nat.le_of_ble_eq_true rfl⟩ rfl (jc.deep (r_emit ((ju_i _ _ (by decide)).trans e4) (by omega) (by omega) (by omega) ?_) (by decide))
          refine jr.aload_n rfl rfl ?_
          refine jr.dup rfl rfl ?_
          obtain ⟨v5, e5⟩ : ∃ z, M 598 100 = z := ⟨_, rfl⟩
          have b5 : 0 ≤ v5 ∧ v5 ≤ 13 := by rw [← e5]; exact hI_M 598 100 (by decide)
          refine jr.getf (i := 100) (x := v5) (v := .int (Int32.ofInt (v5))) rfl rfl (by decide) rfl (by decide) rfl rfl ((ju_i _ _ (by decide)).trans ((ju_c _ _ (by decide)).trans ((ju_c _ _ (by decide)).trans ((ju_i _ _ (by decide)).trans e5)))) rfl ?_
          refine jr.iconst rfl ?_
          refine jr.isub rfl ?_
          refine jr.putf (i := 100) (x := (v5 - 1)) rfl rfl (by decide) rfl (by decide) rfl rfl rfl rfl rfl ?_
          refine jr.goto rfl rfl ?_
          refine jr.goto rfl rfl ?_
          refine jr.pick [2, 1] rfl rfl ?_
          exact r_reduce_L0 q 400 (ju (ju (ju (ju (ju M 598 102 (v1 - 1)) 659 v4 v2) 660 v4 0) 598 90 (v4 + 1)) 598 100 (v5 - 1)) y (RI.u (RI.u (RI.u (RI.u (RI.u hI_M (a := 598) (i := 102) (show (0 : Int) ≤ _ ∧ _ ≤ (400 : Int) from by omega)) (a := 659) (i := v4) (by rw [xri_row rfl rfl]; show (0 : Int) ≤ _ ∧ _ ≤ (1000 : Int); omega)) (a := 660) (i := v4) (by rw [xri_row rfl rfl]; show (-9223372036854775808 : Int) ≤ _ ∧ _ ≤ (9223372036854775807 : Int); omega)) (a := 598) (i := 90) (show (0 : Int) ≤ _ ∧ _ ≤ (2200 : Int) from by omega)) (a := 598) (i := 100) (show (0 : Int) ≤ _ ∧ _ ≤ (13 : Int) from by omega)) (RH.o (RH.o (RH.o (RH.o (RH.o hH_M (by decide) (by decide) (by decide)) (by decide) (by decide) (by decide)) (by decide) (by decide) (by decide)) (by decide) (by decide) (by decide)) (by decide) (by decide) (by decide)) (RF.o (RF.o (RF.o (RF.o (RF.o hS_M (by decide) (by decide)) (by decide) (by decide)) (by decide) (by decide)) (by decide) (by decide)) (by decide) (by decide))  (fun a i f598 f659 f660 => ((ju_c _ _ f598).trans ((ju_c _ _ f598).trans ((ju_c _ _ f660).trans ((ju_c _ _ f659).trans ((ju_c _ _ f598).trans rfl)))))) (fun i g90 g100 g102 => ((ju_i _ _ g100).trans ((ju_i _ _ g90).trans ((ju_c _ _ (by decide)).trans ((ju_c _ _ (by decide)).trans ((ju_i _ _ g102).trans rfl)))))) (by omega) p0 rfl (by omega) (by rw [((ju_i _ _ (by decide)).trans ((ju_i _ _ (by decide)).trans ((ju_c _ _ (by decide)).trans ((ju_c _ _ (by decide)).trans (ju_same _ _ _ _)))))]; omega)
        · refine jr.iload_n rfl rfl ?_
          refine jr.bipush rfl (by decide) ?_
          refine jr.icmp_ne rfl rfl (by omega) (by omega) (fun h70 => ?_) (fun h70 => ?_)
          · refine jr.iload_n rfl rfl ?_
            refine jr.bipush rfl (by decide) ?_
            refine jr.icmp_eq rfl rfl (by omega) (by omega) (fun h95 => ?_) (fun h95 => ?_)
            · refine jr.aload_n rfl rfl ?_
              refine jr.bipush rfl (by decide) ?_
              refine jr.lconst (x := 0) rfl (by decide) ?_
              obtain ⟨v6, e6⟩ : ∃ z, M 598 90 = z := ⟨_, rfl⟩
              have b6 : 0 ≤ v6 ∧ v6 ≤ 2200 := by rw [← e6]; exact hI_M 598 90 (by decide)
              refine jr_v rfl rfl (Or.inl rfl) rfl rfl (by decide) rfl ⟨rfl, Nat.le_of_ble_eq_true rfl, Nat.le_of_ble_eq_true rfl⟩ rfl (jc.deep (r_emit ((ju_i _ _ (by decide)).trans e6) (by omega) (by omega) (by omega) ?_) (by decide))
              refine jr.aload_n rfl rfl ?_
              refine jr.getf (i := 95) (v := .ref 660) rfl rfl (by decide) rfl (by decide) rfl rfl rfl rfl ?_
              refine jr.aload_n rfl rfl ?_
              refine jr.getf (i := 104) (v := .ref 665) rfl rfl (by decide) rfl (by decide) rfl rfl rfl rfl ?_
              refine jr.aload_n rfl rfl ?_
              refine jr.getf (i := 102) (x := (v1 - 1)) (v := .int (Int32.ofInt (v1 - 1))) rfl rfl (by decide) rfl (by decide) rfl rfl ((ju_i _ _ (by decide)).trans ((ju_c _ _ (by decide)).trans ((ju_c _ _ (by decide)).trans (ju_same _ _ _ _)))) rfl ?_
              obtain ⟨v7, e7⟩ : ∃ z, M 665 (v1 - 1) = z := ⟨_, rfl⟩
              have b7 : 0 ≤ v7 ∧ v7 ≤ 2200 := by rw [← e7]; exact (by have q := hI_M 665 (v1 - 1) (by decide); rw [xri_row rfl rfl] at q; exact q)
              refine jr.iald (i := (v1 - 1)) (x := v7) rfl (by decide) rfl (by decide) (by omega) (by omega) ((ju_c _ _ (by decide)).trans ((ju_c _ _ (by decide)).trans ((ju_c _ _ (by decide)).trans ((ju_c _ _ (by decide)).trans e7)))) ?_
              refine jr.aload_n rfl rfl ?_
              refine jr.getf (i := 90) (x := (v6 + 1)) (v := .int (Int32.ofInt (v6 + 1))) rfl rfl (by decide) rfl (by decide) rfl rfl (ju_same _ _ _ _) rfl ?_
              refine jr.i2l rfl (by omega) ?_
              refine jr.last (i := v7) (x := (v6 + 1)) rfl (by decide) rfl (by decide) (by omega) (by omega) ?_
              refine jr.goto rfl rfl ?_
              refine jr.goto rfl rfl ?_
              refine jr.pick [2, 1] rfl rfl ?_
              exact r_reduce_L0 q 400 (ju (ju (ju (ju (ju M 598 102 (v1 - 1)) 659 v6 9) 660 v6 0) 598 90 (v6 + 1)) 660 v7 (v6 + 1)) y (RI.u (RI.u (RI.u (RI.u (RI.u hI_M (a := 598) (i := 102) (show (0 : Int) ≤ _ ∧ _ ≤ (400 : Int) from by omega)) (a := 659) (i := v6) (by rw [xri_row rfl rfl]; show (0 : Int) ≤ _ ∧ _ ≤ (1000 : Int); omega)) (a := 660) (i := v6) (by rw [xri_row rfl rfl]; show (-9223372036854775808 : Int) ≤ _ ∧ _ ≤ (9223372036854775807 : Int); omega)) (a := 598) (i := 90) (show (0 : Int) ≤ _ ∧ _ ≤ (2200 : Int) from by omega)) (a := 660) (i := v7) (by rw [xri_row rfl rfl]; show (-9223372036854775808 : Int) ≤ _ ∧ _ ≤ (9223372036854775807 : Int); omega)) (RH.o (RH.o (RH.o (RH.o (RH.o hH_M (by decide) (by decide) (by decide)) (by decide) (by decide) (by decide)) (by decide) (by decide) (by decide)) (by decide) (by decide) (by decide)) (by decide) (by decide) (by decide)) (RF.o (RF.o (RF.o (RF.o (RF.o hS_M (by decide) (by decide)) (by decide) (by decide)) (by decide) (by decide)) (by decide) (by decide)) (by decide) (by decide))  (fun a i f598 f659 f660 => ((ju_c _ _ f660).trans ((ju_c _ _ f598).trans ((ju_c _ _ f660).trans ((ju_c _ _ f659).trans ((ju_c _ _ f598).trans rfl)))))) (fun i g90 g100 g102 => ((ju_c _ _ (by decide)).trans ((ju_i _ _ g90).trans ((ju_c _ _ (by decide)).trans ((ju_c _ _ (by decide)).trans ((ju_i _ _ g102).trans rfl)))))) (by omega) p0 rfl (by omega) (by rw [((ju_c _ _ (by decide)).trans ((ju_i _ _ (by decide)).trans ((ju_c _ _ (by decide)).trans ((ju_c _ _ (by decide)).trans (ju_same _ _ _ _)))))]; omega)
            · refine jr.iload_n rfl rfl ?_
              refine jr.bipush rfl (by decide) ?_
              refine jr.icmp_ne rfl rfl (by omega) (by omega) (fun h101 => ?_) (fun h101 => ?_)
              · refine jr.aload_n rfl rfl ?_
                refine jr.bipush rfl (by decide) ?_
                refine jr.iload_n rfl rfl ?_
                refine jr.iadd rfl ?_
                refine jr.lconst (x := 0) rfl (by decide) ?_
                obtain ⟨v8, e8⟩ : ∃ z, M 598 90 = z := ⟨_, rfl⟩
                have b8 : 0 ≤ v8 ∧ v8 ≤ 2200 := by rw [← e8]; exact hI_M 598 90 (by decide)
                refine jr_v rfl rfl (Or.inl rfl) rfl rfl (by decide) rfl ⟨rfl, Nat.le_of_ble_eq_true rfl, Nat.le_of_ble_eq_true rfl⟩ rfl (jc.deep (r_emit ((ju_i _ _ (by decide)).trans e8) (by omega) (by omega) (by omega) ?_) (by decide))
                refine jr.goto rfl rfl ?_
                refine jr.pick [2, 1] rfl rfl ?_
                exact r_reduce_L0 q 400 (ju (ju (ju (ju M 598 102 (v1 - 1)) 659 v8 (100 + v2)) 660 v8 0) 598 90 (v8 + 1)) y (RI.u (RI.u (RI.u (RI.u hI_M (a := 598) (i := 102) (show (0 : Int) ≤ _ ∧ _ ≤ (400 : Int) from by omega)) (a := 659) (i := v8) (by rw [xri_row rfl rfl]; show (0 : Int) ≤ _ ∧ _ ≤ (1000 : Int); omega)) (a := 660) (i := v8) (by rw [xri_row rfl rfl]; show (-9223372036854775808 : Int) ≤ _ ∧ _ ≤ (9223372036854775807 : Int); omega)) (a := 598) (i := 90) (show (0 : Int) ≤ _ ∧ _ ≤ (2200 : Int) from by omega)) (RH.o (RH.o (RH.o (RH.o hH_M (by decide) (by decide) (by decide)) (by decide) (by decide) (by decide)) (by decide) (by decide) (by decide)) (by decide) (by decide) (by decide)) (RF.o (RF.o (RF.o (RF.o hS_M (by decide) (by decide)) (by decide) (by decide)) (by decide) (by decide)) (by decide) (by decide))  (fun a i f598 f659 f660 => ((ju_c _ _ f598).trans ((ju_c _ _ f660).trans ((ju_c _ _ f659).trans ((ju_c _ _ f598).trans rfl))))) (fun i g90 g100 g102 => ((ju_i _ _ g90).trans ((ju_c _ _ (by decide)).trans ((ju_c _ _ (by decide)).trans ((ju_i _ _ g102).trans rfl))))) (by omega) p0 rfl (by omega) (by rw [((ju_i _ _ (by decide)).trans ((ju_c _ _ (by decide)).trans ((ju_c _ _ (by decide)).trans (ju_same _ _ _ _))))]; omega)
              · refine jr.aload_n rfl rfl ?_
                refine jr.bipush rfl (by decide) ?_
                refine jr.lconst (x := 0) rfl (by decide) ?_
                obtain ⟨v9, e9⟩ : ∃ z, M 598 90 = z := ⟨_, rfl⟩
                have b9 : 0 ≤ v9 ∧ v9 ≤ 2200 := by rw [← e9]; exact hI_M 598 90 (by decide)
                refine jr_v rfl rfl (Or.inl rfl) rfl rfl (by decide) rfl ⟨rfl, Nat.le_of_ble_eq_true rfl, Nat.le_of_ble_eq_true rfl⟩ rfl (jc.deep (r_emit ((ju_i _ _ (by decide)).trans e9) (by omega) (by omega) (by omega) ?_) (by decide))
                refine jr.aload_n rfl rfl ?_
                refine jr.getf (i := 95) (v := .ref 660) rfl rfl (by decide) rfl (by decide) rfl rfl rfl rfl ?_
                refine jr.aload_n rfl rfl ?_
                refine jr.getf (i := 104) (v := .ref 665) rfl rfl (by decide) rfl (by decide) rfl rfl rfl rfl ?_
                refine jr.aload_n rfl rfl ?_
                refine jr.getf (i := 102) (x := (v1 - 1)) (v := .int (Int32.ofInt (v1 - 1))) rfl rfl (by decide) rfl (by decide) rfl rfl ((ju_i _ _ (by decide)).trans ((ju_c _ _ (by decide)).trans ((ju_c _ _ (by decide)).trans (ju_same _ _ _ _)))) rfl ?_
                obtain ⟨v10, e10⟩ : ∃ z, M 665 (v1 - 1) = z := ⟨_, rfl⟩
                have b10 : 0 ≤ v10 ∧ v10 ≤ 2200 := by rw [← e10]; exact (by have q := hI_M 665 (v1 - 1) (by decide); rw [xri_row rfl rfl] at q; exact q)
                refine jr.iald (i := (v1 - 1)) (x := v10) rfl (by decide) rfl (by decide) (by omega) (by omega) ((ju_c _ _ (by decide)).trans ((ju_c _ _ (by decide)).trans ((ju_c _ _ (by decide)).trans ((ju_c _ _ (by decide)).trans e10)))) ?_
                refine jr.aload_n rfl rfl ?_
                refine jr.getf (i := 90) (x := (v9 + 1)) (v := .int (Int32.ofInt (v9 + 1))) rfl rfl (by decide) rfl (by decide) rfl rfl (ju_same _ _ _ _) rfl ?_
                refine jr.i2l rfl (by omega) ?_
                refine jr.last (i := v10) (x := (v9 + 1)) rfl (by decide) rfl (by decide) (by omega) (by omega) ?_
                refine jr.goto rfl rfl ?_
                refine jr.goto rfl rfl ?_
                refine jr.pick [2, 1] rfl rfl ?_
                exact r_reduce_L0 q 400 (ju (ju (ju (ju (ju M 598 102 (v1 - 1)) 659 v9 9) 660 v9 0) 598 90 (v9 + 1)) 660 v10 (v9 + 1)) y (RI.u (RI.u (RI.u (RI.u (RI.u hI_M (a := 598) (i := 102) (show (0 : Int) ≤ _ ∧ _ ≤ (400 : Int) from by omega)) (a := 659) (i := v9) (by rw [xri_row rfl rfl]; show (0 : Int) ≤ _ ∧ _ ≤ (1000 : Int); omega)) (a := 660) (i := v9) (by rw [xri_row rfl rfl]; show (-9223372036854775808 : Int) ≤ _ ∧ _ ≤ (9223372036854775807 : Int); omega)) (a := 598) (i := 90) (show (0 : Int) ≤ _ ∧ _ ≤ (2200 : Int) from by omega)) (a := 660) (i := v10) (by rw [xri_row rfl rfl]; show (-9223372036854775808 : Int) ≤ _ ∧ _ ≤ (9223372036854775807 : Int); omega)) (RH.o (RH.o (RH.o (RH.o (RH.o hH_M (by decide) (by decide) (by decide)) (by decide) (by decide) (by decide)) (by decide) (by decide) (by decide)) (by decide) (by decide) (by decide)) (by decide) (by decide) (by decide)) (RF.o (RF.o (RF.o (RF.o (RF.o hS_M (by decide) (by decide)) (by decide) (by decide)) (by decide) (by decide)) (by decide) (by decide)) (by decide) (by decide))  (fun a i f598 f659 f660 => ((ju_c _ _ f660).trans ((ju_c _ _ f598).trans ((ju_c _ _ f660).trans ((ju_c _ _ f659).trans ((ju_c _ _ f598).trans rfl)))))) (fun i g90 g100 g102 => ((ju_c _ _ (by decide)).trans ((ju_i _ _ g90).trans ((ju_c _ _ (by decide)).trans ((ju_c _ _ (by decide)).trans ((ju_i _ _ g102).trans rfl)))))) (by omega) p0 rfl (by omega) (by rw [((ju_c _ _ (by decide)).trans ((ju_i _ _ (by decide)).trans ((ju_c _ _ (by decide)).trans ((ju_c _ _ (by decide)).trans (ju_same _ _ _ _)))))]; omega)
          · refine jr.aload_n rfl rfl ?_
            refine jr.iload_n rfl rfl ?_
            refine jr.lconst (x := 0) rfl (by decide) ?_
            obtain ⟨v11, e11⟩ : ∃ z, M 598 90 = z := ⟨_, rfl⟩
            have b11 : 0 ≤ v11 ∧ v11 ≤ 2200 := by rw [← e11]; exact hI_M 598 90 (by decide)
            refine jr_v rfl rfl (Or.inl rfl) rfl rfl (by decide) rfl ⟨rfl, Nat.le_of_ble_eq_true rfl, Nat.le_of_ble_eq_true rfl⟩ rfl (jc.deep (r_emit ((ju_i _ _ (by decide)).trans e11) (by omega) (by omega) (by omega) ?_) (by decide))
            refine jr.aload_n rfl rfl ?_
            refine jr.dup rfl rfl ?_
            obtain ⟨v12, e12⟩ : ∃ z, M 598 100 = z := ⟨_, rfl⟩
            have b12 : 0 ≤ v12 ∧ v12 ≤ 13 := by rw [← e12]; exact hI_M 598 100 (by decide)
            refine jr.getf (i := 100) (x := v12) (v := .int (Int32.ofInt (v12))) rfl rfl (by decide) rfl (by decide) rfl rfl ((ju_i _ _ (by decide)).trans ((ju_c _ _ (by decide)).trans ((ju_c _ _ (by decide)).trans ((ju_i _ _ (by decide)).trans e12)))) rfl ?_
            refine jr.iconst rfl ?_
            refine jr.isub rfl ?_
            refine jr.putf (i := 100) (x := (v12 - 1)) rfl rfl (by decide) rfl (by decide) rfl rfl rfl rfl rfl ?_
            refine jr.goto rfl rfl ?_
            refine jr.goto rfl rfl ?_
            refine jr.pick [2, 1] rfl rfl ?_
            exact r_reduce_L0 q 400 (ju (ju (ju (ju (ju M 598 102 (v1 - 1)) 659 v11 v2) 660 v11 0) 598 90 (v11 + 1)) 598 100 (v12 - 1)) y (RI.u (RI.u (RI.u (RI.u (RI.u hI_M (a := 598) (i := 102) (show (0 : Int) ≤ _ ∧ _ ≤ (400 : Int) from by omega)) (a := 659) (i := v11) (by rw [xri_row rfl rfl]; show (0 : Int) ≤ _ ∧ _ ≤ (1000 : Int); omega)) (a := 660) (i := v11) (by rw [xri_row rfl rfl]; show (-9223372036854775808 : Int) ≤ _ ∧ _ ≤ (9223372036854775807 : Int); omega)) (a := 598) (i := 90) (show (0 : Int) ≤ _ ∧ _ ≤ (2200 : Int) from by omega)) (a := 598) (i := 100) (show (0 : Int) ≤ _ ∧ _ ≤ (13 : Int) from by omega)) (RH.o (RH.o (RH.o (RH.o (RH.o hH_M (by decide) (by decide) (by decide)) (by decide) (by decide) (by decide)) (by decide) (by decide) (by decide)) (by decide) (by decide) (by decide)) (by decide) (by decide) (by decide)) (RF.o (RF.o (RF.o (RF.o (RF.o hS_M (by decide) (by decide)) (by decide) (by decide)) (by decide) (by decide)) (by decide) (by decide)) (by decide) (by decide))  (fun a i f598 f659 f660 => ((ju_c _ _ f598).trans ((ju_c _ _ f598).trans ((ju_c _ _ f660).trans ((ju_c _ _ f659).trans ((ju_c _ _ f598).trans rfl)))))) (fun i g90 g100 g102 => ((ju_i _ _ g100).trans ((ju_i _ _ g90).trans ((ju_c _ _ (by decide)).trans ((ju_c _ _ (by decide)).trans ((ju_i _ _ g102).trans rfl)))))) (by omega) p0 rfl (by omega) (by rw [((ju_i _ _ (by decide)).trans ((ju_i _ _ (by decide)).trans ((ju_c _ _ (by decide)).trans ((ju_c _ _ (by decide)).trans (ju_same _ _ _ _)))))]; omega)
theorem ES.dep {M : jm} {b o k d z x p d' : Int} (h : ES M b o k d z x) (e : M 598 100 = p) (hd : d' = d - 1) : ES (ju M 598 100 (p - 1)) b o k d' z x := by
  refine ES.fr2 h (fun a i ha => ju_c M _ ha) (ju_i M _ (by decide)) (ju_i M _ (by decide)) (ju_i M _ (by decide)) (ju_i M _ (by decide)) (ju_i M _ (by decide)) ?_ ?_ ?_ ?_
  · rw [ju_i M _ (by decide), ju_i M _ (by decide)]
    exact Int.le_refl _
  · obtain ⟨ht, P, D, E, ⟨_, _, _, _, _, _, _, _, _, _, q⟩, _⟩ := h
    exact q
  · obtain ⟨ht, P, D, E, ⟨_, _, _, _, _, _, _, _, _, q, _⟩, _⟩ := h
    exact ⟨q, Int.le_refl _⟩
  · rw [ju_same, e]
    omega
theorem r_kindAndField_L55 {A : Nat → Option (Nat × (Nat → Int32))} {Q : Option Value → jm → Prop} {b : Int} {M0 : jm} (q : ∀ (M' : jm), RI M' → RH M' → RF M' → (BS M' ∨ (GS M' b 1 ∧ TK M' < TK M0)) → TK M' ≤ TK M0 → M' 598 73 ≤ M' 598 72 → (M' 598 80 ≠ 0 ∨ TK M' < TK M0) → (∀ (a : Nat) (i : Int), a ≠ 598 → a ≠ 659 → a ≠ 660 → M' a i = M0 a i) → (∀ (i : Int), i ≠ 73 → i ≠ 74 → i ≠ 75 → i ≠ 76 → i ≠ 77 → i ≠ 78 → i ≠ 79 → i ≠ 80 → i ≠ 81 → i ≠ 89 → i ≠ 90 → M' 598 i = M0 598 i) → Q none M') : ∀ (nM : Nat) (M : jm) (i : Int) (f : Int) (k : Int), RI M → RH M → RF M → (∀ (a : Nat) (i : Int), a ≠ 598 → a ≠ 659 → a ≠ 660 → M a i = M0 a i) → (∀ (i : Int), i ≠ 73 → i ≠ 74 → i ≠ 75 → i ≠ 76 → i ≠ 77 → i ≠ 78 → i ≠ 79 → i ≠ 80 → i ≠ 81 → i ≠ 89 → i ≠ 90 → M 598 i = M0 598 i) → (-1) ≤ i ∧ i ≤ 10 → (-1) ≤ f ∧ f ≤ 10 → 0 ≤ k ∧ k ≤ 13 → ES M b 0 4 0 0 (-1) → M 598 80 = 0 → M 598 89 ≤ 300 → M 598 100 ≤ 12 → M 598 73 ≤ M 598 72 → TK M < TK M0 → M 598 90 ≤ 1500 → M 598 74 ≠ 0 → (M 598 74 = 3 → M 598 79 ≠ 10 ∧ M 598 79 ≠ 11) → (f = -1 ∨ (0 ≤ f ∧ M 650 (11 * k + f) ≠ -1)) → i + 1 ≤ nM → jr A 3 xm_358 55 [(3, .int (Int32.ofInt (i))), (2, .int (Int32.ofInt (f))), (1, .int (Int32.ofInt (k))), (0, .ref (598))] [] M Q := by
  intro nM
  induction nM using Nat.strongRecOn with
  | ind nM ih =>
    intro M i f k hI_M hH_M hS_M hF_M hG_M h_i h_f h_k hy0 hy1 hy2 hy3 hy4 hy5 hy6 hy7 hy8 hy9 hm
    have hE := hy0
    have sl := ES.sgle hy0
    have b107 : (0 : Int) ≤ M 598 107 ∧ M 598 107 ≤ 16 := hI_M 598 107 (by decide)
    refine jr.iload_n rfl rfl ?_
    refine jr.if_lt rfl rfl (by omega) (fun h56 => ?_) (fun h56 => ?_)
    · refine jr.iload_n rfl rfl ?_
      refine jr.iconst rfl ?_
      refine jr.icmp_ne rfl rfl (by omega) (by omega) (fun h99 => ?_) (fun h99 => ?_)
      · refine jr.aload_n rfl rfl ?_
        refine jr.iconst rfl ?_
        refine jr.bipush rfl (by decide) ?_
        refine jr.iload_n rfl rfl ?_
        refine jr.imul rfl ?_
        refine jr.iload_n rfl rfl ?_
        refine jr.iadd rfl ?_
        refine jr.i2l rfl (by omega) ?_
        obtain ⟨v1, e1⟩ : ∃ z, M 598 90 = z := ⟨_, rfl⟩
        have b1 : 0 ≤ v1 ∧ v1 ≤ 2200 := by rw [← e1]; exact hI_M 598 90 (by decide)
        obtain ⟨v2, e2⟩ : ∃ z, M 598 100 = z := ⟨_, rfl⟩
        have b2 : 0 ≤ v2 ∧ v2 ≤ 13 := by rw [← e2]; exact hI_M 598 100 (by decide)
        obtain ⟨v4, e4⟩ : ∃ z, M 598 107 = z := ⟨_, rfl⟩
        have b4 : 0 ≤ v4 ∧ v4 ≤ 16 := by rw [← e4]; exact hI_M 598 107 (by decide)
        refine jr_v rfl rfl (Or.inl rfl) rfl rfl (by decide) rfl ⟨rfl, Nat.le_of_ble_eq_true rfl, Nat.le_of_ble_eq_true rfl⟩ rfl (jc.deep (r_emit e1 (by omega) (by omega) (by omega) ?_) (by decide))
        have y3 : M 598 100 = v2 := e2
        have y5 : M 598 107 = v4 := e4
        have nd : ndo 5 = 0 := (by unfold ndo argn; (repeat' split) <;> omega)
        have dl : dlo 5 = 1 := (by unfold dlo ndo argn; (repeat' split) <;> omega)
        have hE := ES.emit hE e1 5 ((16 * k) + f) 2 (by unfold vop; omega) (by omega) (by unfold exo; omega) (by unfold jpo; omega) (fun _ => ES.fv hE (by omega) (by omega) (by omega)) (by omega) (by omega) (by omega) (by omega) (by omega)
        rw [dl] at hE
        have hE : ES _ b 1 2 0 1 (-1) := hE
        refine jr.aload_n rfl rfl ?_
        obtain ⟨v7, e7⟩ : ∃ z, M 598 73 = z := ⟨_, rfl⟩
        have b7 : 0 ≤ v7 ∧ v7 ≤ 1600 := by rw [← e7]; exact hI_M 598 73 (by decide)
        obtain ⟨v8, e8⟩ : ∃ z, M 598 72 = z := ⟨_, rfl⟩
        have b8 : 0 ≤ v8 ∧ v8 ≤ 1600 := by rw [← e8]; exact hI_M 598 72 (by decide)
        obtain ⟨v10, e10⟩ : ∃ z, M 598 89 = z := ⟨_, rfl⟩
        have b10 : 0 ≤ v10 ∧ v10 ≤ 301 := by rw [← e10]; exact hI_M 598 89 (by decide)
        obtain ⟨v14, e14⟩ : ∃ z, M 598 74 = z := ⟨_, rfl⟩
        have b14 : 0 ≤ v14 ∧ v14 ≤ 4 := by rw [← e14]; exact hI_M 598 74 (by decide)
        refine jr_v rfl rfl (Or.inl rfl) rfl rfl (by decide) rfl ⟨rfl, Nat.le_of_ble_eq_true rfl, Nat.le_of_ble_eq_true rfl⟩ rfl (jc.deep (r_next (RI.u (RI.u (RI.u hI_M (a := 659) (i := v1) (by rw [xri_row rfl rfl]; show (0 : Int) ≤ _ ∧ _ ≤ (1000 : Int); omega)) (a := 660) (i := v1) (by rw [xri_row rfl rfl]; show (-9223372036854775808 : Int) ≤ _ ∧ _ ≤ (9223372036854775807 : Int); omega)) (a := 598) (i := 90) (show (0 : Int) ≤ _ ∧ _ ≤ (2200 : Int) from by omega)) (RH.o (RH.o (RH.o hH_M (by decide) (by decide) (by decide)) (by decide) (by decide) (by decide)) (by decide) (by decide) (by decide)) (RF.o (RF.o (RF.o hS_M (by decide) (by decide)) (by decide) (by decide)) (by decide) (by decide))   (by rw [((ju_i _ _ (by decide)).trans ((ju_c _ _ (by decide)).trans ((ju_c _ _ (by decide)).trans e7))), ((ju_i _ _ (by decide)).trans ((ju_c _ _ (by decide)).trans ((ju_c _ _ (by decide)).trans e8)))]; omega) (fun M6 hI_M6 hH_M6 hS_M6  w6_0 w6_1 w6_2 w6_3 w6_4 w6_5 w6_6 => ?_)) (by decide))
        have y13 : (ju (ju (ju M 659 v1 5) 660 v1 ((16 * k) + f)) 598 90 (v1 + 1)) 598 73 = v7 := ((ju_i _ _ (by decide)).trans ((ju_c _ _ (by decide)).trans ((ju_c _ _ (by decide)).trans e7)))
        have y15 : (ju (ju (ju M 659 v1 5) 660 v1 ((16 * k) + f)) 598 90 (v1 + 1)) 598 74 = v14 := ((ju_i _ _ (by decide)).trans ((ju_c _ _ (by decide)).trans ((ju_c _ _ (by decide)).trans e14)))
        have tb6 : TK (ju (ju (ju M 659 v1 5) 660 v1 ((16 * k) + f)) 598 90 (v1 + 1)) = TK M := ((TK.o (Or.inr ⟨by decide, by decide⟩)).trans ((TK.o (Or.inl (by decide))).trans ((TK.o (Or.inl (by decide))).trans rfl)))
        have y9 : (ju (ju (ju M 659 v1 5) 660 v1 ((16 * k) + f)) 598 90 (v1 + 1)) 598 73 = v7 := ((ju_i _ _ (by decide)).trans ((ju_c _ _ (by decide)).trans ((ju_c _ _ (by decide)).trans e7)))
        have y11 : (ju (ju (ju M 659 v1 5) 660 v1 ((16 * k) + f)) 598 90 (v1 + 1)) 598 89 = v10 := ((ju_i _ _ (by decide)).trans ((ju_c _ _ (by decide)).trans ((ju_c _ _ (by decide)).trans e10)))
        have y12 : (ju (ju (ju M 659 v1 5) 660 v1 ((16 * k) + f)) 598 90 (v1 + 1)) 598 100 = v2 := ((ju_i _ _ (by decide)).trans ((ju_c _ _ (by decide)).trans ((ju_c _ _ (by decide)).trans e2)))
        have x6_89 := w6_6 89 (by decide) (by decide) (by decide) (by decide) (by decide) (by decide) (by decide)
        have x6_100 := w6_6 100 (by decide) (by decide) (by decide) (by decide) (by decide) (by decide) (by decide)
        have hE := ES.fr2 hE w6_5 (w6_6 88 (by decide) (by decide) (by decide) (by decide) (by decide) (by decide) (by decide)) (w6_6 90 (by decide) (by decide) (by decide) (by decide) (by decide) (by decide) (by decide)) (w6_6 101 (by decide) (by decide) (by decide) (by decide) (by decide) (by decide) (by decide)) (w6_6 102 (by decide) (by decide) (by decide) (by decide) (by decide) (by decide) (by decide)) (w6_6 107 (by decide) (by decide) (by decide) (by decide) (by decide) (by decide) (by decide)) (k' := 2) (d' := 0) (z' := 0) (by omega) (by omega) (by omega) (by omega)
        have e16 : M6 598 72 = v8 := ((w6_6 72 (by decide) (by decide) (by decide) (by decide) (by decide) (by decide) (by decide)).trans ((ju_i _ _ (by decide)).trans ((ju_c _ _ (by decide)).trans ((ju_c _ _ (by decide)).trans e8))))
        have y17 : M6 598 72 = v8 := e16
        obtain ⟨v18, e18⟩ : ∃ z, M6 598 73 = z := ⟨_, rfl⟩
        have b18 : 0 ≤ v18 ∧ v18 ≤ 1600 := by rw [← e18]; exact hI_M6 598 73 (by decide)
        have y19 : M6 598 73 = v18 := e18
        obtain ⟨v20, e20⟩ : ∃ z, M6 598 74 = z := ⟨_, rfl⟩
        have b20 : 0 ≤ v20 ∧ v20 ≤ 4 := by rw [← e20]; exact hI_M6 598 74 (by decide)
        have y21 : M6 598 74 = v20 := e20
        obtain ⟨v22, e22⟩ : ∃ z, M6 598 79 = z := ⟨_, rfl⟩
        have b22 : 0 ≤ v22 ∧ v22 ≤ 255 := by rw [← e22]; exact hI_M6 598 79 (by decide)
        have y23 : M6 598 79 = v22 := e22
        obtain ⟨v24, e24⟩ : ∃ z, M 598 80 = z := ⟨_, rfl⟩
        have b24 : 0 ≤ v24 ∧ v24 ≤ 7 := by rw [← e24]; exact hI_M 598 80 (by decide)
        have e25 : M6 598 80 = v24 := ((w6_6 80 (by decide) (by decide) (by decide) (by decide) (by decide) (by decide) (by decide)).trans ((ju_i _ _ (by decide)).trans ((ju_c _ _ (by decide)).trans ((ju_c _ _ (by decide)).trans e24))))
        have y26 : M6 598 80 = v24 := e25
        have e27 : M6 598 89 = v10 := ((w6_6 89 (by decide) (by decide) (by decide) (by decide) (by decide) (by decide) (by decide)).trans ((ju_i _ _ (by decide)).trans ((ju_c _ _ (by decide)).trans ((ju_c _ _ (by decide)).trans e10))))
        have y28 : M6 598 89 = v10 := e27
        have e29 : M6 598 90 = v1 + 1 := ((w6_6 90 (by decide) (by decide) (by decide) (by decide) (by decide) (by decide) (by decide)).trans (ju_same _ _ _ _))
        have y30 : M6 598 90 = v1 + 1 := e29
        have e31 : M6 598 100 = v2 := ((w6_6 100 (by decide) (by decide) (by decide) (by decide) (by decide) (by decide) (by decide)).trans ((ju_i _ _ (by decide)).trans ((ju_c _ _ (by decide)).trans ((ju_c _ _ (by decide)).trans e2))))
        have y32 : M6 598 100 = v2 := e31
        have e33 : M6 598 107 = v4 := ((w6_6 107 (by decide) (by decide) (by decide) (by decide) (by decide) (by decide) (by decide)).trans ((ju_i _ _ (by decide)).trans ((ju_c _ _ (by decide)).trans ((ju_c _ _ (by decide)).trans e4))))
        have y34 : M6 598 107 = v4 := e33
        exact jr.vreturn rfl rfl (q _ hI_M6 hH_M6 hS_M6  (by by_cases hf : v24 = 0; (first | (exfalso; omega) | (exact Or.inr ⟨⟨by omega, ES.adj hE (k' := 0) (z' := 0) (by omega) (by omega) (by omega), by omega, by omega, by omega, by omega⟩, by omega⟩)); (exact Or.inl ⟨by omega, by omega⟩)) (by omega) (by omega) (by omega) (fun a i f598 f659 f660 => ((w6_5 a i f598).trans ((ju_c _ _ f598).trans ((ju_c _ _ f660).trans ((ju_c _ _ f659).trans (hF_M a i f598 f659 f660)))))) (fun i g73 g74 g75 g76 g77 g78 g79 g80 g81 g89 g90 => ((w6_6 i g73 g74 g75 g76 g77 g78 g79).trans ((ju_i _ _ g90).trans ((ju_c _ _ (by decide)).trans ((ju_c _ _ (by decide)).trans (hG_M i g73 g74 g75 g76 g77 g78 g79 g80 g81 g89 g90)))))))
      · refine jr.aload_n rfl rfl ?_
        refine jr.iconst rfl ?_
        refine jr.aload_n rfl rfl ?_
        obtain ⟨v35, e35⟩ : ∃ z, M 598 75 = z := ⟨_, rfl⟩
        have b35 : 0 ≤ v35 ∧ v35 ≤ 1600 := by rw [← e35]; exact hI_M 598 75 (by decide)
        refine jr.getf (i := 75) (x := v35) (v := .int (Int32.ofInt (v35))) rfl rfl (by decide) rfl (by decide) rfl rfl e35 rfl ?_
        obtain ⟨v37, e37⟩ : ∃ z, M 598 73 = z := ⟨_, rfl⟩
        have b37 : 0 ≤ v37 ∧ v37 ≤ 1600 := by rw [← e37]; exact hI_M 598 73 (by decide)
        obtain ⟨v39, e39⟩ : ∃ z, M 598 89 = z := ⟨_, rfl⟩
        have b39 : 0 ≤ v39 ∧ v39 ≤ 301 := by rw [← e39]; exact hI_M 598 89 (by decide)
        obtain ⟨v41, e41⟩ : ∃ z, M 598 100 = z := ⟨_, rfl⟩
        have b41 : 0 ≤ v41 ∧ v41 ≤ 13 := by rw [← e41]; exact hI_M 598 100 (by decide)
        refine jr_v rfl rfl (Or.inl rfl) rfl rfl (by decide) rfl ⟨rfl, Nat.le_of_ble_eq_true rfl, Nat.le_of_ble_eq_true rfl⟩ rfl (jc.deep (r_fails hI_M hH_M hS_M  (by omega) (by omega)  (fun M36 hI_M36 hH_M36 hS_M36  w36_0 w36_1 w36_2 => ?_)) (by decide))
        have tk36 : TK M36 = TK M := TK.fr (w36_2 73 (by decide) (by decide)) (w36_2 74 (by decide) (by decide))
        have y38 : M 598 73 = v37 := e37
        have y40 : M 598 89 = v39 := e39
        have y42 : M 598 100 = v41 := e41
        have x36_73 := w36_2 73 (by decide) (by decide)
        have x36_89 := w36_2 89 (by decide) (by decide)
        have x36_100 := w36_2 100 (by decide) (by decide)
        have hE := ES.fr2 hE w36_1 (w36_2 88 (by decide) (by decide)) (w36_2 90 (by decide) (by decide)) (w36_2 101 (by decide) (by decide)) (w36_2 102 (by decide) (by decide)) (w36_2 107 (by decide) (by decide)) (k' := 4) (d' := 0) (z' := 0) (by omega) (by omega) (by omega) (by omega)
        obtain ⟨v43, e43⟩ : ∃ z, M 598 72 = z := ⟨_, rfl⟩
        have b43 : 0 ≤ v43 ∧ v43 ≤ 1600 := by rw [← e43]; exact hI_M 598 72 (by decide)
        have e44 : M36 598 72 = v43 := ((w36_2 72 (by decide) (by decide)).trans e43)
        have y45 : M36 598 72 = v43 := e44
        have e46 : M36 598 73 = v37 := ((w36_2 73 (by decide) (by decide)).trans e37)
        have y47 : M36 598 73 = v37 := e46
        obtain ⟨v48, e48⟩ : ∃ z, M 598 74 = z := ⟨_, rfl⟩
        have b48 : 0 ≤ v48 ∧ v48 ≤ 4 := by rw [← e48]; exact hI_M 598 74 (by decide)
        have e49 : M36 598 74 = v48 := ((w36_2 74 (by decide) (by decide)).trans e48)
        have y50 : M36 598 74 = v48 := e49
        obtain ⟨v51, e51⟩ : ∃ z, M 598 79 = z := ⟨_, rfl⟩
        have b51 : 0 ≤ v51 ∧ v51 ≤ 255 := by rw [← e51]; exact hI_M 598 79 (by decide)
        have e52 : M36 598 79 = v51 := ((w36_2 79 (by decide) (by decide)).trans e51)
        have y53 : M36 598 79 = v51 := e52
        obtain ⟨v54, e54⟩ : ∃ z, M36 598 80 = z := ⟨_, rfl⟩
        have b54 : 0 ≤ v54 ∧ v54 ≤ 7 := by rw [← e54]; exact hI_M36 598 80 (by decide)
        have y55 : M36 598 80 = v54 := e54
        have e56 : M36 598 89 = v39 := ((w36_2 89 (by decide) (by decide)).trans e39)
        have y57 : M36 598 89 = v39 := e56
        obtain ⟨v58, e58⟩ : ∃ z, M 598 90 = z := ⟨_, rfl⟩
        have b58 : 0 ≤ v58 ∧ v58 ≤ 2200 := by rw [← e58]; exact hI_M 598 90 (by decide)
        have e59 : M36 598 90 = v58 := ((w36_2 90 (by decide) (by decide)).trans e58)
        have y60 : M36 598 90 = v58 := e59
        have e61 : M36 598 100 = v41 := ((w36_2 100 (by decide) (by decide)).trans e41)
        have y62 : M36 598 100 = v41 := e61
        obtain ⟨v63, e63⟩ : ∃ z, M 598 107 = z := ⟨_, rfl⟩
        have b63 : 0 ≤ v63 ∧ v63 ≤ 16 := by rw [← e63]; exact hI_M 598 107 (by decide)
        have e64 : M36 598 107 = v63 := ((w36_2 107 (by decide) (by decide)).trans e63)
        have y65 : M36 598 107 = v63 := e64
        exact jr.vreturn rfl rfl (q _ hI_M36 hH_M36 hS_M36  (by by_cases hf : v54 = 0; (first | (exfalso; omega) | (exact Or.inr ⟨⟨by omega, ES.adj hE (k' := 0) (z' := 0) (by omega) (by omega) (by omega), by omega, by omega, by omega, by omega⟩, by omega⟩)); (exact Or.inl ⟨by omega, by omega⟩)) (by omega) (by omega) (by omega) (fun a i f598 f659 f660 => ((w36_1 a i f598).trans (hF_M a i f598 f659 f660))) (fun i g73 g74 g75 g76 g77 g78 g79 g80 g81 g89 g90 => ((w36_2 i g80 g81).trans (hG_M i g73 g74 g75 g76 g77 g78 g79 g80 g81 g89 g90))))
    · refine jr.aload_n rfl rfl ?_
      obtain ⟨v66, e66⟩ : ∃ z, M 598 76 = z := ⟨_, rfl⟩
      have b66 : (-1) ≤ v66 ∧ v66 ≤ 68 := by rw [← e66]; exact hI_M 598 76 (by decide)
      refine jr.getf (i := 76) (x := v66) (v := .int (Int32.ofInt (v66))) rfl rfl (by decide) rfl (by decide) rfl rfl e66 rfl ?_
      refine jr.iconst rfl ?_
      refine jr.icmp_eq rfl rfl (by omega) (by omega) (fun h64 => ?_) (fun h64 => ?_)
      · refine jr.iload_n rfl rfl ?_
        refine jr.istore_n rfl (by decide) rfl ?_
        refine jr.iinc rfl rfl (by decide) rfl ?_
        refine jr.goto rfl rfl ?_
        obtain ⟨v67, e67⟩ : ∃ z, M 598 80 = z := ⟨_, rfl⟩
        have b67 : 0 ≤ v67 ∧ v67 ≤ 7 := by rw [← e67]; exact hI_M 598 80 (by decide)
        obtain ⟨v68, e68⟩ : ∃ z, M 598 89 = z := ⟨_, rfl⟩
        have b68 : 0 ≤ v68 ∧ v68 ≤ 301 := by rw [← e68]; exact hI_M 598 89 (by decide)
        obtain ⟨v69, e69⟩ : ∃ z, M 598 100 = z := ⟨_, rfl⟩
        have b69 : 0 ≤ v69 ∧ v69 ≤ 13 := by rw [← e69]; exact hI_M 598 100 (by decide)
        obtain ⟨v70, e70⟩ : ∃ z, M 598 73 = z := ⟨_, rfl⟩
        have b70 : 0 ≤ v70 ∧ v70 ≤ 1600 := by rw [← e70]; exact hI_M 598 73 (by decide)
        obtain ⟨v71, e71⟩ : ∃ z, M 598 72 = z := ⟨_, rfl⟩
        have b71 : 0 ≤ v71 ∧ v71 ≤ 1600 := by rw [← e71]; exact hI_M 598 72 (by decide)
        obtain ⟨v72, e72⟩ : ∃ z, M 598 90 = z := ⟨_, rfl⟩
        have b72 : 0 ≤ v72 ∧ v72 ≤ 2200 := by rw [← e72]; exact hI_M 598 90 (by decide)
        obtain ⟨v73, e73⟩ : ∃ z, M 598 74 = z := ⟨_, rfl⟩
        have b73 : 0 ≤ v73 ∧ v73 ≤ 4 := by rw [← e73]; exact hI_M 598 74 (by decide)
        obtain ⟨v74, e74⟩ : ∃ z, M 598 79 = z := ⟨_, rfl⟩
        have b74 : 0 ≤ v74 ∧ v74 ≤ 255 := by rw [← e74]; exact hI_M 598 79 (by decide)
        refine jr.pick [0, 1, 2, 3] rfl rfl ?_
        exact ih (nM - 1) (by omega) M (i + (-1)) f k hI_M hH_M hS_M  (fun a i f598 f659 f660 => (hF_M a i f598 f659 f660)) (fun i g73 g74 g75 g76 g77 g78 g79 g80 g81 g89 g90 => (hG_M i g73 g74 g75 g76 g77 g78 g79 g80 g81 g89 g90)) (by omega) (by omega) (by omega) hE (by rw [e67] <;> omega) (by rw [e68] <;> omega) (by rw [e69] <;> omega) (by rw [e70, e71] <;> omega) (by omega) (by rw [e72] <;> omega) (by rw [e73] <;> omega) (by rw [e73, e74] <;> omega) (by omega) (by omega)
      · refine jr.aload_n rfl rfl ?_
        refine jr.getf (i := 70) (v := .ref 650) rfl rfl (by decide) rfl (by decide) rfl rfl rfl rfl ?_
        refine jr.bipush rfl (by decide) ?_
        refine jr.iload_n rfl rfl ?_
        refine jr.imul rfl ?_
        refine jr.iload_n rfl rfl ?_
        refine jr.iadd rfl ?_
        obtain ⟨v75, e75⟩ : ∃ z, M 650 ((11 * k) + i) = z := ⟨_, rfl⟩
        have b75 : (-1) ≤ v75 ∧ v75 ≤ 68 := by rw [← e75]; exact (by have q := hI_M 650 ((11 * k) + i) (by decide); rw [xri_row rfl rfl] at q; exact q)
        refine jr.iald (i := ((11 * k) + i)) (x := v75) rfl (by decide) rfl (by decide) (by omega) (by omega) e75 ?_
        refine jr.aload_n rfl rfl ?_
        refine jr.getf (i := 76) (x := v66) (v := .int (Int32.ofInt (v66))) rfl rfl (by decide) rfl (by decide) rfl rfl e66 rfl ?_
        refine jr.icmp_ne rfl rfl (by omega) (by omega) (fun h82 => ?_) (fun h82 => ?_)
        · refine jr.iload_n rfl rfl ?_
          refine jr.istore_n rfl (by decide) rfl ?_
          refine jr.iinc rfl rfl (by decide) rfl ?_
          refine jr.goto rfl rfl ?_
          obtain ⟨v76, e76⟩ : ∃ z, M 598 80 = z := ⟨_, rfl⟩
          have b76 : 0 ≤ v76 ∧ v76 ≤ 7 := by rw [← e76]; exact hI_M 598 80 (by decide)
          obtain ⟨v77, e77⟩ : ∃ z, M 598 89 = z := ⟨_, rfl⟩
          have b77 : 0 ≤ v77 ∧ v77 ≤ 301 := by rw [← e77]; exact hI_M 598 89 (by decide)
          obtain ⟨v78, e78⟩ : ∃ z, M 598 100 = z := ⟨_, rfl⟩
          have b78 : 0 ≤ v78 ∧ v78 ≤ 13 := by rw [← e78]; exact hI_M 598 100 (by decide)
          obtain ⟨v79, e79⟩ : ∃ z, M 598 73 = z := ⟨_, rfl⟩
          have b79 : 0 ≤ v79 ∧ v79 ≤ 1600 := by rw [← e79]; exact hI_M 598 73 (by decide)
          obtain ⟨v80, e80⟩ : ∃ z, M 598 72 = z := ⟨_, rfl⟩
          have b80 : 0 ≤ v80 ∧ v80 ≤ 1600 := by rw [← e80]; exact hI_M 598 72 (by decide)
          obtain ⟨v81, e81⟩ : ∃ z, M 598 90 = z := ⟨_, rfl⟩
          have b81 : 0 ≤ v81 ∧ v81 ≤ 2200 := by rw [← e81]; exact hI_M 598 90 (by decide)
          obtain ⟨v82, e82⟩ : ∃ z, M 598 74 = z := ⟨_, rfl⟩
          have b82 : 0 ≤ v82 ∧ v82 ≤ 4 := by rw [← e82]; exact hI_M 598 74 (by decide)
          obtain ⟨v83, e83⟩ : ∃ z, M 598 79 = z := ⟨_, rfl⟩
          have b83 : 0 ≤ v83 ∧ v83 ≤ 255 := by rw [← e83]; exact hI_M 598 79 (by decide)
          refine jr.pick [0, 1, 2, 3] rfl rfl ?_
          exact ih (nM - 1) (by omega) M (i + (-1)) f k hI_M hH_M hS_M  (fun a i f598 f659 f660 => (hF_M a i f598 f659 f660)) (fun i g73 g74 g75 g76 g77 g78 g79 g80 g81 g89 g90 => (hG_M i g73 g74 g75 g76 g77 g78 g79 g80 g81 g89 g90)) (by omega) (by omega) (by omega) hE (by rw [e76] <;> omega) (by rw [e77] <;> omega) (by rw [e78] <;> omega) (by rw [e79, e80] <;> omega) (by omega) (by rw [e81] <;> omega) (by rw [e82] <;> omega) (by rw [e82, e83] <;> omega) (by omega) (by omega)
        · refine jr.iload_n rfl rfl ?_
          refine jr.goto rfl rfl ?_
          refine jr.istore_n rfl (by decide) rfl ?_
          refine jr.iinc rfl rfl (by decide) rfl ?_
          refine jr.goto rfl rfl ?_
          obtain ⟨v84, e84⟩ : ∃ z, M 598 80 = z := ⟨_, rfl⟩
          have b84 : 0 ≤ v84 ∧ v84 ≤ 7 := by rw [← e84]; exact hI_M 598 80 (by decide)
          obtain ⟨v85, e85⟩ : ∃ z, M 598 89 = z := ⟨_, rfl⟩
          have b85 : 0 ≤ v85 ∧ v85 ≤ 301 := by rw [← e85]; exact hI_M 598 89 (by decide)
          obtain ⟨v86, e86⟩ : ∃ z, M 598 100 = z := ⟨_, rfl⟩
          have b86 : 0 ≤ v86 ∧ v86 ≤ 13 := by rw [← e86]; exact hI_M 598 100 (by decide)
          obtain ⟨v87, e87⟩ : ∃ z, M 598 73 = z := ⟨_, rfl⟩
          have b87 : 0 ≤ v87 ∧ v87 ≤ 1600 := by rw [← e87]; exact hI_M 598 73 (by decide)
          obtain ⟨v88, e88⟩ : ∃ z, M 598 72 = z := ⟨_, rfl⟩
          have b88 : 0 ≤ v88 ∧ v88 ≤ 1600 := by rw [← e88]; exact hI_M 598 72 (by decide)
          obtain ⟨v89, e89⟩ : ∃ z, M 598 90 = z := ⟨_, rfl⟩
          have b89 : 0 ≤ v89 ∧ v89 ≤ 2200 := by rw [← e89]; exact hI_M 598 90 (by decide)
          obtain ⟨v90, e90⟩ : ∃ z, M 598 74 = z := ⟨_, rfl⟩
          have b90 : 0 ≤ v90 ∧ v90 ≤ 4 := by rw [← e90]; exact hI_M 598 74 (by decide)
          obtain ⟨v91, e91⟩ : ∃ z, M 598 79 = z := ⟨_, rfl⟩
          have b91 : 0 ≤ v91 ∧ v91 ≤ 255 := by rw [← e91]; exact hI_M 598 79 (by decide)
          refine jr.pick [0, 1, 2, 3] rfl rfl ?_
          exact ih (nM - 1) (by omega) M (i + (-1)) i k hI_M hH_M hS_M  (fun a i f598 f659 f660 => (hF_M a i f598 f659 f660)) (fun i g73 g74 g75 g76 g77 g78 g79 g80 g81 g89 g90 => (hG_M i g73 g74 g75 g76 g77 g78 g79 g80 g81 g89 g90)) (by omega) (by omega) (by omega) hE (by rw [e84] <;> omega) (by rw [e85] <;> omega) (by rw [e86] <;> omega) (by rw [e87, e88] <;> omega) (by omega) (by rw [e89] <;> omega) (by rw [e90] <;> omega) (by rw [e90, e91] <;> omega) (by omega) (by omega)
theorem r_kindAndField {A : Nat → Option (Nat × (Nat → Int32))} {Q : Option Value → jm → Prop} {b : Int} {M : jm} (hI_M : RI M) (hH_M : RH M) (hS_M : RF M) (p0 : GS M b 0) (p1 : (M 598 74 = 1 ∧ 31 ≤ M 598 76 ∧ M 598 76 ≤ 44)) (q : ∀ (M' : jm), RI M' → RH M' → RF M' → (BS M' ∨ (GS M' b 1 ∧ TK M' < TK M)) → TK M' ≤ TK M → M' 598 73 ≤ M' 598 72 → (M' 598 80 ≠ 0 ∨ TK M' < TK M) → (∀ (a : Nat) (i : Int), a ≠ 598 → a ≠ 659 → a ≠ 660 → M' a i = M a i) → (∀ (i : Int), i ≠ 73 → i ≠ 74 → i ≠ 75 → i ≠ 76 → i ≠ 77 → i ≠ 78 → i ≠ 79 → i ≠ 80 → i ≠ 81 → i ≠ 89 → i ≠ 90 → M' 598 i = M 598 i) → Q none M') : jc A 4 358 [.ref (598)] M Q := by
  obtain ⟨gs1, gs2, gs3, gs4, gs5, gs6⟩ := id p0
  have hE := gs2
  have sl := ES.sgle gs2
  have b107 : (0 : Int) ≤ M 598 107 ∧ M 598 107 ≤ 16 := hI_M 598 107 (by decide)
  have b73 : (0 : Int) ≤ M 598 73 ∧ M 598 73 ≤ 1600 := hI_M 598 73 (by decide)
  have b88 : (0 : Int) ≤ M 598 88 ∧ M 598 88 ≤ 16 := hI_M 598 88 (by decide)
  have b100 : (0 : Int) ≤ M 598 100 ∧ M 598 100 ≤ 13 := hI_M 598 100 (by decide)
  refine jc_of (m := xm_358) rfl (Nat.le_of_ble_eq_true rfl) rfl ?_
  refine jr.aload_n rfl rfl ?_
  obtain ⟨v1, e1⟩ : ∃ z, M 598 76 = z := ⟨_, rfl⟩
  have b1 : (-1) ≤ v1 ∧ v1 ≤ 68 := by rw [← e1]; exact hI_M 598 76 (by decide)
  refine jr.getf (i := 76) (x := v1) (v := .int (Int32.ofInt (v1))) rfl rfl (by decide) rfl (by decide) rfl rfl e1 rfl ?_
  refine jr.bipush rfl (by decide) ?_
  refine jr.isub rfl ?_
  refine jr.istore_n rfl (by decide) rfl ?_
  refine jr.aload_n rfl rfl ?_
  obtain ⟨v3, e3⟩ : ∃ z, M 598 89 = z := ⟨_, rfl⟩
  have b3 : 0 ≤ v3 ∧ v3 ≤ 301 := by rw [← e3]; exact hI_M 598 89 (by decide)
  obtain ⟨v4, e4⟩ : ∃ z, M 598 73 = z := ⟨_, rfl⟩
  have b4 : 0 ≤ v4 ∧ v4 ≤ 1600 := by rw [← e4]; exact hI_M 598 73 (by decide)
  obtain ⟨v7, e7⟩ : ∃ z, M 598 100 = z := ⟨_, rfl⟩
  have b7 : 0 ≤ v7 ∧ v7 ≤ 13 := by rw [← e7]; exact hI_M 598 100 (by decide)
  refine jr_v rfl rfl (Or.inl rfl) rfl rfl (by decide) rfl ⟨rfl, Nat.le_of_ble_eq_true rfl, Nat.le_of_ble_eq_true rfl⟩ rfl (jc.deep (r_node hI_M hH_M hS_M   (by rw [e3]; omega) (fun M2 hI_M2 hH_M2 hS_M2  w2_0 w2_1 w2_2 w2_3 w2_4 w2_5 => ?_)) (by decide))
  have tk2 : TK M2 = TK M := TK.fr (w2_5 73 (by decide) (by decide) (by decide)) (w2_5 74 (by decide) (by decide) (by decide))
  have y5 : M 598 73 = v4 := e4
  have y6 : M 598 89 = v3 := e3
  have y8 : M 598 100 = v7 := e7
  have x2_73 := w2_5 73 (by decide) (by decide) (by decide)
  have x2_100 := w2_5 100 (by decide) (by decide) (by decide)
  have hE := ES.fr2 hE w2_4 (w2_5 88 (by decide) (by decide) (by decide)) (w2_5 90 (by decide) (by decide) (by decide)) (w2_5 101 (by decide) (by decide) (by decide)) (w2_5 102 (by decide) (by decide) (by decide)) (w2_5 107 (by decide) (by decide) (by decide)) (k' := 4) (d' := 0) (z' := 0) (by omega) (by omega) (by omega) (by omega)
  refine jr.aload_n rfl rfl ?_
  refine jr_v rfl rfl (Or.inl rfl) rfl rfl (by decide) rfl ⟨rfl, Nat.le_of_ble_eq_true rfl, Nat.le_of_ble_eq_true rfl⟩ rfl (jc.deep (c_good hI_M2  (fun t13_0 => ?_) (fun f13_0 => ?_)) (by decide))
  · refine jr.if_eq rfl rfl (by omega) (fun h => absurd h (by decide)) (fun _ => ?_)
    refine jr.aload_n rfl rfl ?_
    have e10 : M2 598 73 = v4 := ((w2_5 73 (by decide) (by decide) (by decide)).trans e4)
    obtain ⟨v11, e11⟩ : ∃ z, M 598 72 = z := ⟨_, rfl⟩
    have b11 : 0 ≤ v11 ∧ v11 ≤ 1600 := by rw [← e11]; exact hI_M 598 72 (by decide)
    have e12 : M2 598 72 = v11 := ((w2_5 72 (by decide) (by decide) (by decide)).trans e11)
    obtain ⟨v14, e14⟩ : ∃ z, M2 598 89 = z := ⟨_, rfl⟩
    have b14 : 0 ≤ v14 ∧ v14 ≤ 301 := by rw [← e14]; exact hI_M2 598 89 (by decide)
    have e16 : M2 598 100 = v7 := ((w2_5 100 (by decide) (by decide) (by decide)).trans e7)
    refine jr_v rfl rfl (Or.inl rfl) rfl rfl (by decide) rfl ⟨rfl, Nat.le_of_ble_eq_true rfl, Nat.le_of_ble_eq_true rfl⟩ rfl (jc.deep (r_next hI_M2 hH_M2 hS_M2   (by rw [e10, e12]; omega) (fun M9 hI_M9 hH_M9 hS_M9  w9_0 w9_1 w9_2 w9_3 w9_4 w9_5 w9_6 => ?_)) (by decide))
    have y13 : M2 598 73 = v4 := e10
    have y15 : M2 598 89 = v14 := e14
    have y17 : M2 598 100 = v7 := e16
    have x9_89 := w9_6 89 (by decide) (by decide) (by decide) (by decide) (by decide) (by decide) (by decide)
    have x9_100 := w9_6 100 (by decide) (by decide) (by decide) (by decide) (by decide) (by decide) (by decide)
    have hE := ES.fr2 hE w9_5 (w9_6 88 (by decide) (by decide) (by decide) (by decide) (by decide) (by decide) (by decide)) (w9_6 90 (by decide) (by decide) (by decide) (by decide) (by decide) (by decide) (by decide)) (w9_6 101 (by decide) (by decide) (by decide) (by decide) (by decide) (by decide) (by decide)) (w9_6 102 (by decide) (by decide) (by decide) (by decide) (by decide) (by decide) (by decide)) (w9_6 107 (by decide) (by decide) (by decide) (by decide) (by decide) (by decide) (by decide)) (k' := 4) (d' := 0) (z' := 0) (by omega) (by omega) (by omega) (by omega)
    refine jr.aload_n rfl rfl ?_
    refine jr.bipush rfl (by decide) ?_
    obtain ⟨v19, e19⟩ : ∃ z, M9 598 73 = z := ⟨_, rfl⟩
    have b19 : 0 ≤ v19 ∧ v19 ≤ 1600 := by rw [← e19]; exact hI_M9 598 73 (by decide)
    have e20 : M9 598 72 = v11 := ((w9_6 72 (by decide) (by decide) (by decide) (by decide) (by decide) (by decide) (by decide)).trans e12)
    have e22 : M9 598 89 = v14 := ((w9_6 89 (by decide) (by decide) (by decide) (by decide) (by decide) (by decide) (by decide)).trans e14)
    have e24 : M9 598 100 = v7 := ((w9_6 100 (by decide) (by decide) (by decide) (by decide) (by decide) (by decide) (by decide)).trans e16)
    refine jr_v rfl rfl (Or.inl rfl) rfl rfl (by decide) rfl ⟨rfl, Nat.le_of_ble_eq_true rfl, Nat.le_of_ble_eq_true rfl⟩ rfl (jc.deep (r_want hI_M9 hH_M9 hS_M9  (by omega) (by rw [e19, e20]; omega) (fun M18 hI_M18 hH_M18 hS_M18  w18_0 w18_1 w18_2 w18_3 w18_4 w18_5 w18_6 w18_7 => ?_)) (by decide))
    have y21 : M9 598 73 = v19 := e19
    have y23 : M9 598 89 = v14 := e22
    have y25 : M9 598 100 = v7 := e24
    have x18_89 := w18_7 89 (by decide) (by decide) (by decide) (by decide) (by decide) (by decide) (by decide) (by decide) (by decide)
    have x18_100 := w18_7 100 (by decide) (by decide) (by decide) (by decide) (by decide) (by decide) (by decide) (by decide) (by decide)
    have hE := ES.fr2 hE w18_6 (w18_7 88 (by decide) (by decide) (by decide) (by decide) (by decide) (by decide) (by decide) (by decide) (by decide)) (w18_7 90 (by decide) (by decide) (by decide) (by decide) (by decide) (by decide) (by decide) (by decide) (by decide)) (w18_7 101 (by decide) (by decide) (by decide) (by decide) (by decide) (by decide) (by decide) (by decide) (by decide)) (w18_7 102 (by decide) (by decide) (by decide) (by decide) (by decide) (by decide) (by decide) (by decide) (by decide)) (w18_7 107 (by decide) (by decide) (by decide) (by decide) (by decide) (by decide) (by decide) (by decide) (by decide)) (k' := 4) (d' := 0) (z' := 0) (by omega) (by omega) (by omega) (by omega)
    refine jr.aload_n rfl rfl ?_
    refine jr_v rfl rfl (Or.inl rfl) rfl rfl (by decide) rfl ⟨rfl, Nat.le_of_ble_eq_true rfl, Nat.le_of_ble_eq_true rfl⟩ rfl (jc.deep (c_good hI_M18  (fun t30_0 => ?_) (fun f30_0 => ?_)) (by decide))
    · refine jr.if_ne rfl rfl (by omega) (fun _ => ?_) (fun h => absurd (by decide) h)
      refine jr.aload_n rfl rfl ?_
      obtain ⟨v26, e26⟩ : ∃ z, M18 598 74 = z := ⟨_, rfl⟩
      have b26 : 0 ≤ v26 ∧ v26 ≤ 4 := by rw [← e26]; exact hI_M18 598 74 (by decide)
      refine jr.getf (i := 74) (x := v26) (v := .int (Int32.ofInt (v26))) rfl rfl (by decide) rfl (by decide) rfl rfl e26 rfl ?_
      refine jr.iconst rfl ?_
      refine jr.icmp_eq rfl rfl (by omega) (by omega) (fun h42 => ?_) (fun h42 => ?_)
      · refine jr.iconst rfl ?_
        refine jr.istore_n rfl (by decide) rfl ?_
        refine jr.bipush rfl (by decide) ?_
        refine jr.istore_n rfl (by decide) rfl ?_
        obtain ⟨v27, e27⟩ : ∃ z, M18 598 80 = z := ⟨_, rfl⟩
        have b27 : 0 ≤ v27 ∧ v27 ≤ 7 := by rw [← e27]; exact hI_M18 598 80 (by decide)
        have e28 : M18 598 89 = v14 := ((w18_7 89 (by decide) (by decide) (by decide) (by decide) (by decide) (by decide) (by decide) (by decide) (by decide)).trans e22)
        have e29 : M18 598 100 = v7 := ((w18_7 100 (by decide) (by decide) (by decide) (by decide) (by decide) (by decide) (by decide) (by decide) (by decide)).trans e24)
        obtain ⟨v30, e30⟩ : ∃ z, M18 598 73 = z := ⟨_, rfl⟩
        have b30 : 0 ≤ v30 ∧ v30 ≤ 1600 := by rw [← e30]; exact hI_M18 598 73 (by decide)
        have e31 : M18 598 72 = v11 := ((w18_7 72 (by decide) (by decide) (by decide) (by decide) (by decide) (by decide) (by decide) (by decide) (by decide)).trans e20)
        obtain ⟨v32, e32⟩ : ∃ z, M 598 90 = z := ⟨_, rfl⟩
        have b32 : 0 ≤ v32 ∧ v32 ≤ 2200 := by rw [← e32]; exact hI_M 598 90 (by decide)
        have e33 : M2 598 90 = v32 := ((w2_5 90 (by decide) (by decide) (by decide)).trans e32)
        have e34 : M9 598 90 = v32 := ((w9_6 90 (by decide) (by decide) (by decide) (by decide) (by decide) (by decide) (by decide)).trans e33)
        have e35 : M18 598 90 = v32 := ((w18_7 90 (by decide) (by decide) (by decide) (by decide) (by decide) (by decide) (by decide) (by decide) (by decide)).trans e34)
        obtain ⟨v36, e36⟩ : ∃ z, M18 598 79 = z := ⟨_, rfl⟩
        have b36 : 0 ≤ v36 ∧ v36 ≤ 255 := by rw [← e36]; exact hI_M18 598 79 (by decide)
        refine jr.pick [0, 1, 2, 3] rfl rfl ?_
        exact r_kindAndField_L55 q 12 M18 10 (-1) (v1 - 31) hI_M18 hH_M18 hS_M18  (fun a i f598 f659 f660 => ((w18_6 a i f598).trans ((w9_5 a i f598).trans ((w2_4 a i f598).trans rfl)))) (fun i g73 g74 g75 g76 g77 g78 g79 g80 g81 g89 g90 => ((w18_7 i g73 g74 g75 g76 g77 g78 g79 g80 g81).trans ((w9_6 i g73 g74 g75 g76 g77 g78 g79).trans ((w2_5 i g80 g81 g89).trans rfl)))) (by omega) (by omega) (by omega) hE (by rw [e27] <;> omega) (by rw [e28] <;> omega) (by rw [e29] <;> omega) (by rw [e30, e31] <;> omega) (by omega) (by rw [e35] <;> omega) (by rw [e26] <;> omega) (by rw [e26, e36] <;> omega) (by omega) (by omega)
      · refine jr.aload_n rfl rfl ?_
        obtain ⟨v38, e38⟩ : ∃ z, M18 598 73 = z := ⟨_, rfl⟩
        have b38 : 0 ≤ v38 ∧ v38 ≤ 1600 := by rw [← e38]; exact hI_M18 598 73 (by decide)
        have e40 : M18 598 89 = v14 := ((w18_7 89 (by decide) (by decide) (by decide) (by decide) (by decide) (by decide) (by decide) (by decide) (by decide)).trans e22)
        have e42 : M18 598 100 = v7 := ((w18_7 100 (by decide) (by decide) (by decide) (by decide) (by decide) (by decide) (by decide) (by decide) (by decide)).trans e24)
        refine jr_v rfl rfl (Or.inl rfl) rfl rfl (by decide) rfl ⟨rfl, Nat.le_of_ble_eq_true rfl, Nat.le_of_ble_eq_true rfl⟩ rfl (jc.deep (r_wrongToken hI_M18 hH_M18 hS_M18    (fun M37 hI_M37 hH_M37 hS_M37  w37_0 w37_1 w37_2 => ?_)) (by decide))
        have tk37 : TK M37 = TK M18 := TK.fr (w37_2 73 (by decide) (by decide)) (w37_2 74 (by decide) (by decide))
        have y39 : M18 598 73 = v38 := e38
        have y41 : M18 598 89 = v14 := e40
        have y43 : M18 598 100 = v7 := e42
        have x37_73 := w37_2 73 (by decide) (by decide)
        have x37_89 := w37_2 89 (by decide) (by decide)
        have x37_100 := w37_2 100 (by decide) (by decide)
        have hE := ES.fr2 hE w37_1 (w37_2 88 (by decide) (by decide)) (w37_2 90 (by decide) (by decide)) (w37_2 101 (by decide) (by decide)) (w37_2 102 (by decide) (by decide)) (w37_2 107 (by decide) (by decide)) (k' := 4) (d' := 0) (z' := 0) (by omega) (by omega) (by omega) (by omega)
        have e44 : M18 598 72 = v11 := ((w18_7 72 (by decide) (by decide) (by decide) (by decide) (by decide) (by decide) (by decide) (by decide) (by decide)).trans e20)
        have e45 : M37 598 72 = v11 := ((w37_2 72 (by decide) (by decide)).trans e44)
        have y46 : M37 598 72 = v11 := e45
        have e47 : M37 598 73 = v38 := ((w37_2 73 (by decide) (by decide)).trans e38)
        have y48 : M37 598 73 = v38 := e47
        have e49 : M37 598 74 = v26 := ((w37_2 74 (by decide) (by decide)).trans e26)
        have y50 : M37 598 74 = v26 := e49
        obtain ⟨v51, e51⟩ : ∃ z, M18 598 79 = z := ⟨_, rfl⟩
        have b51 : 0 ≤ v51 ∧ v51 ≤ 255 := by rw [← e51]; exact hI_M18 598 79 (by decide)
        have e52 : M37 598 79 = v51 := ((w37_2 79 (by decide) (by decide)).trans e51)
        have y53 : M37 598 79 = v51 := e52
        obtain ⟨v54, e54⟩ : ∃ z, M37 598 80 = z := ⟨_, rfl⟩
        have b54 : 0 ≤ v54 ∧ v54 ≤ 7 := by rw [← e54]; exact hI_M37 598 80 (by decide)
        have y55 : M37 598 80 = v54 := e54
        have e56 : M37 598 89 = v14 := ((w37_2 89 (by decide) (by decide)).trans e40)
        have y57 : M37 598 89 = v14 := e56
        obtain ⟨v58, e58⟩ : ∃ z, M 598 90 = z := ⟨_, rfl⟩
        have b58 : 0 ≤ v58 ∧ v58 ≤ 2200 := by rw [← e58]; exact hI_M 598 90 (by decide)
        have e59 : M2 598 90 = v58 := ((w2_5 90 (by decide) (by decide) (by decide)).trans e58)
        have e60 : M9 598 90 = v58 := ((w9_6 90 (by decide) (by decide) (by decide) (by decide) (by decide) (by decide) (by decide)).trans e59)
        have e61 : M18 598 90 = v58 := ((w18_7 90 (by decide) (by decide) (by decide) (by decide) (by decide) (by decide) (by decide) (by decide) (by decide)).trans e60)
        have e62 : M37 598 90 = v58 := ((w37_2 90 (by decide) (by decide)).trans e61)
        have y63 : M37 598 90 = v58 := e62
        have e64 : M37 598 100 = v7 := ((w37_2 100 (by decide) (by decide)).trans e42)
        have y65 : M37 598 100 = v7 := e64
        obtain ⟨v66, e66⟩ : ∃ z, M 598 107 = z := ⟨_, rfl⟩
        have b66 : 0 ≤ v66 ∧ v66 ≤ 16 := by rw [← e66]; exact hI_M 598 107 (by decide)
        have e67 : M2 598 107 = v66 := ((w2_5 107 (by decide) (by decide) (by decide)).trans e66)
        have e68 : M9 598 107 = v66 := ((w9_6 107 (by decide) (by decide) (by decide) (by decide) (by decide) (by decide) (by decide)).trans e67)
        have e69 : M18 598 107 = v66 := ((w18_7 107 (by decide) (by decide) (by decide) (by decide) (by decide) (by decide) (by decide) (by decide) (by decide)).trans e68)
        have e70 : M37 598 107 = v66 := ((w37_2 107 (by decide) (by decide)).trans e69)
        have y71 : M37 598 107 = v66 := e70
        exact jr.vreturn rfl rfl (q _ hI_M37 hH_M37 hS_M37  (by by_cases hf : v54 = 0; (first | (exfalso; omega) | (exact Or.inr ⟨⟨by omega, ES.adj hE (k' := 0) (z' := 0) (by omega) (by omega) (by omega), by omega, by omega, by omega, by omega⟩, by omega⟩)); (exact Or.inl ⟨by omega, by omega⟩)) (by omega) (by omega) (by omega) (fun a i f598 f659 f660 => ((w37_1 a i f598).trans ((w18_6 a i f598).trans ((w9_5 a i f598).trans ((w2_4 a i f598).trans rfl))))) (fun i g73 g74 g75 g76 g77 g78 g79 g80 g81 g89 g90 => ((w37_2 i g80 g81).trans ((w18_7 i g73 g74 g75 g76 g77 g78 g79 g80 g81).trans ((w9_6 i g73 g74 g75 g76 g77 g78 g79).trans ((w2_5 i g80 g81 g89).trans rfl))))))
    · refine jr.if_ne rfl rfl (by omega) (fun h => absurd h (by decide)) (fun _ => ?_)
      have e72 : M18 598 72 = v11 := ((w18_7 72 (by decide) (by decide) (by decide) (by decide) (by decide) (by decide) (by decide) (by decide) (by decide)).trans e20)
      have y73 : M18 598 72 = v11 := e72
      obtain ⟨v74, e74⟩ : ∃ z, M18 598 73 = z := ⟨_, rfl⟩
      have b74 : 0 ≤ v74 ∧ v74 ≤ 1600 := by rw [← e74]; exact hI_M18 598 73 (by decide)
      have y75 : M18 598 73 = v74 := e74
      obtain ⟨v76, e76⟩ : ∃ z, M18 598 74 = z := ⟨_, rfl⟩
      have b76 : 0 ≤ v76 ∧ v76 ≤ 4 := by rw [← e76]; exact hI_M18 598 74 (by decide)
      have y77 : M18 598 74 = v76 := e76
      obtain ⟨v78, e78⟩ : ∃ z, M18 598 79 = z := ⟨_, rfl⟩
      have b78 : 0 ≤ v78 ∧ v78 ≤ 255 := by rw [← e78]; exact hI_M18 598 79 (by decide)
      have y79 : M18 598 79 = v78 := e78
      obtain ⟨v80, e80⟩ : ∃ z, M18 598 80 = z := ⟨_, rfl⟩
      have b80 : 0 ≤ v80 ∧ v80 ≤ 7 := by rw [← e80]; exact hI_M18 598 80 (by decide)
      have y81 : M18 598 80 = v80 := e80
      have e82 : M18 598 89 = v14 := ((w18_7 89 (by decide) (by decide) (by decide) (by decide) (by decide) (by decide) (by decide) (by decide) (by decide)).trans e22)
      have y83 : M18 598 89 = v14 := e82
      obtain ⟨v84, e84⟩ : ∃ z, M 598 90 = z := ⟨_, rfl⟩
      have b84 : 0 ≤ v84 ∧ v84 ≤ 2200 := by rw [← e84]; exact hI_M 598 90 (by decide)
      have e85 : M2 598 90 = v84 := ((w2_5 90 (by decide) (by decide) (by decide)).trans e84)
      have e86 : M9 598 90 = v84 := ((w9_6 90 (by decide) (by decide) (by decide) (by decide) (by decide) (by decide) (by decide)).trans e85)
      have e87 : M18 598 90 = v84 := ((w18_7 90 (by decide) (by decide) (by decide) (by decide) (by decide) (by decide) (by decide) (by decide) (by decide)).trans e86)
      have y88 : M18 598 90 = v84 := e87
      have e89 : M18 598 100 = v7 := ((w18_7 100 (by decide) (by decide) (by decide) (by decide) (by decide) (by decide) (by decide) (by decide) (by decide)).trans e24)
      have y90 : M18 598 100 = v7 := e89
      obtain ⟨v91, e91⟩ : ∃ z, M 598 107 = z := ⟨_, rfl⟩
      have b91 : 0 ≤ v91 ∧ v91 ≤ 16 := by rw [← e91]; exact hI_M 598 107 (by decide)
      have e92 : M2 598 107 = v91 := ((w2_5 107 (by decide) (by decide) (by decide)).trans e91)
      have e93 : M9 598 107 = v91 := ((w9_6 107 (by decide) (by decide) (by decide) (by decide) (by decide) (by decide) (by decide)).trans e92)
      have e94 : M18 598 107 = v91 := ((w18_7 107 (by decide) (by decide) (by decide) (by decide) (by decide) (by decide) (by decide) (by decide) (by decide)).trans e93)
      have y95 : M18 598 107 = v91 := e94
      exact jr.vreturn rfl rfl (q _ hI_M18 hH_M18 hS_M18  (by by_cases hf : v80 = 0; (first | (exfalso; omega) | (exact Or.inr ⟨⟨by omega, ES.adj hE (k' := 0) (z' := 0) (by omega) (by omega) (by omega), by omega, by omega, by omega, by omega⟩, by omega⟩)); (exact Or.inl ⟨by omega, by omega⟩)) (by omega) (by omega) (by omega) (fun a i f598 f659 f660 => ((w18_6 a i f598).trans ((w9_5 a i f598).trans ((w2_4 a i f598).trans rfl)))) (fun i g73 g74 g75 g76 g77 g78 g79 g80 g81 g89 g90 => ((w18_7 i g73 g74 g75 g76 g77 g78 g79 g80 g81).trans ((w9_6 i g73 g74 g75 g76 g77 g78 g79).trans ((w2_5 i g80 g81 g89).trans rfl)))))
  · refine jr.if_eq rfl rfl (by omega) (fun _ => ?_) (fun h => absurd (by decide) h)
    refine jr.aload_n rfl rfl ?_
    refine jr.bipush rfl (by decide) ?_
    have e97 : M2 598 73 = v4 := ((w2_5 73 (by decide) (by decide) (by decide)).trans e4)
    obtain ⟨v98, e98⟩ : ∃ z, M 598 72 = z := ⟨_, rfl⟩
    have b98 : 0 ≤ v98 ∧ v98 ≤ 1600 := by rw [← e98]; exact hI_M 598 72 (by decide)
    have e99 : M2 598 72 = v98 := ((w2_5 72 (by decide) (by decide) (by decide)).trans e98)
    obtain ⟨v101, e101⟩ : ∃ z, M2 598 89 = z := ⟨_, rfl⟩
    have b101 : 0 ≤ v101 ∧ v101 ≤ 301 := by rw [← e101]; exact hI_M2 598 89 (by decide)
    have e103 : M2 598 100 = v7 := ((w2_5 100 (by decide) (by decide) (by decide)).trans e7)
    refine jr_v rfl rfl (Or.inl rfl) rfl rfl (by decide) rfl ⟨rfl, Nat.le_of_ble_eq_true rfl, Nat.le_of_ble_eq_true rfl⟩ rfl (jc.deep (r_want hI_M2 hH_M2 hS_M2  (by omega) (by rw [e97, e99]; omega) (fun M96 hI_M96 hH_M96 hS_M96  w96_0 w96_1 w96_2 w96_3 w96_4 w96_5 w96_6 w96_7 => ?_)) (by decide))
    have y100 : M2 598 73 = v4 := e97
    have y102 : M2 598 89 = v101 := e101
    have y104 : M2 598 100 = v7 := e103
    have x96_89 := w96_7 89 (by decide) (by decide) (by decide) (by decide) (by decide) (by decide) (by decide) (by decide) (by decide)
    have x96_100 := w96_7 100 (by decide) (by decide) (by decide) (by decide) (by decide) (by decide) (by decide) (by decide) (by decide)
    have hE := ES.fr2 hE w96_6 (w96_7 88 (by decide) (by decide) (by decide) (by decide) (by decide) (by decide) (by decide) (by decide) (by decide)) (w96_7 90 (by decide) (by decide) (by decide) (by decide) (by decide) (by decide) (by decide) (by decide) (by decide)) (w96_7 101 (by decide) (by decide) (by decide) (by decide) (by decide) (by decide) (by decide) (by decide) (by decide)) (w96_7 102 (by decide) (by decide) (by decide) (by decide) (by decide) (by decide) (by decide) (by decide) (by decide)) (w96_7 107 (by decide) (by decide) (by decide) (by decide) (by decide) (by decide) (by decide) (by decide) (by decide)) (k' := 4) (d' := 0) (z' := 0) (by omega) (by omega) (by omega) (by omega)
    refine jr.aload_n rfl rfl ?_
    obtain ⟨v105, e105⟩ : ∃ z, M96 598 80 = z := ⟨_, rfl⟩
    have b105 : 0 ≤ v105 ∧ v105 ≤ 7 := by rw [← e105]; exact hI_M96 598 80 (by decide)
    refine jr_v rfl rfl (Or.inl rfl) rfl rfl (by decide) rfl ⟨rfl, Nat.le_of_ble_eq_true rfl, Nat.le_of_ble_eq_true rfl⟩ rfl (jc.deep (c_good hI_M96  (fun t30_0 => ?_) (fun f30_0 => ?_)) (by decide))
    · exfalso
      omega
    · refine jr.if_ne rfl rfl (by omega) (fun h => absurd h (by decide)) (fun _ => ?_)
      have e106 : M96 598 72 = v98 := ((w96_7 72 (by decide) (by decide) (by decide) (by decide) (by decide) (by decide) (by decide) (by decide) (by decide)).trans e99)
      have y107 : M96 598 72 = v98 := e106
      obtain ⟨v108, e108⟩ : ∃ z, M96 598 73 = z := ⟨_, rfl⟩
      have b108 : 0 ≤ v108 ∧ v108 ≤ 1600 := by rw [← e108]; exact hI_M96 598 73 (by decide)
      have y109 : M96 598 73 = v108 := e108
      obtain ⟨v110, e110⟩ : ∃ z, M96 598 74 = z := ⟨_, rfl⟩
      have b110 : 0 ≤ v110 ∧ v110 ≤ 4 := by rw [← e110]; exact hI_M96 598 74 (by decide)
      have y111 : M96 598 74 = v110 := e110
      obtain ⟨v112, e112⟩ : ∃ z, M96 598 79 = z := ⟨_, rfl⟩
      have b112 : 0 ≤ v112 ∧ v112 ≤ 255 := by rw [← e112]; exact hI_M96 598 79 (by decide)
      have y113 : M96 598 79 = v112 := e112
      have y114 : M96 598 80 = v105 := e105
      have e115 : M96 598 89 = v101 := ((w96_7 89 (by decide) (by decide) (by decide) (by decide) (by decide) (by decide) (by decide) (by decide) (by decide)).trans e101)
      have y116 : M96 598 89 = v101 := e115
      obtain ⟨v117, e117⟩ : ∃ z, M 598 90 = z := ⟨_, rfl⟩
      have b117 : 0 ≤ v117 ∧ v117 ≤ 2200 := by rw [← e117]; exact hI_M 598 90 (by decide)
      have e118 : M2 598 90 = v117 := ((w2_5 90 (by decide) (by decide) (by decide)).trans e117)
      have e119 : M96 598 90 = v117 := ((w96_7 90 (by decide) (by decide) (by decide) (by decide) (by decide) (by decide) (by decide) (by decide) (by decide)).trans e118)
      have y120 : M96 598 90 = v117 := e119
      have e121 : M96 598 100 = v7 := ((w96_7 100 (by decide) (by decide) (by decide) (by decide) (by decide) (by decide) (by decide) (by decide) (by decide)).trans e103)
      have y122 : M96 598 100 = v7 := e121
      obtain ⟨v123, e123⟩ : ∃ z, M 598 107 = z := ⟨_, rfl⟩
      have b123 : 0 ≤ v123 ∧ v123 ≤ 16 := by rw [← e123]; exact hI_M 598 107 (by decide)
      have e124 : M2 598 107 = v123 := ((w2_5 107 (by decide) (by decide) (by decide)).trans e123)
      have e125 : M96 598 107 = v123 := ((w96_7 107 (by decide) (by decide) (by decide) (by decide) (by decide) (by decide) (by decide) (by decide) (by decide)).trans e124)
      have y126 : M96 598 107 = v123 := e125
      exact jr.vreturn rfl rfl (q _ hI_M96 hH_M96 hS_M96  (by by_cases hf : v105 = 0; (first | (exfalso; omega) | (exact Or.inr ⟨⟨by omega, ES.adj hE (k' := 0) (z' := 0) (by omega) (by omega) (by omega), by omega, by omega, by omega, by omega⟩, by omega⟩)); (exact Or.inl ⟨by omega, by omega⟩)) (by omega) (by omega) (by omega) (fun a i f598 f659 f660 => ((w96_6 a i f598).trans ((w2_4 a i f598).trans rfl))) (fun i g73 g74 g75 g76 g77 g78 g79 g80 g81 g89 g90 => ((w96_7 i g73 g74 g75 g76 g77 g78 g79 g80 g81).trans ((w2_5 i g80 g81 g89).trans rfl))))
theorem r_hasKind {A : Nat → Option (Nat × (Nat → Int32))} {Q : Option Value → jm → Prop} {b : Int} {M : jm} (hI_M : RI M) (hH_M : RH M) (hS_M : RF M) (p0 : GS M b 0) (p1 : M 598 74 = 1) (q : ∀ (M' : jm), RI M' → RH M' → RF M' → (BS M' ∨ (GS M' b 1 ∧ TK M' < TK M)) → TK M' ≤ TK M → M' 598 73 ≤ M' 598 72 → (M' 598 80 ≠ 0 ∨ TK M' < TK M) → (∀ (a : Nat) (i : Int), a ≠ 598 → a ≠ 659 → a ≠ 660 → M' a i = M a i) → (∀ (i : Int), i ≠ 73 → i ≠ 74 → i ≠ 75 → i ≠ 76 → i ≠ 77 → i ≠ 78 → i ≠ 79 → i ≠ 80 → i ≠ 81 → i ≠ 89 → i ≠ 90 → i ≠ 100 → M' 598 i = M 598 i) → Q none M') : jc A 5 359 [.ref (598)] M Q := by
  obtain ⟨gs1, gs2, gs3, gs4, gs5, gs6⟩ := id p0
  have hE := gs2
  have sl := ES.sgle gs2
  have b107 : (0 : Int) ≤ M 598 107 ∧ M 598 107 ≤ 16 := hI_M 598 107 (by decide)
  have b73 : (0 : Int) ≤ M 598 73 ∧ M 598 73 ≤ 1600 := hI_M 598 73 (by decide)
  have b88 : (0 : Int) ≤ M 598 88 ∧ M 598 88 ≤ 16 := hI_M 598 88 (by decide)
  have b100 : (0 : Int) ≤ M 598 100 ∧ M 598 100 ≤ 13 := hI_M 598 100 (by decide)
  refine jc_of (m := xm_359) rfl (Nat.le_of_ble_eq_true rfl) rfl ?_
  refine jr.aload_n rfl rfl ?_
  obtain ⟨v2, e2⟩ : ∃ z, M 598 89 = z := ⟨_, rfl⟩
  have b2 : 0 ≤ v2 ∧ v2 ≤ 301 := by rw [← e2]; exact hI_M 598 89 (by decide)
  obtain ⟨v3, e3⟩ : ∃ z, M 598 73 = z := ⟨_, rfl⟩
  have b3 : 0 ≤ v3 ∧ v3 ≤ 1600 := by rw [← e3]; exact hI_M 598 73 (by decide)
  obtain ⟨v6, e6⟩ : ∃ z, M 598 100 = z := ⟨_, rfl⟩
  have b6 : 0 ≤ v6 ∧ v6 ≤ 13 := by rw [← e6]; exact hI_M 598 100 (by decide)
  refine jr_v rfl rfl (Or.inl rfl) rfl rfl (by decide) rfl ⟨rfl, Nat.le_of_ble_eq_true rfl, Nat.le_of_ble_eq_true rfl⟩ rfl (jc.deep (r_node hI_M hH_M hS_M   (by rw [e2]; omega) (fun M1 hI_M1 hH_M1 hS_M1  w1_0 w1_1 w1_2 w1_3 w1_4 w1_5 => ?_)) (by decide))
  have tk1 : TK M1 = TK M := TK.fr (w1_5 73 (by decide) (by decide) (by decide)) (w1_5 74 (by decide) (by decide) (by decide))
  have y4 : M 598 73 = v3 := e3
  have y5 : M 598 89 = v2 := e2
  have y7 : M 598 100 = v6 := e6
  have x1_73 := w1_5 73 (by decide) (by decide) (by decide)
  have x1_100 := w1_5 100 (by decide) (by decide) (by decide)
  have hE := ES.fr2 hE w1_4 (w1_5 88 (by decide) (by decide) (by decide)) (w1_5 90 (by decide) (by decide) (by decide)) (w1_5 101 (by decide) (by decide) (by decide)) (w1_5 102 (by decide) (by decide) (by decide)) (w1_5 107 (by decide) (by decide) (by decide)) (k' := 4) (d' := 0) (z' := 0) (by omega) (by omega) (by omega) (by omega)
  refine jr.aload_n rfl rfl ?_
  refine jr_v rfl rfl (Or.inl rfl) rfl rfl (by decide) rfl ⟨rfl, Nat.le_of_ble_eq_true rfl, Nat.le_of_ble_eq_true rfl⟩ rfl (jc.deep (c_good hI_M1  (fun t5_0 => ?_) (fun f5_0 => ?_)) (by decide))
  · refine jr.if_eq rfl rfl (by omega) (fun h => absurd h (by decide)) (fun _ => ?_)
    refine jr.aload_n rfl rfl ?_
    have e9 : M1 598 73 = v3 := ((w1_5 73 (by decide) (by decide) (by decide)).trans e3)
    obtain ⟨v10, e10⟩ : ∃ z, M 598 72 = z := ⟨_, rfl⟩
    have b10 : 0 ≤ v10 ∧ v10 ≤ 1600 := by rw [← e10]; exact hI_M 598 72 (by decide)
    have e11 : M1 598 72 = v10 := ((w1_5 72 (by decide) (by decide) (by decide)).trans e10)
    obtain ⟨v13, e13⟩ : ∃ z, M1 598 89 = z := ⟨_, rfl⟩
    have b13 : 0 ≤ v13 ∧ v13 ≤ 301 := by rw [← e13]; exact hI_M1 598 89 (by decide)
    have e15 : M1 598 100 = v6 := ((w1_5 100 (by decide) (by decide) (by decide)).trans e6)
    refine jr_v rfl rfl (Or.inl rfl) rfl rfl (by decide) rfl ⟨rfl, Nat.le_of_ble_eq_true rfl, Nat.le_of_ble_eq_true rfl⟩ rfl (jc.deep (r_next hI_M1 hH_M1 hS_M1   (by rw [e9, e11]; omega) (fun M8 hI_M8 hH_M8 hS_M8  w8_0 w8_1 w8_2 w8_3 w8_4 w8_5 w8_6 => ?_)) (by decide))
    have y12 : M1 598 73 = v3 := e9
    have y14 : M1 598 89 = v13 := e13
    have y16 : M1 598 100 = v6 := e15
    have x8_89 := w8_6 89 (by decide) (by decide) (by decide) (by decide) (by decide) (by decide) (by decide)
    have x8_100 := w8_6 100 (by decide) (by decide) (by decide) (by decide) (by decide) (by decide) (by decide)
    have hE := ES.fr2 hE w8_5 (w8_6 88 (by decide) (by decide) (by decide) (by decide) (by decide) (by decide) (by decide)) (w8_6 90 (by decide) (by decide) (by decide) (by decide) (by decide) (by decide) (by decide)) (w8_6 101 (by decide) (by decide) (by decide) (by decide) (by decide) (by decide) (by decide)) (w8_6 102 (by decide) (by decide) (by decide) (by decide) (by decide) (by decide) (by decide)) (w8_6 107 (by decide) (by decide) (by decide) (by decide) (by decide) (by decide) (by decide)) (k' := 4) (d' := 0) (z' := 0) (by omega) (by omega) (by omega) (by omega)
    refine jr.aload_n rfl rfl ?_
    refine jr.bipush rfl (by decide) ?_
    obtain ⟨v18, e18⟩ : ∃ z, M8 598 73 = z := ⟨_, rfl⟩
    have b18 : 0 ≤ v18 ∧ v18 ≤ 1600 := by rw [← e18]; exact hI_M8 598 73 (by decide)
    have e19 : M8 598 72 = v10 := ((w8_6 72 (by decide) (by decide) (by decide) (by decide) (by decide) (by decide) (by decide)).trans e11)
    have e20 : M8 598 100 = v6 := ((w8_6 100 (by decide) (by decide) (by decide) (by decide) (by decide) (by decide) (by decide)).trans e15)
    refine jr_v rfl rfl (Or.inl rfl) rfl rfl (by decide) rfl ⟨rfl, Nat.le_of_ble_eq_true rfl, Nat.le_of_ble_eq_true rfl⟩ rfl (jc.deep (r_wantDeeper hI_M8 hH_M8 hS_M8  (by omega) (by rw [e18, e19]; omega) (by rw [e20]; omega) (fun M17 hI_M17 hH_M17 hS_M17  w17_0 w17_1 w17_2 w17_3 w17_4 w17_5 w17_6 w17_7 w17_8 w17_9 => ?_)) (by decide))
    refine jr.aload_n rfl rfl ?_
    have e22 : M8 598 89 = v13 := ((w8_6 89 (by decide) (by decide) (by decide) (by decide) (by decide) (by decide) (by decide)).trans e13)
    refine jr_v rfl rfl (Or.inl rfl) rfl rfl (by decide) rfl ⟨rfl, Nat.le_of_ble_eq_true rfl, Nat.le_of_ble_eq_true rfl⟩ rfl (jc.deep (c_good hI_M17  (fun t22_0 => ?_) (fun f22_0 => ?_)) (by decide))
    · have y21 : M8 598 73 = v18 := e18
      have y23 : M8 598 89 = v13 := e22
      have y24 : M8 598 100 = v6 := e20
      have x17_89 := w17_9 89 (by decide) (by decide) (by decide) (by decide) (by decide) (by decide) (by decide) (by decide) (by decide) (by decide)
      have hE := ES.fr2 hE w17_8 (w17_9 88 (by decide) (by decide) (by decide) (by decide) (by decide) (by decide) (by decide) (by decide) (by decide) (by decide)) (w17_9 90 (by decide) (by decide) (by decide) (by decide) (by decide) (by decide) (by decide) (by decide) (by decide) (by decide)) (w17_9 101 (by decide) (by decide) (by decide) (by decide) (by decide) (by decide) (by decide) (by decide) (by decide) (by decide)) (w17_9 102 (by decide) (by decide) (by decide) (by decide) (by decide) (by decide) (by decide) (by decide) (by decide) (by decide)) (w17_9 107 (by decide) (by decide) (by decide) (by decide) (by decide) (by decide) (by decide) (by decide) (by decide) (by decide)) (k' := 4) (d' := 1) (z' := 0) (by omega) (by omega) (by omega) (by omega)
      refine jr.if_eq rfl rfl (by omega) (fun h => absurd h (by decide)) (fun _ => ?_)
      refine jr.aload_n rfl rfl ?_
      refine jr.bipush rfl (by decide) ?_
      refine jr.bipush rfl (by decide) ?_
      refine jr_v rfl rfl (Or.inl rfl) rfl rfl (by decide) rfl ⟨rfl, Nat.le_of_ble_eq_true rfl, Nat.le_of_ble_eq_true rfl⟩ rfl (jc.deep (c_isWordIn hI_M17 (by omega) (by omega) (fun t33_0 t33_1 t33_2 => ?_) (fun f33_0 => ?_)) (by decide))
      · refine jr.if_ne rfl rfl (by omega) (fun _ => ?_) (fun h => absurd (by decide) h)
        refine jr.aload_n rfl rfl ?_
        obtain ⟨v25, e25⟩ : ∃ z, M17 598 80 = z := ⟨_, rfl⟩
        have b25 : 0 ≤ v25 ∧ v25 ≤ 7 := by rw [← e25]; exact hI_M17 598 80 (by decide)
        refine jr_v rfl rfl (Or.inl rfl) rfl rfl (by decide) rfl ⟨rfl, Nat.le_of_ble_eq_true rfl, Nat.le_of_ble_eq_true rfl⟩ rfl (jc.deep (c_good hI_M17  (fun t44_0 => ?_) (fun f44_0 => ?_)) (by decide))
        · refine jr.if_ne rfl rfl (by omega) (fun _ => ?_) (fun h => absurd (by decide) h)
          refine jr.aload_n rfl rfl ?_
          refine jr.bipush rfl (by decide) ?_
          refine jr.aload_n rfl rfl ?_
          obtain ⟨v26, e26⟩ : ∃ z, M17 598 76 = z := ⟨_, rfl⟩
          have b26 : (-1) ≤ v26 ∧ v26 ≤ 68 := by rw [← e26]; exact hI_M17 598 76 (by decide)
          refine jr.getf (i := 76) (x := v26) (v := .int (Int32.ofInt (v26))) rfl rfl (by decide) rfl (by decide) rfl rfl e26 rfl ?_
          refine jr.bipush rfl (by decide) ?_
          refine jr.isub rfl ?_
          refine jr.i2l rfl (by omega) ?_
          obtain ⟨v27, e27⟩ : ∃ z, M 598 90 = z := ⟨_, rfl⟩
          have b27 : 0 ≤ v27 ∧ v27 ≤ 2200 := by rw [← e27]; exact hI_M 598 90 (by decide)
          have e28 : M1 598 90 = v27 := ((w1_5 90 (by decide) (by decide) (by decide)).trans e27)
          have e29 : M8 598 90 = v27 := ((w8_6 90 (by decide) (by decide) (by decide) (by decide) (by decide) (by decide) (by decide)).trans e28)
          have e30 : M17 598 90 = v27 := ((w17_9 90 (by decide) (by decide) (by decide) (by decide) (by decide) (by decide) (by decide) (by decide) (by decide) (by decide)).trans e29)
          obtain ⟨v31, e31⟩ : ∃ z, M17 598 100 = z := ⟨_, rfl⟩
          have b31 : 0 ≤ v31 ∧ v31 ≤ 13 := by rw [← e31]; exact hI_M17 598 100 (by decide)
          obtain ⟨v33, e33⟩ : ∃ z, M 598 107 = z := ⟨_, rfl⟩
          have b33 : 0 ≤ v33 ∧ v33 ≤ 16 := by rw [← e33]; exact hI_M 598 107 (by decide)
          have e34 : M1 598 107 = v33 := ((w1_5 107 (by decide) (by decide) (by decide)).trans e33)
          have e35 : M8 598 107 = v33 := ((w8_6 107 (by decide) (by decide) (by decide) (by decide) (by decide) (by decide) (by decide)).trans e34)
          have e36 : M17 598 107 = v33 := ((w17_9 107 (by decide) (by decide) (by decide) (by decide) (by decide) (by decide) (by decide) (by decide) (by decide) (by decide)).trans e35)
          refine jr_v rfl rfl (Or.inl rfl) rfl rfl (by decide) rfl ⟨rfl, Nat.le_of_ble_eq_true rfl, Nat.le_of_ble_eq_true rfl⟩ rfl (jc.deep (r_emit e30 (by omega) (by omega) (by omega) ?_) (by decide))
          have y32 : M17 598 100 = v31 := e31
          have y37 : M17 598 107 = v33 := e36
          have nd : ndo 6 = 0 := (by unfold ndo argn; (repeat' split) <;> omega)
          have dl : dlo 6 = 1 := (by unfold dlo ndo argn; (repeat' split) <;> omega)
          have hE := ES.emit hE e30 6 (v26 - 31) 2 (by unfold vop; omega) (by omega) (by unfold exo; omega) (by unfold jpo; omega) (by omega) (by omega) (by omega) (by omega) (by omega) (by omega)
          rw [dl] at hE
          have hE : ES _ b 1 2 1 1 (-1) := hE
          refine jr.aload_n rfl rfl ?_
          obtain ⟨v39, e39⟩ : ∃ z, M17 598 73 = z := ⟨_, rfl⟩
          have b39 : 0 ≤ v39 ∧ v39 ≤ 1600 := by rw [← e39]; exact hI_M17 598 73 (by decide)
          have e40 : M17 598 72 = v10 := ((w17_9 72 (by decide) (by decide) (by decide) (by decide) (by decide) (by decide) (by decide) (by decide) (by decide) (by decide)).trans e19)
          have e42 : M8 598 89 = v13 := ((w8_6 89 (by decide) (by decide) (by decide) (by decide) (by decide) (by decide) (by decide)).trans e13)
          have e43 : M17 598 89 = v13 := ((w17_9 89 (by decide) (by decide) (by decide) (by decide) (by decide) (by decide) (by decide) (by decide) (by decide) (by decide)).trans e42)
          obtain ⟨v47, e47⟩ : ∃ z, M17 598 74 = z := ⟨_, rfl⟩
          have b47 : 0 ≤ v47 ∧ v47 ≤ 4 := by rw [← e47]; exact hI_M17 598 74 (by decide)
          refine jr_v rfl rfl (Or.inl rfl) rfl rfl (by decide) rfl ⟨rfl, Nat.le_of_ble_eq_true rfl, Nat.le_of_ble_eq_true rfl⟩ rfl (jc.deep (r_next (RI.u (RI.u (RI.u hI_M17 (a := 659) (i := v27) (by rw [xri_row rfl rfl]; show (0 : Int) ≤ _ ∧ _ ≤ (1000 : Int); omega)) (a := 660) (i := v27) (by rw [xri_row rfl rfl]; show (-9223372036854775808 : Int) ≤ _ ∧ _ ≤ (9223372036854775807 : Int); omega)) (a := 598) (i := 90) (show (0 : Int) ≤ _ ∧ _ ≤ (2200 : Int) from by omega)) (RH.o (RH.o (RH.o hH_M17 (by decide) (by decide) (by decide)) (by decide) (by decide) (by decide)) (by decide) (by decide) (by decide)) (RF.o (RF.o (RF.o hS_M17 (by decide) (by decide)) (by decide) (by decide)) (by decide) (by decide))   (by rw [((ju_i _ _ (by decide)).trans ((ju_c _ _ (by decide)).trans ((ju_c _ _ (by decide)).trans e39))), ((ju_i _ _ (by decide)).trans ((ju_c _ _ (by decide)).trans ((ju_c _ _ (by decide)).trans e40)))]; omega) (fun M38 hI_M38 hH_M38 hS_M38  w38_0 w38_1 w38_2 w38_3 w38_4 w38_5 w38_6 => ?_)) (by decide))
          have y46 : (ju (ju (ju M17 659 v27 6) 660 v27 (v26 - 31)) 598 90 (v27 + 1)) 598 73 = v39 := ((ju_i _ _ (by decide)).trans ((ju_c _ _ (by decide)).trans ((ju_c _ _ (by decide)).trans e39)))
          have y48 : (ju (ju (ju M17 659 v27 6) 660 v27 (v26 - 31)) 598 90 (v27 + 1)) 598 74 = v47 := ((ju_i _ _ (by decide)).trans ((ju_c _ _ (by decide)).trans ((ju_c _ _ (by decide)).trans e47)))
          have tb38 : TK (ju (ju (ju M17 659 v27 6) 660 v27 (v26 - 31)) 598 90 (v27 + 1)) = TK M17 := ((TK.o (Or.inr ⟨by decide, by decide⟩)).trans ((TK.o (Or.inl (by decide))).trans ((TK.o (Or.inl (by decide))).trans rfl)))
          have y41 : (ju (ju (ju M17 659 v27 6) 660 v27 (v26 - 31)) 598 90 (v27 + 1)) 598 73 = v39 := ((ju_i _ _ (by decide)).trans ((ju_c _ _ (by decide)).trans ((ju_c _ _ (by decide)).trans e39)))
          have y44 : (ju (ju (ju M17 659 v27 6) 660 v27 (v26 - 31)) 598 90 (v27 + 1)) 598 89 = v13 := ((ju_i _ _ (by decide)).trans ((ju_c _ _ (by decide)).trans ((ju_c _ _ (by decide)).trans e43)))
          have y45 : (ju (ju (ju M17 659 v27 6) 660 v27 (v26 - 31)) 598 90 (v27 + 1)) 598 100 = v31 := ((ju_i _ _ (by decide)).trans ((ju_c _ _ (by decide)).trans ((ju_c _ _ (by decide)).trans e31)))
          have x38_89 := w38_6 89 (by decide) (by decide) (by decide) (by decide) (by decide) (by decide) (by decide)
          have x38_100 := w38_6 100 (by decide) (by decide) (by decide) (by decide) (by decide) (by decide) (by decide)
          have hE := ES.fr2 hE w38_5 (w38_6 88 (by decide) (by decide) (by decide) (by decide) (by decide) (by decide) (by decide)) (w38_6 90 (by decide) (by decide) (by decide) (by decide) (by decide) (by decide) (by decide)) (w38_6 101 (by decide) (by decide) (by decide) (by decide) (by decide) (by decide) (by decide)) (w38_6 102 (by decide) (by decide) (by decide) (by decide) (by decide) (by decide) (by decide)) (w38_6 107 (by decide) (by decide) (by decide) (by decide) (by decide) (by decide) (by decide)) (k' := 2) (d' := 1) (z' := 0) (by omega) (by omega) (by omega) (by omega)
          refine jr.aload_n rfl rfl ?_
          refine jr.bipush rfl (by decide) ?_
          obtain ⟨v50, e50⟩ : ∃ z, M38 598 73 = z := ⟨_, rfl⟩
          have b50 : 0 ≤ v50 ∧ v50 ≤ 1600 := by rw [← e50]; exact hI_M38 598 73 (by decide)
          have e51 : M38 598 72 = v10 := ((w38_6 72 (by decide) (by decide) (by decide) (by decide) (by decide) (by decide) (by decide)).trans ((ju_i _ _ (by decide)).trans ((ju_c _ _ (by decide)).trans ((ju_c _ _ (by decide)).trans e40))))
          have e53 : M38 598 89 = v13 := ((w38_6 89 (by decide) (by decide) (by decide) (by decide) (by decide) (by decide) (by decide)).trans ((ju_i _ _ (by decide)).trans ((ju_c _ _ (by decide)).trans ((ju_c _ _ (by decide)).trans e43))))
          have e55 : M38 598 100 = v31 := ((w38_6 100 (by decide) (by decide) (by decide) (by decide) (by decide) (by decide) (by decide)).trans ((ju_i _ _ (by decide)).trans ((ju_c _ _ (by decide)).trans ((ju_c _ _ (by decide)).trans e31))))
          refine jr_v rfl rfl (Or.inl rfl) rfl rfl (by decide) rfl ⟨rfl, Nat.le_of_ble_eq_true rfl, Nat.le_of_ble_eq_true rfl⟩ rfl (jc.deep (r_want hI_M38 hH_M38 hS_M38  (by omega) (by rw [e50, e51]; omega) (fun M49 hI_M49 hH_M49 hS_M49  w49_0 w49_1 w49_2 w49_3 w49_4 w49_5 w49_6 w49_7 => ?_)) (by decide))
          have y52 : M38 598 73 = v50 := e50
          have y54 : M38 598 89 = v13 := e53
          have y56 : M38 598 100 = v31 := e55
          have x49_89 := w49_7 89 (by decide) (by decide) (by decide) (by decide) (by decide) (by decide) (by decide) (by decide) (by decide)
          have x49_100 := w49_7 100 (by decide) (by decide) (by decide) (by decide) (by decide) (by decide) (by decide) (by decide) (by decide)
          have hE := ES.fr2 hE w49_6 (w49_7 88 (by decide) (by decide) (by decide) (by decide) (by decide) (by decide) (by decide) (by decide) (by decide)) (w49_7 90 (by decide) (by decide) (by decide) (by decide) (by decide) (by decide) (by decide) (by decide) (by decide)) (w49_7 101 (by decide) (by decide) (by decide) (by decide) (by decide) (by decide) (by decide) (by decide) (by decide)) (w49_7 102 (by decide) (by decide) (by decide) (by decide) (by decide) (by decide) (by decide) (by decide) (by decide)) (w49_7 107 (by decide) (by decide) (by decide) (by decide) (by decide) (by decide) (by decide) (by decide) (by decide)) (k' := 2) (d' := 1) (z' := 0) (by omega) (by omega) (by omega) (by omega)
          refine jr.aload_n rfl rfl ?_
          refine jr.dup rfl rfl ?_
          have e57 : M49 598 100 = v31 := ((w49_7 100 (by decide) (by decide) (by decide) (by decide) (by decide) (by decide) (by decide) (by decide) (by decide)).trans e55)
          refine jr.getf (i := 100) (x := v31) (v := .int (Int32.ofInt (v31))) rfl rfl (by decide) rfl (by decide) rfl rfl e57 rfl ?_
          refine jr.iconst rfl ?_
          refine jr.isub rfl ?_
          refine jr.putf (i := 100) (x := (v31 - 1)) rfl rfl (by decide) rfl (by decide) rfl rfl rfl rfl rfl ?_
          have e58 : M49 598 72 = v10 := ((w49_7 72 (by decide) (by decide) (by decide) (by decide) (by decide) (by decide) (by decide) (by decide) (by decide)).trans e51)
          have y59 : (ju M49 598 100 (v31 - 1)) 598 72 = v10 := ((ju_i _ _ (by decide)).trans e58)
          obtain ⟨v60, e60⟩ : ∃ z, M49 598 73 = z := ⟨_, rfl⟩
          have b60 : 0 ≤ v60 ∧ v60 ≤ 1600 := by rw [← e60]; exact hI_M49 598 73 (by decide)
          have y61 : (ju M49 598 100 (v31 - 1)) 598 73 = v60 := ((ju_i _ _ (by decide)).trans e60)
          obtain ⟨v62, e62⟩ : ∃ z, M49 598 74 = z := ⟨_, rfl⟩
          have b62 : 0 ≤ v62 ∧ v62 ≤ 4 := by rw [← e62]; exact hI_M49 598 74 (by decide)
          have y63 : (ju M49 598 100 (v31 - 1)) 598 74 = v62 := ((ju_i _ _ (by decide)).trans e62)
          obtain ⟨v64, e64⟩ : ∃ z, M49 598 79 = z := ⟨_, rfl⟩
          have b64 : 0 ≤ v64 ∧ v64 ≤ 255 := by rw [← e64]; exact hI_M49 598 79 (by decide)
          have y65 : (ju M49 598 100 (v31 - 1)) 598 79 = v64 := ((ju_i _ _ (by decide)).trans e64)
          obtain ⟨v66, e66⟩ : ∃ z, M49 598 80 = z := ⟨_, rfl⟩
          have b66 : 0 ≤ v66 ∧ v66 ≤ 7 := by rw [← e66]; exact hI_M49 598 80 (by decide)
          have y67 : (ju M49 598 100 (v31 - 1)) 598 80 = v66 := ((ju_i _ _ (by decide)).trans e66)
          have e68 : M49 598 89 = v13 := ((w49_7 89 (by decide) (by decide) (by decide) (by decide) (by decide) (by decide) (by decide) (by decide) (by decide)).trans e53)
          have y69 : (ju M49 598 100 (v31 - 1)) 598 89 = v13 := ((ju_i _ _ (by decide)).trans e68)
          have e70 : M38 598 90 = v27 + 1 := ((w38_6 90 (by decide) (by decide) (by decide) (by decide) (by decide) (by decide) (by decide)).trans (ju_same _ _ _ _))
          have e71 : M49 598 90 = v27 + 1 := ((w49_7 90 (by decide) (by decide) (by decide) (by decide) (by decide) (by decide) (by decide) (by decide) (by decide)).trans e70)
          have y72 : (ju M49 598 100 (v31 - 1)) 598 90 = v27 + 1 := ((ju_i _ _ (by decide)).trans e71)
          have y73 : (ju M49 598 100 (v31 - 1)) 598 100 = v31 - 1 := (ju_same _ _ _ _)
          have e74 : M38 598 107 = v33 := ((w38_6 107 (by decide) (by decide) (by decide) (by decide) (by decide) (by decide) (by decide)).trans ((ju_i _ _ (by decide)).trans ((ju_c _ _ (by decide)).trans ((ju_c _ _ (by decide)).trans e36))))
          have e75 : M49 598 107 = v33 := ((w49_7 107 (by decide) (by decide) (by decide) (by decide) (by decide) (by decide) (by decide) (by decide) (by decide)).trans e74)
          have y76 : (ju M49 598 100 (v31 - 1)) 598 107 = v33 := ((ju_i _ _ (by decide)).trans e75)
          have y77 : TK (ju M49 598 100 (v31 - 1)) = TK M49 := ((TK.o (Or.inr ⟨by decide, by decide⟩)).trans rfl)
          exact jr.vreturn rfl rfl (q _ (RI.u hI_M49 (a := 598) (i := 100) (show (0 : Int) ≤ _ ∧ _ ≤ (13 : Int) from by omega)) (RH.o hH_M49 (by decide) (by decide) (by decide)) (RF.o hS_M49 (by decide) (by decide))  (by by_cases hf : v66 = 0; (first | (exfalso; omega) | (exact Or.inr ⟨⟨by omega, ES.adj (ES.dep hE e57 (d' := 0) (by omega)) (k' := 0) (z' := 0) (by omega) (by omega) (by omega), by omega, by omega, by omega, by omega⟩, by omega⟩)); (exact Or.inl ⟨by omega, by omega⟩)) (by omega) (by omega) (by omega) (fun a i f598 f659 f660 => ((ju_c _ _ f598).trans ((w49_6 a i f598).trans ((w38_5 a i f598).trans ((ju_c _ _ f598).trans ((ju_c _ _ f660).trans ((ju_c _ _ f659).trans ((w17_8 a i f598).trans ((w8_5 a i f598).trans ((w1_4 a i f598).trans rfl)))))))))) (fun i g73 g74 g75 g76 g77 g78 g79 g80 g81 g89 g90 g100 => ((ju_i _ _ g100).trans ((w49_7 i g73 g74 g75 g76 g77 g78 g79 g80 g81).trans ((w38_6 i g73 g74 g75 g76 g77 g78 g79).trans ((ju_i _ _ g90).trans ((ju_c _ _ (by decide)).trans ((ju_c _ _ (by decide)).trans ((w17_9 i g73 g74 g75 g76 g77 g78 g79 g80 g81 g100).trans ((w8_6 i g73 g74 g75 g76 g77 g78 g79).trans ((w1_5 i g80 g81 g89).trans rfl)))))))))))
        · exfalso
          omega
      · refine jr.if_ne rfl rfl (by omega) (fun h => absurd h (by decide)) (fun _ => ?_)
        refine jr.aload_n rfl rfl ?_
        refine jr_v rfl rfl (Or.inl rfl) rfl rfl (by decide) rfl ⟨rfl, Nat.le_of_ble_eq_true rfl, Nat.le_of_ble_eq_true rfl⟩ rfl (jc.deep (r_wrongToken hI_M17 hH_M17 hS_M17    (fun M78 hI_M78 hH_M78 hS_M78  w78_0 w78_1 w78_2 => ?_)) (by decide))
        have tk78 : TK M78 = TK M17 := TK.fr (w78_2 73 (by decide) (by decide)) (w78_2 74 (by decide) (by decide))
        refine jr.aload_n rfl rfl ?_
        obtain ⟨v79, e79⟩ : ∃ z, M78 598 80 = z := ⟨_, rfl⟩
        have b79 : 0 ≤ v79 ∧ v79 ≤ 7 := by rw [← e79]; exact hI_M78 598 80 (by decide)
        refine jr_v rfl rfl (Or.inl rfl) rfl rfl (by decide) rfl ⟨rfl, Nat.le_of_ble_eq_true rfl, Nat.le_of_ble_eq_true rfl⟩ rfl (jc.deep (c_good hI_M78  (fun t44_0 => ?_) (fun f44_0 => ?_)) (by decide))
        · exfalso
          omega
        · refine jr.if_ne rfl rfl (by omega) (fun h => absurd h (by decide)) (fun _ => ?_)
          have e80 : M17 598 72 = v10 := ((w17_9 72 (by decide) (by decide) (by decide) (by decide) (by decide) (by decide) (by decide) (by decide) (by decide) (by decide)).trans e19)
          have e81 : M78 598 72 = v10 := ((w78_2 72 (by decide) (by decide)).trans e80)
          have y82 : M78 598 72 = v10 := e81
          obtain ⟨v83, e83⟩ : ∃ z, M17 598 73 = z := ⟨_, rfl⟩
          have b83 : 0 ≤ v83 ∧ v83 ≤ 1600 := by rw [← e83]; exact hI_M17 598 73 (by decide)
          have e84 : M78 598 73 = v83 := ((w78_2 73 (by decide) (by decide)).trans e83)
          have y85 : M78 598 73 = v83 := e84
          obtain ⟨v86, e86⟩ : ∃ z, M17 598 74 = z := ⟨_, rfl⟩
          have b86 : 0 ≤ v86 ∧ v86 ≤ 4 := by rw [← e86]; exact hI_M17 598 74 (by decide)
          have e87 : M78 598 74 = v86 := ((w78_2 74 (by decide) (by decide)).trans e86)
          have y88 : M78 598 74 = v86 := e87
          obtain ⟨v89, e89⟩ : ∃ z, M17 598 79 = z := ⟨_, rfl⟩
          have b89 : 0 ≤ v89 ∧ v89 ≤ 255 := by rw [← e89]; exact hI_M17 598 79 (by decide)
          have e90 : M78 598 79 = v89 := ((w78_2 79 (by decide) (by decide)).trans e89)
          have y91 : M78 598 79 = v89 := e90
          have y92 : M78 598 80 = v79 := e79
          have e93 : M8 598 89 = v13 := ((w8_6 89 (by decide) (by decide) (by decide) (by decide) (by decide) (by decide) (by decide)).trans e13)
          have e94 : M17 598 89 = v13 := ((w17_9 89 (by decide) (by decide) (by decide) (by decide) (by decide) (by decide) (by decide) (by decide) (by decide) (by decide)).trans e93)
          have e95 : M78 598 89 = v13 := ((w78_2 89 (by decide) (by decide)).trans e94)
          have y96 : M78 598 89 = v13 := e95
          obtain ⟨v97, e97⟩ : ∃ z, M 598 90 = z := ⟨_, rfl⟩
          have b97 : 0 ≤ v97 ∧ v97 ≤ 2200 := by rw [← e97]; exact hI_M 598 90 (by decide)
          have e98 : M1 598 90 = v97 := ((w1_5 90 (by decide) (by decide) (by decide)).trans e97)
          have e99 : M8 598 90 = v97 := ((w8_6 90 (by decide) (by decide) (by decide) (by decide) (by decide) (by decide) (by decide)).trans e98)
          have e100 : M17 598 90 = v97 := ((w17_9 90 (by decide) (by decide) (by decide) (by decide) (by decide) (by decide) (by decide) (by decide) (by decide) (by decide)).trans e99)
          have e101 : M78 598 90 = v97 := ((w78_2 90 (by decide) (by decide)).trans e100)
          have y102 : M78 598 90 = v97 := e101
          obtain ⟨v103, e103⟩ : ∃ z, M17 598 100 = z := ⟨_, rfl⟩
          have b103 : 0 ≤ v103 ∧ v103 ≤ 13 := by rw [← e103]; exact hI_M17 598 100 (by decide)
          have e104 : M78 598 100 = v103 := ((w78_2 100 (by decide) (by decide)).trans e103)
          have y105 : M78 598 100 = v103 := e104
          obtain ⟨v106, e106⟩ : ∃ z, M 598 107 = z := ⟨_, rfl⟩
          have b106 : 0 ≤ v106 ∧ v106 ≤ 16 := by rw [← e106]; exact hI_M 598 107 (by decide)
          have e107 : M1 598 107 = v106 := ((w1_5 107 (by decide) (by decide) (by decide)).trans e106)
          have e108 : M8 598 107 = v106 := ((w8_6 107 (by decide) (by decide) (by decide) (by decide) (by decide) (by decide) (by decide)).trans e107)
          have e109 : M17 598 107 = v106 := ((w17_9 107 (by decide) (by decide) (by decide) (by decide) (by decide) (by decide) (by decide) (by decide) (by decide) (by decide)).trans e108)
          have e110 : M78 598 107 = v106 := ((w78_2 107 (by decide) (by decide)).trans e109)
          have y111 : M78 598 107 = v106 := e110
          exact jr.vreturn rfl rfl (q _ hI_M78 hH_M78 hS_M78  (by by_cases hf : v79 = 0; (first | (exfalso; omega) | (exact Or.inr ⟨⟨by omega, ES.adj hE (k' := 0) (z' := 0) (by omega) (by omega) (by omega), by omega, by omega, by omega, by omega⟩, by omega⟩)); (exact Or.inl ⟨by omega, by omega⟩)) (by omega) (by omega) (by omega) (fun a i f598 f659 f660 => ((w78_1 a i f598).trans ((w17_8 a i f598).trans ((w8_5 a i f598).trans ((w1_4 a i f598).trans rfl))))) (fun i g73 g74 g75 g76 g77 g78 g79 g80 g81 g89 g90 g100 => ((w78_2 i g80 g81).trans ((w17_9 i g73 g74 g75 g76 g77 g78 g79 g80 g81 g100).trans ((w8_6 i g73 g74 g75 g76 g77 g78 g79).trans ((w1_5 i g80 g81 g89).trans rfl))))))
    · refine jr.if_eq rfl rfl (by omega) (fun _ => ?_) (fun h => absurd (by decide) h)
      refine jr.aload_n rfl rfl ?_
      obtain ⟨v112, e112⟩ : ∃ z, M17 598 80 = z := ⟨_, rfl⟩
      have b112 : 0 ≤ v112 ∧ v112 ≤ 7 := by rw [← e112]; exact hI_M17 598 80 (by decide)
      refine jr_v rfl rfl (Or.inl rfl) rfl rfl (by decide) rfl ⟨rfl, Nat.le_of_ble_eq_true rfl, Nat.le_of_ble_eq_true rfl⟩ rfl (jc.deep (c_good hI_M17  (fun t44_0 => ?_) (fun f44_0 => ?_)) (by decide))
      · exfalso
        omega
      · refine jr.if_ne rfl rfl (by omega) (fun h => absurd h (by decide)) (fun _ => ?_)
        have e113 : M17 598 72 = v10 := ((w17_9 72 (by decide) (by decide) (by decide) (by decide) (by decide) (by decide) (by decide) (by decide) (by decide) (by decide)).trans e19)
        have y114 : M17 598 72 = v10 := e113
        obtain ⟨v115, e115⟩ : ∃ z, M17 598 73 = z := ⟨_, rfl⟩
        have b115 : 0 ≤ v115 ∧ v115 ≤ 1600 := by rw [← e115]; exact hI_M17 598 73 (by decide)
        have y116 : M17 598 73 = v115 := e115
        obtain ⟨v117, e117⟩ : ∃ z, M17 598 74 = z := ⟨_, rfl⟩
        have b117 : 0 ≤ v117 ∧ v117 ≤ 4 := by rw [← e117]; exact hI_M17 598 74 (by decide)
        have y118 : M17 598 74 = v117 := e117
        obtain ⟨v119, e119⟩ : ∃ z, M17 598 79 = z := ⟨_, rfl⟩
        have b119 : 0 ≤ v119 ∧ v119 ≤ 255 := by rw [← e119]; exact hI_M17 598 79 (by decide)
        have y120 : M17 598 79 = v119 := e119
        have y121 : M17 598 80 = v112 := e112
        have e122 : M8 598 89 = v13 := ((w8_6 89 (by decide) (by decide) (by decide) (by decide) (by decide) (by decide) (by decide)).trans e13)
        have e123 : M17 598 89 = v13 := ((w17_9 89 (by decide) (by decide) (by decide) (by decide) (by decide) (by decide) (by decide) (by decide) (by decide) (by decide)).trans e122)
        have y124 : M17 598 89 = v13 := e123
        obtain ⟨v125, e125⟩ : ∃ z, M 598 90 = z := ⟨_, rfl⟩
        have b125 : 0 ≤ v125 ∧ v125 ≤ 2200 := by rw [← e125]; exact hI_M 598 90 (by decide)
        have e126 : M1 598 90 = v125 := ((w1_5 90 (by decide) (by decide) (by decide)).trans e125)
        have e127 : M8 598 90 = v125 := ((w8_6 90 (by decide) (by decide) (by decide) (by decide) (by decide) (by decide) (by decide)).trans e126)
        have e128 : M17 598 90 = v125 := ((w17_9 90 (by decide) (by decide) (by decide) (by decide) (by decide) (by decide) (by decide) (by decide) (by decide) (by decide)).trans e127)
        have y129 : M17 598 90 = v125 := e128
        obtain ⟨v130, e130⟩ : ∃ z, M17 598 100 = z := ⟨_, rfl⟩
        have b130 : 0 ≤ v130 ∧ v130 ≤ 13 := by rw [← e130]; exact hI_M17 598 100 (by decide)
        have y131 : M17 598 100 = v130 := e130
        obtain ⟨v132, e132⟩ : ∃ z, M 598 107 = z := ⟨_, rfl⟩
        have b132 : 0 ≤ v132 ∧ v132 ≤ 16 := by rw [← e132]; exact hI_M 598 107 (by decide)
        have e133 : M1 598 107 = v132 := ((w1_5 107 (by decide) (by decide) (by decide)).trans e132)
        have e134 : M8 598 107 = v132 := ((w8_6 107 (by decide) (by decide) (by decide) (by decide) (by decide) (by decide) (by decide)).trans e133)
        have e135 : M17 598 107 = v132 := ((w17_9 107 (by decide) (by decide) (by decide) (by decide) (by decide) (by decide) (by decide) (by decide) (by decide) (by decide)).trans e134)
        have y136 : M17 598 107 = v132 := e135
        exact jr.vreturn rfl rfl (q _ hI_M17 hH_M17 hS_M17  (by by_cases hf : v112 = 0; (first | (exfalso; omega) | (exact Or.inr ⟨⟨by omega, ES.adj hE (k' := 0) (z' := 0) (by omega) (by omega) (by omega), by omega, by omega, by omega, by omega⟩, by omega⟩)); (exact Or.inl ⟨by omega, by omega⟩)) (by omega) (by omega) (by omega) (fun a i f598 f659 f660 => ((w17_8 a i f598).trans ((w8_5 a i f598).trans ((w1_4 a i f598).trans rfl)))) (fun i g73 g74 g75 g76 g77 g78 g79 g80 g81 g89 g90 g100 => ((w17_9 i g73 g74 g75 g76 g77 g78 g79 g80 g81 g100).trans ((w8_6 i g73 g74 g75 g76 g77 g78 g79).trans ((w1_5 i g80 g81 g89).trans rfl)))))
  · refine jr.if_eq rfl rfl (by omega) (fun _ => ?_) (fun h => absurd (by decide) h)
    refine jr.aload_n rfl rfl ?_
    refine jr.bipush rfl (by decide) ?_
    have e138 : M1 598 73 = v3 := ((w1_5 73 (by decide) (by decide) (by decide)).trans e3)
    obtain ⟨v139, e139⟩ : ∃ z, M 598 72 = z := ⟨_, rfl⟩
    have b139 : 0 ≤ v139 ∧ v139 ≤ 1600 := by rw [← e139]; exact hI_M 598 72 (by decide)
    have e140 : M1 598 72 = v139 := ((w1_5 72 (by decide) (by decide) (by decide)).trans e139)
    have e141 : M1 598 100 = v6 := ((w1_5 100 (by decide) (by decide) (by decide)).trans e6)
    refine jr_v rfl rfl (Or.inl rfl) rfl rfl (by decide) rfl ⟨rfl, Nat.le_of_ble_eq_true rfl, Nat.le_of_ble_eq_true rfl⟩ rfl (jc.deep (r_wantDeeper hI_M1 hH_M1 hS_M1  (by omega) (by rw [e138, e140]; omega) (by rw [e141]; omega) (fun M137 hI_M137 hH_M137 hS_M137  w137_0 w137_1 w137_2 w137_3 w137_4 w137_5 w137_6 w137_7 w137_8 w137_9 => ?_)) (by decide))
    refine jr.aload_n rfl rfl ?_
    obtain ⟨v143, e143⟩ : ∃ z, M1 598 89 = z := ⟨_, rfl⟩
    have b143 : 0 ≤ v143 ∧ v143 ≤ 301 := by rw [← e143]; exact hI_M1 598 89 (by decide)
    obtain ⟨v146, e146⟩ : ∃ z, M137 598 80 = z := ⟨_, rfl⟩
    have b146 : 0 ≤ v146 ∧ v146 ≤ 7 := by rw [← e146]; exact hI_M137 598 80 (by decide)
    refine jr_v rfl rfl (Or.inl rfl) rfl rfl (by decide) rfl ⟨rfl, Nat.le_of_ble_eq_true rfl, Nat.le_of_ble_eq_true rfl⟩ rfl (jc.deep (c_good hI_M137  (fun t22_0 => ?_) (fun f22_0 => ?_)) (by decide))
    · exfalso
      omega
    · refine jr.if_eq rfl rfl (by omega) (fun _ => ?_) (fun h => absurd (by decide) h)
      refine jr.aload_n rfl rfl ?_
      refine jr_v rfl rfl (Or.inl rfl) rfl rfl (by decide) rfl ⟨rfl, Nat.le_of_ble_eq_true rfl, Nat.le_of_ble_eq_true rfl⟩ rfl (jc.deep (c_good hI_M137  (fun t44_0 => ?_) (fun f44_0 => ?_)) (by decide))
      · exfalso
        omega
      · refine jr.if_ne rfl rfl (by omega) (fun h => absurd h (by decide)) (fun _ => ?_)
        have e147 : M137 598 72 = v139 := ((w137_9 72 (by decide) (by decide) (by decide) (by decide) (by decide) (by decide) (by decide) (by decide) (by decide) (by decide)).trans e140)
        have y148 : M137 598 72 = v139 := e147
        obtain ⟨v149, e149⟩ : ∃ z, M137 598 73 = z := ⟨_, rfl⟩
        have b149 : 0 ≤ v149 ∧ v149 ≤ 1600 := by rw [← e149]; exact hI_M137 598 73 (by decide)
        have y150 : M137 598 73 = v149 := e149
        obtain ⟨v151, e151⟩ : ∃ z, M137 598 74 = z := ⟨_, rfl⟩
        have b151 : 0 ≤ v151 ∧ v151 ≤ 4 := by rw [← e151]; exact hI_M137 598 74 (by decide)
        have y152 : M137 598 74 = v151 := e151
        obtain ⟨v153, e153⟩ : ∃ z, M137 598 79 = z := ⟨_, rfl⟩
        have b153 : 0 ≤ v153 ∧ v153 ≤ 255 := by rw [← e153]; exact hI_M137 598 79 (by decide)
        have y154 : M137 598 79 = v153 := e153
        have y155 : M137 598 80 = v146 := e146
        obtain ⟨v156, e156⟩ : ∃ z, M1 598 89 = z := ⟨_, rfl⟩
        have b156 : 0 ≤ v156 ∧ v156 ≤ 301 := by rw [← e156]; exact hI_M1 598 89 (by decide)
        have e157 : M137 598 89 = v156 := ((w137_9 89 (by decide) (by decide) (by decide) (by decide) (by decide) (by decide) (by decide) (by decide) (by decide) (by decide)).trans e156)
        have y158 : M137 598 89 = v156 := e157
        obtain ⟨v159, e159⟩ : ∃ z, M 598 90 = z := ⟨_, rfl⟩
        have b159 : 0 ≤ v159 ∧ v159 ≤ 2200 := by rw [← e159]; exact hI_M 598 90 (by decide)
        have e160 : M1 598 90 = v159 := ((w1_5 90 (by decide) (by decide) (by decide)).trans e159)
        have e161 : M137 598 90 = v159 := ((w137_9 90 (by decide) (by decide) (by decide) (by decide) (by decide) (by decide) (by decide) (by decide) (by decide) (by decide)).trans e160)
        have y162 : M137 598 90 = v159 := e161
        obtain ⟨v163, e163⟩ : ∃ z, M137 598 100 = z := ⟨_, rfl⟩
        have b163 : 0 ≤ v163 ∧ v163 ≤ 13 := by rw [← e163]; exact hI_M137 598 100 (by decide)
        have y164 : M137 598 100 = v163 := e163
        obtain ⟨v165, e165⟩ : ∃ z, M 598 107 = z := ⟨_, rfl⟩
        have b165 : 0 ≤ v165 ∧ v165 ≤ 16 := by rw [← e165]; exact hI_M 598 107 (by decide)
        have e166 : M1 598 107 = v165 := ((w1_5 107 (by decide) (by decide) (by decide)).trans e165)
        have e167 : M137 598 107 = v165 := ((w137_9 107 (by decide) (by decide) (by decide) (by decide) (by decide) (by decide) (by decide) (by decide) (by decide) (by decide)).trans e166)
        have y168 : M137 598 107 = v165 := e167
        exact jr.vreturn rfl rfl (q _ hI_M137 hH_M137 hS_M137  (by by_cases hf : v146 = 0; (first | (exfalso; omega) | (exact Or.inr ⟨⟨by omega, ES.adj hE (k' := 0) (z' := 0) (by omega) (by omega) (by omega), by omega, by omega, by omega, by omega⟩, by omega⟩)); (exact Or.inl ⟨by omega, by omega⟩)) (by omega) (by omega) (by omega) (fun a i f598 f659 f660 => ((w137_8 a i f598).trans ((w1_4 a i f598).trans rfl))) (fun i g73 g74 g75 g76 g77 g78 g79 g80 g81 g89 g90 g100 => ((w137_9 i g73 g74 g75 g76 g77 g78 g79 g80 g81 g100).trans ((w1_5 i g80 g81 g89).trans rfl))))
theorem r_takeOperand {A : Nat → Option (Nat × (Nat → Int32))} {Q : Option Value → jm → Prop} {b : Int} {M : jm} (hI_M : RI M) (hH_M : RH M) (hS_M : RF M) (p0 : GS M b 0) (q : ∀ (r : Int) (M' : jm), RI M' → RH M' → RF M' → 0 ≤ r ∧ r ≤ 1 → (BS M' ∨ (GS M' b r ∧ TK M' < TK M)) → TK M' ≤ TK M → M' 598 73 ≤ M' 598 72 → (M' 598 80 ≠ 0 ∨ TK M' < TK M) → (∀ (a : Nat) (i : Int), a ≠ 598 → a ≠ 659 → a ≠ 660 → a ≠ 664 → a ≠ 666 → a ≠ 667 → M' a i = M a i) → (∀ (i : Int), i ≠ 73 → i ≠ 74 → i ≠ 75 → i ≠ 76 → i ≠ 77 → i ≠ 78 → i ≠ 79 → i ≠ 80 → i ≠ 81 → i ≠ 89 → i ≠ 90 → i ≠ 100 → i ≠ 102 → M' 598 i = M 598 i) → Q (some (.int (Int32.ofInt r))) M') : jc A 6 360 [.ref (598)] M Q := by
  obtain ⟨gs1, gs2, gs3, gs4, gs5, gs6⟩ := id p0
  have hE := gs2
  have sl := ES.sgle gs2
  have b107 : (0 : Int) ≤ M 598 107 ∧ M 598 107 ≤ 16 := hI_M 598 107 (by decide)
  have b73 : (0 : Int) ≤ M 598 73 ∧ M 598 73 ≤ 1600 := hI_M 598 73 (by decide)
  have b88 : (0 : Int) ≤ M 598 88 ∧ M 598 88 ≤ 16 := hI_M 598 88 (by decide)
  have b100 : (0 : Int) ≤ M 598 100 ∧ M 598 100 ≤ 13 := hI_M 598 100 (by decide)
  refine jc_of (m := xm_360) rfl (Nat.le_of_ble_eq_true rfl) rfl ?_
  refine jr.aload_n rfl rfl ?_
  refine jr.bipush rfl (by decide) ?_
  refine jr_v rfl rfl (Or.inl rfl) rfl rfl (by decide) rfl ⟨rfl, Nat.le_of_ble_eq_true rfl, Nat.le_of_ble_eq_true rfl⟩ rfl (jc.deep (c_isSign hI_M (by omega) (fun t3_0 t3_1 => ?_) (fun f3_0 => ?_)) (by decide))
  · refine jr.if_ne rfl rfl (by omega) (fun _ => ?_) (fun h => absurd (by decide) h)
    refine jr.aload_n rfl rfl ?_
    obtain ⟨v2, e2⟩ : ∃ z, M 598 89 = z := ⟨_, rfl⟩
    have b2 : 0 ≤ v2 ∧ v2 ≤ 301 := by rw [← e2]; exact hI_M 598 89 (by decide)
    obtain ⟨v3, e3⟩ : ∃ z, M 598 73 = z := ⟨_, rfl⟩
    have b3 : 0 ≤ v3 ∧ v3 ≤ 1600 := by rw [← e3]; exact hI_M 598 73 (by decide)
    obtain ⟨v6, e6⟩ : ∃ z, M 598 100 = z := ⟨_, rfl⟩
    have b6 : 0 ≤ v6 ∧ v6 ≤ 13 := by rw [← e6]; exact hI_M 598 100 (by decide)
    refine jr_v rfl rfl (Or.inl rfl) rfl rfl (by decide) rfl ⟨rfl, Nat.le_of_ble_eq_true rfl, Nat.le_of_ble_eq_true rfl⟩ rfl (jc.deep (r_node hI_M hH_M hS_M   (by rw [e2]; omega) (fun M1 hI_M1 hH_M1 hS_M1  w1_0 w1_1 w1_2 w1_3 w1_4 w1_5 => ?_)) (by decide))
    have tk1 : TK M1 = TK M := TK.fr (w1_5 73 (by decide) (by decide) (by decide)) (w1_5 74 (by decide) (by decide) (by decide))
    have y4 : M 598 73 = v3 := e3
    have y5 : M 598 89 = v2 := e2
    have y7 : M 598 100 = v6 := e6
    have x1_73 := w1_5 73 (by decide) (by decide) (by decide)
    have x1_100 := w1_5 100 (by decide) (by decide) (by decide)
    have hE := ES.fr2 hE w1_4 (w1_5 88 (by decide) (by decide) (by decide)) (w1_5 90 (by decide) (by decide) (by decide)) (w1_5 101 (by decide) (by decide) (by decide)) (w1_5 102 (by decide) (by decide) (by decide)) (w1_5 107 (by decide) (by decide) (by decide)) (k' := 4) (d' := 0) (z' := 0) (by omega) (by omega) (by omega) (by omega)
    refine jr.aload_n rfl rfl ?_
    refine jr.aload_n rfl rfl ?_
    refine jr.bipush rfl (by decide) ?_
    refine jr_v rfl rfl (Or.inl rfl) rfl rfl (by decide) rfl ⟨rfl, Nat.le_of_ble_eq_true rfl, Nat.le_of_ble_eq_true rfl⟩ rfl (jc.deep (c_isSign hI_M1 (by omega) (fun t26_0 t26_1 => ?_) (fun f26_0 => ?_)) (by decide))
    · refine jr.if_eq rfl rfl (by omega) (fun h => absurd h (by decide)) (fun _ => ?_)
      refine jr.bipush rfl (by decide) ?_
      refine jr.goto rfl rfl ?_
      refine jr.iconst rfl ?_
      obtain ⟨v8, e8⟩ : ∃ z, M 598 102 = z := ⟨_, rfl⟩
      have b8 : 0 ≤ v8 ∧ v8 ≤ 400 := by rw [← e8]; exact hI_M 598 102 (by decide)
      have e9 : M1 598 102 = v8 := ((w1_5 102 (by decide) (by decide) (by decide)).trans e8)
      refine jr_v rfl rfl (Or.inl rfl) rfl rfl (by decide) rfl ⟨rfl, Nat.le_of_ble_eq_true rfl, Nat.le_of_ble_eq_true rfl⟩ rfl (jc.deep (r_push e9 (by omega) (by omega) (by omega) ?_) (by decide))
      have hE := ES.deep hE e9 10 (-1) 1 2 (by omega) (by omega) (by omega)
      refine jr.aload_n rfl rfl ?_
      refine jr_v rfl rfl (Or.inl rfl) rfl rfl (by decide) rfl ⟨rfl, Nat.le_of_ble_eq_true rfl, Nat.le_of_ble_eq_true rfl⟩ rfl (jc.deep (c_good (RI.u (RI.u (RI.u (RI.u hI_M1 (a := 664) (i := v8) (by rw [xri_row rfl rfl]; show (0 : Int) ≤ _ ∧ _ ≤ (255 : Int); omega)) (a := 666) (i := v8) (by rw [xri_row rfl rfl]; show (-1 : Int) ≤ _ ∧ _ ≤ (68 : Int); omega)) (a := 667) (i := v8) (by rw [xri_row rfl rfl]; show (0 : Int) ≤ _ ∧ _ ≤ (4 : Int); omega)) (a := 598) (i := 102) (show (0 : Int) ≤ _ ∧ _ ≤ (400 : Int) from by omega))  (fun t44_0 => ?_) (fun f44_0 => ?_)) (by decide))
      · refine jr.if_eq rfl rfl (by omega) (fun h => absurd h (by decide)) (fun _ => ?_)
        refine jr.aload_n rfl rfl ?_
        have e11 : M1 598 73 = v3 := ((w1_5 73 (by decide) (by decide) (by decide)).trans e3)
        obtain ⟨v12, e12⟩ : ∃ z, M 598 72 = z := ⟨_, rfl⟩
        have b12 : 0 ≤ v12 ∧ v12 ≤ 1600 := by rw [← e12]; exact hI_M 598 72 (by decide)
        have e13 : M1 598 72 = v12 := ((w1_5 72 (by decide) (by decide) (by decide)).trans e12)
        have e14 : M1 598 100 = v6 := ((w1_5 100 (by decide) (by decide) (by decide)).trans e6)
        obtain ⟨v16, e16⟩ : ∃ z, M1 598 89 = z := ⟨_, rfl⟩
        have b16 : 0 ≤ v16 ∧ v16 ≤ 301 := by rw [← e16]; exact hI_M1 598 89 (by decide)
        obtain ⟨v20, e20⟩ : ∃ z, M 598 74 = z := ⟨_, rfl⟩
        have b20 : 0 ≤ v20 ∧ v20 ≤ 4 := by rw [← e20]; exact hI_M 598 74 (by decide)
        have e21 : M1 598 74 = v20 := ((w1_5 74 (by decide) (by decide) (by decide)).trans e20)
        obtain ⟨v23, e23⟩ : ∃ z, M 598 79 = z := ⟨_, rfl⟩
        have b23 : 0 ≤ v23 ∧ v23 ≤ 255 := by rw [← e23]; exact hI_M 598 79 (by decide)
        have e24 : M1 598 79 = v23 := ((w1_5 79 (by decide) (by decide) (by decide)).trans e23)
        obtain ⟨v26, e26⟩ : ∃ z, M1 598 80 = z := ⟨_, rfl⟩
        have b26 : 0 ≤ v26 ∧ v26 ≤ 7 := by rw [← e26]; exact hI_M1 598 80 (by decide)
        refine jr_v rfl rfl (Or.inl rfl) rfl rfl (by decide) rfl ⟨rfl, Nat.le_of_ble_eq_true rfl, Nat.le_of_ble_eq_true rfl⟩ rfl (jc.deep (r_deeper (RI.u (RI.u (RI.u (RI.u hI_M1 (a := 664) (i := v8) (by rw [xri_row rfl rfl]; show (0 : Int) ≤ _ ∧ _ ≤ (255 : Int); omega)) (a := 666) (i := v8) (by rw [xri_row rfl rfl]; show (-1 : Int) ≤ _ ∧ _ ≤ (68 : Int); omega)) (a := 667) (i := v8) (by rw [xri_row rfl rfl]; show (0 : Int) ≤ _ ∧ _ ≤ (4 : Int); omega)) (a := 598) (i := 102) (show (0 : Int) ≤ _ ∧ _ ≤ (400 : Int) from by omega)) (RH.o (RH.o (RH.o (RH.o hH_M1 (by decide) (by decide) (by decide)) (by decide) (by decide) (by decide)) (by decide) (by decide) (by decide)) (by decide) (by decide) (by decide)) (RF.o (RF.o (RF.o (RF.o hS_M1 (by decide) (by decide)) (by decide) (by decide)) (by decide) (by decide)) (by decide) (by decide))   (by rw [((ju_i _ _ (by decide)).trans ((ju_c _ _ (by decide)).trans ((ju_c _ _ (by decide)).trans ((ju_c _ _ (by decide)).trans e11)))), ((ju_i _ _ (by decide)).trans ((ju_c _ _ (by decide)).trans ((ju_c _ _ (by decide)).trans ((ju_c _ _ (by decide)).trans e13))))]; omega) (by rw [((ju_i _ _ (by decide)).trans ((ju_c _ _ (by decide)).trans ((ju_c _ _ (by decide)).trans ((ju_c _ _ (by decide)).trans e14))))]; omega) (fun M10 hI_M10 hH_M10 hS_M10  w10_0 w10_1 w10_2 w10_3 w10_4 w10_5 w10_6 w10_7 w10_8 w10_9 => ?_)) (by decide))
        have y19 : (ju (ju (ju (ju M1 664 v8 10) 666 v8 (-1)) 667 v8 1) 598 102 (v8 + 1)) 598 73 = v3 := ((ju_i _ _ (by decide)).trans ((ju_c _ _ (by decide)).trans ((ju_c _ _ (by decide)).trans ((ju_c _ _ (by decide)).trans e11))))
        have y22 : (ju (ju (ju (ju M1 664 v8 10) 666 v8 (-1)) 667 v8 1) 598 102 (v8 + 1)) 598 74 = v20 := ((ju_i _ _ (by decide)).trans ((ju_c _ _ (by decide)).trans ((ju_c _ _ (by decide)).trans ((ju_c _ _ (by decide)).trans e21))))
        have y25 : (ju (ju (ju (ju M1 664 v8 10) 666 v8 (-1)) 667 v8 1) 598 102 (v8 + 1)) 598 79 = v23 := ((ju_i _ _ (by decide)).trans ((ju_c _ _ (by decide)).trans ((ju_c _ _ (by decide)).trans ((ju_c _ _ (by decide)).trans e24))))
        have y27 : (ju (ju (ju (ju M1 664 v8 10) 666 v8 (-1)) 667 v8 1) 598 102 (v8 + 1)) 598 80 = v26 := ((ju_i _ _ (by decide)).trans ((ju_c _ _ (by decide)).trans ((ju_c _ _ (by decide)).trans ((ju_c _ _ (by decide)).trans e26))))
        have y28 : (ju (ju (ju (ju M1 664 v8 10) 666 v8 (-1)) 667 v8 1) 598 102 (v8 + 1)) 598 100 = v6 := ((ju_i _ _ (by decide)).trans ((ju_c _ _ (by decide)).trans ((ju_c _ _ (by decide)).trans ((ju_c _ _ (by decide)).trans e14))))
        have tb10 : TK (ju (ju (ju (ju M1 664 v8 10) 666 v8 (-1)) 667 v8 1) 598 102 (v8 + 1)) = TK M1 := ((TK.o (Or.inr ⟨by decide, by decide⟩)).trans ((TK.o (Or.inl (by decide))).trans ((TK.o (Or.inl (by decide))).trans ((TK.o (Or.inl (by decide))).trans rfl))))
        have y15 : (ju (ju (ju (ju M1 664 v8 10) 666 v8 (-1)) 667 v8 1) 598 102 (v8 + 1)) 598 73 = v3 := ((ju_i _ _ (by decide)).trans ((ju_c _ _ (by decide)).trans ((ju_c _ _ (by decide)).trans ((ju_c _ _ (by decide)).trans e11))))
        have y17 : (ju (ju (ju (ju M1 664 v8 10) 666 v8 (-1)) 667 v8 1) 598 102 (v8 + 1)) 598 89 = v16 := ((ju_i _ _ (by decide)).trans ((ju_c _ _ (by decide)).trans ((ju_c _ _ (by decide)).trans ((ju_c _ _ (by decide)).trans e16))))
        have y18 : (ju (ju (ju (ju M1 664 v8 10) 666 v8 (-1)) 667 v8 1) 598 102 (v8 + 1)) 598 100 = v6 := ((ju_i _ _ (by decide)).trans ((ju_c _ _ (by decide)).trans ((ju_c _ _ (by decide)).trans ((ju_c _ _ (by decide)).trans e14))))
        have x10_89 := w10_9 89 (by decide) (by decide) (by decide) (by decide) (by decide) (by decide) (by decide) (by decide) (by decide) (by decide)
        have hE := ES.fr2 hE w10_8 (w10_9 88 (by decide) (by decide) (by decide) (by decide) (by decide) (by decide) (by decide) (by decide) (by decide) (by decide)) (w10_9 90 (by decide) (by decide) (by decide) (by decide) (by decide) (by decide) (by decide) (by decide) (by decide) (by decide)) (w10_9 101 (by decide) (by decide) (by decide) (by decide) (by decide) (by decide) (by decide) (by decide) (by decide) (by decide)) (w10_9 102 (by decide) (by decide) (by decide) (by decide) (by decide) (by decide) (by decide) (by decide) (by decide) (by decide)) (w10_9 107 (by decide) (by decide) (by decide) (by decide) (by decide) (by decide) (by decide) (by decide) (by decide) (by decide)) (k' := 2) (d' := 0) (z' := 0) (by omega) (by omega) (by omega) (by omega)
        refine jr.iconst rfl ?_
        have e29 : M10 598 72 = v12 := ((w10_9 72 (by decide) (by decide) (by decide) (by decide) (by decide) (by decide) (by decide) (by decide) (by decide) (by decide)).trans ((ju_i _ _ (by decide)).trans ((ju_c _ _ (by decide)).trans ((ju_c _ _ (by decide)).trans ((ju_c _ _ (by decide)).trans e13)))))
        have y30 : M10 598 72 = v12 := e29
        obtain ⟨v31, e31⟩ : ∃ z, M10 598 73 = z := ⟨_, rfl⟩
        have b31 : 0 ≤ v31 ∧ v31 ≤ 1600 := by rw [← e31]; exact hI_M10 598 73 (by decide)
        have y32 : M10 598 73 = v31 := e31
        obtain ⟨v33, e33⟩ : ∃ z, M10 598 74 = z := ⟨_, rfl⟩
        have b33 : 0 ≤ v33 ∧ v33 ≤ 4 := by rw [← e33]; exact hI_M10 598 74 (by decide)
        have y34 : M10 598 74 = v33 := e33
        obtain ⟨v35, e35⟩ : ∃ z, M10 598 79 = z := ⟨_, rfl⟩
        have b35 : 0 ≤ v35 ∧ v35 ≤ 255 := by rw [← e35]; exact hI_M10 598 79 (by decide)
        have y36 : M10 598 79 = v35 := e35
        obtain ⟨v37, e37⟩ : ∃ z, M10 598 80 = z := ⟨_, rfl⟩
        have b37 : 0 ≤ v37 ∧ v37 ≤ 7 := by rw [← e37]; exact hI_M10 598 80 (by decide)
        have y38 : M10 598 80 = v37 := e37
        have e39 : M10 598 89 = v16 := ((w10_9 89 (by decide) (by decide) (by decide) (by decide) (by decide) (by decide) (by decide) (by decide) (by decide) (by decide)).trans ((ju_i _ _ (by decide)).trans ((ju_c _ _ (by decide)).trans ((ju_c _ _ (by decide)).trans ((ju_c _ _ (by decide)).trans e16)))))
        have y40 : M10 598 89 = v16 := e39
        obtain ⟨v41, e41⟩ : ∃ z, M 598 90 = z := ⟨_, rfl⟩
        have b41 : 0 ≤ v41 ∧ v41 ≤ 2200 := by rw [← e41]; exact hI_M 598 90 (by decide)
        have e42 : M1 598 90 = v41 := ((w1_5 90 (by decide) (by decide) (by decide)).trans e41)
        have e43 : M10 598 90 = v41 := ((w10_9 90 (by decide) (by decide) (by decide) (by decide) (by decide) (by decide) (by decide) (by decide) (by decide) (by decide)).trans ((ju_i _ _ (by decide)).trans ((ju_c _ _ (by decide)).trans ((ju_c _ _ (by decide)).trans ((ju_c _ _ (by decide)).trans e42)))))
        have y44 : M10 598 90 = v41 := e43
        obtain ⟨v45, e45⟩ : ∃ z, M10 598 100 = z := ⟨_, rfl⟩
        have b45 : 0 ≤ v45 ∧ v45 ≤ 13 := by rw [← e45]; exact hI_M10 598 100 (by decide)
        have y46 : M10 598 100 = v45 := e45
        obtain ⟨v47, e47⟩ : ∃ z, M 598 107 = z := ⟨_, rfl⟩
        have b47 : 0 ≤ v47 ∧ v47 ≤ 16 := by rw [← e47]; exact hI_M 598 107 (by decide)
        have e48 : M1 598 107 = v47 := ((w1_5 107 (by decide) (by decide) (by decide)).trans e47)
        have e49 : M10 598 107 = v47 := ((w10_9 107 (by decide) (by decide) (by decide) (by decide) (by decide) (by decide) (by decide) (by decide) (by decide) (by decide)).trans ((ju_i _ _ (by decide)).trans ((ju_c _ _ (by decide)).trans ((ju_c _ _ (by decide)).trans ((ju_c _ _ (by decide)).trans e48)))))
        have y50 : M10 598 107 = v47 := e49
        exact jr.ireturn rfl rfl rfl (q _ _ hI_M10 hH_M10 hS_M10  (by omega) (by by_cases hf : v37 = 0; (first | (exfalso; omega) | (exact Or.inr ⟨⟨by omega, ES.adj hE (k' := 0) (z' := 0) (by omega) (by omega) (by omega), by omega, by omega, by omega, by omega⟩, by omega⟩)); (exact Or.inl ⟨by omega, by omega⟩)) (by omega) (by omega) (by omega) (fun a i f598 f659 f660 f664 f666 f667 => ((w10_8 a i f598).trans ((ju_c _ _ f598).trans ((ju_c _ _ f667).trans ((ju_c _ _ f666).trans ((ju_c _ _ f664).trans ((w1_4 a i f598).trans rfl))))))) (fun i g73 g74 g75 g76 g77 g78 g79 g80 g81 g89 g90 g100 g102 => ((w10_9 i g73 g74 g75 g76 g77 g78 g79 g80 g81 g100).trans ((ju_i _ _ g102).trans ((ju_c _ _ (by decide)).trans ((ju_c _ _ (by decide)).trans ((ju_c _ _ (by decide)).trans ((w1_5 i g80 g81 g89).trans rfl))))))))
      · refine jr.if_eq rfl rfl (by omega) (fun _ => ?_) (fun h => absurd (by decide) h)
        refine jr.iconst rfl ?_
        obtain ⟨v51, e51⟩ : ∃ z, M 598 72 = z := ⟨_, rfl⟩
        have b51 : 0 ≤ v51 ∧ v51 ≤ 1600 := by rw [← e51]; exact hI_M 598 72 (by decide)
        have e52 : M1 598 72 = v51 := ((w1_5 72 (by decide) (by decide) (by decide)).trans e51)
        have y53 : (ju (ju (ju (ju M1 664 v8 10) 666 v8 (-1)) 667 v8 1) 598 102 (v8 + 1)) 598 72 = v51 := ((ju_i _ _ (by decide)).trans ((ju_c _ _ (by decide)).trans ((ju_c _ _ (by decide)).trans ((ju_c _ _ (by decide)).trans e52))))
        have e54 : M1 598 73 = v3 := ((w1_5 73 (by decide) (by decide) (by decide)).trans e3)
        have y55 : (ju (ju (ju (ju M1 664 v8 10) 666 v8 (-1)) 667 v8 1) 598 102 (v8 + 1)) 598 73 = v3 := ((ju_i _ _ (by decide)).trans ((ju_c _ _ (by decide)).trans ((ju_c _ _ (by decide)).trans ((ju_c _ _ (by decide)).trans e54))))
        obtain ⟨v56, e56⟩ : ∃ z, M 598 74 = z := ⟨_, rfl⟩
        have b56 : 0 ≤ v56 ∧ v56 ≤ 4 := by rw [← e56]; exact hI_M 598 74 (by decide)
        have e57 : M1 598 74 = v56 := ((w1_5 74 (by decide) (by decide) (by decide)).trans e56)
        have y58 : (ju (ju (ju (ju M1 664 v8 10) 666 v8 (-1)) 667 v8 1) 598 102 (v8 + 1)) 598 74 = v56 := ((ju_i _ _ (by decide)).trans ((ju_c _ _ (by decide)).trans ((ju_c _ _ (by decide)).trans ((ju_c _ _ (by decide)).trans e57))))
        obtain ⟨v59, e59⟩ : ∃ z, M 598 79 = z := ⟨_, rfl⟩
        have b59 : 0 ≤ v59 ∧ v59 ≤ 255 := by rw [← e59]; exact hI_M 598 79 (by decide)
        have e60 : M1 598 79 = v59 := ((w1_5 79 (by decide) (by decide) (by decide)).trans e59)
        have y61 : (ju (ju (ju (ju M1 664 v8 10) 666 v8 (-1)) 667 v8 1) 598 102 (v8 + 1)) 598 79 = v59 := ((ju_i _ _ (by decide)).trans ((ju_c _ _ (by decide)).trans ((ju_c _ _ (by decide)).trans ((ju_c _ _ (by decide)).trans e60))))
        obtain ⟨v62, e62⟩ : ∃ z, M1 598 80 = z := ⟨_, rfl⟩
        have b62 : 0 ≤ v62 ∧ v62 ≤ 7 := by rw [← e62]; exact hI_M1 598 80 (by decide)
        have y63 : (ju (ju (ju (ju M1 664 v8 10) 666 v8 (-1)) 667 v8 1) 598 102 (v8 + 1)) 598 80 = v62 := ((ju_i _ _ (by decide)).trans ((ju_c _ _ (by decide)).trans ((ju_c _ _ (by decide)).trans ((ju_c _ _ (by decide)).trans e62))))
        obtain ⟨v64, e64⟩ : ∃ z, M1 598 89 = z := ⟨_, rfl⟩
        have b64 : 0 ≤ v64 ∧ v64 ≤ 301 := by rw [← e64]; exact hI_M1 598 89 (by decide)
        have y65 : (ju (ju (ju (ju M1 664 v8 10) 666 v8 (-1)) 667 v8 1) 598 102 (v8 + 1)) 598 89 = v64 := ((ju_i _ _ (by decide)).trans ((ju_c _ _ (by decide)).trans ((ju_c _ _ (by decide)).trans ((ju_c _ _ (by decide)).trans e64))))
        obtain ⟨v66, e66⟩ : ∃ z, M 598 90 = z := ⟨_, rfl⟩
        have b66 : 0 ≤ v66 ∧ v66 ≤ 2200 := by rw [← e66]; exact hI_M 598 90 (by decide)
        have e67 : M1 598 90 = v66 := ((w1_5 90 (by decide) (by decide) (by decide)).trans e66)
        have y68 : (ju (ju (ju (ju M1 664 v8 10) 666 v8 (-1)) 667 v8 1) 598 102 (v8 + 1)) 598 90 = v66 := ((ju_i _ _ (by decide)).trans ((ju_c _ _ (by decide)).trans ((ju_c _ _ (by decide)).trans ((ju_c _ _ (by decide)).trans e67))))
        have e69 : M1 598 100 = v6 := ((w1_5 100 (by decide) (by decide) (by decide)).trans e6)
        have y70 : (ju (ju (ju (ju M1 664 v8 10) 666 v8 (-1)) 667 v8 1) 598 102 (v8 + 1)) 598 100 = v6 := ((ju_i _ _ (by decide)).trans ((ju_c _ _ (by decide)).trans ((ju_c _ _ (by decide)).trans ((ju_c _ _ (by decide)).trans e69))))
        obtain ⟨v71, e71⟩ : ∃ z, M 598 107 = z := ⟨_, rfl⟩
        have b71 : 0 ≤ v71 ∧ v71 ≤ 16 := by rw [← e71]; exact hI_M 598 107 (by decide)
        have e72 : M1 598 107 = v71 := ((w1_5 107 (by decide) (by decide) (by decide)).trans e71)
        have y73 : (ju (ju (ju (ju M1 664 v8 10) 666 v8 (-1)) 667 v8 1) 598 102 (v8 + 1)) 598 107 = v71 := ((ju_i _ _ (by decide)).trans ((ju_c _ _ (by decide)).trans ((ju_c _ _ (by decide)).trans ((ju_c _ _ (by decide)).trans e72))))
        have y74 : TK (ju (ju (ju (ju M1 664 v8 10) 666 v8 (-1)) 667 v8 1) 598 102 (v8 + 1)) = TK M1 := ((TK.o (Or.inr ⟨by decide, by decide⟩)).trans ((TK.o (Or.inl (by decide))).trans ((TK.o (Or.inl (by decide))).trans ((TK.o (Or.inl (by decide))).trans rfl))))
        exact jr.ireturn rfl rfl rfl (q _ _ (RI.u (RI.u (RI.u (RI.u hI_M1 (a := 664) (i := v8) (by rw [xri_row rfl rfl]; show (0 : Int) ≤ _ ∧ _ ≤ (255 : Int); omega)) (a := 666) (i := v8) (by rw [xri_row rfl rfl]; show (-1 : Int) ≤ _ ∧ _ ≤ (68 : Int); omega)) (a := 667) (i := v8) (by rw [xri_row rfl rfl]; show (0 : Int) ≤ _ ∧ _ ≤ (4 : Int); omega)) (a := 598) (i := 102) (show (0 : Int) ≤ _ ∧ _ ≤ (400 : Int) from by omega)) (RH.o (RH.o (RH.o (RH.o hH_M1 (by decide) (by decide) (by decide)) (by decide) (by decide) (by decide)) (by decide) (by decide) (by decide)) (by decide) (by decide) (by decide)) (RF.o (RF.o (RF.o (RF.o hS_M1 (by decide) (by decide)) (by decide) (by decide)) (by decide) (by decide)) (by decide) (by decide))  (by omega) (by by_cases hf : v62 = 0; (first | (exfalso; omega) | (exact Or.inr ⟨⟨by omega, ES.adj hE (k' := 0) (z' := 0) (by omega) (by omega) (by omega), by omega, by omega, by omega, by omega⟩, by omega⟩)); (exact Or.inl ⟨by omega, by omega⟩)) (by omega) (by omega) (by omega) (fun a i f598 f659 f660 f664 f666 f667 => ((ju_c _ _ f598).trans ((ju_c _ _ f667).trans ((ju_c _ _ f666).trans ((ju_c _ _ f664).trans ((w1_4 a i f598).trans rfl)))))) (fun i g73 g74 g75 g76 g77 g78 g79 g80 g81 g89 g90 g100 g102 => ((ju_i _ _ g102).trans ((ju_c _ _ (by decide)).trans ((ju_c _ _ (by decide)).trans ((ju_c _ _ (by decide)).trans ((w1_5 i g80 g81 g89).trans rfl)))))))
    · refine jr.if_eq rfl rfl (by omega) (fun _ => ?_) (fun h => absurd (by decide) h)
      refine jr.bipush rfl (by decide) ?_
      refine jr.iconst rfl ?_
      obtain ⟨v75, e75⟩ : ∃ z, M 598 102 = z := ⟨_, rfl⟩
      have b75 : 0 ≤ v75 ∧ v75 ≤ 400 := by rw [← e75]; exact hI_M 598 102 (by decide)
      have e76 : M1 598 102 = v75 := ((w1_5 102 (by decide) (by decide) (by decide)).trans e75)
      refine jr_v rfl rfl (Or.inl rfl) rfl rfl (by decide) rfl ⟨rfl, Nat.le_of_ble_eq_true rfl, Nat.le_of_ble_eq_true rfl⟩ rfl (jc.deep (r_push e76 (by omega) (by omega) (by omega) ?_) (by decide))
      have hE := ES.deep hE e76 11 (-1) 1 2 (by omega) (by omega) (by omega)
      refine jr.aload_n rfl rfl ?_
      refine jr_v rfl rfl (Or.inl rfl) rfl rfl (by decide) rfl ⟨rfl, Nat.le_of_ble_eq_true rfl, Nat.le_of_ble_eq_true rfl⟩ rfl (jc.deep (c_good (RI.u (RI.u (RI.u (RI.u hI_M1 (a := 664) (i := v75) (by rw [xri_row rfl rfl]; show (0 : Int) ≤ _ ∧ _ ≤ (255 : Int); omega)) (a := 666) (i := v75) (by rw [xri_row rfl rfl]; show (-1 : Int) ≤ _ ∧ _ ≤ (68 : Int); omega)) (a := 667) (i := v75) (by rw [xri_row rfl rfl]; show (0 : Int) ≤ _ ∧ _ ≤ (4 : Int); omega)) (a := 598) (i := 102) (show (0 : Int) ≤ _ ∧ _ ≤ (400 : Int) from by omega))  (fun t44_0 => ?_) (fun f44_0 => ?_)) (by decide))
      · refine jr.if_eq rfl rfl (by omega) (fun h => absurd h (by decide)) (fun _ => ?_)
        refine jr.aload_n rfl rfl ?_
        have e78 : M1 598 73 = v3 := ((w1_5 73 (by decide) (by decide) (by decide)).trans e3)
        obtain ⟨v79, e79⟩ : ∃ z, M 598 72 = z := ⟨_, rfl⟩
        have b79 : 0 ≤ v79 ∧ v79 ≤ 1600 := by rw [← e79]; exact hI_M 598 72 (by decide)
        have e80 : M1 598 72 = v79 := ((w1_5 72 (by decide) (by decide) (by decide)).trans e79)
        have e81 : M1 598 100 = v6 := ((w1_5 100 (by decide) (by decide) (by decide)).trans e6)
        obtain ⟨v83, e83⟩ : ∃ z, M1 598 89 = z := ⟨_, rfl⟩
        have b83 : 0 ≤ v83 ∧ v83 ≤ 301 := by rw [← e83]; exact hI_M1 598 89 (by decide)
        obtain ⟨v87, e87⟩ : ∃ z, M 598 74 = z := ⟨_, rfl⟩
        have b87 : 0 ≤ v87 ∧ v87 ≤ 4 := by rw [← e87]; exact hI_M 598 74 (by decide)
        have e88 : M1 598 74 = v87 := ((w1_5 74 (by decide) (by decide) (by decide)).trans e87)
        obtain ⟨v90, e90⟩ : ∃ z, M 598 79 = z := ⟨_, rfl⟩
        have b90 : 0 ≤ v90 ∧ v90 ≤ 255 := by rw [← e90]; exact hI_M 598 79 (by decide)
        have e91 : M1 598 79 = v90 := ((w1_5 79 (by decide) (by decide) (by decide)).trans e90)
        obtain ⟨v93, e93⟩ : ∃ z, M1 598 80 = z := ⟨_, rfl⟩
        have b93 : 0 ≤ v93 ∧ v93 ≤ 7 := by rw [← e93]; exact hI_M1 598 80 (by decide)
        refine jr_v rfl rfl (Or.inl rfl) rfl rfl (by decide) rfl ⟨rfl, Nat.le_of_ble_eq_true rfl, Nat.le_of_ble_eq_true rfl⟩ rfl (jc.deep (r_deeper (RI.u (RI.u (RI.u (RI.u hI_M1 (a := 664) (i := v75) (by rw [xri_row rfl rfl]; show (0 : Int) ≤ _ ∧ _ ≤ (255 : Int); omega)) (a := 666) (i := v75) (by rw [xri_row rfl rfl]; show (-1 : Int) ≤ _ ∧ _ ≤ (68 : Int); omega)) (a := 667) (i := v75) (by rw [xri_row rfl rfl]; show (0 : Int) ≤ _ ∧ _ ≤ (4 : Int); omega)) (a := 598) (i := 102) (show (0 : Int) ≤ _ ∧ _ ≤ (400 : Int) from by omega)) (RH.o (RH.o (RH.o (RH.o hH_M1 (by decide) (by decide) (by decide)) (by decide) (by decide) (by decide)) (by decide) (by decide) (by decide)) (by decide) (by decide) (by decide)) (RF.o (RF.o (RF.o (RF.o hS_M1 (by decide) (by decide)) (by decide) (by decide)) (by decide) (by decide)) (by decide) (by decide))   (by rw [((ju_i _ _ (by decide)).trans ((ju_c _ _ (by decide)).trans ((ju_c _ _ (by decide)).trans ((ju_c _ _ (by decide)).trans e78)))), ((ju_i _ _ (by decide)).trans ((ju_c _ _ (by decide)).trans ((ju_c _ _ (by decide)).trans ((ju_c _ _ (by decide)).trans e80))))]; omega) (by rw [((ju_i _ _ (by decide)).trans ((ju_c _ _ (by decide)).trans ((ju_c _ _ (by decide)).trans ((ju_c _ _ (by decide)).trans e81))))]; omega) (fun M77 hI_M77 hH_M77 hS_M77  w77_0 w77_1 w77_2 w77_3 w77_4 w77_5 w77_6 w77_7 w77_8 w77_9 => ?_)) (by decide))
        have y86 : (ju (ju (ju (ju M1 664 v75 11) 666 v75 (-1)) 667 v75 1) 598 102 (v75 + 1)) 598 73 = v3 := ((ju_i _ _ (by decide)).trans ((ju_c _ _ (by decide)).trans ((ju_c _ _ (by decide)).trans ((ju_c _ _ (by decide)).trans e78))))
        have y89 : (ju (ju (ju (ju M1 664 v75 11) 666 v75 (-1)) 667 v75 1) 598 102 (v75 + 1)) 598 74 = v87 := ((ju_i _ _ (by decide)).trans ((ju_c _ _ (by decide)).trans ((ju_c _ _ (by decide)).trans ((ju_c _ _ (by decide)).trans e88))))
        have y92 : (ju (ju (ju (ju M1 664 v75 11) 666 v75 (-1)) 667 v75 1) 598 102 (v75 + 1)) 598 79 = v90 := ((ju_i _ _ (by decide)).trans ((ju_c _ _ (by decide)).trans ((ju_c _ _ (by decide)).trans ((ju_c _ _ (by decide)).trans e91))))
        have y94 : (ju (ju (ju (ju M1 664 v75 11) 666 v75 (-1)) 667 v75 1) 598 102 (v75 + 1)) 598 80 = v93 := ((ju_i _ _ (by decide)).trans ((ju_c _ _ (by decide)).trans ((ju_c _ _ (by decide)).trans ((ju_c _ _ (by decide)).trans e93))))
        have y95 : (ju (ju (ju (ju M1 664 v75 11) 666 v75 (-1)) 667 v75 1) 598 102 (v75 + 1)) 598 100 = v6 := ((ju_i _ _ (by decide)).trans ((ju_c _ _ (by decide)).trans ((ju_c _ _ (by decide)).trans ((ju_c _ _ (by decide)).trans e81))))
        have tb77 : TK (ju (ju (ju (ju M1 664 v75 11) 666 v75 (-1)) 667 v75 1) 598 102 (v75 + 1)) = TK M1 := ((TK.o (Or.inr ⟨by decide, by decide⟩)).trans ((TK.o (Or.inl (by decide))).trans ((TK.o (Or.inl (by decide))).trans ((TK.o (Or.inl (by decide))).trans rfl))))
        have y82 : (ju (ju (ju (ju M1 664 v75 11) 666 v75 (-1)) 667 v75 1) 598 102 (v75 + 1)) 598 73 = v3 := ((ju_i _ _ (by decide)).trans ((ju_c _ _ (by decide)).trans ((ju_c _ _ (by decide)).trans ((ju_c _ _ (by decide)).trans e78))))
        have y84 : (ju (ju (ju (ju M1 664 v75 11) 666 v75 (-1)) 667 v75 1) 598 102 (v75 + 1)) 598 89 = v83 := ((ju_i _ _ (by decide)).trans ((ju_c _ _ (by decide)).trans ((ju_c _ _ (by decide)).trans ((ju_c _ _ (by decide)).trans e83))))
        have y85 : (ju (ju (ju (ju M1 664 v75 11) 666 v75 (-1)) 667 v75 1) 598 102 (v75 + 1)) 598 100 = v6 := ((ju_i _ _ (by decide)).trans ((ju_c _ _ (by decide)).trans ((ju_c _ _ (by decide)).trans ((ju_c _ _ (by decide)).trans e81))))
        have x77_89 := w77_9 89 (by decide) (by decide) (by decide) (by decide) (by decide) (by decide) (by decide) (by decide) (by decide) (by decide)
        have hE := ES.fr2 hE w77_8 (w77_9 88 (by decide) (by decide) (by decide) (by decide) (by decide) (by decide) (by decide) (by decide) (by decide) (by decide)) (w77_9 90 (by decide) (by decide) (by decide) (by decide) (by decide) (by decide) (by decide) (by decide) (by decide) (by decide)) (w77_9 101 (by decide) (by decide) (by decide) (by decide) (by decide) (by decide) (by decide) (by decide) (by decide) (by decide)) (w77_9 102 (by decide) (by decide) (by decide) (by decide) (by decide) (by decide) (by decide) (by decide) (by decide) (by decide)) (w77_9 107 (by decide) (by decide) (by decide) (by decide) (by decide) (by decide) (by decide) (by decide) (by decide) (by decide)) (k' := 2) (d' := 0) (z' := 0) (by omega) (by omega) (by omega) (by omega)
        refine jr.iconst rfl ?_
        have e96 : M77 598 72 = v79 := ((w77_9 72 (by decide) (by decide) (by decide) (by decide) (by decide) (by decide) (by decide) (by decide) (by decide) (by decide)).trans ((ju_i _ _ (by decide)).trans ((ju_c _ _ (by decide)).trans ((ju_c _ _ (by decide)).trans ((ju_c _ _ (by decide)).trans e80)))))
        have y97 : M77 598 72 = v79 := e96
        obtain ⟨v98, e98⟩ : ∃ z, M77 598 73 = z := ⟨_, rfl⟩
        have b98 : 0 ≤ v98 ∧ v98 ≤ 1600 := by rw [← e98]; exact hI_M77 598 73 (by decide)
        have y99 : M77 598 73 = v98 := e98
        obtain ⟨v100, e100⟩ : ∃ z, M77 598 74 = z := ⟨_, rfl⟩
        have b100 : 0 ≤ v100 ∧ v100 ≤ 4 := by rw [← e100]; exact hI_M77 598 74 (by decide)
        have y101 : M77 598 74 = v100 := e100
        obtain ⟨v102, e102⟩ : ∃ z, M77 598 79 = z := ⟨_, rfl⟩
        have b102 : 0 ≤ v102 ∧ v102 ≤ 255 := by rw [← e102]; exact hI_M77 598 79 (by decide)
        have y103 : M77 598 79 = v102 := e102
        obtain ⟨v104, e104⟩ : ∃ z, M77 598 80 = z := ⟨_, rfl⟩
        have b104 : 0 ≤ v104 ∧ v104 ≤ 7 := by rw [← e104]; exact hI_M77 598 80 (by decide)
        have y105 : M77 598 80 = v104 := e104
        have e106 : M77 598 89 = v83 := ((w77_9 89 (by decide) (by decide) (by decide) (by decide) (by decide) (by decide) (by decide) (by decide) (by decide) (by decide)).trans ((ju_i _ _ (by decide)).trans ((ju_c _ _ (by decide)).trans ((ju_c _ _ (by decide)).trans ((ju_c _ _ (by decide)).trans e83)))))
        have y107 : M77 598 89 = v83 := e106
        obtain ⟨v108, e108⟩ : ∃ z, M 598 90 = z := ⟨_, rfl⟩
        have b108 : 0 ≤ v108 ∧ v108 ≤ 2200 := by rw [← e108]; exact hI_M 598 90 (by decide)
        have e109 : M1 598 90 = v108 := ((w1_5 90 (by decide) (by decide) (by decide)).trans e108)
        have e110 : M77 598 90 = v108 := ((w77_9 90 (by decide) (by decide) (by decide) (by decide) (by decide) (by decide) (by decide) (by decide) (by decide) (by decide)).trans ((ju_i _ _ (by decide)).trans ((ju_c _ _ (by decide)).trans ((ju_c _ _ (by decide)).trans ((ju_c _ _ (by decide)).trans e109)))))
        have y111 : M77 598 90 = v108 := e110
        obtain ⟨v112, e112⟩ : ∃ z, M77 598 100 = z := ⟨_, rfl⟩
        have b112 : 0 ≤ v112 ∧ v112 ≤ 13 := by rw [← e112]; exact hI_M77 598 100 (by decide)
        have y113 : M77 598 100 = v112 := e112
        obtain ⟨v114, e114⟩ : ∃ z, M 598 107 = z := ⟨_, rfl⟩
        have b114 : 0 ≤ v114 ∧ v114 ≤ 16 := by rw [← e114]; exact hI_M 598 107 (by decide)
        have e115 : M1 598 107 = v114 := ((w1_5 107 (by decide) (by decide) (by decide)).trans e114)
        have e116 : M77 598 107 = v114 := ((w77_9 107 (by decide) (by decide) (by decide) (by decide) (by decide) (by decide) (by decide) (by decide) (by decide) (by decide)).trans ((ju_i _ _ (by decide)).trans ((ju_c _ _ (by decide)).trans ((ju_c _ _ (by decide)).trans ((ju_c _ _ (by decide)).trans e115)))))
        have y117 : M77 598 107 = v114 := e116
        exact jr.ireturn rfl rfl rfl (q _ _ hI_M77 hH_M77 hS_M77  (by omega) (by by_cases hf : v104 = 0; (first | (exfalso; omega) | (exact Or.inr ⟨⟨by omega, ES.adj hE (k' := 0) (z' := 0) (by omega) (by omega) (by omega), by omega, by omega, by omega, by omega⟩, by omega⟩)); (exact Or.inl ⟨by omega, by omega⟩)) (by omega) (by omega) (by omega) (fun a i f598 f659 f660 f664 f666 f667 => ((w77_8 a i f598).trans ((ju_c _ _ f598).trans ((ju_c _ _ f667).trans ((ju_c _ _ f666).trans ((ju_c _ _ f664).trans ((w1_4 a i f598).trans rfl))))))) (fun i g73 g74 g75 g76 g77 g78 g79 g80 g81 g89 g90 g100 g102 => ((w77_9 i g73 g74 g75 g76 g77 g78 g79 g80 g81 g100).trans ((ju_i _ _ g102).trans ((ju_c _ _ (by decide)).trans ((ju_c _ _ (by decide)).trans ((ju_c _ _ (by decide)).trans ((w1_5 i g80 g81 g89).trans rfl))))))))
      · refine jr.if_eq rfl rfl (by omega) (fun _ => ?_) (fun h => absurd (by decide) h)
        refine jr.iconst rfl ?_
        obtain ⟨v118, e118⟩ : ∃ z, M 598 72 = z := ⟨_, rfl⟩
        have b118 : 0 ≤ v118 ∧ v118 ≤ 1600 := by rw [← e118]; exact hI_M 598 72 (by decide)
        have e119 : M1 598 72 = v118 := ((w1_5 72 (by decide) (by decide) (by decide)).trans e118)
        have y120 : (ju (ju (ju (ju M1 664 v75 11) 666 v75 (-1)) 667 v75 1) 598 102 (v75 + 1)) 598 72 = v118 := ((ju_i _ _ (by decide)).trans ((ju_c _ _ (by decide)).trans ((ju_c _ _ (by decide)).trans ((ju_c _ _ (by decide)).trans e119))))
        have e121 : M1 598 73 = v3 := ((w1_5 73 (by decide) (by decide) (by decide)).trans e3)
        have y122 : (ju (ju (ju (ju M1 664 v75 11) 666 v75 (-1)) 667 v75 1) 598 102 (v75 + 1)) 598 73 = v3 := ((ju_i _ _ (by decide)).trans ((ju_c _ _ (by decide)).trans ((ju_c _ _ (by decide)).trans ((ju_c _ _ (by decide)).trans e121))))
        obtain ⟨v123, e123⟩ : ∃ z, M 598 74 = z := ⟨_, rfl⟩
        have b123 : 0 ≤ v123 ∧ v123 ≤ 4 := by rw [← e123]; exact hI_M 598 74 (by decide)
        have e124 : M1 598 74 = v123 := ((w1_5 74 (by decide) (by decide) (by decide)).trans e123)
        have y125 : (ju (ju (ju (ju M1 664 v75 11) 666 v75 (-1)) 667 v75 1) 598 102 (v75 + 1)) 598 74 = v123 := ((ju_i _ _ (by decide)).trans ((ju_c _ _ (by decide)).trans ((ju_c _ _ (by decide)).trans ((ju_c _ _ (by decide)).trans e124))))
        obtain ⟨v126, e126⟩ : ∃ z, M 598 79 = z := ⟨_, rfl⟩
        have b126 : 0 ≤ v126 ∧ v126 ≤ 255 := by rw [← e126]; exact hI_M 598 79 (by decide)
        have e127 : M1 598 79 = v126 := ((w1_5 79 (by decide) (by decide) (by decide)).trans e126)
        have y128 : (ju (ju (ju (ju M1 664 v75 11) 666 v75 (-1)) 667 v75 1) 598 102 (v75 + 1)) 598 79 = v126 := ((ju_i _ _ (by decide)).trans ((ju_c _ _ (by decide)).trans ((ju_c _ _ (by decide)).trans ((ju_c _ _ (by decide)).trans e127))))
        obtain ⟨v129, e129⟩ : ∃ z, M1 598 80 = z := ⟨_, rfl⟩
        have b129 : 0 ≤ v129 ∧ v129 ≤ 7 := by rw [← e129]; exact hI_M1 598 80 (by decide)
        have y130 : (ju (ju (ju (ju M1 664 v75 11) 666 v75 (-1)) 667 v75 1) 598 102 (v75 + 1)) 598 80 = v129 := ((ju_i _ _ (by decide)).trans ((ju_c _ _ (by decide)).trans ((ju_c _ _ (by decide)).trans ((ju_c _ _ (by decide)).trans e129))))
        obtain ⟨v131, e131⟩ : ∃ z, M1 598 89 = z := ⟨_, rfl⟩
        have b131 : 0 ≤ v131 ∧ v131 ≤ 301 := by rw [← e131]; exact hI_M1 598 89 (by decide)
        have y132 : (ju (ju (ju (ju M1 664 v75 11) 666 v75 (-1)) 667 v75 1) 598 102 (v75 + 1)) 598 89 = v131 := ((ju_i _ _ (by decide)).trans ((ju_c _ _ (by decide)).trans ((ju_c _ _ (by decide)).trans ((ju_c _ _ (by decide)).trans e131))))
        obtain ⟨v133, e133⟩ : ∃ z, M 598 90 = z := ⟨_, rfl⟩
        have b133 : 0 ≤ v133 ∧ v133 ≤ 2200 := by rw [← e133]; exact hI_M 598 90 (by decide)
        have e134 : M1 598 90 = v133 := ((w1_5 90 (by decide) (by decide) (by decide)).trans e133)
        have y135 : (ju (ju (ju (ju M1 664 v75 11) 666 v75 (-1)) 667 v75 1) 598 102 (v75 + 1)) 598 90 = v133 := ((ju_i _ _ (by decide)).trans ((ju_c _ _ (by decide)).trans ((ju_c _ _ (by decide)).trans ((ju_c _ _ (by decide)).trans e134))))
        have e136 : M1 598 100 = v6 := ((w1_5 100 (by decide) (by decide) (by decide)).trans e6)
        have y137 : (ju (ju (ju (ju M1 664 v75 11) 666 v75 (-1)) 667 v75 1) 598 102 (v75 + 1)) 598 100 = v6 := ((ju_i _ _ (by decide)).trans ((ju_c _ _ (by decide)).trans ((ju_c _ _ (by decide)).trans ((ju_c _ _ (by decide)).trans e136))))
        obtain ⟨v138, e138⟩ : ∃ z, M 598 107 = z := ⟨_, rfl⟩
        have b138 : 0 ≤ v138 ∧ v138 ≤ 16 := by rw [← e138]; exact hI_M 598 107 (by decide)
        have e139 : M1 598 107 = v138 := ((w1_5 107 (by decide) (by decide) (by decide)).trans e138)
        have y140 : (ju (ju (ju (ju M1 664 v75 11) 666 v75 (-1)) 667 v75 1) 598 102 (v75 + 1)) 598 107 = v138 := ((ju_i _ _ (by decide)).trans ((ju_c _ _ (by decide)).trans ((ju_c _ _ (by decide)).trans ((ju_c _ _ (by decide)).trans e139))))
        have y141 : TK (ju (ju (ju (ju M1 664 v75 11) 666 v75 (-1)) 667 v75 1) 598 102 (v75 + 1)) = TK M1 := ((TK.o (Or.inr ⟨by decide, by decide⟩)).trans ((TK.o (Or.inl (by decide))).trans ((TK.o (Or.inl (by decide))).trans ((TK.o (Or.inl (by decide))).trans rfl))))
        exact jr.ireturn rfl rfl rfl (q _ _ (RI.u (RI.u (RI.u (RI.u hI_M1 (a := 664) (i := v75) (by rw [xri_row rfl rfl]; show (0 : Int) ≤ _ ∧ _ ≤ (255 : Int); omega)) (a := 666) (i := v75) (by rw [xri_row rfl rfl]; show (-1 : Int) ≤ _ ∧ _ ≤ (68 : Int); omega)) (a := 667) (i := v75) (by rw [xri_row rfl rfl]; show (0 : Int) ≤ _ ∧ _ ≤ (4 : Int); omega)) (a := 598) (i := 102) (show (0 : Int) ≤ _ ∧ _ ≤ (400 : Int) from by omega)) (RH.o (RH.o (RH.o (RH.o hH_M1 (by decide) (by decide) (by decide)) (by decide) (by decide) (by decide)) (by decide) (by decide) (by decide)) (by decide) (by decide) (by decide)) (RF.o (RF.o (RF.o (RF.o hS_M1 (by decide) (by decide)) (by decide) (by decide)) (by decide) (by decide)) (by decide) (by decide))  (by omega) (by by_cases hf : v129 = 0; (first | (exfalso; omega) | (exact Or.inr ⟨⟨by omega, ES.adj hE (k' := 0) (z' := 0) (by omega) (by omega) (by omega), by omega, by omega, by omega, by omega⟩, by omega⟩)); (exact Or.inl ⟨by omega, by omega⟩)) (by omega) (by omega) (by omega) (fun a i f598 f659 f660 f664 f666 f667 => ((ju_c _ _ f598).trans ((ju_c _ _ f667).trans ((ju_c _ _ f666).trans ((ju_c _ _ f664).trans ((w1_4 a i f598).trans rfl)))))) (fun i g73 g74 g75 g76 g77 g78 g79 g80 g81 g89 g90 g100 g102 => ((ju_i _ _ g102).trans ((ju_c _ _ (by decide)).trans ((ju_c _ _ (by decide)).trans ((ju_c _ _ (by decide)).trans ((w1_5 i g80 g81 g89).trans rfl)))))))
  · refine jr.if_ne rfl rfl (by omega) (fun h => absurd h (by decide)) (fun _ => ?_)
    refine jr.aload_n rfl rfl ?_
    refine jr.bipush rfl (by decide) ?_
    refine jr_v rfl rfl (Or.inl rfl) rfl rfl (by decide) rfl ⟨rfl, Nat.le_of_ble_eq_true rfl, Nat.le_of_ble_eq_true rfl⟩ rfl (jc.deep (c_isSign hI_M (by omega) (fun t12_0 t12_1 => ?_) (fun f12_0 => ?_)) (by decide))
    · refine jr.if_eq rfl rfl (by omega) (fun h => absurd h (by decide)) (fun _ => ?_)
      refine jr.aload_n rfl rfl ?_
      obtain ⟨v143, e143⟩ : ∃ z, M 598 89 = z := ⟨_, rfl⟩
      have b143 : 0 ≤ v143 ∧ v143 ≤ 301 := by rw [← e143]; exact hI_M 598 89 (by decide)
      obtain ⟨v144, e144⟩ : ∃ z, M 598 73 = z := ⟨_, rfl⟩
      have b144 : 0 ≤ v144 ∧ v144 ≤ 1600 := by rw [← e144]; exact hI_M 598 73 (by decide)
      obtain ⟨v147, e147⟩ : ∃ z, M 598 100 = z := ⟨_, rfl⟩
      have b147 : 0 ≤ v147 ∧ v147 ≤ 13 := by rw [← e147]; exact hI_M 598 100 (by decide)
      refine jr_v rfl rfl (Or.inl rfl) rfl rfl (by decide) rfl ⟨rfl, Nat.le_of_ble_eq_true rfl, Nat.le_of_ble_eq_true rfl⟩ rfl (jc.deep (r_node hI_M hH_M hS_M   (by rw [e143]; omega) (fun M142 hI_M142 hH_M142 hS_M142  w142_0 w142_1 w142_2 w142_3 w142_4 w142_5 => ?_)) (by decide))
      have tk142 : TK M142 = TK M := TK.fr (w142_5 73 (by decide) (by decide) (by decide)) (w142_5 74 (by decide) (by decide) (by decide))
      have y145 : M 598 73 = v144 := e144
      have y146 : M 598 89 = v143 := e143
      have y148 : M 598 100 = v147 := e147
      have x142_73 := w142_5 73 (by decide) (by decide) (by decide)
      have x142_100 := w142_5 100 (by decide) (by decide) (by decide)
      have hE := ES.fr2 hE w142_4 (w142_5 88 (by decide) (by decide) (by decide)) (w142_5 90 (by decide) (by decide) (by decide)) (w142_5 101 (by decide) (by decide) (by decide)) (w142_5 102 (by decide) (by decide) (by decide)) (w142_5 107 (by decide) (by decide) (by decide)) (k' := 4) (d' := 0) (z' := 0) (by omega) (by omega) (by omega) (by omega)
      refine jr.aload_n rfl rfl ?_
      refine jr.aload_n rfl rfl ?_
      refine jr.bipush rfl (by decide) ?_
      refine jr_v rfl rfl (Or.inl rfl) rfl rfl (by decide) rfl ⟨rfl, Nat.le_of_ble_eq_true rfl, Nat.le_of_ble_eq_true rfl⟩ rfl (jc.deep (c_isSign hI_M142 (by omega) (fun t26_0 t26_1 => ?_) (fun f26_0 => ?_)) (by decide))
      · refine jr.if_eq rfl rfl (by omega) (fun h => absurd h (by decide)) (fun _ => ?_)
        refine jr.bipush rfl (by decide) ?_
        refine jr.goto rfl rfl ?_
        refine jr.iconst rfl ?_
        obtain ⟨v149, e149⟩ : ∃ z, M 598 102 = z := ⟨_, rfl⟩
        have b149 : 0 ≤ v149 ∧ v149 ≤ 400 := by rw [← e149]; exact hI_M 598 102 (by decide)
        have e150 : M142 598 102 = v149 := ((w142_5 102 (by decide) (by decide) (by decide)).trans e149)
        refine jr_v rfl rfl (Or.inl rfl) rfl rfl (by decide) rfl ⟨rfl, Nat.le_of_ble_eq_true rfl, Nat.le_of_ble_eq_true rfl⟩ rfl (jc.deep (r_push e150 (by omega) (by omega) (by omega) ?_) (by decide))
        have hE := ES.deep hE e150 10 (-1) 1 2 (by omega) (by omega) (by omega)
        refine jr.aload_n rfl rfl ?_
        refine jr_v rfl rfl (Or.inl rfl) rfl rfl (by decide) rfl ⟨rfl, Nat.le_of_ble_eq_true rfl, Nat.le_of_ble_eq_true rfl⟩ rfl (jc.deep (c_good (RI.u (RI.u (RI.u (RI.u hI_M142 (a := 664) (i := v149) (by rw [xri_row rfl rfl]; show (0 : Int) ≤ _ ∧ _ ≤ (255 : Int); omega)) (a := 666) (i := v149) (by rw [xri_row rfl rfl]; show (-1 : Int) ≤ _ ∧ _ ≤ (68 : Int); omega)) (a := 667) (i := v149) (by rw [xri_row rfl rfl]; show (0 : Int) ≤ _ ∧ _ ≤ (4 : Int); omega)) (a := 598) (i := 102) (show (0 : Int) ≤ _ ∧ _ ≤ (400 : Int) from by omega))  (fun t44_0 => ?_) (fun f44_0 => ?_)) (by decide))
        · refine jr.if_eq rfl rfl (by omega) (fun h => absurd h (by decide)) (fun _ => ?_)
          refine jr.aload_n rfl rfl ?_
          have e152 : M142 598 73 = v144 := ((w142_5 73 (by decide) (by decide) (by decide)).trans e144)
          obtain ⟨v153, e153⟩ : ∃ z, M 598 72 = z := ⟨_, rfl⟩
          have b153 : 0 ≤ v153 ∧ v153 ≤ 1600 := by rw [← e153]; exact hI_M 598 72 (by decide)
          have e154 : M142 598 72 = v153 := ((w142_5 72 (by decide) (by decide) (by decide)).trans e153)
          have e155 : M142 598 100 = v147 := ((w142_5 100 (by decide) (by decide) (by decide)).trans e147)
          obtain ⟨v157, e157⟩ : ∃ z, M142 598 89 = z := ⟨_, rfl⟩
          have b157 : 0 ≤ v157 ∧ v157 ≤ 301 := by rw [← e157]; exact hI_M142 598 89 (by decide)
          obtain ⟨v161, e161⟩ : ∃ z, M 598 74 = z := ⟨_, rfl⟩
          have b161 : 0 ≤ v161 ∧ v161 ≤ 4 := by rw [← e161]; exact hI_M 598 74 (by decide)
          have e162 : M142 598 74 = v161 := ((w142_5 74 (by decide) (by decide) (by decide)).trans e161)
          obtain ⟨v164, e164⟩ : ∃ z, M 598 79 = z := ⟨_, rfl⟩
          have b164 : 0 ≤ v164 ∧ v164 ≤ 255 := by rw [← e164]; exact hI_M 598 79 (by decide)
          have e165 : M142 598 79 = v164 := ((w142_5 79 (by decide) (by decide) (by decide)).trans e164)
          obtain ⟨v167, e167⟩ : ∃ z, M142 598 80 = z := ⟨_, rfl⟩
          have b167 : 0 ≤ v167 ∧ v167 ≤ 7 := by rw [← e167]; exact hI_M142 598 80 (by decide)
          refine jr_v rfl rfl (Or.inl rfl) rfl rfl (by decide) rfl ⟨rfl, Nat.le_of_ble_eq_true rfl, Nat.le_of_ble_eq_true rfl⟩ rfl (jc.deep (r_deeper (RI.u (RI.u (RI.u (RI.u hI_M142 (a := 664) (i := v149) (by rw [xri_row rfl rfl]; show (0 : Int) ≤ _ ∧ _ ≤ (255 : Int); omega)) (a := 666) (i := v149) (by rw [xri_row rfl rfl]; show (-1 : Int) ≤ _ ∧ _ ≤ (68 : Int); omega)) (a := 667) (i := v149) (by rw [xri_row rfl rfl]; show (0 : Int) ≤ _ ∧ _ ≤ (4 : Int); omega)) (a := 598) (i := 102) (show (0 : Int) ≤ _ ∧ _ ≤ (400 : Int) from by omega)) (RH.o (RH.o (RH.o (RH.o hH_M142 (by decide) (by decide) (by decide)) (by decide) (by decide) (by decide)) (by decide) (by decide) (by decide)) (by decide) (by decide) (by decide)) (RF.o (RF.o (RF.o (RF.o hS_M142 (by decide) (by decide)) (by decide) (by decide)) (by decide) (by decide)) (by decide) (by decide))   (by rw [((ju_i _ _ (by decide)).trans ((ju_c _ _ (by decide)).trans ((ju_c _ _ (by decide)).trans ((ju_c _ _ (by decide)).trans e152)))), ((ju_i _ _ (by decide)).trans ((ju_c _ _ (by decide)).trans ((ju_c _ _ (by decide)).trans ((ju_c _ _ (by decide)).trans e154))))]; omega) (by rw [((ju_i _ _ (by decide)).trans ((ju_c _ _ (by decide)).trans ((ju_c _ _ (by decide)).trans ((ju_c _ _ (by decide)).trans e155))))]; omega) (fun M151 hI_M151 hH_M151 hS_M151  w151_0 w151_1 w151_2 w151_3 w151_4 w151_5 w151_6 w151_7 w151_8 w151_9 => ?_)) (by decide))
          have y160 : (ju (ju (ju (ju M142 664 v149 10) 666 v149 (-1)) 667 v149 1) 598 102 (v149 + 1)) 598 73 = v144 := ((ju_i _ _ (by decide)).trans ((ju_c _ _ (by decide)).trans ((ju_c _ _ (by decide)).trans ((ju_c _ _ (by decide)).trans e152))))
          have y163 : (ju (ju (ju (ju M142 664 v149 10) 666 v149 (-1)) 667 v149 1) 598 102 (v149 + 1)) 598 74 = v161 := ((ju_i _ _ (by decide)).trans ((ju_c _ _ (by decide)).trans ((ju_c _ _ (by decide)).trans ((ju_c _ _ (by decide)).trans e162))))
          have y166 : (ju (ju (ju (ju M142 664 v149 10) 666 v149 (-1)) 667 v149 1) 598 102 (v149 + 1)) 598 79 = v164 := ((ju_i _ _ (by decide)).trans ((ju_c _ _ (by decide)).trans ((ju_c _ _ (by decide)).trans ((ju_c _ _ (by decide)).trans e165))))
          have y168 : (ju (ju (ju (ju M142 664 v149 10) 666 v149 (-1)) 667 v149 1) 598 102 (v149 + 1)) 598 80 = v167 := ((ju_i _ _ (by decide)).trans ((ju_c _ _ (by decide)).trans ((ju_c _ _ (by decide)).trans ((ju_c _ _ (by decide)).trans e167))))
          have y169 : (ju (ju (ju (ju M142 664 v149 10) 666 v149 (-1)) 667 v149 1) 598 102 (v149 + 1)) 598 100 = v147 := ((ju_i _ _ (by decide)).trans ((ju_c _ _ (by decide)).trans ((ju_c _ _ (by decide)).trans ((ju_c _ _ (by decide)).trans e155))))
          have tb151 : TK (ju (ju (ju (ju M142 664 v149 10) 666 v149 (-1)) 667 v149 1) 598 102 (v149 + 1)) = TK M142 := ((TK.o (Or.inr ⟨by decide, by decide⟩)).trans ((TK.o (Or.inl (by decide))).trans ((TK.o (Or.inl (by decide))).trans ((TK.o (Or.inl (by decide))).trans rfl))))
          have y156 : (ju (ju (ju (ju M142 664 v149 10) 666 v149 (-1)) 667 v149 1) 598 102 (v149 + 1)) 598 73 = v144 := ((ju_i _ _ (by decide)).trans ((ju_c _ _ (by decide)).trans ((ju_c _ _ (by decide)).trans ((ju_c _ _ (by decide)).trans e152))))
          have y158 : (ju (ju (ju (ju M142 664 v149 10) 666 v149 (-1)) 667 v149 1) 598 102 (v149 + 1)) 598 89 = v157 := ((ju_i _ _ (by decide)).trans ((ju_c _ _ (by decide)).trans ((ju_c _ _ (by decide)).trans ((ju_c _ _ (by decide)).trans e157))))
          have y159 : (ju (ju (ju (ju M142 664 v149 10) 666 v149 (-1)) 667 v149 1) 598 102 (v149 + 1)) 598 100 = v147 := ((ju_i _ _ (by decide)).trans ((ju_c _ _ (by decide)).trans ((ju_c _ _ (by decide)).trans ((ju_c _ _ (by decide)).trans e155))))
          have x151_89 := w151_9 89 (by decide) (by decide) (by decide) (by decide) (by decide) (by decide) (by decide) (by decide) (by decide) (by decide)
          have hE := ES.fr2 hE w151_8 (w151_9 88 (by decide) (by decide) (by decide) (by decide) (by decide) (by decide) (by decide) (by decide) (by decide) (by decide)) (w151_9 90 (by decide) (by decide) (by decide) (by decide) (by decide) (by decide) (by decide) (by decide) (by decide) (by decide)) (w151_9 101 (by decide) (by decide) (by decide) (by decide) (by decide) (by decide) (by decide) (by decide) (by decide) (by decide)) (w151_9 102 (by decide) (by decide) (by decide) (by decide) (by decide) (by decide) (by decide) (by decide) (by decide) (by decide)) (w151_9 107 (by decide) (by decide) (by decide) (by decide) (by decide) (by decide) (by decide) (by decide) (by decide) (by decide)) (k' := 2) (d' := 0) (z' := 0) (by omega) (by omega) (by omega) (by omega)
          refine jr.iconst rfl ?_
          have e170 : M151 598 72 = v153 := ((w151_9 72 (by decide) (by decide) (by decide) (by decide) (by decide) (by decide) (by decide) (by decide) (by decide) (by decide)).trans ((ju_i _ _ (by decide)).trans ((ju_c _ _ (by decide)).trans ((ju_c _ _ (by decide)).trans ((ju_c _ _ (by decide)).trans e154)))))
          have y171 : M151 598 72 = v153 := e170
          obtain ⟨v172, e172⟩ : ∃ z, M151 598 73 = z := ⟨_, rfl⟩
          have b172 : 0 ≤ v172 ∧ v172 ≤ 1600 := by rw [← e172]; exact hI_M151 598 73 (by decide)
          have y173 : M151 598 73 = v172 := e172
          obtain ⟨v174, e174⟩ : ∃ z, M151 598 74 = z := ⟨_, rfl⟩
          have b174 : 0 ≤ v174 ∧ v174 ≤ 4 := by rw [← e174]; exact hI_M151 598 74 (by decide)
          have y175 : M151 598 74 = v174 := e174
          obtain ⟨v176, e176⟩ : ∃ z, M151 598 79 = z := ⟨_, rfl⟩
          have b176 : 0 ≤ v176 ∧ v176 ≤ 255 := by rw [← e176]; exact hI_M151 598 79 (by decide)
          have y177 : M151 598 79 = v176 := e176
          obtain ⟨v178, e178⟩ : ∃ z, M151 598 80 = z := ⟨_, rfl⟩
          have b178 : 0 ≤ v178 ∧ v178 ≤ 7 := by rw [← e178]; exact hI_M151 598 80 (by decide)
          have y179 : M151 598 80 = v178 := e178
          have e180 : M151 598 89 = v157 := ((w151_9 89 (by decide) (by decide) (by decide) (by decide) (by decide) (by decide) (by decide) (by decide) (by decide) (by decide)).trans ((ju_i _ _ (by decide)).trans ((ju_c _ _ (by decide)).trans ((ju_c _ _ (by decide)).trans ((ju_c _ _ (by decide)).trans e157)))))
          have y181 : M151 598 89 = v157 := e180
          obtain ⟨v182, e182⟩ : ∃ z, M 598 90 = z := ⟨_, rfl⟩
          have b182 : 0 ≤ v182 ∧ v182 ≤ 2200 := by rw [← e182]; exact hI_M 598 90 (by decide)
          have e183 : M142 598 90 = v182 := ((w142_5 90 (by decide) (by decide) (by decide)).trans e182)
          have e184 : M151 598 90 = v182 := ((w151_9 90 (by decide) (by decide) (by decide) (by decide) (by decide) (by decide) (by decide) (by decide) (by decide) (by decide)).trans ((ju_i _ _ (by decide)).trans ((ju_c _ _ (by decide)).trans ((ju_c _ _ (by decide)).trans ((ju_c _ _ (by decide)).trans e183)))))
          have y185 : M151 598 90 = v182 := e184
          obtain ⟨v186, e186⟩ : ∃ z, M151 598 100 = z := ⟨_, rfl⟩
          have b186 : 0 ≤ v186 ∧ v186 ≤ 13 := by rw [← e186]; exact hI_M151 598 100 (by decide)
          have y187 : M151 598 100 = v186 := e186
          obtain ⟨v188, e188⟩ : ∃ z, M 598 107 = z := ⟨_, rfl⟩
          have b188 : 0 ≤ v188 ∧ v188 ≤ 16 := by rw [← e188]; exact hI_M 598 107 (by decide)
          have e189 : M142 598 107 = v188 := ((w142_5 107 (by decide) (by decide) (by decide)).trans e188)
          have e190 : M151 598 107 = v188 := ((w151_9 107 (by decide) (by decide) (by decide) (by decide) (by decide) (by decide) (by decide) (by decide) (by decide) (by decide)).trans ((ju_i _ _ (by decide)).trans ((ju_c _ _ (by decide)).trans ((ju_c _ _ (by decide)).trans ((ju_c _ _ (by decide)).trans e189)))))
          have y191 : M151 598 107 = v188 := e190
          exact jr.ireturn rfl rfl rfl (q _ _ hI_M151 hH_M151 hS_M151  (by omega) (by by_cases hf : v178 = 0; (first | (exfalso; omega) | (exact Or.inr ⟨⟨by omega, ES.adj hE (k' := 0) (z' := 0) (by omega) (by omega) (by omega), by omega, by omega, by omega, by omega⟩, by omega⟩)); (exact Or.inl ⟨by omega, by omega⟩)) (by omega) (by omega) (by omega) (fun a i f598 f659 f660 f664 f666 f667 => ((w151_8 a i f598).trans ((ju_c _ _ f598).trans ((ju_c _ _ f667).trans ((ju_c _ _ f666).trans ((ju_c _ _ f664).trans ((w142_4 a i f598).trans rfl))))))) (fun i g73 g74 g75 g76 g77 g78 g79 g80 g81 g89 g90 g100 g102 => ((w151_9 i g73 g74 g75 g76 g77 g78 g79 g80 g81 g100).trans ((ju_i _ _ g102).trans ((ju_c _ _ (by decide)).trans ((ju_c _ _ (by decide)).trans ((ju_c _ _ (by decide)).trans ((w142_5 i g80 g81 g89).trans rfl))))))))
        · refine jr.if_eq rfl rfl (by omega) (fun _ => ?_) (fun h => absurd (by decide) h)
          refine jr.iconst rfl ?_
          obtain ⟨v192, e192⟩ : ∃ z, M 598 72 = z := ⟨_, rfl⟩
          have b192 : 0 ≤ v192 ∧ v192 ≤ 1600 := by rw [← e192]; exact hI_M 598 72 (by decide)
          have e193 : M142 598 72 = v192 := ((w142_5 72 (by decide) (by decide) (by decide)).trans e192)
          have y194 : (ju (ju (ju (ju M142 664 v149 10) 666 v149 (-1)) 667 v149 1) 598 102 (v149 + 1)) 598 72 = v192 := ((ju_i _ _ (by decide)).trans ((ju_c _ _ (by decide)).trans ((ju_c _ _ (by decide)).trans ((ju_c _ _ (by decide)).trans e193))))
          have e195 : M142 598 73 = v144 := ((w142_5 73 (by decide) (by decide) (by decide)).trans e144)
          have y196 : (ju (ju (ju (ju M142 664 v149 10) 666 v149 (-1)) 667 v149 1) 598 102 (v149 + 1)) 598 73 = v144 := ((ju_i _ _ (by decide)).trans ((ju_c _ _ (by decide)).trans ((ju_c _ _ (by decide)).trans ((ju_c _ _ (by decide)).trans e195))))
          obtain ⟨v197, e197⟩ : ∃ z, M 598 74 = z := ⟨_, rfl⟩
          have b197 : 0 ≤ v197 ∧ v197 ≤ 4 := by rw [← e197]; exact hI_M 598 74 (by decide)
          have e198 : M142 598 74 = v197 := ((w142_5 74 (by decide) (by decide) (by decide)).trans e197)
          have y199 : (ju (ju (ju (ju M142 664 v149 10) 666 v149 (-1)) 667 v149 1) 598 102 (v149 + 1)) 598 74 = v197 := ((ju_i _ _ (by decide)).trans ((ju_c _ _ (by decide)).trans ((ju_c _ _ (by decide)).trans ((ju_c _ _ (by decide)).trans e198))))
          obtain ⟨v200, e200⟩ : ∃ z, M 598 79 = z := ⟨_, rfl⟩
          have b200 : 0 ≤ v200 ∧ v200 ≤ 255 := by rw [← e200]; exact hI_M 598 79 (by decide)
          have e201 : M142 598 79 = v200 := ((w142_5 79 (by decide) (by decide) (by decide)).trans e200)
          have y202 : (ju (ju (ju (ju M142 664 v149 10) 666 v149 (-1)) 667 v149 1) 598 102 (v149 + 1)) 598 79 = v200 := ((ju_i _ _ (by decide)).trans ((ju_c _ _ (by decide)).trans ((ju_c _ _ (by decide)).trans ((ju_c _ _ (by decide)).trans e201))))
          obtain ⟨v203, e203⟩ : ∃ z, M142 598 80 = z := ⟨_, rfl⟩
          have b203 : 0 ≤ v203 ∧ v203 ≤ 7 := by rw [← e203]; exact hI_M142 598 80 (by decide)
          have y204 : (ju (ju (ju (ju M142 664 v149 10) 666 v149 (-1)) 667 v149 1) 598 102 (v149 + 1)) 598 80 = v203 := ((ju_i _ _ (by decide)).trans ((ju_c _ _ (by decide)).trans ((ju_c _ _ (by decide)).trans ((ju_c _ _ (by decide)).trans e203))))
          obtain ⟨v205, e205⟩ : ∃ z, M142 598 89 = z := ⟨_, rfl⟩
          have b205 : 0 ≤ v205 ∧ v205 ≤ 301 := by rw [← e205]; exact hI_M142 598 89 (by decide)
          have y206 : (ju (ju (ju (ju M142 664 v149 10) 666 v149 (-1)) 667 v149 1) 598 102 (v149 + 1)) 598 89 = v205 := ((ju_i _ _ (by decide)).trans ((ju_c _ _ (by decide)).trans ((ju_c _ _ (by decide)).trans ((ju_c _ _ (by decide)).trans e205))))
          obtain ⟨v207, e207⟩ : ∃ z, M 598 90 = z := ⟨_, rfl⟩
          have b207 : 0 ≤ v207 ∧ v207 ≤ 2200 := by rw [← e207]; exact hI_M 598 90 (by decide)
          have e208 : M142 598 90 = v207 := ((w142_5 90 (by decide) (by decide) (by decide)).trans e207)
          have y209 : (ju (ju (ju (ju M142 664 v149 10) 666 v149 (-1)) 667 v149 1) 598 102 (v149 + 1)) 598 90 = v207 := ((ju_i _ _ (by decide)).trans ((ju_c _ _ (by decide)).trans ((ju_c _ _ (by decide)).trans ((ju_c _ _ (by decide)).trans e208))))
          have e210 : M142 598 100 = v147 := ((w142_5 100 (by decide) (by decide) (by decide)).trans e147)
          have y211 : (ju (ju (ju (ju M142 664 v149 10) 666 v149 (-1)) 667 v149 1) 598 102 (v149 + 1)) 598 100 = v147 := ((ju_i _ _ (by decide)).trans ((ju_c _ _ (by decide)).trans ((ju_c _ _ (by decide)).trans ((ju_c _ _ (by decide)).trans e210))))
          obtain ⟨v212, e212⟩ : ∃ z, M 598 107 = z := ⟨_, rfl⟩
          have b212 : 0 ≤ v212 ∧ v212 ≤ 16 := by rw [← e212]; exact hI_M 598 107 (by decide)
          have e213 : M142 598 107 = v212 := ((w142_5 107 (by decide) (by decide) (by decide)).trans e212)
          have y214 : (ju (ju (ju (ju M142 664 v149 10) 666 v149 (-1)) 667 v149 1) 598 102 (v149 + 1)) 598 107 = v212 := ((ju_i _ _ (by decide)).trans ((ju_c _ _ (by decide)).trans ((ju_c _ _ (by decide)).trans ((ju_c _ _ (by decide)).trans e213))))
          have y215 : TK (ju (ju (ju (ju M142 664 v149 10) 666 v149 (-1)) 667 v149 1) 598 102 (v149 + 1)) = TK M142 := ((TK.o (Or.inr ⟨by decide, by decide⟩)).trans ((TK.o (Or.inl (by decide))).trans ((TK.o (Or.inl (by decide))).trans ((TK.o (Or.inl (by decide))).trans rfl))))
          exact jr.ireturn rfl rfl rfl (q _ _ (RI.u (RI.u (RI.u (RI.u hI_M142 (a := 664) (i := v149) (by rw [xri_row rfl rfl]; show (0 : Int) ≤ _ ∧ _ ≤ (255 : Int); omega)) (a := 666) (i := v149) (by rw [xri_row rfl rfl]; show (-1 : Int) ≤ _ ∧ _ ≤ (68 : Int); omega)) (a := 667) (i := v149) (by rw [xri_row rfl rfl]; show (0 : Int) ≤ _ ∧ _ ≤ (4 : Int); omega)) (a := 598) (i := 102) (show (0 : Int) ≤ _ ∧ _ ≤ (400 : Int) from by omega)) (RH.o (RH.o (RH.o (RH.o hH_M142 (by decide) (by decide) (by decide)) (by decide) (by decide) (by decide)) (by decide) (by decide) (by decide)) (by decide) (by decide) (by decide)) (RF.o (RF.o (RF.o (RF.o hS_M142 (by decide) (by decide)) (by decide) (by decide)) (by decide) (by decide)) (by decide) (by decide))  (by omega) (by by_cases hf : v203 = 0; (first | (exfalso; omega) | (exact Or.inr ⟨⟨by omega, ES.adj hE (k' := 0) (z' := 0) (by omega) (by omega) (by omega), by omega, by omega, by omega, by omega⟩, by omega⟩)); (exact Or.inl ⟨by omega, by omega⟩)) (by omega) (by omega) (by omega) (fun a i f598 f659 f660 f664 f666 f667 => ((ju_c _ _ f598).trans ((ju_c _ _ f667).trans ((ju_c _ _ f666).trans ((ju_c _ _ f664).trans ((w142_4 a i f598).trans rfl)))))) (fun i g73 g74 g75 g76 g77 g78 g79 g80 g81 g89 g90 g100 g102 => ((ju_i _ _ g102).trans ((ju_c _ _ (by decide)).trans ((ju_c _ _ (by decide)).trans ((ju_c _ _ (by decide)).trans ((w142_5 i g80 g81 g89).trans rfl)))))))
      · refine jr.if_eq rfl rfl (by omega) (fun _ => ?_) (fun h => absurd (by decide) h)
        refine jr.bipush rfl (by decide) ?_
        refine jr.iconst rfl ?_
        obtain ⟨v216, e216⟩ : ∃ z, M 598 102 = z := ⟨_, rfl⟩
        have b216 : 0 ≤ v216 ∧ v216 ≤ 400 := by rw [← e216]; exact hI_M 598 102 (by decide)
        have e217 : M142 598 102 = v216 := ((w142_5 102 (by decide) (by decide) (by decide)).trans e216)
        refine jr_v rfl rfl (Or.inl rfl) rfl rfl (by decide) rfl ⟨rfl, Nat.le_of_ble_eq_true rfl, Nat.le_of_ble_eq_true rfl⟩ rfl (jc.deep (r_push e217 (by omega) (by omega) (by omega) ?_) (by decide))
        have hE := ES.deep hE e217 11 (-1) 1 2 (by omega) (by omega) (by omega)
        refine jr.aload_n rfl rfl ?_
        refine jr_v rfl rfl (Or.inl rfl) rfl rfl (by decide) rfl ⟨rfl, Nat.le_of_ble_eq_true rfl, Nat.le_of_ble_eq_true rfl⟩ rfl (jc.deep (c_good (RI.u (RI.u (RI.u (RI.u hI_M142 (a := 664) (i := v216) (by rw [xri_row rfl rfl]; show (0 : Int) ≤ _ ∧ _ ≤ (255 : Int); omega)) (a := 666) (i := v216) (by rw [xri_row rfl rfl]; show (-1 : Int) ≤ _ ∧ _ ≤ (68 : Int); omega)) (a := 667) (i := v216) (by rw [xri_row rfl rfl]; show (0 : Int) ≤ _ ∧ _ ≤ (4 : Int); omega)) (a := 598) (i := 102) (show (0 : Int) ≤ _ ∧ _ ≤ (400 : Int) from by omega))  (fun t44_0 => ?_) (fun f44_0 => ?_)) (by decide))
        · refine jr.if_eq rfl rfl (by omega) (fun h => absurd h (by decide)) (fun _ => ?_)
          refine jr.aload_n rfl rfl ?_
          have e219 : M142 598 73 = v144 := ((w142_5 73 (by decide) (by decide) (by decide)).trans e144)
          obtain ⟨v220, e220⟩ : ∃ z, M 598 72 = z := ⟨_, rfl⟩
          have b220 : 0 ≤ v220 ∧ v220 ≤ 1600 := by rw [← e220]; exact hI_M 598 72 (by decide)
          have e221 : M142 598 72 = v220 := ((w142_5 72 (by decide) (by decide) (by decide)).trans e220)
          have e222 : M142 598 100 = v147 := ((w142_5 100 (by decide) (by decide) (by decide)).trans e147)
          obtain ⟨v224, e224⟩ : ∃ z, M142 598 89 = z := ⟨_, rfl⟩
          have b224 : 0 ≤ v224 ∧ v224 ≤ 301 := by rw [← e224]; exact hI_M142 598 89 (by decide)
          obtain ⟨v228, e228⟩ : ∃ z, M 598 74 = z := ⟨_, rfl⟩
          have b228 : 0 ≤ v228 ∧ v228 ≤ 4 := by rw [← e228]; exact hI_M 598 74 (by decide)
          have e229 : M142 598 74 = v228 := ((w142_5 74 (by decide) (by decide) (by decide)).trans e228)
          obtain ⟨v231, e231⟩ : ∃ z, M 598 79 = z := ⟨_, rfl⟩
          have b231 : 0 ≤ v231 ∧ v231 ≤ 255 := by rw [← e231]; exact hI_M 598 79 (by decide)
          have e232 : M142 598 79 = v231 := ((w142_5 79 (by decide) (by decide) (by decide)).trans e231)
          obtain ⟨v234, e234⟩ : ∃ z, M142 598 80 = z := ⟨_, rfl⟩
          have b234 : 0 ≤ v234 ∧ v234 ≤ 7 := by rw [← e234]; exact hI_M142 598 80 (by decide)
          refine jr_v rfl rfl (Or.inl rfl) rfl rfl (by decide) rfl ⟨rfl, Nat.le_of_ble_eq_true rfl, Nat.le_of_ble_eq_true rfl⟩ rfl (jc.deep (r_deeper (RI.u (RI.u (RI.u (RI.u hI_M142 (a := 664) (i := v216) (by rw [xri_row rfl rfl]; show (0 : Int) ≤ _ ∧ _ ≤ (255 : Int); omega)) (a := 666) (i := v216) (by rw [xri_row rfl rfl]; show (-1 : Int) ≤ _ ∧ _ ≤ (68 : Int); omega)) (a := 667) (i := v216) (by rw [xri_row rfl rfl]; show (0 : Int) ≤ _ ∧ _ ≤ (4 : Int); omega)) (a := 598) (i := 102) (show (0 : Int) ≤ _ ∧ _ ≤ (400 : Int) from by omega)) (RH.o (RH.o (RH.o (RH.o hH_M142 (by decide) (by decide) (by decide)) (by decide) (by decide) (by decide)) (by decide) (by decide) (by decide)) (by decide) (by decide) (by decide)) (RF.o (RF.o (RF.o (RF.o hS_M142 (by decide) (by decide)) (by decide) (by decide)) (by decide) (by decide)) (by decide) (by decide))   (by rw [((ju_i _ _ (by decide)).trans ((ju_c _ _ (by decide)).trans ((ju_c _ _ (by decide)).trans ((ju_c _ _ (by decide)).trans e219)))), ((ju_i _ _ (by decide)).trans ((ju_c _ _ (by decide)).trans ((ju_c _ _ (by decide)).trans ((ju_c _ _ (by decide)).trans e221))))]; omega) (by rw [((ju_i _ _ (by decide)).trans ((ju_c _ _ (by decide)).trans ((ju_c _ _ (by decide)).trans ((ju_c _ _ (by decide)).trans e222))))]; omega) (fun M218 hI_M218 hH_M218 hS_M218  w218_0 w218_1 w218_2 w218_3 w218_4 w218_5 w218_6 w218_7 w218_8 w218_9 => ?_)) (by decide))
          have y227 : (ju (ju (ju (ju M142 664 v216 11) 666 v216 (-1)) 667 v216 1) 598 102 (v216 + 1)) 598 73 = v144 := ((ju_i _ _ (by decide)).trans ((ju_c _ _ (by decide)).trans ((ju_c _ _ (by decide)).trans ((ju_c _ _ (by decide)).trans e219))))
          have y230 : (ju (ju (ju (ju M142 664 v216 11) 666 v216 (-1)) 667 v216 1) 598 102 (v216 + 1)) 598 74 = v228 := ((ju_i _ _ (by decide)).trans ((ju_c _ _ (by decide)).trans ((ju_c _ _ (by decide)).trans ((ju_c _ _ (by decide)).trans e229))))
          have y233 : (ju (ju (ju (ju M142 664 v216 11) 666 v216 (-1)) 667 v216 1) 598 102 (v216 + 1)) 598 79 = v231 := ((ju_i _ _ (by decide)).trans ((ju_c _ _ (by decide)).trans ((ju_c _ _ (by decide)).trans ((ju_c _ _ (by decide)).trans e232))))
          have y235 : (ju (ju (ju (ju M142 664 v216 11) 666 v216 (-1)) 667 v216 1) 598 102 (v216 + 1)) 598 80 = v234 := ((ju_i _ _ (by decide)).trans ((ju_c _ _ (by decide)).trans ((ju_c _ _ (by decide)).trans ((ju_c _ _ (by decide)).trans e234))))
          have y236 : (ju (ju (ju (ju M142 664 v216 11) 666 v216 (-1)) 667 v216 1) 598 102 (v216 + 1)) 598 100 = v147 := ((ju_i _ _ (by decide)).trans ((ju_c _ _ (by decide)).trans ((ju_c _ _ (by decide)).trans ((ju_c _ _ (by decide)).trans e222))))
          have tb218 : TK (ju (ju (ju (ju M142 664 v216 11) 666 v216 (-1)) 667 v216 1) 598 102 (v216 + 1)) = TK M142 := ((TK.o (Or.inr ⟨by decide, by decide⟩)).trans ((TK.o (Or.inl (by decide))).trans ((TK.o (Or.inl (by decide))).trans ((TK.o (Or.inl (by decide))).trans rfl))))
          have y223 : (ju (ju (ju (ju M142 664 v216 11) 666 v216 (-1)) 667 v216 1) 598 102 (v216 + 1)) 598 73 = v144 := ((ju_i _ _ (by decide)).trans ((ju_c _ _ (by decide)).trans ((ju_c _ _ (by decide)).trans ((ju_c _ _ (by decide)).trans e219))))
          have y225 : (ju (ju (ju (ju M142 664 v216 11) 666 v216 (-1)) 667 v216 1) 598 102 (v216 + 1)) 598 89 = v224 := ((ju_i _ _ (by decide)).trans ((ju_c _ _ (by decide)).trans ((ju_c _ _ (by decide)).trans ((ju_c _ _ (by decide)).trans e224))))
          have y226 : (ju (ju (ju (ju M142 664 v216 11) 666 v216 (-1)) 667 v216 1) 598 102 (v216 + 1)) 598 100 = v147 := ((ju_i _ _ (by decide)).trans ((ju_c _ _ (by decide)).trans ((ju_c _ _ (by decide)).trans ((ju_c _ _ (by decide)).trans e222))))
          have x218_89 := w218_9 89 (by decide) (by decide) (by decide) (by decide) (by decide) (by decide) (by decide) (by decide) (by decide) (by decide)
          have hE := ES.fr2 hE w218_8 (w218_9 88 (by decide) (by decide) (by decide) (by decide) (by decide) (by decide) (by decide) (by decide) (by decide) (by decide)) (w218_9 90 (by decide) (by decide) (by decide) (by decide) (by decide) (by decide) (by decide) (by decide) (by decide) (by decide)) (w218_9 101 (by decide) (by decide) (by decide) (by decide) (by decide) (by decide) (by decide) (by decide) (by decide) (by decide)) (w218_9 102 (by decide) (by decide) (by decide) (by decide) (by decide) (by decide) (by decide) (by decide) (by decide) (by decide)) (w218_9 107 (by decide) (by decide) (by decide) (by decide) (by decide) (by decide) (by decide) (by decide) (by decide) (by decide)) (k' := 2) (d' := 0) (z' := 0) (by omega) (by omega) (by omega) (by omega)
          refine jr.iconst rfl ?_
          have e237 : M218 598 72 = v220 := ((w218_9 72 (by decide) (by decide) (by decide) (by decide) (by decide) (by decide) (by decide) (by decide) (by decide) (by decide)).trans ((ju_i _ _ (by decide)).trans ((ju_c _ _ (by decide)).trans ((ju_c _ _ (by decide)).trans ((ju_c _ _ (by decide)).trans e221)))))
          have y238 : M218 598 72 = v220 := e237
          obtain ⟨v239, e239⟩ : ∃ z, M218 598 73 = z := ⟨_, rfl⟩
          have b239 : 0 ≤ v239 ∧ v239 ≤ 1600 := by rw [← e239]; exact hI_M218 598 73 (by decide)
          have y240 : M218 598 73 = v239 := e239
          obtain ⟨v241, e241⟩ : ∃ z, M218 598 74 = z := ⟨_, rfl⟩
          have b241 : 0 ≤ v241 ∧ v241 ≤ 4 := by rw [← e241]; exact hI_M218 598 74 (by decide)
          have y242 : M218 598 74 = v241 := e241
          obtain ⟨v243, e243⟩ : ∃ z, M218 598 79 = z := ⟨_, rfl⟩
          have b243 : 0 ≤ v243 ∧ v243 ≤ 255 := by rw [← e243]; exact hI_M218 598 79 (by decide)
          have y244 : M218 598 79 = v243 := e243
          obtain ⟨v245, e245⟩ : ∃ z, M218 598 80 = z := ⟨_, rfl⟩
          have b245 : 0 ≤ v245 ∧ v245 ≤ 7 := by rw [← e245]; exact hI_M218 598 80 (by decide)
          have y246 : M218 598 80 = v245 := e245
          have e247 : M218 598 89 = v224 := ((w218_9 89 (by decide) (by decide) (by decide) (by decide) (by decide) (by decide) (by decide) (by decide) (by decide) (by decide)).trans ((ju_i _ _ (by decide)).trans ((ju_c _ _ (by decide)).trans ((ju_c _ _ (by decide)).trans ((ju_c _ _ (by decide)).trans e224)))))
          have y248 : M218 598 89 = v224 := e247
          obtain ⟨v249, e249⟩ : ∃ z, M 598 90 = z := ⟨_, rfl⟩
          have b249 : 0 ≤ v249 ∧ v249 ≤ 2200 := by rw [← e249]; exact hI_M 598 90 (by decide)
          have e250 : M142 598 90 = v249 := ((w142_5 90 (by decide) (by decide) (by decide)).trans e249)
          have e251 : M218 598 90 = v249 := ((w218_9 90 (by decide) (by decide) (by decide) (by decide) (by decide) (by decide) (by decide) (by decide) (by decide) (by decide)).trans ((ju_i _ _ (by decide)).trans ((ju_c _ _ (by decide)).trans ((ju_c _ _ (by decide)).trans ((ju_c _ _ (by decide)).trans e250)))))
          have y252 : M218 598 90 = v249 := e251
          obtain ⟨v253, e253⟩ : ∃ z, M218 598 100 = z := ⟨_, rfl⟩
          have b253 : 0 ≤ v253 ∧ v253 ≤ 13 := by rw [← e253]; exact hI_M218 598 100 (by decide)
          have y254 : M218 598 100 = v253 := e253
          obtain ⟨v255, e255⟩ : ∃ z, M 598 107 = z := ⟨_, rfl⟩
          have b255 : 0 ≤ v255 ∧ v255 ≤ 16 := by rw [← e255]; exact hI_M 598 107 (by decide)
          have e256 : M142 598 107 = v255 := ((w142_5 107 (by decide) (by decide) (by decide)).trans e255)
          have e257 : M218 598 107 = v255 := ((w218_9 107 (by decide) (by decide) (by decide) (by decide) (by decide) (by decide) (by decide) (by decide) (by decide) (by decide)).trans ((ju_i _ _ (by decide)).trans ((ju_c _ _ (by decide)).trans ((ju_c _ _ (by decide)).trans ((ju_c _ _ (by decide)).trans e256)))))
          have y258 : M218 598 107 = v255 := e257
          exact jr.ireturn rfl rfl rfl (q _ _ hI_M218 hH_M218 hS_M218  (by omega) (by by_cases hf : v245 = 0; (first | (exfalso; omega) | (exact Or.inr ⟨⟨by omega, ES.adj hE (k' := 0) (z' := 0) (by omega) (by omega) (by omega), by omega, by omega, by omega, by omega⟩, by omega⟩)); (exact Or.inl ⟨by omega, by omega⟩)) (by omega) (by omega) (by omega) (fun a i f598 f659 f660 f664 f666 f667 => ((w218_8 a i f598).trans ((ju_c _ _ f598).trans ((ju_c _ _ f667).trans ((ju_c _ _ f666).trans ((ju_c _ _ f664).trans ((w142_4 a i f598).trans rfl))))))) (fun i g73 g74 g75 g76 g77 g78 g79 g80 g81 g89 g90 g100 g102 => ((w218_9 i g73 g74 g75 g76 g77 g78 g79 g80 g81 g100).trans ((ju_i _ _ g102).trans ((ju_c _ _ (by decide)).trans ((ju_c _ _ (by decide)).trans ((ju_c _ _ (by decide)).trans ((w142_5 i g80 g81 g89).trans rfl))))))))
        · refine jr.if_eq rfl rfl (by omega) (fun _ => ?_) (fun h => absurd (by decide) h)
          refine jr.iconst rfl ?_
          obtain ⟨v259, e259⟩ : ∃ z, M 598 72 = z := ⟨_, rfl⟩
          have b259 : 0 ≤ v259 ∧ v259 ≤ 1600 := by rw [← e259]; exact hI_M 598 72 (by decide)
          have e260 : M142 598 72 = v259 := ((w142_5 72 (by decide) (by decide) (by decide)).trans e259)
          have y261 : (ju (ju (ju (ju M142 664 v216 11) 666 v216 (-1)) 667 v216 1) 598 102 (v216 + 1)) 598 72 = v259 := ((ju_i _ _ (by decide)).trans ((ju_c _ _ (by decide)).trans ((ju_c _ _ (by decide)).trans ((ju_c _ _ (by decide)).trans e260))))
          have e262 : M142 598 73 = v144 := ((w142_5 73 (by decide) (by decide) (by decide)).trans e144)
          have y263 : (ju (ju (ju (ju M142 664 v216 11) 666 v216 (-1)) 667 v216 1) 598 102 (v216 + 1)) 598 73 = v144 := ((ju_i _ _ (by decide)).trans ((ju_c _ _ (by decide)).trans ((ju_c _ _ (by decide)).trans ((ju_c _ _ (by decide)).trans e262))))
          obtain ⟨v264, e264⟩ : ∃ z, M 598 74 = z := ⟨_, rfl⟩
          have b264 : 0 ≤ v264 ∧ v264 ≤ 4 := by rw [← e264]; exact hI_M 598 74 (by decide)
          have e265 : M142 598 74 = v264 := ((w142_5 74 (by decide) (by decide) (by decide)).trans e264)
          have y266 : (ju (ju (ju (ju M142 664 v216 11) 666 v216 (-1)) 667 v216 1) 598 102 (v216 + 1)) 598 74 = v264 := ((ju_i _ _ (by decide)).trans ((ju_c _ _ (by decide)).trans ((ju_c _ _ (by decide)).trans ((ju_c _ _ (by decide)).trans e265))))
          obtain ⟨v267, e267⟩ : ∃ z, M 598 79 = z := ⟨_, rfl⟩
          have b267 : 0 ≤ v267 ∧ v267 ≤ 255 := by rw [← e267]; exact hI_M 598 79 (by decide)
          have e268 : M142 598 79 = v267 := ((w142_5 79 (by decide) (by decide) (by decide)).trans e267)
          have y269 : (ju (ju (ju (ju M142 664 v216 11) 666 v216 (-1)) 667 v216 1) 598 102 (v216 + 1)) 598 79 = v267 := ((ju_i _ _ (by decide)).trans ((ju_c _ _ (by decide)).trans ((ju_c _ _ (by decide)).trans ((ju_c _ _ (by decide)).trans e268))))
          obtain ⟨v270, e270⟩ : ∃ z, M142 598 80 = z := ⟨_, rfl⟩
          have b270 : 0 ≤ v270 ∧ v270 ≤ 7 := by rw [← e270]; exact hI_M142 598 80 (by decide)
          have y271 : (ju (ju (ju (ju M142 664 v216 11) 666 v216 (-1)) 667 v216 1) 598 102 (v216 + 1)) 598 80 = v270 := ((ju_i _ _ (by decide)).trans ((ju_c _ _ (by decide)).trans ((ju_c _ _ (by decide)).trans ((ju_c _ _ (by decide)).trans e270))))
          obtain ⟨v272, e272⟩ : ∃ z, M142 598 89 = z := ⟨_, rfl⟩
          have b272 : 0 ≤ v272 ∧ v272 ≤ 301 := by rw [← e272]; exact hI_M142 598 89 (by decide)
          have y273 : (ju (ju (ju (ju M142 664 v216 11) 666 v216 (-1)) 667 v216 1) 598 102 (v216 + 1)) 598 89 = v272 := ((ju_i _ _ (by decide)).trans ((ju_c _ _ (by decide)).trans ((ju_c _ _ (by decide)).trans ((ju_c _ _ (by decide)).trans e272))))
          obtain ⟨v274, e274⟩ : ∃ z, M 598 90 = z := ⟨_, rfl⟩
          have b274 : 0 ≤ v274 ∧ v274 ≤ 2200 := by rw [← e274]; exact hI_M 598 90 (by decide)
          have e275 : M142 598 90 = v274 := ((w142_5 90 (by decide) (by decide) (by decide)).trans e274)
          have y276 : (ju (ju (ju (ju M142 664 v216 11) 666 v216 (-1)) 667 v216 1) 598 102 (v216 + 1)) 598 90 = v274 := ((ju_i _ _ (by decide)).trans ((ju_c _ _ (by decide)).trans ((ju_c _ _ (by decide)).trans ((ju_c _ _ (by decide)).trans e275))))
          have e277 : M142 598 100 = v147 := ((w142_5 100 (by decide) (by decide) (by decide)).trans e147)
          have y278 : (ju (ju (ju (ju M142 664 v216 11) 666 v216 (-1)) 667 v216 1) 598 102 (v216 + 1)) 598 100 = v147 := ((ju_i _ _ (by decide)).trans ((ju_c _ _ (by decide)).trans ((ju_c _ _ (by decide)).trans ((ju_c _ _ (by decide)).trans e277))))
          obtain ⟨v279, e279⟩ : ∃ z, M 598 107 = z := ⟨_, rfl⟩
          have b279 : 0 ≤ v279 ∧ v279 ≤ 16 := by rw [← e279]; exact hI_M 598 107 (by decide)
          have e280 : M142 598 107 = v279 := ((w142_5 107 (by decide) (by decide) (by decide)).trans e279)
          have y281 : (ju (ju (ju (ju M142 664 v216 11) 666 v216 (-1)) 667 v216 1) 598 102 (v216 + 1)) 598 107 = v279 := ((ju_i _ _ (by decide)).trans ((ju_c _ _ (by decide)).trans ((ju_c _ _ (by decide)).trans ((ju_c _ _ (by decide)).trans e280))))
          have y282 : TK (ju (ju (ju (ju M142 664 v216 11) 666 v216 (-1)) 667 v216 1) 598 102 (v216 + 1)) = TK M142 := ((TK.o (Or.inr ⟨by decide, by decide⟩)).trans ((TK.o (Or.inl (by decide))).trans ((TK.o (Or.inl (by decide))).trans ((TK.o (Or.inl (by decide))).trans rfl))))
          exact jr.ireturn rfl rfl rfl (q _ _ (RI.u (RI.u (RI.u (RI.u hI_M142 (a := 664) (i := v216) (by rw [xri_row rfl rfl]; show (0 : Int) ≤ _ ∧ _ ≤ (255 : Int); omega)) (a := 666) (i := v216) (by rw [xri_row rfl rfl]; show (-1 : Int) ≤ _ ∧ _ ≤ (68 : Int); omega)) (a := 667) (i := v216) (by rw [xri_row rfl rfl]; show (0 : Int) ≤ _ ∧ _ ≤ (4 : Int); omega)) (a := 598) (i := 102) (show (0 : Int) ≤ _ ∧ _ ≤ (400 : Int) from by omega)) (RH.o (RH.o (RH.o (RH.o hH_M142 (by decide) (by decide) (by decide)) (by decide) (by decide) (by decide)) (by decide) (by decide) (by decide)) (by decide) (by decide) (by decide)) (RF.o (RF.o (RF.o (RF.o hS_M142 (by decide) (by decide)) (by decide) (by decide)) (by decide) (by decide)) (by decide) (by decide))  (by omega) (by by_cases hf : v270 = 0; (first | (exfalso; omega) | (exact Or.inr ⟨⟨by omega, ES.adj hE (k' := 0) (z' := 0) (by omega) (by omega) (by omega), by omega, by omega, by omega, by omega⟩, by omega⟩)); (exact Or.inl ⟨by omega, by omega⟩)) (by omega) (by omega) (by omega) (fun a i f598 f659 f660 f664 f666 f667 => ((ju_c _ _ f598).trans ((ju_c _ _ f667).trans ((ju_c _ _ f666).trans ((ju_c _ _ f664).trans ((w142_4 a i f598).trans rfl)))))) (fun i g73 g74 g75 g76 g77 g78 g79 g80 g81 g89 g90 g100 g102 => ((ju_i _ _ g102).trans ((ju_c _ _ (by decide)).trans ((ju_c _ _ (by decide)).trans ((ju_c _ _ (by decide)).trans ((w142_5 i g80 g81 g89).trans rfl)))))))
    · refine jr.if_eq rfl rfl (by omega) (fun _ => ?_) (fun h => absurd (by decide) h)
      refine jr.aload_n rfl rfl ?_
      refine jr.bipush rfl (by decide) ?_
      refine jr_v rfl rfl (Or.inl rfl) rfl rfl (by decide) rfl ⟨rfl, Nat.le_of_ble_eq_true rfl, Nat.le_of_ble_eq_true rfl⟩ rfl (jc.deep (c_isSign hI_M (by omega) (fun t59_0 t59_1 => ?_) (fun f59_0 => ?_)) (by decide))
      · refine jr.if_eq rfl rfl (by omega) (fun h => absurd h (by decide)) (fun _ => ?_)
        refine jr.aload_n rfl rfl ?_
        refine jr.bipush rfl (by decide) ?_
        refine jr.iconst rfl ?_
        obtain ⟨v283, e283⟩ : ∃ z, M 598 102 = z := ⟨_, rfl⟩
        have b283 : 0 ≤ v283 ∧ v283 ≤ 400 := by rw [← e283]; exact hI_M 598 102 (by decide)
        refine jr_v rfl rfl (Or.inl rfl) rfl rfl (by decide) rfl ⟨rfl, Nat.le_of_ble_eq_true rfl, Nat.le_of_ble_eq_true rfl⟩ rfl (jc.deep (r_push e283 (by omega) (by omega) (by omega) ?_) (by decide))
        have hE := ES.deep hE e283 40 (-1) 0 0 (by omega) (by omega) (by omega)
        refine jr.aload_n rfl rfl ?_
        obtain ⟨v285, e285⟩ : ∃ z, M 598 73 = z := ⟨_, rfl⟩
        have b285 : 0 ≤ v285 ∧ v285 ≤ 1600 := by rw [← e285]; exact hI_M 598 73 (by decide)
        obtain ⟨v286, e286⟩ : ∃ z, M 598 72 = z := ⟨_, rfl⟩
        have b286 : 0 ≤ v286 ∧ v286 ≤ 1600 := by rw [← e286]; exact hI_M 598 72 (by decide)
        obtain ⟨v287, e287⟩ : ∃ z, M 598 100 = z := ⟨_, rfl⟩
        have b287 : 0 ≤ v287 ∧ v287 ≤ 13 := by rw [← e287]; exact hI_M 598 100 (by decide)
        obtain ⟨v289, e289⟩ : ∃ z, M 598 89 = z := ⟨_, rfl⟩
        have b289 : 0 ≤ v289 ∧ v289 ≤ 301 := by rw [← e289]; exact hI_M 598 89 (by decide)
        obtain ⟨v293, e293⟩ : ∃ z, M 598 74 = z := ⟨_, rfl⟩
        have b293 : 0 ≤ v293 ∧ v293 ≤ 4 := by rw [← e293]; exact hI_M 598 74 (by decide)
        obtain ⟨v295, e295⟩ : ∃ z, M 598 79 = z := ⟨_, rfl⟩
        have b295 : 0 ≤ v295 ∧ v295 ≤ 255 := by rw [← e295]; exact hI_M 598 79 (by decide)
        obtain ⟨v297, e297⟩ : ∃ z, M 598 80 = z := ⟨_, rfl⟩
        have b297 : 0 ≤ v297 ∧ v297 ≤ 7 := by rw [← e297]; exact hI_M 598 80 (by decide)
        refine jr_v rfl rfl (Or.inl rfl) rfl rfl (by decide) rfl ⟨rfl, Nat.le_of_ble_eq_true rfl, Nat.le_of_ble_eq_true rfl⟩ rfl (jc.deep (r_deeper (RI.u (RI.u (RI.u (RI.u hI_M (a := 664) (i := v283) (by rw [xri_row rfl rfl]; show (0 : Int) ≤ _ ∧ _ ≤ (255 : Int); omega)) (a := 666) (i := v283) (by rw [xri_row rfl rfl]; show (-1 : Int) ≤ _ ∧ _ ≤ (68 : Int); omega)) (a := 667) (i := v283) (by rw [xri_row rfl rfl]; show (0 : Int) ≤ _ ∧ _ ≤ (4 : Int); omega)) (a := 598) (i := 102) (show (0 : Int) ≤ _ ∧ _ ≤ (400 : Int) from by omega)) (RH.o (RH.o (RH.o (RH.o hH_M (by decide) (by decide) (by decide)) (by decide) (by decide) (by decide)) (by decide) (by decide) (by decide)) (by decide) (by decide) (by decide)) (RF.o (RF.o (RF.o (RF.o hS_M (by decide) (by decide)) (by decide) (by decide)) (by decide) (by decide)) (by decide) (by decide))   (by rw [((ju_i _ _ (by decide)).trans ((ju_c _ _ (by decide)).trans ((ju_c _ _ (by decide)).trans ((ju_c _ _ (by decide)).trans e285)))), ((ju_i _ _ (by decide)).trans ((ju_c _ _ (by decide)).trans ((ju_c _ _ (by decide)).trans ((ju_c _ _ (by decide)).trans e286))))]; omega) (by rw [((ju_i _ _ (by decide)).trans ((ju_c _ _ (by decide)).trans ((ju_c _ _ (by decide)).trans ((ju_c _ _ (by decide)).trans e287))))]; omega) (fun M284 hI_M284 hH_M284 hS_M284  w284_0 w284_1 w284_2 w284_3 w284_4 w284_5 w284_6 w284_7 w284_8 w284_9 => ?_)) (by decide))
        have y292 : (ju (ju (ju (ju M 664 v283 40) 666 v283 (-1)) 667 v283 1) 598 102 (v283 + 1)) 598 73 = v285 := ((ju_i _ _ (by decide)).trans ((ju_c _ _ (by decide)).trans ((ju_c _ _ (by decide)).trans ((ju_c _ _ (by decide)).trans e285))))
        have y294 : (ju (ju (ju (ju M 664 v283 40) 666 v283 (-1)) 667 v283 1) 598 102 (v283 + 1)) 598 74 = v293 := ((ju_i _ _ (by decide)).trans ((ju_c _ _ (by decide)).trans ((ju_c _ _ (by decide)).trans ((ju_c _ _ (by decide)).trans e293))))
        have y296 : (ju (ju (ju (ju M 664 v283 40) 666 v283 (-1)) 667 v283 1) 598 102 (v283 + 1)) 598 79 = v295 := ((ju_i _ _ (by decide)).trans ((ju_c _ _ (by decide)).trans ((ju_c _ _ (by decide)).trans ((ju_c _ _ (by decide)).trans e295))))
        have y298 : (ju (ju (ju (ju M 664 v283 40) 666 v283 (-1)) 667 v283 1) 598 102 (v283 + 1)) 598 80 = v297 := ((ju_i _ _ (by decide)).trans ((ju_c _ _ (by decide)).trans ((ju_c _ _ (by decide)).trans ((ju_c _ _ (by decide)).trans e297))))
        have y299 : (ju (ju (ju (ju M 664 v283 40) 666 v283 (-1)) 667 v283 1) 598 102 (v283 + 1)) 598 100 = v287 := ((ju_i _ _ (by decide)).trans ((ju_c _ _ (by decide)).trans ((ju_c _ _ (by decide)).trans ((ju_c _ _ (by decide)).trans e287))))
        have tb284 : TK (ju (ju (ju (ju M 664 v283 40) 666 v283 (-1)) 667 v283 1) 598 102 (v283 + 1)) = TK M := ((TK.o (Or.inr ⟨by decide, by decide⟩)).trans ((TK.o (Or.inl (by decide))).trans ((TK.o (Or.inl (by decide))).trans ((TK.o (Or.inl (by decide))).trans rfl))))
        have y288 : (ju (ju (ju (ju M 664 v283 40) 666 v283 (-1)) 667 v283 1) 598 102 (v283 + 1)) 598 73 = v285 := ((ju_i _ _ (by decide)).trans ((ju_c _ _ (by decide)).trans ((ju_c _ _ (by decide)).trans ((ju_c _ _ (by decide)).trans e285))))
        have y290 : (ju (ju (ju (ju M 664 v283 40) 666 v283 (-1)) 667 v283 1) 598 102 (v283 + 1)) 598 89 = v289 := ((ju_i _ _ (by decide)).trans ((ju_c _ _ (by decide)).trans ((ju_c _ _ (by decide)).trans ((ju_c _ _ (by decide)).trans e289))))
        have y291 : (ju (ju (ju (ju M 664 v283 40) 666 v283 (-1)) 667 v283 1) 598 102 (v283 + 1)) 598 100 = v287 := ((ju_i _ _ (by decide)).trans ((ju_c _ _ (by decide)).trans ((ju_c _ _ (by decide)).trans ((ju_c _ _ (by decide)).trans e287))))
        have x284_89 := w284_9 89 (by decide) (by decide) (by decide) (by decide) (by decide) (by decide) (by decide) (by decide) (by decide) (by decide)
        have hE := ES.fr2 hE w284_8 (w284_9 88 (by decide) (by decide) (by decide) (by decide) (by decide) (by decide) (by decide) (by decide) (by decide) (by decide)) (w284_9 90 (by decide) (by decide) (by decide) (by decide) (by decide) (by decide) (by decide) (by decide) (by decide) (by decide)) (w284_9 101 (by decide) (by decide) (by decide) (by decide) (by decide) (by decide) (by decide) (by decide) (by decide) (by decide)) (w284_9 102 (by decide) (by decide) (by decide) (by decide) (by decide) (by decide) (by decide) (by decide) (by decide) (by decide)) (w284_9 107 (by decide) (by decide) (by decide) (by decide) (by decide) (by decide) (by decide) (by decide) (by decide) (by decide)) (k' := 0) (d' := 0) (z' := 0) (by omega) (by omega) (by omega) (by omega)
        refine jr.iconst rfl ?_
        have e300 : M284 598 72 = v286 := ((w284_9 72 (by decide) (by decide) (by decide) (by decide) (by decide) (by decide) (by decide) (by decide) (by decide) (by decide)).trans ((ju_i _ _ (by decide)).trans ((ju_c _ _ (by decide)).trans ((ju_c _ _ (by decide)).trans ((ju_c _ _ (by decide)).trans e286)))))
        have y301 : M284 598 72 = v286 := e300
        obtain ⟨v302, e302⟩ : ∃ z, M284 598 73 = z := ⟨_, rfl⟩
        have b302 : 0 ≤ v302 ∧ v302 ≤ 1600 := by rw [← e302]; exact hI_M284 598 73 (by decide)
        have y303 : M284 598 73 = v302 := e302
        obtain ⟨v304, e304⟩ : ∃ z, M284 598 74 = z := ⟨_, rfl⟩
        have b304 : 0 ≤ v304 ∧ v304 ≤ 4 := by rw [← e304]; exact hI_M284 598 74 (by decide)
        have y305 : M284 598 74 = v304 := e304
        obtain ⟨v306, e306⟩ : ∃ z, M284 598 79 = z := ⟨_, rfl⟩
        have b306 : 0 ≤ v306 ∧ v306 ≤ 255 := by rw [← e306]; exact hI_M284 598 79 (by decide)
        have y307 : M284 598 79 = v306 := e306
        obtain ⟨v308, e308⟩ : ∃ z, M284 598 80 = z := ⟨_, rfl⟩
        have b308 : 0 ≤ v308 ∧ v308 ≤ 7 := by rw [← e308]; exact hI_M284 598 80 (by decide)
        have y309 : M284 598 80 = v308 := e308
        have e310 : M284 598 89 = v289 := ((w284_9 89 (by decide) (by decide) (by decide) (by decide) (by decide) (by decide) (by decide) (by decide) (by decide) (by decide)).trans ((ju_i _ _ (by decide)).trans ((ju_c _ _ (by decide)).trans ((ju_c _ _ (by decide)).trans ((ju_c _ _ (by decide)).trans e289)))))
        have y311 : M284 598 89 = v289 := e310
        obtain ⟨v312, e312⟩ : ∃ z, M 598 90 = z := ⟨_, rfl⟩
        have b312 : 0 ≤ v312 ∧ v312 ≤ 2200 := by rw [← e312]; exact hI_M 598 90 (by decide)
        have e313 : M284 598 90 = v312 := ((w284_9 90 (by decide) (by decide) (by decide) (by decide) (by decide) (by decide) (by decide) (by decide) (by decide) (by decide)).trans ((ju_i _ _ (by decide)).trans ((ju_c _ _ (by decide)).trans ((ju_c _ _ (by decide)).trans ((ju_c _ _ (by decide)).trans e312)))))
        have y314 : M284 598 90 = v312 := e313
        obtain ⟨v315, e315⟩ : ∃ z, M284 598 100 = z := ⟨_, rfl⟩
        have b315 : 0 ≤ v315 ∧ v315 ≤ 13 := by rw [← e315]; exact hI_M284 598 100 (by decide)
        have y316 : M284 598 100 = v315 := e315
        obtain ⟨v317, e317⟩ : ∃ z, M 598 107 = z := ⟨_, rfl⟩
        have b317 : 0 ≤ v317 ∧ v317 ≤ 16 := by rw [← e317]; exact hI_M 598 107 (by decide)
        have e318 : M284 598 107 = v317 := ((w284_9 107 (by decide) (by decide) (by decide) (by decide) (by decide) (by decide) (by decide) (by decide) (by decide) (by decide)).trans ((ju_i _ _ (by decide)).trans ((ju_c _ _ (by decide)).trans ((ju_c _ _ (by decide)).trans ((ju_c _ _ (by decide)).trans e317)))))
        have y319 : M284 598 107 = v317 := e318
        exact jr.ireturn rfl rfl rfl (q _ _ hI_M284 hH_M284 hS_M284  (by omega) (by by_cases hf : v308 = 0; (first | (exfalso; omega) | (exact Or.inr ⟨⟨by omega, ES.adj hE (k' := 0) (z' := 0) (by omega) (by omega) (by omega), by omega, by omega, by omega, by omega⟩, by omega⟩)); (exact Or.inl ⟨by omega, by omega⟩)) (by omega) (by omega) (by omega) (fun a i f598 f659 f660 f664 f666 f667 => ((w284_8 a i f598).trans ((ju_c _ _ f598).trans ((ju_c _ _ f667).trans ((ju_c _ _ f666).trans ((ju_c _ _ f664).trans rfl)))))) (fun i g73 g74 g75 g76 g77 g78 g79 g80 g81 g89 g90 g100 g102 => ((w284_9 i g73 g74 g75 g76 g77 g78 g79 g80 g81 g100).trans ((ju_i _ _ g102).trans ((ju_c _ _ (by decide)).trans ((ju_c _ _ (by decide)).trans ((ju_c _ _ (by decide)).trans rfl)))))))
      · refine jr.if_eq rfl rfl (by omega) (fun _ => ?_) (fun h => absurd (by decide) h)
        refine jr.aload_n rfl rfl ?_
        obtain ⟨v320, e320⟩ : ∃ z, M 598 74 = z := ⟨_, rfl⟩
        have b320 : 0 ≤ v320 ∧ v320 ≤ 4 := by rw [← e320]; exact hI_M 598 74 (by decide)
        refine jr.getf (i := 74) (x := v320) (v := .int (Int32.ofInt (v320))) rfl rfl (by decide) rfl (by decide) rfl rfl e320 rfl ?_
        refine jr.iconst rfl ?_
        refine jr.icmp_ne rfl rfl (by omega) (by omega) (fun h83 => ?_) (fun h83 => ?_)
        · refine jr.aload_n rfl rfl ?_
          refine jr.bipush rfl (by decide) ?_
          refine jr_v rfl rfl (Or.inl rfl) rfl rfl (by decide) rfl ⟨rfl, Nat.le_of_ble_eq_true rfl, Nat.le_of_ble_eq_true rfl⟩ rfl (jc.deep (c_isWord hI_M (by omega) (fun t129_0 t129_1 => ?_) (fun f129_0 => ?_)) (by decide))
          · refine jr.if_ne rfl rfl (by omega) (fun _ => ?_) (fun h => absurd (by decide) h)
            refine jr.aload_n rfl rfl ?_
            obtain ⟨v322, e322⟩ : ∃ z, M 598 89 = z := ⟨_, rfl⟩
            have b322 : 0 ≤ v322 ∧ v322 ≤ 301 := by rw [← e322]; exact hI_M 598 89 (by decide)
            obtain ⟨v323, e323⟩ : ∃ z, M 598 73 = z := ⟨_, rfl⟩
            have b323 : 0 ≤ v323 ∧ v323 ≤ 1600 := by rw [← e323]; exact hI_M 598 73 (by decide)
            obtain ⟨v326, e326⟩ : ∃ z, M 598 100 = z := ⟨_, rfl⟩
            have b326 : 0 ≤ v326 ∧ v326 ≤ 13 := by rw [← e326]; exact hI_M 598 100 (by decide)
            refine jr_v rfl rfl (Or.inl rfl) rfl rfl (by decide) rfl ⟨rfl, Nat.le_of_ble_eq_true rfl, Nat.le_of_ble_eq_true rfl⟩ rfl (jc.deep (r_node hI_M hH_M hS_M   (by rw [e322]; omega) (fun M321 hI_M321 hH_M321 hS_M321  w321_0 w321_1 w321_2 w321_3 w321_4 w321_5 => ?_)) (by decide))
            have tk321 : TK M321 = TK M := TK.fr (w321_5 73 (by decide) (by decide) (by decide)) (w321_5 74 (by decide) (by decide) (by decide))
            have y324 : M 598 73 = v323 := e323
            have y325 : M 598 89 = v322 := e322
            have y327 : M 598 100 = v326 := e326
            have x321_73 := w321_5 73 (by decide) (by decide) (by decide)
            have x321_100 := w321_5 100 (by decide) (by decide) (by decide)
            have hE := ES.fr2 hE w321_4 (w321_5 88 (by decide) (by decide) (by decide)) (w321_5 90 (by decide) (by decide) (by decide)) (w321_5 101 (by decide) (by decide) (by decide)) (w321_5 102 (by decide) (by decide) (by decide)) (w321_5 107 (by decide) (by decide) (by decide)) (k' := 4) (d' := 0) (z' := 0) (by omega) (by omega) (by omega) (by omega)
            refine jr.aload_n rfl rfl ?_
            refine jr.sipush rfl (by decide) ?_
            refine jr.aload_n rfl rfl ?_
            obtain ⟨v328, e328⟩ : ∃ z, M 598 76 = z := ⟨_, rfl⟩
            have b328 : (-1) ≤ v328 ∧ v328 ≤ 68 := by rw [← e328]; exact hI_M 598 76 (by decide)
            have e329 : M321 598 76 = v328 := ((w321_5 76 (by decide) (by decide) (by decide)).trans e328)
            refine jr.getf (i := 76) (x := v328) (v := .int (Int32.ofInt (v328))) rfl rfl (by decide) rfl (by decide) rfl rfl e329 rfl ?_
            refine jr.iadd rfl ?_
            refine jr.lconst (x := 0) rfl (by decide) ?_
            obtain ⟨v330, e330⟩ : ∃ z, M 598 90 = z := ⟨_, rfl⟩
            have b330 : 0 ≤ v330 ∧ v330 ≤ 2200 := by rw [← e330]; exact hI_M 598 90 (by decide)
            have e331 : M321 598 90 = v330 := ((w321_5 90 (by decide) (by decide) (by decide)).trans e330)
            have e332 : M321 598 100 = v326 := ((w321_5 100 (by decide) (by decide) (by decide)).trans e326)
            obtain ⟨v334, e334⟩ : ∃ z, M 598 107 = z := ⟨_, rfl⟩
            have b334 : 0 ≤ v334 ∧ v334 ≤ 16 := by rw [← e334]; exact hI_M 598 107 (by decide)
            have e335 : M321 598 107 = v334 := ((w321_5 107 (by decide) (by decide) (by decide)).trans e334)
            refine jr_v rfl rfl (Or.inl rfl) rfl rfl (by decide) rfl ⟨rfl, Nat.le_of_ble_eq_true rfl, Nat.le_of_ble_eq_true rfl⟩ rfl (jc.deep (r_emit e331 (by omega) (by omega) (by omega) ?_) (by decide))
            have y333 : M321 598 100 = v326 := e332
            have y336 : M321 598 107 = v334 := e335
            have nd : ndo (340 + v328) = 0 := (by unfold ndo argn; (repeat' split) <;> omega)
            have dl : dlo (340 + v328) = 1 := (by unfold dlo ndo argn; (repeat' split) <;> omega)
            have hE := ES.emit hE e331 (340 + v328) 0 2 (by unfold vop; omega) (by omega) (by unfold exo; omega) (by unfold jpo; omega) (by omega) (by omega) (by omega) (by omega) (by omega) (by omega)
            rw [dl] at hE
            have hE : ES _ b 1 2 0 1 (-1) := hE
            refine jr.aload_n rfl rfl ?_
            have e338 : M321 598 73 = v323 := ((w321_5 73 (by decide) (by decide) (by decide)).trans e323)
            obtain ⟨v339, e339⟩ : ∃ z, M 598 72 = z := ⟨_, rfl⟩
            have b339 : 0 ≤ v339 ∧ v339 ≤ 1600 := by rw [← e339]; exact hI_M 598 72 (by decide)
            have e340 : M321 598 72 = v339 := ((w321_5 72 (by decide) (by decide) (by decide)).trans e339)
            obtain ⟨v342, e342⟩ : ∃ z, M321 598 89 = z := ⟨_, rfl⟩
            have b342 : 0 ≤ v342 ∧ v342 ≤ 301 := by rw [← e342]; exact hI_M321 598 89 (by decide)
            have e346 : M321 598 74 = v320 := ((w321_5 74 (by decide) (by decide) (by decide)).trans e320)
            refine jr_v rfl rfl (Or.inl rfl) rfl rfl (by decide) rfl ⟨rfl, Nat.le_of_ble_eq_true rfl, Nat.le_of_ble_eq_true rfl⟩ rfl (jc.deep (r_next (RI.u (RI.u (RI.u hI_M321 (a := 659) (i := v330) (by rw [xri_row rfl rfl]; show (0 : Int) ≤ _ ∧ _ ≤ (1000 : Int); omega)) (a := 660) (i := v330) (by rw [xri_row rfl rfl]; show (-9223372036854775808 : Int) ≤ _ ∧ _ ≤ (9223372036854775807 : Int); omega)) (a := 598) (i := 90) (show (0 : Int) ≤ _ ∧ _ ≤ (2200 : Int) from by omega)) (RH.o (RH.o (RH.o hH_M321 (by decide) (by decide) (by decide)) (by decide) (by decide) (by decide)) (by decide) (by decide) (by decide)) (RF.o (RF.o (RF.o hS_M321 (by decide) (by decide)) (by decide) (by decide)) (by decide) (by decide))   (by rw [((ju_i _ _ (by decide)).trans ((ju_c _ _ (by decide)).trans ((ju_c _ _ (by decide)).trans e338))), ((ju_i _ _ (by decide)).trans ((ju_c _ _ (by decide)).trans ((ju_c _ _ (by decide)).trans e340)))]; omega) (fun M337 hI_M337 hH_M337 hS_M337  w337_0 w337_1 w337_2 w337_3 w337_4 w337_5 w337_6 => ?_)) (by decide))
            have y345 : (ju (ju (ju M321 659 v330 (340 + v328)) 660 v330 0) 598 90 (v330 + 1)) 598 73 = v323 := ((ju_i _ _ (by decide)).trans ((ju_c _ _ (by decide)).trans ((ju_c _ _ (by decide)).trans e338)))
            have y347 : (ju (ju (ju M321 659 v330 (340 + v328)) 660 v330 0) 598 90 (v330 + 1)) 598 74 = v320 := ((ju_i _ _ (by decide)).trans ((ju_c _ _ (by decide)).trans ((ju_c _ _ (by decide)).trans e346)))
            have tb337 : TK (ju (ju (ju M321 659 v330 (340 + v328)) 660 v330 0) 598 90 (v330 + 1)) = TK M321 := ((TK.o (Or.inr ⟨by decide, by decide⟩)).trans ((TK.o (Or.inl (by decide))).trans ((TK.o (Or.inl (by decide))).trans rfl)))
            have y341 : (ju (ju (ju M321 659 v330 (340 + v328)) 660 v330 0) 598 90 (v330 + 1)) 598 73 = v323 := ((ju_i _ _ (by decide)).trans ((ju_c _ _ (by decide)).trans ((ju_c _ _ (by decide)).trans e338)))
            have y343 : (ju (ju (ju M321 659 v330 (340 + v328)) 660 v330 0) 598 90 (v330 + 1)) 598 89 = v342 := ((ju_i _ _ (by decide)).trans ((ju_c _ _ (by decide)).trans ((ju_c _ _ (by decide)).trans e342)))
            have y344 : (ju (ju (ju M321 659 v330 (340 + v328)) 660 v330 0) 598 90 (v330 + 1)) 598 100 = v326 := ((ju_i _ _ (by decide)).trans ((ju_c _ _ (by decide)).trans ((ju_c _ _ (by decide)).trans e332)))
            have x337_89 := w337_6 89 (by decide) (by decide) (by decide) (by decide) (by decide) (by decide) (by decide)
            have x337_100 := w337_6 100 (by decide) (by decide) (by decide) (by decide) (by decide) (by decide) (by decide)
            have hE := ES.fr2 hE w337_5 (w337_6 88 (by decide) (by decide) (by decide) (by decide) (by decide) (by decide) (by decide)) (w337_6 90 (by decide) (by decide) (by decide) (by decide) (by decide) (by decide) (by decide)) (w337_6 101 (by decide) (by decide) (by decide) (by decide) (by decide) (by decide) (by decide)) (w337_6 102 (by decide) (by decide) (by decide) (by decide) (by decide) (by decide) (by decide)) (w337_6 107 (by decide) (by decide) (by decide) (by decide) (by decide) (by decide) (by decide)) (k' := 2) (d' := 0) (z' := 0) (by omega) (by omega) (by omega) (by omega)
            refine jr.iconst rfl ?_
            have e348 : M337 598 72 = v339 := ((w337_6 72 (by decide) (by decide) (by decide) (by decide) (by decide) (by decide) (by decide)).trans ((ju_i _ _ (by decide)).trans ((ju_c _ _ (by decide)).trans ((ju_c _ _ (by decide)).trans e340))))
            have y349 : M337 598 72 = v339 := e348
            obtain ⟨v350, e350⟩ : ∃ z, M337 598 73 = z := ⟨_, rfl⟩
            have b350 : 0 ≤ v350 ∧ v350 ≤ 1600 := by rw [← e350]; exact hI_M337 598 73 (by decide)
            have y351 : M337 598 73 = v350 := e350
            obtain ⟨v352, e352⟩ : ∃ z, M337 598 74 = z := ⟨_, rfl⟩
            have b352 : 0 ≤ v352 ∧ v352 ≤ 4 := by rw [← e352]; exact hI_M337 598 74 (by decide)
            have y353 : M337 598 74 = v352 := e352
            obtain ⟨v354, e354⟩ : ∃ z, M337 598 79 = z := ⟨_, rfl⟩
            have b354 : 0 ≤ v354 ∧ v354 ≤ 255 := by rw [← e354]; exact hI_M337 598 79 (by decide)
            have y355 : M337 598 79 = v354 := e354
            obtain ⟨v356, e356⟩ : ∃ z, M321 598 80 = z := ⟨_, rfl⟩
            have b356 : 0 ≤ v356 ∧ v356 ≤ 7 := by rw [← e356]; exact hI_M321 598 80 (by decide)
            have e357 : M337 598 80 = v356 := ((w337_6 80 (by decide) (by decide) (by decide) (by decide) (by decide) (by decide) (by decide)).trans ((ju_i _ _ (by decide)).trans ((ju_c _ _ (by decide)).trans ((ju_c _ _ (by decide)).trans e356))))
            have y358 : M337 598 80 = v356 := e357
            have e359 : M337 598 89 = v342 := ((w337_6 89 (by decide) (by decide) (by decide) (by decide) (by decide) (by decide) (by decide)).trans ((ju_i _ _ (by decide)).trans ((ju_c _ _ (by decide)).trans ((ju_c _ _ (by decide)).trans e342))))
            have y360 : M337 598 89 = v342 := e359
            have e361 : M337 598 90 = v330 + 1 := ((w337_6 90 (by decide) (by decide) (by decide) (by decide) (by decide) (by decide) (by decide)).trans (ju_same _ _ _ _))
            have y362 : M337 598 90 = v330 + 1 := e361
            have e363 : M337 598 100 = v326 := ((w337_6 100 (by decide) (by decide) (by decide) (by decide) (by decide) (by decide) (by decide)).trans ((ju_i _ _ (by decide)).trans ((ju_c _ _ (by decide)).trans ((ju_c _ _ (by decide)).trans e332))))
            have y364 : M337 598 100 = v326 := e363
            have e365 : M337 598 107 = v334 := ((w337_6 107 (by decide) (by decide) (by decide) (by decide) (by decide) (by decide) (by decide)).trans ((ju_i _ _ (by decide)).trans ((ju_c _ _ (by decide)).trans ((ju_c _ _ (by decide)).trans e335))))
            have y366 : M337 598 107 = v334 := e365
            exact jr.ireturn rfl rfl rfl (q _ _ hI_M337 hH_M337 hS_M337  (by omega) (by by_cases hf : v356 = 0; (first | (exfalso; omega) | (exact Or.inr ⟨⟨by omega, ES.adj hE (k' := 0) (z' := 0) (by omega) (by omega) (by omega), by omega, by omega, by omega, by omega⟩, by omega⟩)); (exact Or.inl ⟨by omega, by omega⟩)) (by omega) (by omega) (by omega) (fun a i f598 f659 f660 f664 f666 f667 => ((w337_5 a i f598).trans ((ju_c _ _ f598).trans ((ju_c _ _ f660).trans ((ju_c _ _ f659).trans ((w321_4 a i f598).trans rfl)))))) (fun i g73 g74 g75 g76 g77 g78 g79 g80 g81 g89 g90 g100 g102 => ((w337_6 i g73 g74 g75 g76 g77 g78 g79).trans ((ju_i _ _ g90).trans ((ju_c _ _ (by decide)).trans ((ju_c _ _ (by decide)).trans ((w321_5 i g80 g81 g89).trans rfl)))))))
          · refine jr.if_ne rfl rfl (by omega) (fun h => absurd h (by decide)) (fun _ => ?_)
            refine jr.aload_n rfl rfl ?_
            refine jr.bipush rfl (by decide) ?_
            refine jr.bipush rfl (by decide) ?_
            refine jr_v rfl rfl (Or.inl rfl) rfl rfl (by decide) rfl ⟨rfl, Nat.le_of_ble_eq_true rfl, Nat.le_of_ble_eq_true rfl⟩ rfl (jc.deep (c_isWordIn hI_M (by omega) (by omega) (fun t140_0 t140_1 t140_2 => ?_) (fun f140_0 => ?_)) (by decide))
            · refine jr.if_eq rfl rfl (by omega) (fun h => absurd h (by decide)) (fun _ => ?_)
              refine jr.aload_n rfl rfl ?_
              obtain ⟨v368, e368⟩ : ∃ z, M 598 89 = z := ⟨_, rfl⟩
              have b368 : 0 ≤ v368 ∧ v368 ≤ 301 := by rw [← e368]; exact hI_M 598 89 (by decide)
              obtain ⟨v369, e369⟩ : ∃ z, M 598 73 = z := ⟨_, rfl⟩
              have b369 : 0 ≤ v369 ∧ v369 ≤ 1600 := by rw [← e369]; exact hI_M 598 73 (by decide)
              obtain ⟨v372, e372⟩ : ∃ z, M 598 100 = z := ⟨_, rfl⟩
              have b372 : 0 ≤ v372 ∧ v372 ≤ 13 := by rw [← e372]; exact hI_M 598 100 (by decide)
              refine jr_v rfl rfl (Or.inl rfl) rfl rfl (by decide) rfl ⟨rfl, Nat.le_of_ble_eq_true rfl, Nat.le_of_ble_eq_true rfl⟩ rfl (jc.deep (r_node hI_M hH_M hS_M   (by rw [e368]; omega) (fun M367 hI_M367 hH_M367 hS_M367  w367_0 w367_1 w367_2 w367_3 w367_4 w367_5 => ?_)) (by decide))
              have tk367 : TK M367 = TK M := TK.fr (w367_5 73 (by decide) (by decide) (by decide)) (w367_5 74 (by decide) (by decide) (by decide))
              have y370 : M 598 73 = v369 := e369
              have y371 : M 598 89 = v368 := e368
              have y373 : M 598 100 = v372 := e372
              have x367_73 := w367_5 73 (by decide) (by decide) (by decide)
              have x367_100 := w367_5 100 (by decide) (by decide) (by decide)
              have hE := ES.fr2 hE w367_4 (w367_5 88 (by decide) (by decide) (by decide)) (w367_5 90 (by decide) (by decide) (by decide)) (w367_5 101 (by decide) (by decide) (by decide)) (w367_5 102 (by decide) (by decide) (by decide)) (w367_5 107 (by decide) (by decide) (by decide)) (k' := 4) (d' := 0) (z' := 0) (by omega) (by omega) (by omega) (by omega)
              refine jr.aload_n rfl rfl ?_
              refine jr.sipush rfl (by decide) ?_
              refine jr.aload_n rfl rfl ?_
              obtain ⟨v374, e374⟩ : ∃ z, M 598 76 = z := ⟨_, rfl⟩
              have b374 : (-1) ≤ v374 ∧ v374 ≤ 68 := by rw [← e374]; exact hI_M 598 76 (by decide)
              have e375 : M367 598 76 = v374 := ((w367_5 76 (by decide) (by decide) (by decide)).trans e374)
              refine jr.getf (i := 76) (x := v374) (v := .int (Int32.ofInt (v374))) rfl rfl (by decide) rfl (by decide) rfl rfl e375 rfl ?_
              refine jr.iadd rfl ?_
              refine jr.lconst (x := 0) rfl (by decide) ?_
              obtain ⟨v376, e376⟩ : ∃ z, M 598 90 = z := ⟨_, rfl⟩
              have b376 : 0 ≤ v376 ∧ v376 ≤ 2200 := by rw [← e376]; exact hI_M 598 90 (by decide)
              have e377 : M367 598 90 = v376 := ((w367_5 90 (by decide) (by decide) (by decide)).trans e376)
              have e378 : M367 598 100 = v372 := ((w367_5 100 (by decide) (by decide) (by decide)).trans e372)
              obtain ⟨v380, e380⟩ : ∃ z, M 598 107 = z := ⟨_, rfl⟩
              have b380 : 0 ≤ v380 ∧ v380 ≤ 16 := by rw [← e380]; exact hI_M 598 107 (by decide)
              have e381 : M367 598 107 = v380 := ((w367_5 107 (by decide) (by decide) (by decide)).trans e380)
              refine jr_v rfl rfl (Or.inl rfl) rfl rfl (by decide) rfl ⟨rfl, Nat.le_of_ble_eq_true rfl, Nat.le_of_ble_eq_true rfl⟩ rfl (jc.deep (r_emit e377 (by omega) (by omega) (by omega) ?_) (by decide))
              have y379 : M367 598 100 = v372 := e378
              have y382 : M367 598 107 = v380 := e381
              have nd : ndo (340 + v374) = 0 := (by unfold ndo argn; (repeat' split) <;> omega)
              have dl : dlo (340 + v374) = 1 := (by unfold dlo ndo argn; (repeat' split) <;> omega)
              have hE := ES.emit hE e377 (340 + v374) 0 2 (by unfold vop; omega) (by omega) (by unfold exo; omega) (by unfold jpo; omega) (by omega) (by omega) (by omega) (by omega) (by omega) (by omega)
              rw [dl] at hE
              have hE : ES _ b 1 2 0 1 (-1) := hE
              refine jr.aload_n rfl rfl ?_
              have e384 : M367 598 73 = v369 := ((w367_5 73 (by decide) (by decide) (by decide)).trans e369)
              obtain ⟨v385, e385⟩ : ∃ z, M 598 72 = z := ⟨_, rfl⟩
              have b385 : 0 ≤ v385 ∧ v385 ≤ 1600 := by rw [← e385]; exact hI_M 598 72 (by decide)
              have e386 : M367 598 72 = v385 := ((w367_5 72 (by decide) (by decide) (by decide)).trans e385)
              obtain ⟨v388, e388⟩ : ∃ z, M367 598 89 = z := ⟨_, rfl⟩
              have b388 : 0 ≤ v388 ∧ v388 ≤ 301 := by rw [← e388]; exact hI_M367 598 89 (by decide)
              have e392 : M367 598 74 = v320 := ((w367_5 74 (by decide) (by decide) (by decide)).trans e320)
              refine jr_v rfl rfl (Or.inl rfl) rfl rfl (by decide) rfl ⟨rfl, Nat.le_of_ble_eq_true rfl, Nat.le_of_ble_eq_true rfl⟩ rfl (jc.deep (r_next (RI.u (RI.u (RI.u hI_M367 (a := 659) (i := v376) (by rw [xri_row rfl rfl]; show (0 : Int) ≤ _ ∧ _ ≤ (1000 : Int); omega)) (a := 660) (i := v376) (by rw [xri_row rfl rfl]; show (-9223372036854775808 : Int) ≤ _ ∧ _ ≤ (9223372036854775807 : Int); omega)) (a := 598) (i := 90) (show (0 : Int) ≤ _ ∧ _ ≤ (2200 : Int) from by omega)) (RH.o (RH.o (RH.o hH_M367 (by decide) (by decide) (by decide)) (by decide) (by decide) (by decide)) (by decide) (by decide) (by decide)) (RF.o (RF.o (RF.o hS_M367 (by decide) (by decide)) (by decide) (by decide)) (by decide) (by decide))   (by rw [((ju_i _ _ (by decide)).trans ((ju_c _ _ (by decide)).trans ((ju_c _ _ (by decide)).trans e384))), ((ju_i _ _ (by decide)).trans ((ju_c _ _ (by decide)).trans ((ju_c _ _ (by decide)).trans e386)))]; omega) (fun M383 hI_M383 hH_M383 hS_M383  w383_0 w383_1 w383_2 w383_3 w383_4 w383_5 w383_6 => ?_)) (by decide))
              have y391 : (ju (ju (ju M367 659 v376 (340 + v374)) 660 v376 0) 598 90 (v376 + 1)) 598 73 = v369 := ((ju_i _ _ (by decide)).trans ((ju_c _ _ (by decide)).trans ((ju_c _ _ (by decide)).trans e384)))
              have y393 : (ju (ju (ju M367 659 v376 (340 + v374)) 660 v376 0) 598 90 (v376 + 1)) 598 74 = v320 := ((ju_i _ _ (by decide)).trans ((ju_c _ _ (by decide)).trans ((ju_c _ _ (by decide)).trans e392)))
              have tb383 : TK (ju (ju (ju M367 659 v376 (340 + v374)) 660 v376 0) 598 90 (v376 + 1)) = TK M367 := ((TK.o (Or.inr ⟨by decide, by decide⟩)).trans ((TK.o (Or.inl (by decide))).trans ((TK.o (Or.inl (by decide))).trans rfl)))
              have y387 : (ju (ju (ju M367 659 v376 (340 + v374)) 660 v376 0) 598 90 (v376 + 1)) 598 73 = v369 := ((ju_i _ _ (by decide)).trans ((ju_c _ _ (by decide)).trans ((ju_c _ _ (by decide)).trans e384)))
              have y389 : (ju (ju (ju M367 659 v376 (340 + v374)) 660 v376 0) 598 90 (v376 + 1)) 598 89 = v388 := ((ju_i _ _ (by decide)).trans ((ju_c _ _ (by decide)).trans ((ju_c _ _ (by decide)).trans e388)))
              have y390 : (ju (ju (ju M367 659 v376 (340 + v374)) 660 v376 0) 598 90 (v376 + 1)) 598 100 = v372 := ((ju_i _ _ (by decide)).trans ((ju_c _ _ (by decide)).trans ((ju_c _ _ (by decide)).trans e378)))
              have x383_89 := w383_6 89 (by decide) (by decide) (by decide) (by decide) (by decide) (by decide) (by decide)
              have x383_100 := w383_6 100 (by decide) (by decide) (by decide) (by decide) (by decide) (by decide) (by decide)
              have hE := ES.fr2 hE w383_5 (w383_6 88 (by decide) (by decide) (by decide) (by decide) (by decide) (by decide) (by decide)) (w383_6 90 (by decide) (by decide) (by decide) (by decide) (by decide) (by decide) (by decide)) (w383_6 101 (by decide) (by decide) (by decide) (by decide) (by decide) (by decide) (by decide)) (w383_6 102 (by decide) (by decide) (by decide) (by decide) (by decide) (by decide) (by decide)) (w383_6 107 (by decide) (by decide) (by decide) (by decide) (by decide) (by decide) (by decide)) (k' := 2) (d' := 0) (z' := 0) (by omega) (by omega) (by omega) (by omega)
              refine jr.iconst rfl ?_
              have e394 : M383 598 72 = v385 := ((w383_6 72 (by decide) (by decide) (by decide) (by decide) (by decide) (by decide) (by decide)).trans ((ju_i _ _ (by decide)).trans ((ju_c _ _ (by decide)).trans ((ju_c _ _ (by decide)).trans e386))))
              have y395 : M383 598 72 = v385 := e394
              obtain ⟨v396, e396⟩ : ∃ z, M383 598 73 = z := ⟨_, rfl⟩
              have b396 : 0 ≤ v396 ∧ v396 ≤ 1600 := by rw [← e396]; exact hI_M383 598 73 (by decide)
              have y397 : M383 598 73 = v396 := e396
              obtain ⟨v398, e398⟩ : ∃ z, M383 598 74 = z := ⟨_, rfl⟩
              have b398 : 0 ≤ v398 ∧ v398 ≤ 4 := by rw [← e398]; exact hI_M383 598 74 (by decide)
              have y399 : M383 598 74 = v398 := e398
              obtain ⟨v400, e400⟩ : ∃ z, M383 598 79 = z := ⟨_, rfl⟩
              have b400 : 0 ≤ v400 ∧ v400 ≤ 255 := by rw [← e400]; exact hI_M383 598 79 (by decide)
              have y401 : M383 598 79 = v400 := e400
              obtain ⟨v402, e402⟩ : ∃ z, M367 598 80 = z := ⟨_, rfl⟩
              have b402 : 0 ≤ v402 ∧ v402 ≤ 7 := by rw [← e402]; exact hI_M367 598 80 (by decide)
              have e403 : M383 598 80 = v402 := ((w383_6 80 (by decide) (by decide) (by decide) (by decide) (by decide) (by decide) (by decide)).trans ((ju_i _ _ (by decide)).trans ((ju_c _ _ (by decide)).trans ((ju_c _ _ (by decide)).trans e402))))
              have y404 : M383 598 80 = v402 := e403
              have e405 : M383 598 89 = v388 := ((w383_6 89 (by decide) (by decide) (by decide) (by decide) (by decide) (by decide) (by decide)).trans ((ju_i _ _ (by decide)).trans ((ju_c _ _ (by decide)).trans ((ju_c _ _ (by decide)).trans e388))))
              have y406 : M383 598 89 = v388 := e405
              have e407 : M383 598 90 = v376 + 1 := ((w383_6 90 (by decide) (by decide) (by decide) (by decide) (by decide) (by decide) (by decide)).trans (ju_same _ _ _ _))
              have y408 : M383 598 90 = v376 + 1 := e407
              have e409 : M383 598 100 = v372 := ((w383_6 100 (by decide) (by decide) (by decide) (by decide) (by decide) (by decide) (by decide)).trans ((ju_i _ _ (by decide)).trans ((ju_c _ _ (by decide)).trans ((ju_c _ _ (by decide)).trans e378))))
              have y410 : M383 598 100 = v372 := e409
              have e411 : M383 598 107 = v380 := ((w383_6 107 (by decide) (by decide) (by decide) (by decide) (by decide) (by decide) (by decide)).trans ((ju_i _ _ (by decide)).trans ((ju_c _ _ (by decide)).trans ((ju_c _ _ (by decide)).trans e381))))
              have y412 : M383 598 107 = v380 := e411
              exact jr.ireturn rfl rfl rfl (q _ _ hI_M383 hH_M383 hS_M383  (by omega) (by by_cases hf : v402 = 0; (first | (exfalso; omega) | (exact Or.inr ⟨⟨by omega, ES.adj hE (k' := 0) (z' := 0) (by omega) (by omega) (by omega), by omega, by omega, by omega, by omega⟩, by omega⟩)); (exact Or.inl ⟨by omega, by omega⟩)) (by omega) (by omega) (by omega) (fun a i f598 f659 f660 f664 f666 f667 => ((w383_5 a i f598).trans ((ju_c _ _ f598).trans ((ju_c _ _ f660).trans ((ju_c _ _ f659).trans ((w367_4 a i f598).trans rfl)))))) (fun i g73 g74 g75 g76 g77 g78 g79 g80 g81 g89 g90 g100 g102 => ((w383_6 i g73 g74 g75 g76 g77 g78 g79).trans ((ju_i _ _ g90).trans ((ju_c _ _ (by decide)).trans ((ju_c _ _ (by decide)).trans ((w367_5 i g80 g81 g89).trans rfl)))))))
            · refine jr.if_eq rfl rfl (by omega) (fun _ => ?_) (fun h => absurd (by decide) h)
              refine jr.aload_n rfl rfl ?_
              refine jr.bipush rfl (by decide) ?_
              refine jr_v rfl rfl (Or.inl rfl) rfl rfl (by decide) rfl ⟨rfl, Nat.le_of_ble_eq_true rfl, Nat.le_of_ble_eq_true rfl⟩ rfl (jc.deep (c_isWord hI_M (by omega) (fun t172_0 t172_1 => ?_) (fun f172_0 => ?_)) (by decide))
              · refine jr.if_eq rfl rfl (by omega) (fun h => absurd h (by decide)) (fun _ => ?_)
                refine jr.aload_n rfl rfl ?_
                refine jr_v rfl rfl (Or.inl rfl) rfl rfl (by decide) rfl ⟨rfl, Nat.le_of_ble_eq_true rfl, Nat.le_of_ble_eq_true rfl⟩ rfl (jc.deep (r_hasKind hI_M hH_M hS_M   p0 (by rw [e320]; omega) (fun M413 hI_M413 hH_M413 hS_M413  w413_0 w413_1 w413_2 w413_3 w413_4 w413_5 => ?_)) (by decide))
                refine jr.iconst rfl ?_
                exact jr.ireturn rfl rfl rfl (q _ _ hI_M413 hH_M413 hS_M413  (by omega) w413_0 w413_1 w413_2 w413_3 (fun a i f598 f659 f660 f664 f666 f667 => ((w413_4 a i f598 f659 f660).trans rfl)) (fun i g73 g74 g75 g76 g77 g78 g79 g80 g81 g89 g90 g100 g102 => ((w413_5 i g73 g74 g75 g76 g77 g78 g79 g80 g81 g89 g90 g100).trans rfl)))
              · refine jr.if_eq rfl rfl (by omega) (fun _ => ?_) (fun h => absurd (by decide) h)
                refine jr.aload_n rfl rfl ?_
                refine jr.bipush rfl (by decide) ?_
                refine jr.bipush rfl (by decide) ?_
                refine jr_v rfl rfl (Or.inl rfl) rfl rfl (by decide) rfl ⟨rfl, Nat.le_of_ble_eq_true rfl, Nat.le_of_ble_eq_true rfl⟩ rfl (jc.deep (c_isWordIn hI_M (by omega) (by omega) (fun t189_0 t189_1 t189_2 => ?_) (fun f189_0 => ?_)) (by decide))
                · refine jr.if_eq rfl rfl (by omega) (fun h => absurd h (by decide)) (fun _ => ?_)
                  refine jr.aload_n rfl rfl ?_
                  obtain ⟨v414, e414⟩ : ∃ z, M 598 76 = z := ⟨_, rfl⟩
                  have b414 : (-1) ≤ v414 ∧ v414 ≤ 68 := by rw [← e414]; exact hI_M 598 76 (by decide)
                  refine jr.getf (i := 76) (x := v414) (v := .int (Int32.ofInt (v414))) rfl rfl (by decide) rfl (by decide) rfl rfl e414 rfl ?_
                  refine jr.istore_n rfl (by decide) rfl ?_
                  refine jr.aload_n rfl rfl ?_
                  obtain ⟨v416, e416⟩ : ∃ z, M 598 89 = z := ⟨_, rfl⟩
                  have b416 : 0 ≤ v416 ∧ v416 ≤ 301 := by rw [← e416]; exact hI_M 598 89 (by decide)
                  obtain ⟨v417, e417⟩ : ∃ z, M 598 73 = z := ⟨_, rfl⟩
                  have b417 : 0 ≤ v417 ∧ v417 ≤ 1600 := by rw [← e417]; exact hI_M 598 73 (by decide)
                  obtain ⟨v420, e420⟩ : ∃ z, M 598 100 = z := ⟨_, rfl⟩
                  have b420 : 0 ≤ v420 ∧ v420 ≤ 13 := by rw [← e420]; exact hI_M 598 100 (by decide)
                  refine jr_v rfl rfl (Or.inl rfl) rfl rfl (by decide) rfl ⟨rfl, Nat.le_of_ble_eq_true rfl, Nat.le_of_ble_eq_true rfl⟩ rfl (jc.deep (r_node hI_M hH_M hS_M   (by rw [e416]; omega) (fun M415 hI_M415 hH_M415 hS_M415  w415_0 w415_1 w415_2 w415_3 w415_4 w415_5 => ?_)) (by decide))
                  have tk415 : TK M415 = TK M := TK.fr (w415_5 73 (by decide) (by decide) (by decide)) (w415_5 74 (by decide) (by decide) (by decide))
                  have y418 : M 598 73 = v417 := e417
                  have y419 : M 598 89 = v416 := e416
                  have y421 : M 598 100 = v420 := e420
                  have x415_73 := w415_5 73 (by decide) (by decide) (by decide)
                  have x415_100 := w415_5 100 (by decide) (by decide) (by decide)
                  have hE := ES.fr2 hE w415_4 (w415_5 88 (by decide) (by decide) (by decide)) (w415_5 90 (by decide) (by decide) (by decide)) (w415_5 101 (by decide) (by decide) (by decide)) (w415_5 102 (by decide) (by decide) (by decide)) (w415_5 107 (by decide) (by decide) (by decide)) (k' := 4) (d' := 0) (z' := 0) (by omega) (by omega) (by omega) (by omega)
                  refine jr.aload_n rfl rfl ?_
                  refine jr_v rfl rfl (Or.inl rfl) rfl rfl (by decide) rfl ⟨rfl, Nat.le_of_ble_eq_true rfl, Nat.le_of_ble_eq_true rfl⟩ rfl (jc.deep (c_good hI_M415  (fun t205_0 => ?_) (fun f205_0 => ?_)) (by decide))
                  · refine jr.if_eq rfl rfl (by omega) (fun h => absurd h (by decide)) (fun _ => ?_)
                    refine jr.aload_n rfl rfl ?_
                    have e423 : M415 598 73 = v417 := ((w415_5 73 (by decide) (by decide) (by decide)).trans e417)
                    obtain ⟨v424, e424⟩ : ∃ z, M 598 72 = z := ⟨_, rfl⟩
                    have b424 : 0 ≤ v424 ∧ v424 ≤ 1600 := by rw [← e424]; exact hI_M 598 72 (by decide)
                    have e425 : M415 598 72 = v424 := ((w415_5 72 (by decide) (by decide) (by decide)).trans e424)
                    obtain ⟨v427, e427⟩ : ∃ z, M415 598 89 = z := ⟨_, rfl⟩
                    have b427 : 0 ≤ v427 ∧ v427 ≤ 301 := by rw [← e427]; exact hI_M415 598 89 (by decide)
                    have e429 : M415 598 100 = v420 := ((w415_5 100 (by decide) (by decide) (by decide)).trans e420)
                    refine jr_v rfl rfl (Or.inl rfl) rfl rfl (by decide) rfl ⟨rfl, Nat.le_of_ble_eq_true rfl, Nat.le_of_ble_eq_true rfl⟩ rfl (jc.deep (r_next hI_M415 hH_M415 hS_M415   (by rw [e423, e425]; omega) (fun M422 hI_M422 hH_M422 hS_M422  w422_0 w422_1 w422_2 w422_3 w422_4 w422_5 w422_6 => ?_)) (by decide))
                    have y426 : M415 598 73 = v417 := e423
                    have y428 : M415 598 89 = v427 := e427
                    have y430 : M415 598 100 = v420 := e429
                    have x422_89 := w422_6 89 (by decide) (by decide) (by decide) (by decide) (by decide) (by decide) (by decide)
                    have x422_100 := w422_6 100 (by decide) (by decide) (by decide) (by decide) (by decide) (by decide) (by decide)
                    have hE := ES.fr2 hE w422_5 (w422_6 88 (by decide) (by decide) (by decide) (by decide) (by decide) (by decide) (by decide)) (w422_6 90 (by decide) (by decide) (by decide) (by decide) (by decide) (by decide) (by decide)) (w422_6 101 (by decide) (by decide) (by decide) (by decide) (by decide) (by decide) (by decide)) (w422_6 102 (by decide) (by decide) (by decide) (by decide) (by decide) (by decide) (by decide)) (w422_6 107 (by decide) (by decide) (by decide) (by decide) (by decide) (by decide) (by decide)) (k' := 4) (d' := 0) (z' := 0) (by omega) (by omega) (by omega) (by omega)
                    refine jr.aload_n rfl rfl ?_
                    refine jr.bipush rfl (by decide) ?_
                    refine jr.iload_n rfl rfl ?_
                    obtain ⟨v431, e431⟩ : ∃ z, M 598 102 = z := ⟨_, rfl⟩
                    have b431 : 0 ≤ v431 ∧ v431 ≤ 400 := by rw [← e431]; exact hI_M 598 102 (by decide)
                    have e432 : M415 598 102 = v431 := ((w415_5 102 (by decide) (by decide) (by decide)).trans e431)
                    have e433 : M422 598 102 = v431 := ((w422_6 102 (by decide) (by decide) (by decide) (by decide) (by decide) (by decide) (by decide)).trans e432)
                    refine jr_v rfl rfl (Or.inl rfl) rfl rfl (by decide) rfl ⟨rfl, Nat.le_of_ble_eq_true rfl, Nat.le_of_ble_eq_true rfl⟩ rfl (jc.deep (r_push e433 (by omega) (by omega) (by omega) ?_) (by decide))
                    have hE := ES.deep hE e433 40 v414 1 2 (by omega) (by omega) (by omega)
                    refine jr.aload_n rfl rfl ?_
                    refine jr.bipush rfl (by decide) ?_
                    obtain ⟨v435, e435⟩ : ∃ z, M422 598 73 = z := ⟨_, rfl⟩
                    have b435 : 0 ≤ v435 ∧ v435 ≤ 1600 := by rw [← e435]; exact hI_M422 598 73 (by decide)
                    have e436 : M422 598 72 = v424 := ((w422_6 72 (by decide) (by decide) (by decide) (by decide) (by decide) (by decide) (by decide)).trans e425)
                    have e437 : M422 598 100 = v420 := ((w422_6 100 (by decide) (by decide) (by decide) (by decide) (by decide) (by decide) (by decide)).trans e429)
                    obtain ⟨v439, e439⟩ : ∃ z, M422 598 74 = z := ⟨_, rfl⟩
                    have b439 : 0 ≤ v439 ∧ v439 ≤ 4 := by rw [← e439]; exact hI_M422 598 74 (by decide)
                    obtain ⟨v441, e441⟩ : ∃ z, M422 598 79 = z := ⟨_, rfl⟩
                    have b441 : 0 ≤ v441 ∧ v441 ≤ 255 := by rw [← e441]; exact hI_M422 598 79 (by decide)
                    obtain ⟨v443, e443⟩ : ∃ z, M415 598 80 = z := ⟨_, rfl⟩
                    have b443 : 0 ≤ v443 ∧ v443 ≤ 7 := by rw [← e443]; exact hI_M415 598 80 (by decide)
                    have e444 : M422 598 80 = v443 := ((w422_6 80 (by decide) (by decide) (by decide) (by decide) (by decide) (by decide) (by decide)).trans e443)
                    refine jr_v rfl rfl (Or.inl rfl) rfl rfl (by decide) rfl ⟨rfl, Nat.le_of_ble_eq_true rfl, Nat.le_of_ble_eq_true rfl⟩ rfl (jc.deep (r_wantDeeper (RI.u (RI.u (RI.u (RI.u hI_M422 (a := 664) (i := v431) (by rw [xri_row rfl rfl]; show (0 : Int) ≤ _ ∧ _ ≤ (255 : Int); omega)) (a := 666) (i := v431) (by rw [xri_row rfl rfl]; show (-1 : Int) ≤ _ ∧ _ ≤ (68 : Int); omega)) (a := 667) (i := v431) (by rw [xri_row rfl rfl]; show (0 : Int) ≤ _ ∧ _ ≤ (4 : Int); omega)) (a := 598) (i := 102) (show (0 : Int) ≤ _ ∧ _ ≤ (400 : Int) from by omega)) (RH.o (RH.o (RH.o (RH.o hH_M422 (by decide) (by decide) (by decide)) (by decide) (by decide) (by decide)) (by decide) (by decide) (by decide)) (by decide) (by decide) (by decide)) (RF.o (RF.o (RF.o (RF.o hS_M422 (by decide) (by decide)) (by decide) (by decide)) (by decide) (by decide)) (by decide) (by decide))  (by omega) (by rw [((ju_i _ _ (by decide)).trans ((ju_c _ _ (by decide)).trans ((ju_c _ _ (by decide)).trans ((ju_c _ _ (by decide)).trans e435)))), ((ju_i _ _ (by decide)).trans ((ju_c _ _ (by decide)).trans ((ju_c _ _ (by decide)).trans ((ju_c _ _ (by decide)).trans e436))))]; omega) (by rw [((ju_i _ _ (by decide)).trans ((ju_c _ _ (by decide)).trans ((ju_c _ _ (by decide)).trans ((ju_c _ _ (by decide)).trans e437))))]; omega) (fun M434 hI_M434 hH_M434 hS_M434  w434_0 w434_1 w434_2 w434_3 w434_4 w434_5 w434_6 w434_7 w434_8 w434_9 => ?_)) (by decide))
                    have y438 : (ju (ju (ju (ju M422 664 v431 40) 666 v431 v414) 667 v431 1) 598 102 (v431 + 1)) 598 73 = v435 := ((ju_i _ _ (by decide)).trans ((ju_c _ _ (by decide)).trans ((ju_c _ _ (by decide)).trans ((ju_c _ _ (by decide)).trans e435))))
                    have y440 : (ju (ju (ju (ju M422 664 v431 40) 666 v431 v414) 667 v431 1) 598 102 (v431 + 1)) 598 74 = v439 := ((ju_i _ _ (by decide)).trans ((ju_c _ _ (by decide)).trans ((ju_c _ _ (by decide)).trans ((ju_c _ _ (by decide)).trans e439))))
                    have y442 : (ju (ju (ju (ju M422 664 v431 40) 666 v431 v414) 667 v431 1) 598 102 (v431 + 1)) 598 79 = v441 := ((ju_i _ _ (by decide)).trans ((ju_c _ _ (by decide)).trans ((ju_c _ _ (by decide)).trans ((ju_c _ _ (by decide)).trans e441))))
                    have y445 : (ju (ju (ju (ju M422 664 v431 40) 666 v431 v414) 667 v431 1) 598 102 (v431 + 1)) 598 80 = v443 := ((ju_i _ _ (by decide)).trans ((ju_c _ _ (by decide)).trans ((ju_c _ _ (by decide)).trans ((ju_c _ _ (by decide)).trans e444))))
                    have y446 : (ju (ju (ju (ju M422 664 v431 40) 666 v431 v414) 667 v431 1) 598 102 (v431 + 1)) 598 100 = v420 := ((ju_i _ _ (by decide)).trans ((ju_c _ _ (by decide)).trans ((ju_c _ _ (by decide)).trans ((ju_c _ _ (by decide)).trans e437))))
                    have tb434 : TK (ju (ju (ju (ju M422 664 v431 40) 666 v431 v414) 667 v431 1) 598 102 (v431 + 1)) = TK M422 := ((TK.o (Or.inr ⟨by decide, by decide⟩)).trans ((TK.o (Or.inl (by decide))).trans ((TK.o (Or.inl (by decide))).trans ((TK.o (Or.inl (by decide))).trans rfl))))
                    refine jr.iconst rfl ?_
                    have e447 : M434 598 72 = v424 := ((w434_9 72 (by decide) (by decide) (by decide) (by decide) (by decide) (by decide) (by decide) (by decide) (by decide) (by decide)).trans ((ju_i _ _ (by decide)).trans ((ju_c _ _ (by decide)).trans ((ju_c _ _ (by decide)).trans ((ju_c _ _ (by decide)).trans e436)))))
                    have y448 : M434 598 72 = v424 := e447
                    obtain ⟨v449, e449⟩ : ∃ z, M434 598 73 = z := ⟨_, rfl⟩
                    have b449 : 0 ≤ v449 ∧ v449 ≤ 1600 := by rw [← e449]; exact hI_M434 598 73 (by decide)
                    have y450 : M434 598 73 = v449 := e449
                    obtain ⟨v451, e451⟩ : ∃ z, M434 598 74 = z := ⟨_, rfl⟩
                    have b451 : 0 ≤ v451 ∧ v451 ≤ 4 := by rw [← e451]; exact hI_M434 598 74 (by decide)
                    have y452 : M434 598 74 = v451 := e451
                    obtain ⟨v453, e453⟩ : ∃ z, M434 598 79 = z := ⟨_, rfl⟩
                    have b453 : 0 ≤ v453 ∧ v453 ≤ 255 := by rw [← e453]; exact hI_M434 598 79 (by decide)
                    have y454 : M434 598 79 = v453 := e453
                    obtain ⟨v455, e455⟩ : ∃ z, M434 598 80 = z := ⟨_, rfl⟩
                    have b455 : 0 ≤ v455 ∧ v455 ≤ 7 := by rw [← e455]; exact hI_M434 598 80 (by decide)
                    have y456 : M434 598 80 = v455 := e455
                    have e457 : M422 598 89 = v427 := ((w422_6 89 (by decide) (by decide) (by decide) (by decide) (by decide) (by decide) (by decide)).trans e427)
                    have e458 : M434 598 89 = v427 := ((w434_9 89 (by decide) (by decide) (by decide) (by decide) (by decide) (by decide) (by decide) (by decide) (by decide) (by decide)).trans ((ju_i _ _ (by decide)).trans ((ju_c _ _ (by decide)).trans ((ju_c _ _ (by decide)).trans ((ju_c _ _ (by decide)).trans e457)))))
                    have y459 : M434 598 89 = v427 := e458
                    obtain ⟨v460, e460⟩ : ∃ z, M 598 90 = z := ⟨_, rfl⟩
                    have b460 : 0 ≤ v460 ∧ v460 ≤ 2200 := by rw [← e460]; exact hI_M 598 90 (by decide)
                    have e461 : M415 598 90 = v460 := ((w415_5 90 (by decide) (by decide) (by decide)).trans e460)
                    have e462 : M422 598 90 = v460 := ((w422_6 90 (by decide) (by decide) (by decide) (by decide) (by decide) (by decide) (by decide)).trans e461)
                    have e463 : M434 598 90 = v460 := ((w434_9 90 (by decide) (by decide) (by decide) (by decide) (by decide) (by decide) (by decide) (by decide) (by decide) (by decide)).trans ((ju_i _ _ (by decide)).trans ((ju_c _ _ (by decide)).trans ((ju_c _ _ (by decide)).trans ((ju_c _ _ (by decide)).trans e462)))))
                    have y464 : M434 598 90 = v460 := e463
                    obtain ⟨v465, e465⟩ : ∃ z, M434 598 100 = z := ⟨_, rfl⟩
                    have b465 : 0 ≤ v465 ∧ v465 ≤ 13 := by rw [← e465]; exact hI_M434 598 100 (by decide)
                    have y466 : M434 598 100 = v465 := e465
                    obtain ⟨v467, e467⟩ : ∃ z, M 598 107 = z := ⟨_, rfl⟩
                    have b467 : 0 ≤ v467 ∧ v467 ≤ 16 := by rw [← e467]; exact hI_M 598 107 (by decide)
                    have e468 : M415 598 107 = v467 := ((w415_5 107 (by decide) (by decide) (by decide)).trans e467)
                    have e469 : M422 598 107 = v467 := ((w422_6 107 (by decide) (by decide) (by decide) (by decide) (by decide) (by decide) (by decide)).trans e468)
                    have e470 : M434 598 107 = v467 := ((w434_9 107 (by decide) (by decide) (by decide) (by decide) (by decide) (by decide) (by decide) (by decide) (by decide) (by decide)).trans ((ju_i _ _ (by decide)).trans ((ju_c _ _ (by decide)).trans ((ju_c _ _ (by decide)).trans ((ju_c _ _ (by decide)).trans e469)))))
                    have y471 : M434 598 107 = v467 := e470
                    have e473 : M422 598 89 = v427 := ((w422_6 89 (by decide) (by decide) (by decide) (by decide) (by decide) (by decide) (by decide)).trans e427)
                    exact jr.ireturn rfl rfl rfl (q _ _ hI_M434 hH_M434 hS_M434  (by omega) (by by_cases hf : v455 = 0; (first | (exfalso; omega) | (have y472 : (ju (ju (ju (ju M422 664 v431 40) 666 v431 v414) 667 v431 1) 598 102 (v431 + 1)) 598 73 = v435 := ((ju_i _ _ (by decide)).trans ((ju_c _ _ (by decide)).trans ((ju_c _ _ (by decide)).trans ((ju_c _ _ (by decide)).trans e435)))); have y474 : (ju (ju (ju (ju M422 664 v431 40) 666 v431 v414) 667 v431 1) 598 102 (v431 + 1)) 598 89 = v427 := ((ju_i _ _ (by decide)).trans ((ju_c _ _ (by decide)).trans ((ju_c _ _ (by decide)).trans ((ju_c _ _ (by decide)).trans e473)))); have y475 : (ju (ju (ju (ju M422 664 v431 40) 666 v431 v414) 667 v431 1) 598 102 (v431 + 1)) 598 100 = v420 := ((ju_i _ _ (by decide)).trans ((ju_c _ _ (by decide)).trans ((ju_c _ _ (by decide)).trans ((ju_c _ _ (by decide)).trans e437)))); have x434_89 := w434_9 89 (by decide) (by decide) (by decide) (by decide) (by decide) (by decide) (by decide) (by decide) (by decide) (by decide); have hE := ES.fr2 hE w434_8 (w434_9 88 (by decide) (by decide) (by decide) (by decide) (by decide) (by decide) (by decide) (by decide) (by decide) (by decide)) (w434_9 90 (by decide) (by decide) (by decide) (by decide) (by decide) (by decide) (by decide) (by decide) (by decide) (by decide)) (w434_9 101 (by decide) (by decide) (by decide) (by decide) (by decide) (by decide) (by decide) (by decide) (by decide) (by decide)) (w434_9 102 (by decide) (by decide) (by decide) (by decide) (by decide) (by decide) (by decide) (by decide) (by decide) (by decide)) (w434_9 107 (by decide) (by decide) (by decide) (by decide) (by decide) (by decide) (by decide) (by decide) (by decide) (by decide)) (k' := 2) (d' := 0) (z' := 0) (by omega) (by omega) (by omega) (by omega); exact Or.inr ⟨⟨by omega, ES.adj hE (k' := 0) (z' := 0) (by omega) (by omega) (by omega), by omega, by omega, by omega, by omega⟩, by omega⟩)); (exact Or.inl ⟨by omega, by omega⟩)) (by omega) (by omega) (by omega) (fun a i f598 f659 f660 f664 f666 f667 => ((w434_8 a i f598).trans ((ju_c _ _ f598).trans ((ju_c _ _ f667).trans ((ju_c _ _ f666).trans ((ju_c _ _ f664).trans ((w422_5 a i f598).trans ((w415_4 a i f598).trans rfl)))))))) (fun i g73 g74 g75 g76 g77 g78 g79 g80 g81 g89 g90 g100 g102 => ((w434_9 i g73 g74 g75 g76 g77 g78 g79 g80 g81 g100).trans ((ju_i _ _ g102).trans ((ju_c _ _ (by decide)).trans ((ju_c _ _ (by decide)).trans ((ju_c _ _ (by decide)).trans ((w422_6 i g73 g74 g75 g76 g77 g78 g79).trans ((w415_5 i g80 g81 g89).trans rfl)))))))))
                  · refine jr.if_eq rfl rfl (by omega) (fun _ => ?_) (fun h => absurd (by decide) h)
                    refine jr.aload_n rfl rfl ?_
                    refine jr.bipush rfl (by decide) ?_
                    refine jr.iload_n rfl rfl ?_
                    obtain ⟨v476, e476⟩ : ∃ z, M 598 102 = z := ⟨_, rfl⟩
                    have b476 : 0 ≤ v476 ∧ v476 ≤ 400 := by rw [← e476]; exact hI_M 598 102 (by decide)
                    have e477 : M415 598 102 = v476 := ((w415_5 102 (by decide) (by decide) (by decide)).trans e476)
                    refine jr_v rfl rfl (Or.inl rfl) rfl rfl (by decide) rfl ⟨rfl, Nat.le_of_ble_eq_true rfl, Nat.le_of_ble_eq_true rfl⟩ rfl (jc.deep (r_push e477 (by omega) (by omega) (by omega) ?_) (by decide))
                    have hE := ES.deep hE e477 40 v414 1 2 (by omega) (by omega) (by omega)
                    refine jr.aload_n rfl rfl ?_
                    refine jr.bipush rfl (by decide) ?_
                    have e479 : M415 598 73 = v417 := ((w415_5 73 (by decide) (by decide) (by decide)).trans e417)
                    obtain ⟨v480, e480⟩ : ∃ z, M 598 72 = z := ⟨_, rfl⟩
                    have b480 : 0 ≤ v480 ∧ v480 ≤ 1600 := by rw [← e480]; exact hI_M 598 72 (by decide)
                    have e481 : M415 598 72 = v480 := ((w415_5 72 (by decide) (by decide) (by decide)).trans e480)
                    have e482 : M415 598 100 = v420 := ((w415_5 100 (by decide) (by decide) (by decide)).trans e420)
                    have e484 : M415 598 74 = v320 := ((w415_5 74 (by decide) (by decide) (by decide)).trans e320)
                    obtain ⟨v486, e486⟩ : ∃ z, M 598 79 = z := ⟨_, rfl⟩
                    have b486 : 0 ≤ v486 ∧ v486 ≤ 255 := by rw [← e486]; exact hI_M 598 79 (by decide)
                    have e487 : M415 598 79 = v486 := ((w415_5 79 (by decide) (by decide) (by decide)).trans e486)
                    obtain ⟨v489, e489⟩ : ∃ z, M415 598 80 = z := ⟨_, rfl⟩
                    have b489 : 0 ≤ v489 ∧ v489 ≤ 7 := by rw [← e489]; exact hI_M415 598 80 (by decide)
                    refine jr_v rfl rfl (Or.inl rfl) rfl rfl (by decide) rfl ⟨rfl, Nat.le_of_ble_eq_true rfl, Nat.le_of_ble_eq_true rfl⟩ rfl (jc.deep (r_wantDeeper (RI.u (RI.u (RI.u (RI.u hI_M415 (a := 664) (i := v476) (by rw [xri_row rfl rfl]; show (0 : Int) ≤ _ ∧ _ ≤ (255 : Int); omega)) (a := 666) (i := v476) (by rw [xri_row rfl rfl]; show (-1 : Int) ≤ _ ∧ _ ≤ (68 : Int); omega)) (a := 667) (i := v476) (by rw [xri_row rfl rfl]; show (0 : Int) ≤ _ ∧ _ ≤ (4 : Int); omega)) (a := 598) (i := 102) (show (0 : Int) ≤ _ ∧ _ ≤ (400 : Int) from by omega)) (RH.o (RH.o (RH.o (RH.o hH_M415 (by decide) (by decide) (by decide)) (by decide) (by decide) (by decide)) (by decide) (by decide) (by decide)) (by decide) (by decide) (by decide)) (RF.o (RF.o (RF.o (RF.o hS_M415 (by decide) (by decide)) (by decide) (by decide)) (by decide) (by decide)) (by decide) (by decide))  (by omega) (by rw [((ju_i _ _ (by decide)).trans ((ju_c _ _ (by decide)).trans ((ju_c _ _ (by decide)).trans ((ju_c _ _ (by decide)).trans e479)))), ((ju_i _ _ (by decide)).trans ((ju_c _ _ (by decide)).trans ((ju_c _ _ (by decide)).trans ((ju_c _ _ (by decide)).trans e481))))]; omega) (by rw [((ju_i _ _ (by decide)).trans ((ju_c _ _ (by decide)).trans ((ju_c _ _ (by decide)).trans ((ju_c _ _ (by decide)).trans e482))))]; omega) (fun M478 hI_M478 hH_M478 hS_M478  w478_0 w478_1 w478_2 w478_3 w478_4 w478_5 w478_6 w478_7 w478_8 w478_9 => ?_)) (by decide))
                    have y483 : (ju (ju (ju (ju M415 664 v476 40) 666 v476 v414) 667 v476 1) 598 102 (v476 + 1)) 598 73 = v417 := ((ju_i _ _ (by decide)).trans ((ju_c _ _ (by decide)).trans ((ju_c _ _ (by decide)).trans ((ju_c _ _ (by decide)).trans e479))))
                    have y485 : (ju (ju (ju (ju M415 664 v476 40) 666 v476 v414) 667 v476 1) 598 102 (v476 + 1)) 598 74 = v320 := ((ju_i _ _ (by decide)).trans ((ju_c _ _ (by decide)).trans ((ju_c _ _ (by decide)).trans ((ju_c _ _ (by decide)).trans e484))))
                    have y488 : (ju (ju (ju (ju M415 664 v476 40) 666 v476 v414) 667 v476 1) 598 102 (v476 + 1)) 598 79 = v486 := ((ju_i _ _ (by decide)).trans ((ju_c _ _ (by decide)).trans ((ju_c _ _ (by decide)).trans ((ju_c _ _ (by decide)).trans e487))))
                    have y490 : (ju (ju (ju (ju M415 664 v476 40) 666 v476 v414) 667 v476 1) 598 102 (v476 + 1)) 598 80 = v489 := ((ju_i _ _ (by decide)).trans ((ju_c _ _ (by decide)).trans ((ju_c _ _ (by decide)).trans ((ju_c _ _ (by decide)).trans e489))))
                    have y491 : (ju (ju (ju (ju M415 664 v476 40) 666 v476 v414) 667 v476 1) 598 102 (v476 + 1)) 598 100 = v420 := ((ju_i _ _ (by decide)).trans ((ju_c _ _ (by decide)).trans ((ju_c _ _ (by decide)).trans ((ju_c _ _ (by decide)).trans e482))))
                    have tb478 : TK (ju (ju (ju (ju M415 664 v476 40) 666 v476 v414) 667 v476 1) 598 102 (v476 + 1)) = TK M415 := ((TK.o (Or.inr ⟨by decide, by decide⟩)).trans ((TK.o (Or.inl (by decide))).trans ((TK.o (Or.inl (by decide))).trans ((TK.o (Or.inl (by decide))).trans rfl))))
                    refine jr.iconst rfl ?_
                    have e492 : M478 598 72 = v480 := ((w478_9 72 (by decide) (by decide) (by decide) (by decide) (by decide) (by decide) (by decide) (by decide) (by decide) (by decide)).trans ((ju_i _ _ (by decide)).trans ((ju_c _ _ (by decide)).trans ((ju_c _ _ (by decide)).trans ((ju_c _ _ (by decide)).trans e481)))))
                    have y493 : M478 598 72 = v480 := e492
                    obtain ⟨v494, e494⟩ : ∃ z, M478 598 73 = z := ⟨_, rfl⟩
                    have b494 : 0 ≤ v494 ∧ v494 ≤ 1600 := by rw [← e494]; exact hI_M478 598 73 (by decide)
                    have y495 : M478 598 73 = v494 := e494
                    obtain ⟨v496, e496⟩ : ∃ z, M478 598 74 = z := ⟨_, rfl⟩
                    have b496 : 0 ≤ v496 ∧ v496 ≤ 4 := by rw [← e496]; exact hI_M478 598 74 (by decide)
                    have y497 : M478 598 74 = v496 := e496
                    obtain ⟨v498, e498⟩ : ∃ z, M478 598 79 = z := ⟨_, rfl⟩
                    have b498 : 0 ≤ v498 ∧ v498 ≤ 255 := by rw [← e498]; exact hI_M478 598 79 (by decide)
                    have y499 : M478 598 79 = v498 := e498
                    obtain ⟨v500, e500⟩ : ∃ z, M478 598 80 = z := ⟨_, rfl⟩
                    have b500 : 0 ≤ v500 ∧ v500 ≤ 7 := by rw [← e500]; exact hI_M478 598 80 (by decide)
                    have y501 : M478 598 80 = v500 := e500
                    obtain ⟨v502, e502⟩ : ∃ z, M415 598 89 = z := ⟨_, rfl⟩
                    have b502 : 0 ≤ v502 ∧ v502 ≤ 301 := by rw [← e502]; exact hI_M415 598 89 (by decide)
                    have e503 : M478 598 89 = v502 := ((w478_9 89 (by decide) (by decide) (by decide) (by decide) (by decide) (by decide) (by decide) (by decide) (by decide) (by decide)).trans ((ju_i _ _ (by decide)).trans ((ju_c _ _ (by decide)).trans ((ju_c _ _ (by decide)).trans ((ju_c _ _ (by decide)).trans e502)))))
                    have y504 : M478 598 89 = v502 := e503
                    obtain ⟨v505, e505⟩ : ∃ z, M 598 90 = z := ⟨_, rfl⟩
                    have b505 : 0 ≤ v505 ∧ v505 ≤ 2200 := by rw [← e505]; exact hI_M 598 90 (by decide)
                    have e506 : M415 598 90 = v505 := ((w415_5 90 (by decide) (by decide) (by decide)).trans e505)
                    have e507 : M478 598 90 = v505 := ((w478_9 90 (by decide) (by decide) (by decide) (by decide) (by decide) (by decide) (by decide) (by decide) (by decide) (by decide)).trans ((ju_i _ _ (by decide)).trans ((ju_c _ _ (by decide)).trans ((ju_c _ _ (by decide)).trans ((ju_c _ _ (by decide)).trans e506)))))
                    have y508 : M478 598 90 = v505 := e507
                    obtain ⟨v509, e509⟩ : ∃ z, M478 598 100 = z := ⟨_, rfl⟩
                    have b509 : 0 ≤ v509 ∧ v509 ≤ 13 := by rw [← e509]; exact hI_M478 598 100 (by decide)
                    have y510 : M478 598 100 = v509 := e509
                    obtain ⟨v511, e511⟩ : ∃ z, M 598 107 = z := ⟨_, rfl⟩
                    have b511 : 0 ≤ v511 ∧ v511 ≤ 16 := by rw [← e511]; exact hI_M 598 107 (by decide)
                    have e512 : M415 598 107 = v511 := ((w415_5 107 (by decide) (by decide) (by decide)).trans e511)
                    have e513 : M478 598 107 = v511 := ((w478_9 107 (by decide) (by decide) (by decide) (by decide) (by decide) (by decide) (by decide) (by decide) (by decide) (by decide)).trans ((ju_i _ _ (by decide)).trans ((ju_c _ _ (by decide)).trans ((ju_c _ _ (by decide)).trans ((ju_c _ _ (by decide)).trans e512)))))
                    have y514 : M478 598 107 = v511 := e513
                    obtain ⟨v516, e516⟩ : ∃ z, M415 598 89 = z := ⟨_, rfl⟩
                    have b516 : 0 ≤ v516 ∧ v516 ≤ 301 := by rw [← e516]; exact hI_M415 598 89 (by decide)
                    exact jr.ireturn rfl rfl rfl (q _ _ hI_M478 hH_M478 hS_M478  (by omega) (by by_cases hf : v500 = 0; (first | (exfalso; omega) | (have y515 : (ju (ju (ju (ju M415 664 v476 40) 666 v476 v414) 667 v476 1) 598 102 (v476 + 1)) 598 73 = v417 := ((ju_i _ _ (by decide)).trans ((ju_c _ _ (by decide)).trans ((ju_c _ _ (by decide)).trans ((ju_c _ _ (by decide)).trans e479)))); have y517 : (ju (ju (ju (ju M415 664 v476 40) 666 v476 v414) 667 v476 1) 598 102 (v476 + 1)) 598 89 = v516 := ((ju_i _ _ (by decide)).trans ((ju_c _ _ (by decide)).trans ((ju_c _ _ (by decide)).trans ((ju_c _ _ (by decide)).trans e516)))); have y518 : (ju (ju (ju (ju M415 664 v476 40) 666 v476 v414) 667 v476 1) 598 102 (v476 + 1)) 598 100 = v420 := ((ju_i _ _ (by decide)).trans ((ju_c _ _ (by decide)).trans ((ju_c _ _ (by decide)).trans ((ju_c _ _ (by decide)).trans e482)))); have x478_89 := w478_9 89 (by decide) (by decide) (by decide) (by decide) (by decide) (by decide) (by decide) (by decide) (by decide) (by decide); have hE := ES.fr2 hE w478_8 (w478_9 88 (by decide) (by decide) (by decide) (by decide) (by decide) (by decide) (by decide) (by decide) (by decide) (by decide)) (w478_9 90 (by decide) (by decide) (by decide) (by decide) (by decide) (by decide) (by decide) (by decide) (by decide) (by decide)) (w478_9 101 (by decide) (by decide) (by decide) (by decide) (by decide) (by decide) (by decide) (by decide) (by decide) (by decide)) (w478_9 102 (by decide) (by decide) (by decide) (by decide) (by decide) (by decide) (by decide) (by decide) (by decide) (by decide)) (w478_9 107 (by decide) (by decide) (by decide) (by decide) (by decide) (by decide) (by decide) (by decide) (by decide) (by decide)) (k' := 2) (d' := 0) (z' := 0) (by omega) (by omega) (by omega) (by omega); exact Or.inr ⟨⟨by omega, ES.adj hE (k' := 0) (z' := 0) (by omega) (by omega) (by omega), by omega, by omega, by omega, by omega⟩, by omega⟩)); (exact Or.inl ⟨by omega, by omega⟩)) (by omega) (by omega) (by omega) (fun a i f598 f659 f660 f664 f666 f667 => ((w478_8 a i f598).trans ((ju_c _ _ f598).trans ((ju_c _ _ f667).trans ((ju_c _ _ f666).trans ((ju_c _ _ f664).trans ((w415_4 a i f598).trans rfl))))))) (fun i g73 g74 g75 g76 g77 g78 g79 g80 g81 g89 g90 g100 g102 => ((w478_9 i g73 g74 g75 g76 g77 g78 g79 g80 g81 g100).trans ((ju_i _ _ g102).trans ((ju_c _ _ (by decide)).trans ((ju_c _ _ (by decide)).trans ((ju_c _ _ (by decide)).trans ((w415_5 i g80 g81 g89).trans rfl))))))))
                · refine jr.if_eq rfl rfl (by omega) (fun _ => ?_) (fun h => absurd (by decide) h)
                  refine jr.aload_n rfl rfl ?_
                  refine jr.bipush rfl (by decide) ?_
                  refine jr.bipush rfl (by decide) ?_
                  refine jr_v rfl rfl (Or.inl rfl) rfl rfl (by decide) rfl ⟨rfl, Nat.le_of_ble_eq_true rfl, Nat.le_of_ble_eq_true rfl⟩ rfl (jc.deep (c_isWordIn hI_M (by omega) (by omega) (fun t235_0 t235_1 t235_2 => ?_) (fun f235_0 => ?_)) (by decide))
                  · refine jr.if_eq rfl rfl (by omega) (fun h => absurd h (by decide)) (fun _ => ?_)
                    refine jr.aload_n rfl rfl ?_
                    obtain ⟨v520, e520⟩ : ∃ z, M 598 76 = z := ⟨_, rfl⟩
                    have b520 : (-1) ≤ v520 ∧ v520 ≤ 68 := by rw [← e520]; exact hI_M 598 76 (by decide)
                    refine jr_v rfl rfl (Or.inl rfl) rfl rfl (by decide) rfl ⟨rfl, Nat.le_of_ble_eq_true rfl, Nat.le_of_ble_eq_true rfl⟩ rfl (jc.deep (r_kindAndField hI_M hH_M hS_M   p0 (by rw [e320, e520]; omega) (fun M519 hI_M519 hH_M519 hS_M519  w519_0 w519_1 w519_2 w519_3 w519_4 w519_5 => ?_)) (by decide))
                    refine jr.iconst rfl ?_
                    exact jr.ireturn rfl rfl rfl (q _ _ hI_M519 hH_M519 hS_M519  (by omega) w519_0 w519_1 w519_2 w519_3 (fun a i f598 f659 f660 f664 f666 f667 => ((w519_4 a i f598 f659 f660).trans rfl)) (fun i g73 g74 g75 g76 g77 g78 g79 g80 g81 g89 g90 g100 g102 => ((w519_5 i g73 g74 g75 g76 g77 g78 g79 g80 g81 g89 g90).trans rfl)))
                  · refine jr.if_eq rfl rfl (by omega) (fun _ => ?_) (fun h => absurd (by decide) h)
                    refine jr.aload_n rfl rfl ?_
                    refine jr_v rfl rfl (Or.inl rfl) rfl rfl (by decide) rfl ⟨rfl, Nat.le_of_ble_eq_true rfl, Nat.le_of_ble_eq_true rfl⟩ rfl (jc.deep (r_wrongToken hI_M hH_M hS_M    (fun M521 hI_M521 hH_M521 hS_M521  w521_0 w521_1 w521_2 => ?_)) (by decide))
                    have tk521 : TK M521 = TK M := TK.fr (w521_2 73 (by decide) (by decide)) (w521_2 74 (by decide) (by decide))
                    refine jr.iconst rfl ?_
                    obtain ⟨v522, e522⟩ : ∃ z, M 598 72 = z := ⟨_, rfl⟩
                    have b522 : 0 ≤ v522 ∧ v522 ≤ 1600 := by rw [← e522]; exact hI_M 598 72 (by decide)
                    have e523 : M521 598 72 = v522 := ((w521_2 72 (by decide) (by decide)).trans e522)
                    have y524 : M521 598 72 = v522 := e523
                    obtain ⟨v525, e525⟩ : ∃ z, M 598 73 = z := ⟨_, rfl⟩
                    have b525 : 0 ≤ v525 ∧ v525 ≤ 1600 := by rw [← e525]; exact hI_M 598 73 (by decide)
                    have e526 : M521 598 73 = v525 := ((w521_2 73 (by decide) (by decide)).trans e525)
                    have y527 : M521 598 73 = v525 := e526
                    have e528 : M521 598 74 = v320 := ((w521_2 74 (by decide) (by decide)).trans e320)
                    have y529 : M521 598 74 = v320 := e528
                    obtain ⟨v530, e530⟩ : ∃ z, M 598 79 = z := ⟨_, rfl⟩
                    have b530 : 0 ≤ v530 ∧ v530 ≤ 255 := by rw [← e530]; exact hI_M 598 79 (by decide)
                    have e531 : M521 598 79 = v530 := ((w521_2 79 (by decide) (by decide)).trans e530)
                    have y532 : M521 598 79 = v530 := e531
                    obtain ⟨v533, e533⟩ : ∃ z, M521 598 80 = z := ⟨_, rfl⟩
                    have b533 : 0 ≤ v533 ∧ v533 ≤ 7 := by rw [← e533]; exact hI_M521 598 80 (by decide)
                    have y534 : M521 598 80 = v533 := e533
                    obtain ⟨v535, e535⟩ : ∃ z, M 598 89 = z := ⟨_, rfl⟩
                    have b535 : 0 ≤ v535 ∧ v535 ≤ 301 := by rw [← e535]; exact hI_M 598 89 (by decide)
                    have e536 : M521 598 89 = v535 := ((w521_2 89 (by decide) (by decide)).trans e535)
                    have y537 : M521 598 89 = v535 := e536
                    obtain ⟨v538, e538⟩ : ∃ z, M 598 90 = z := ⟨_, rfl⟩
                    have b538 : 0 ≤ v538 ∧ v538 ≤ 2200 := by rw [← e538]; exact hI_M 598 90 (by decide)
                    have e539 : M521 598 90 = v538 := ((w521_2 90 (by decide) (by decide)).trans e538)
                    have y540 : M521 598 90 = v538 := e539
                    obtain ⟨v541, e541⟩ : ∃ z, M 598 100 = z := ⟨_, rfl⟩
                    have b541 : 0 ≤ v541 ∧ v541 ≤ 13 := by rw [← e541]; exact hI_M 598 100 (by decide)
                    have e542 : M521 598 100 = v541 := ((w521_2 100 (by decide) (by decide)).trans e541)
                    have y543 : M521 598 100 = v541 := e542
                    obtain ⟨v544, e544⟩ : ∃ z, M 598 107 = z := ⟨_, rfl⟩
                    have b544 : 0 ≤ v544 ∧ v544 ≤ 16 := by rw [← e544]; exact hI_M 598 107 (by decide)
                    have e545 : M521 598 107 = v544 := ((w521_2 107 (by decide) (by decide)).trans e544)
                    have y546 : M521 598 107 = v544 := e545
                    exact jr.ireturn rfl rfl rfl (q _ _ hI_M521 hH_M521 hS_M521  (by omega) (by by_cases hf : v533 = 0; (first | (exfalso; omega) | (exact Or.inr ⟨⟨by omega, ES.adj hE (k' := 0) (z' := 0) (by omega) (by omega) (by omega), by omega, by omega, by omega, by omega⟩, by omega⟩)); (exact Or.inl ⟨by omega, by omega⟩)) (by omega) (by omega) (by omega) (fun a i f598 f659 f660 f664 f666 f667 => ((w521_1 a i f598).trans rfl)) (fun i g73 g74 g75 g76 g77 g78 g79 g80 g81 g89 g90 g100 g102 => ((w521_2 i g80 g81).trans rfl)))
        · refine jr.aload_n rfl rfl ?_
          obtain ⟨v548, e548⟩ : ∃ z, M 598 89 = z := ⟨_, rfl⟩
          have b548 : 0 ≤ v548 ∧ v548 ≤ 301 := by rw [← e548]; exact hI_M 598 89 (by decide)
          obtain ⟨v549, e549⟩ : ∃ z, M 598 73 = z := ⟨_, rfl⟩
          have b549 : 0 ≤ v549 ∧ v549 ≤ 1600 := by rw [← e549]; exact hI_M 598 73 (by decide)
          obtain ⟨v552, e552⟩ : ∃ z, M 598 100 = z := ⟨_, rfl⟩
          have b552 : 0 ≤ v552 ∧ v552 ≤ 13 := by rw [← e552]; exact hI_M 598 100 (by decide)
          refine jr_v rfl rfl (Or.inl rfl) rfl rfl (by decide) rfl ⟨rfl, Nat.le_of_ble_eq_true rfl, Nat.le_of_ble_eq_true rfl⟩ rfl (jc.deep (r_node hI_M hH_M hS_M   (by rw [e548]; omega) (fun M547 hI_M547 hH_M547 hS_M547  w547_0 w547_1 w547_2 w547_3 w547_4 w547_5 => ?_)) (by decide))
          have tk547 : TK M547 = TK M := TK.fr (w547_5 73 (by decide) (by decide) (by decide)) (w547_5 74 (by decide) (by decide) (by decide))
          have y550 : M 598 73 = v549 := e549
          have y551 : M 598 89 = v548 := e548
          have y553 : M 598 100 = v552 := e552
          have x547_73 := w547_5 73 (by decide) (by decide) (by decide)
          have x547_100 := w547_5 100 (by decide) (by decide) (by decide)
          have hE := ES.fr2 hE w547_4 (w547_5 88 (by decide) (by decide) (by decide)) (w547_5 90 (by decide) (by decide) (by decide)) (w547_5 101 (by decide) (by decide) (by decide)) (w547_5 102 (by decide) (by decide) (by decide)) (w547_5 107 (by decide) (by decide) (by decide)) (k' := 4) (d' := 0) (z' := 0) (by omega) (by omega) (by omega) (by omega)
          refine jr.aload_n rfl rfl ?_
          obtain ⟨v554, e554⟩ : ∃ z, M 598 78 = z := ⟨_, rfl⟩
          have b554 : (-9223372036854775808) ≤ v554 ∧ v554 ≤ 9223372036854775807 := by rw [← e554]; exact hI_M 598 78 (by decide)
          have e555 : M547 598 78 = v554 := ((w547_5 78 (by decide) (by decide) (by decide)).trans e554)
          refine jr.getf (i := 78) (x := v554) (v := .long (Int64.ofInt (v554))) rfl rfl (by decide) rfl (by decide) rfl rfl e555 rfl ?_
          refine jr.ldc2 (x := 4294967295) rfl rfl (by decide) ?_
          refine jr.lcmp_le rfl rfl rfl (by omega) (by omega) (fun h97 => ?_) (fun h97 => ?_)
          · refine jr.aload_n rfl rfl ?_
            refine jr.iconst rfl ?_
            refine jr.aload_n rfl rfl ?_
            refine jr.getf (i := 78) (x := v554) (v := .long (Int64.ofInt (v554))) rfl rfl (by decide) rfl (by decide) rfl rfl e555 rfl ?_
            obtain ⟨v556, e556⟩ : ∃ z, M 598 90 = z := ⟨_, rfl⟩
            have b556 : 0 ≤ v556 ∧ v556 ≤ 2200 := by rw [← e556]; exact hI_M 598 90 (by decide)
            have e557 : M547 598 90 = v556 := ((w547_5 90 (by decide) (by decide) (by decide)).trans e556)
            have e558 : M547 598 100 = v552 := ((w547_5 100 (by decide) (by decide) (by decide)).trans e552)
            obtain ⟨v560, e560⟩ : ∃ z, M 598 107 = z := ⟨_, rfl⟩
            have b560 : 0 ≤ v560 ∧ v560 ≤ 16 := by rw [← e560]; exact hI_M 598 107 (by decide)
            have e561 : M547 598 107 = v560 := ((w547_5 107 (by decide) (by decide) (by decide)).trans e560)
            refine jr_v rfl rfl (Or.inl rfl) rfl rfl (by decide) rfl ⟨rfl, Nat.le_of_ble_eq_true rfl, Nat.le_of_ble_eq_true rfl⟩ rfl (jc.deep (r_emit e557 (by omega) (by omega) (by omega) ?_) (by decide))
            have y559 : M547 598 100 = v552 := e558
            have y562 : M547 598 107 = v560 := e561
            have nd : ndo 4 = 0 := (by unfold ndo argn; (repeat' split) <;> omega)
            have dl : dlo 4 = 1 := (by unfold dlo ndo argn; (repeat' split) <;> omega)
            have hE := ES.emit hE e557 4 v554 2 (by unfold vop; omega) (by omega) (by unfold exo; omega) (by unfold jpo; omega) (by omega) (by omega) (by omega) (by omega) (by omega) (by omega)
            rw [dl] at hE
            have hE : ES _ b 1 2 0 1 (-1) := hE
            refine jr.aload_n rfl rfl ?_
            have e564 : M547 598 73 = v549 := ((w547_5 73 (by decide) (by decide) (by decide)).trans e549)
            obtain ⟨v565, e565⟩ : ∃ z, M 598 72 = z := ⟨_, rfl⟩
            have b565 : 0 ≤ v565 ∧ v565 ≤ 1600 := by rw [← e565]; exact hI_M 598 72 (by decide)
            have e566 : M547 598 72 = v565 := ((w547_5 72 (by decide) (by decide) (by decide)).trans e565)
            obtain ⟨v568, e568⟩ : ∃ z, M547 598 89 = z := ⟨_, rfl⟩
            have b568 : 0 ≤ v568 ∧ v568 ≤ 301 := by rw [← e568]; exact hI_M547 598 89 (by decide)
            have e572 : M547 598 74 = v320 := ((w547_5 74 (by decide) (by decide) (by decide)).trans e320)
            refine jr_v rfl rfl (Or.inl rfl) rfl rfl (by decide) rfl ⟨rfl, Nat.le_of_ble_eq_true rfl, Nat.le_of_ble_eq_true rfl⟩ rfl (jc.deep (r_next (RI.u (RI.u (RI.u hI_M547 (a := 659) (i := v556) (by rw [xri_row rfl rfl]; show (0 : Int) ≤ _ ∧ _ ≤ (1000 : Int); omega)) (a := 660) (i := v556) (by rw [xri_row rfl rfl]; show (-9223372036854775808 : Int) ≤ _ ∧ _ ≤ (9223372036854775807 : Int); omega)) (a := 598) (i := 90) (show (0 : Int) ≤ _ ∧ _ ≤ (2200 : Int) from by omega)) (RH.o (RH.o (RH.o hH_M547 (by decide) (by decide) (by decide)) (by decide) (by decide) (by decide)) (by decide) (by decide) (by decide)) (RF.o (RF.o (RF.o hS_M547 (by decide) (by decide)) (by decide) (by decide)) (by decide) (by decide))   (by rw [((ju_i _ _ (by decide)).trans ((ju_c _ _ (by decide)).trans ((ju_c _ _ (by decide)).trans e564))), ((ju_i _ _ (by decide)).trans ((ju_c _ _ (by decide)).trans ((ju_c _ _ (by decide)).trans e566)))]; omega) (fun M563 hI_M563 hH_M563 hS_M563  w563_0 w563_1 w563_2 w563_3 w563_4 w563_5 w563_6 => ?_)) (by decide))
            have y571 : (ju (ju (ju M547 659 v556 4) 660 v556 v554) 598 90 (v556 + 1)) 598 73 = v549 := ((ju_i _ _ (by decide)).trans ((ju_c _ _ (by decide)).trans ((ju_c _ _ (by decide)).trans e564)))
            have y573 : (ju (ju (ju M547 659 v556 4) 660 v556 v554) 598 90 (v556 + 1)) 598 74 = v320 := ((ju_i _ _ (by decide)).trans ((ju_c _ _ (by decide)).trans ((ju_c _ _ (by decide)).trans e572)))
            have tb563 : TK (ju (ju (ju M547 659 v556 4) 660 v556 v554) 598 90 (v556 + 1)) = TK M547 := ((TK.o (Or.inr ⟨by decide, by decide⟩)).trans ((TK.o (Or.inl (by decide))).trans ((TK.o (Or.inl (by decide))).trans rfl)))
            have y567 : (ju (ju (ju M547 659 v556 4) 660 v556 v554) 598 90 (v556 + 1)) 598 73 = v549 := ((ju_i _ _ (by decide)).trans ((ju_c _ _ (by decide)).trans ((ju_c _ _ (by decide)).trans e564)))
            have y569 : (ju (ju (ju M547 659 v556 4) 660 v556 v554) 598 90 (v556 + 1)) 598 89 = v568 := ((ju_i _ _ (by decide)).trans ((ju_c _ _ (by decide)).trans ((ju_c _ _ (by decide)).trans e568)))
            have y570 : (ju (ju (ju M547 659 v556 4) 660 v556 v554) 598 90 (v556 + 1)) 598 100 = v552 := ((ju_i _ _ (by decide)).trans ((ju_c _ _ (by decide)).trans ((ju_c _ _ (by decide)).trans e558)))
            have x563_89 := w563_6 89 (by decide) (by decide) (by decide) (by decide) (by decide) (by decide) (by decide)
            have x563_100 := w563_6 100 (by decide) (by decide) (by decide) (by decide) (by decide) (by decide) (by decide)
            have hE := ES.fr2 hE w563_5 (w563_6 88 (by decide) (by decide) (by decide) (by decide) (by decide) (by decide) (by decide)) (w563_6 90 (by decide) (by decide) (by decide) (by decide) (by decide) (by decide) (by decide)) (w563_6 101 (by decide) (by decide) (by decide) (by decide) (by decide) (by decide) (by decide)) (w563_6 102 (by decide) (by decide) (by decide) (by decide) (by decide) (by decide) (by decide)) (w563_6 107 (by decide) (by decide) (by decide) (by decide) (by decide) (by decide) (by decide)) (k' := 2) (d' := 0) (z' := 0) (by omega) (by omega) (by omega) (by omega)
            refine jr.iconst rfl ?_
            have e574 : M563 598 72 = v565 := ((w563_6 72 (by decide) (by decide) (by decide) (by decide) (by decide) (by decide) (by decide)).trans ((ju_i _ _ (by decide)).trans ((ju_c _ _ (by decide)).trans ((ju_c _ _ (by decide)).trans e566))))
            have y575 : M563 598 72 = v565 := e574
            obtain ⟨v576, e576⟩ : ∃ z, M563 598 73 = z := ⟨_, rfl⟩
            have b576 : 0 ≤ v576 ∧ v576 ≤ 1600 := by rw [← e576]; exact hI_M563 598 73 (by decide)
            have y577 : M563 598 73 = v576 := e576
            obtain ⟨v578, e578⟩ : ∃ z, M563 598 74 = z := ⟨_, rfl⟩
            have b578 : 0 ≤ v578 ∧ v578 ≤ 4 := by rw [← e578]; exact hI_M563 598 74 (by decide)
            have y579 : M563 598 74 = v578 := e578
            obtain ⟨v580, e580⟩ : ∃ z, M563 598 79 = z := ⟨_, rfl⟩
            have b580 : 0 ≤ v580 ∧ v580 ≤ 255 := by rw [← e580]; exact hI_M563 598 79 (by decide)
            have y581 : M563 598 79 = v580 := e580
            obtain ⟨v582, e582⟩ : ∃ z, M547 598 80 = z := ⟨_, rfl⟩
            have b582 : 0 ≤ v582 ∧ v582 ≤ 7 := by rw [← e582]; exact hI_M547 598 80 (by decide)
            have e583 : M563 598 80 = v582 := ((w563_6 80 (by decide) (by decide) (by decide) (by decide) (by decide) (by decide) (by decide)).trans ((ju_i _ _ (by decide)).trans ((ju_c _ _ (by decide)).trans ((ju_c _ _ (by decide)).trans e582))))
            have y584 : M563 598 80 = v582 := e583
            have e585 : M563 598 89 = v568 := ((w563_6 89 (by decide) (by decide) (by decide) (by decide) (by decide) (by decide) (by decide)).trans ((ju_i _ _ (by decide)).trans ((ju_c _ _ (by decide)).trans ((ju_c _ _ (by decide)).trans e568))))
            have y586 : M563 598 89 = v568 := e585
            have e587 : M563 598 90 = v556 + 1 := ((w563_6 90 (by decide) (by decide) (by decide) (by decide) (by decide) (by decide) (by decide)).trans (ju_same _ _ _ _))
            have y588 : M563 598 90 = v556 + 1 := e587
            have e589 : M563 598 100 = v552 := ((w563_6 100 (by decide) (by decide) (by decide) (by decide) (by decide) (by decide) (by decide)).trans ((ju_i _ _ (by decide)).trans ((ju_c _ _ (by decide)).trans ((ju_c _ _ (by decide)).trans e558))))
            have y590 : M563 598 100 = v552 := e589
            have e591 : M563 598 107 = v560 := ((w563_6 107 (by decide) (by decide) (by decide) (by decide) (by decide) (by decide) (by decide)).trans ((ju_i _ _ (by decide)).trans ((ju_c _ _ (by decide)).trans ((ju_c _ _ (by decide)).trans e561))))
            have y592 : M563 598 107 = v560 := e591
            exact jr.ireturn rfl rfl rfl (q _ _ hI_M563 hH_M563 hS_M563  (by omega) (by by_cases hf : v582 = 0; (first | (exfalso; omega) | (exact Or.inr ⟨⟨by omega, ES.adj hE (k' := 0) (z' := 0) (by omega) (by omega) (by omega), by omega, by omega, by omega, by omega⟩, by omega⟩)); (exact Or.inl ⟨by omega, by omega⟩)) (by omega) (by omega) (by omega) (fun a i f598 f659 f660 f664 f666 f667 => ((w563_5 a i f598).trans ((ju_c _ _ f598).trans ((ju_c _ _ f660).trans ((ju_c _ _ f659).trans ((w547_4 a i f598).trans rfl)))))) (fun i g73 g74 g75 g76 g77 g78 g79 g80 g81 g89 g90 g100 g102 => ((w563_6 i g73 g74 g75 g76 g77 g78 g79).trans ((ju_i _ _ g90).trans ((ju_c _ _ (by decide)).trans ((ju_c _ _ (by decide)).trans ((w547_5 i g80 g81 g89).trans rfl)))))))
          · refine jr.aload_n rfl rfl ?_
            refine jr.bipush rfl (by decide) ?_
            refine jr.aload_n rfl rfl ?_
            obtain ⟨v593, e593⟩ : ∃ z, M 598 75 = z := ⟨_, rfl⟩
            have b593 : 0 ≤ v593 ∧ v593 ≤ 1600 := by rw [← e593]; exact hI_M 598 75 (by decide)
            have e594 : M547 598 75 = v593 := ((w547_5 75 (by decide) (by decide) (by decide)).trans e593)
            refine jr.getf (i := 75) (x := v593) (v := .int (Int32.ofInt (v593))) rfl rfl (by decide) rfl (by decide) rfl rfl e594 rfl ?_
            have e596 : M547 598 73 = v549 := ((w547_5 73 (by decide) (by decide) (by decide)).trans e549)
            obtain ⟨v598, e598⟩ : ∃ z, M547 598 89 = z := ⟨_, rfl⟩
            have b598 : 0 ≤ v598 ∧ v598 ≤ 301 := by rw [← e598]; exact hI_M547 598 89 (by decide)
            have e600 : M547 598 100 = v552 := ((w547_5 100 (by decide) (by decide) (by decide)).trans e552)
            refine jr_v rfl rfl (Or.inl rfl) rfl rfl (by decide) rfl ⟨rfl, Nat.le_of_ble_eq_true rfl, Nat.le_of_ble_eq_true rfl⟩ rfl (jc.deep (r_fails hI_M547 hH_M547 hS_M547  (by omega) (by omega)  (fun M595 hI_M595 hH_M595 hS_M595  w595_0 w595_1 w595_2 => ?_)) (by decide))
            have tk595 : TK M595 = TK M547 := TK.fr (w595_2 73 (by decide) (by decide)) (w595_2 74 (by decide) (by decide))
            have y597 : M547 598 73 = v549 := e596
            have y599 : M547 598 89 = v598 := e598
            have y601 : M547 598 100 = v552 := e600
            have x595_73 := w595_2 73 (by decide) (by decide)
            have x595_89 := w595_2 89 (by decide) (by decide)
            have x595_100 := w595_2 100 (by decide) (by decide)
            have hE := ES.fr2 hE w595_1 (w595_2 88 (by decide) (by decide)) (w595_2 90 (by decide) (by decide)) (w595_2 101 (by decide) (by decide)) (w595_2 102 (by decide) (by decide)) (w595_2 107 (by decide) (by decide)) (k' := 4) (d' := 0) (z' := 0) (by omega) (by omega) (by omega) (by omega)
            refine jr.aload_n rfl rfl ?_
            refine jr.iconst rfl ?_
            refine jr.aload_n rfl rfl ?_
            have e602 : M595 598 78 = v554 := ((w595_2 78 (by decide) (by decide)).trans e555)
            refine jr.getf (i := 78) (x := v554) (v := .long (Int64.ofInt (v554))) rfl rfl (by decide) rfl (by decide) rfl rfl e602 rfl ?_
            obtain ⟨v603, e603⟩ : ∃ z, M 598 90 = z := ⟨_, rfl⟩
            have b603 : 0 ≤ v603 ∧ v603 ≤ 2200 := by rw [← e603]; exact hI_M 598 90 (by decide)
            have e604 : M547 598 90 = v603 := ((w547_5 90 (by decide) (by decide) (by decide)).trans e603)
            have e605 : M595 598 90 = v603 := ((w595_2 90 (by decide) (by decide)).trans e604)
            have e606 : M595 598 100 = v552 := ((w595_2 100 (by decide) (by decide)).trans e600)
            obtain ⟨v608, e608⟩ : ∃ z, M 598 107 = z := ⟨_, rfl⟩
            have b608 : 0 ≤ v608 ∧ v608 ≤ 16 := by rw [← e608]; exact hI_M 598 107 (by decide)
            have e609 : M547 598 107 = v608 := ((w547_5 107 (by decide) (by decide) (by decide)).trans e608)
            have e610 : M595 598 107 = v608 := ((w595_2 107 (by decide) (by decide)).trans e609)
            refine jr_v rfl rfl (Or.inl rfl) rfl rfl (by decide) rfl ⟨rfl, Nat.le_of_ble_eq_true rfl, Nat.le_of_ble_eq_true rfl⟩ rfl (jc.deep (r_emit e605 (by omega) (by omega) (by omega) ?_) (by decide))
            have y607 : M595 598 100 = v552 := e606
            have y611 : M595 598 107 = v608 := e610
            have nd : ndo 4 = 0 := (by unfold ndo argn; (repeat' split) <;> omega)
            have dl : dlo 4 = 1 := (by unfold dlo ndo argn; (repeat' split) <;> omega)
            have hE := ES.emit hE e605 4 v554 2 (by unfold vop; omega) (by omega) (by unfold exo; omega) (by unfold jpo; omega) (by omega) (by omega) (by omega) (by omega) (by omega) (by omega)
            rw [dl] at hE
            have hE : ES _ b 1 2 0 1 (-1) := hE
            refine jr.aload_n rfl rfl ?_
            have e613 : M595 598 73 = v549 := ((w595_2 73 (by decide) (by decide)).trans e596)
            obtain ⟨v614, e614⟩ : ∃ z, M 598 72 = z := ⟨_, rfl⟩
            have b614 : 0 ≤ v614 ∧ v614 ≤ 1600 := by rw [← e614]; exact hI_M 598 72 (by decide)
            have e615 : M547 598 72 = v614 := ((w547_5 72 (by decide) (by decide) (by decide)).trans e614)
            have e616 : M595 598 72 = v614 := ((w595_2 72 (by decide) (by decide)).trans e615)
            have e618 : M595 598 89 = v598 := ((w595_2 89 (by decide) (by decide)).trans e598)
            have e622 : M547 598 74 = v320 := ((w547_5 74 (by decide) (by decide) (by decide)).trans e320)
            have e623 : M595 598 74 = v320 := ((w595_2 74 (by decide) (by decide)).trans e622)
            refine jr_v rfl rfl (Or.inl rfl) rfl rfl (by decide) rfl ⟨rfl, Nat.le_of_ble_eq_true rfl, Nat.le_of_ble_eq_true rfl⟩ rfl (jc.deep (r_next (RI.u (RI.u (RI.u hI_M595 (a := 659) (i := v603) (by rw [xri_row rfl rfl]; show (0 : Int) ≤ _ ∧ _ ≤ (1000 : Int); omega)) (a := 660) (i := v603) (by rw [xri_row rfl rfl]; show (-9223372036854775808 : Int) ≤ _ ∧ _ ≤ (9223372036854775807 : Int); omega)) (a := 598) (i := 90) (show (0 : Int) ≤ _ ∧ _ ≤ (2200 : Int) from by omega)) (RH.o (RH.o (RH.o hH_M595 (by decide) (by decide) (by decide)) (by decide) (by decide) (by decide)) (by decide) (by decide) (by decide)) (RF.o (RF.o (RF.o hS_M595 (by decide) (by decide)) (by decide) (by decide)) (by decide) (by decide))   (by rw [((ju_i _ _ (by decide)).trans ((ju_c _ _ (by decide)).trans ((ju_c _ _ (by decide)).trans e613))), ((ju_i _ _ (by decide)).trans ((ju_c _ _ (by decide)).trans ((ju_c _ _ (by decide)).trans e616)))]; omega) (fun M612 hI_M612 hH_M612 hS_M612  w612_0 w612_1 w612_2 w612_3 w612_4 w612_5 w612_6 => ?_)) (by decide))
            have y621 : (ju (ju (ju M595 659 v603 4) 660 v603 v554) 598 90 (v603 + 1)) 598 73 = v549 := ((ju_i _ _ (by decide)).trans ((ju_c _ _ (by decide)).trans ((ju_c _ _ (by decide)).trans e613)))
            have y624 : (ju (ju (ju M595 659 v603 4) 660 v603 v554) 598 90 (v603 + 1)) 598 74 = v320 := ((ju_i _ _ (by decide)).trans ((ju_c _ _ (by decide)).trans ((ju_c _ _ (by decide)).trans e623)))
            have tb612 : TK (ju (ju (ju M595 659 v603 4) 660 v603 v554) 598 90 (v603 + 1)) = TK M595 := ((TK.o (Or.inr ⟨by decide, by decide⟩)).trans ((TK.o (Or.inl (by decide))).trans ((TK.o (Or.inl (by decide))).trans rfl)))
            have y617 : (ju (ju (ju M595 659 v603 4) 660 v603 v554) 598 90 (v603 + 1)) 598 73 = v549 := ((ju_i _ _ (by decide)).trans ((ju_c _ _ (by decide)).trans ((ju_c _ _ (by decide)).trans e613)))
            have y619 : (ju (ju (ju M595 659 v603 4) 660 v603 v554) 598 90 (v603 + 1)) 598 89 = v598 := ((ju_i _ _ (by decide)).trans ((ju_c _ _ (by decide)).trans ((ju_c _ _ (by decide)).trans e618)))
            have y620 : (ju (ju (ju M595 659 v603 4) 660 v603 v554) 598 90 (v603 + 1)) 598 100 = v552 := ((ju_i _ _ (by decide)).trans ((ju_c _ _ (by decide)).trans ((ju_c _ _ (by decide)).trans e606)))
            have x612_89 := w612_6 89 (by decide) (by decide) (by decide) (by decide) (by decide) (by decide) (by decide)
            have x612_100 := w612_6 100 (by decide) (by decide) (by decide) (by decide) (by decide) (by decide) (by decide)
            have hE := ES.fr2 hE w612_5 (w612_6 88 (by decide) (by decide) (by decide) (by decide) (by decide) (by decide) (by decide)) (w612_6 90 (by decide) (by decide) (by decide) (by decide) (by decide) (by decide) (by decide)) (w612_6 101 (by decide) (by decide) (by decide) (by decide) (by decide) (by decide) (by decide)) (w612_6 102 (by decide) (by decide) (by decide) (by decide) (by decide) (by decide) (by decide)) (w612_6 107 (by decide) (by decide) (by decide) (by decide) (by decide) (by decide) (by decide)) (k' := 2) (d' := 0) (z' := 0) (by omega) (by omega) (by omega) (by omega)
            refine jr.iconst rfl ?_
            have e625 : M612 598 72 = v614 := ((w612_6 72 (by decide) (by decide) (by decide) (by decide) (by decide) (by decide) (by decide)).trans ((ju_i _ _ (by decide)).trans ((ju_c _ _ (by decide)).trans ((ju_c _ _ (by decide)).trans e616))))
            have y626 : M612 598 72 = v614 := e625
            obtain ⟨v627, e627⟩ : ∃ z, M612 598 73 = z := ⟨_, rfl⟩
            have b627 : 0 ≤ v627 ∧ v627 ≤ 1600 := by rw [← e627]; exact hI_M612 598 73 (by decide)
            have y628 : M612 598 73 = v627 := e627
            obtain ⟨v629, e629⟩ : ∃ z, M612 598 74 = z := ⟨_, rfl⟩
            have b629 : 0 ≤ v629 ∧ v629 ≤ 4 := by rw [← e629]; exact hI_M612 598 74 (by decide)
            have y630 : M612 598 74 = v629 := e629
            obtain ⟨v631, e631⟩ : ∃ z, M612 598 79 = z := ⟨_, rfl⟩
            have b631 : 0 ≤ v631 ∧ v631 ≤ 255 := by rw [← e631]; exact hI_M612 598 79 (by decide)
            have y632 : M612 598 79 = v631 := e631
            obtain ⟨v633, e633⟩ : ∃ z, M595 598 80 = z := ⟨_, rfl⟩
            have b633 : 0 ≤ v633 ∧ v633 ≤ 7 := by rw [← e633]; exact hI_M595 598 80 (by decide)
            have e634 : M612 598 80 = v633 := ((w612_6 80 (by decide) (by decide) (by decide) (by decide) (by decide) (by decide) (by decide)).trans ((ju_i _ _ (by decide)).trans ((ju_c _ _ (by decide)).trans ((ju_c _ _ (by decide)).trans e633))))
            have y635 : M612 598 80 = v633 := e634
            have e636 : M612 598 89 = v598 := ((w612_6 89 (by decide) (by decide) (by decide) (by decide) (by decide) (by decide) (by decide)).trans ((ju_i _ _ (by decide)).trans ((ju_c _ _ (by decide)).trans ((ju_c _ _ (by decide)).trans e618))))
            have y637 : M612 598 89 = v598 := e636
            have e638 : M612 598 90 = v603 + 1 := ((w612_6 90 (by decide) (by decide) (by decide) (by decide) (by decide) (by decide) (by decide)).trans (ju_same _ _ _ _))
            have y639 : M612 598 90 = v603 + 1 := e638
            have e640 : M612 598 100 = v552 := ((w612_6 100 (by decide) (by decide) (by decide) (by decide) (by decide) (by decide) (by decide)).trans ((ju_i _ _ (by decide)).trans ((ju_c _ _ (by decide)).trans ((ju_c _ _ (by decide)).trans e606))))
            have y641 : M612 598 100 = v552 := e640
            have e642 : M612 598 107 = v608 := ((w612_6 107 (by decide) (by decide) (by decide) (by decide) (by decide) (by decide) (by decide)).trans ((ju_i _ _ (by decide)).trans ((ju_c _ _ (by decide)).trans ((ju_c _ _ (by decide)).trans e610))))
            have y643 : M612 598 107 = v608 := e642
            exact jr.ireturn rfl rfl rfl (q _ _ hI_M612 hH_M612 hS_M612  (by omega) (by by_cases hf : v633 = 0; (first | (exfalso; omega) | (exact Or.inr ⟨⟨by omega, ES.adj hE (k' := 0) (z' := 0) (by omega) (by omega) (by omega), by omega, by omega, by omega, by omega⟩, by omega⟩)); (exact Or.inl ⟨by omega, by omega⟩)) (by omega) (by omega) (by omega) (fun a i f598 f659 f660 f664 f666 f667 => ((w612_5 a i f598).trans ((ju_c _ _ f598).trans ((ju_c _ _ f660).trans ((ju_c _ _ f659).trans ((w595_1 a i f598).trans ((w547_4 a i f598).trans rfl))))))) (fun i g73 g74 g75 g76 g77 g78 g79 g80 g81 g89 g90 g100 g102 => ((w612_6 i g73 g74 g75 g76 g77 g78 g79).trans ((ju_i _ _ g90).trans ((ju_c _ _ (by decide)).trans ((ju_c _ _ (by decide)).trans ((w595_2 i g80 g81).trans ((w547_5 i g80 g81 g89).trans rfl))))))))
theorem r_open {A : Nat → Option (Nat × (Nat → Int32))} {M : jm} {Q : Option Value → jm → Prop} {c n s : Int} (e_c : M 598 102 = c) (h_c : 0 ≤ c ∧ c ≤ 399) (e_n : M 598 90 = n) (h_n : 0 ≤ n ∧ n ≤ 2199) (h_s : 0 ≤ s ∧ s ≤ 255) (q : ∀ op : Int, (op = 7 ∨ op = 8) → Q none (ju (ju (ju (ju (ju (ju (ju (ju M 664 c s) 666 c (-1)) 667 c 1) 598 102 (c + 1)) 665 c n) 659 n op) 660 n 0) 598 90 (n + 1))) : jc A 2 361 [.ref (598), .int (Int32.ofInt (s))] M Q := by
  refine jc_of (m := xm_361) rfl (Nat.le_of_ble_eq_true rfl) rfl ?_
  refine jr.aload_n rfl rfl ?_
  refine jr.iload_n rfl rfl ?_
  refine jr.iconst rfl ?_
  refine jr_v rfl rfl (Or.inl rfl) rfl rfl (by decide) rfl ⟨rfl, Nat.le_of_ble_eq_true rfl, Nat.le_of_ble_eq_true rfl⟩ rfl (jc.deep (r_push e_c (by omega) (by omega) (by omega) ?_) (by decide))
  refine jr.aload_n rfl rfl ?_
  refine jr.getf (i := 104) (v := .ref 665) rfl rfl (by decide) rfl (by decide) rfl rfl rfl rfl ?_
  refine jr.aload_n rfl rfl ?_
  refine jr.getf (i := 102) (x := (c + 1)) (v := .int (Int32.ofInt (c + 1))) rfl rfl (by decide) rfl (by decide) rfl rfl (ju_same _ _ _ _) rfl ?_
  refine jr.iconst rfl ?_
  refine jr.isub rfl ?_
  refine jr.iw (j_w ((c + 1) - 1)) (j_w_eq _) ?_
  have b1 : -2147483648 ≤ j_w ((c + 1) - 1) ∧ j_w ((c + 1) - 1) ≤ 2147483647 := jb_any _
  generalize j_w ((c + 1) - 1) = v1 at b1 ⊢
  refine jr.aload_n rfl rfl ?_
  refine jr.getf (i := 90) (x := n) (v := .int (Int32.ofInt (n))) rfl rfl (by decide) rfl (by decide) rfl rfl ((ju_i _ _ (by decide)).trans ((ju_c _ _ (by decide)).trans ((ju_c _ _ (by decide)).trans ((ju_c _ _ (by decide)).trans e_n)))) rfl ?_
  refine jr.iast (i := v1) (x := n) rfl (by decide) rfl (by decide) (by omega) (by omega) ?_
  refine jr.aload_n rfl rfl ?_
  refine jr.iload_n rfl rfl ?_
  refine jr.bipush rfl (by decide) ?_
  refine jr.icmp_ne rfl rfl (by omega) (by omega) (fun h25 => ?_) (fun h25 => ?_)
  · refine jr.bipush rfl (by decide) ?_
    refine jr.lconst (x := 0) rfl (by decide) ?_
    refine jr_v rfl rfl (Or.inl rfl) rfl rfl (by decide) rfl ⟨rfl, Nat.le_of_ble_eq_true rfl, Nat.le_of_ble_eq_true rfl⟩ rfl (jc.deep (r_emit ((ju_c _ _ (by decide)).trans ((ju_i _ _ (by decide)).trans ((ju_c _ _ (by decide)).trans ((ju_c _ _ (by decide)).trans ((ju_c _ _ (by decide)).trans e_n))))) (by omega) (by omega) (by omega) ?_) (by decide))
    exact jr.vreturn rfl rfl (q 8 (by decide))
  · refine jr.bipush rfl (by decide) ?_
    refine jr.goto rfl rfl ?_
    refine jr.lconst (x := 0) rfl (by decide) ?_
    refine jr_v rfl rfl (Or.inl rfl) rfl rfl (by decide) rfl ⟨rfl, Nat.le_of_ble_eq_true rfl, Nat.le_of_ble_eq_true rfl⟩ rfl (jc.deep (r_emit ((ju_c _ _ (by decide)).trans ((ju_i _ _ (by decide)).trans ((ju_c _ _ (by decide)).trans ((ju_c _ _ (by decide)).trans ((ju_c _ _ (by decide)).trans e_n))))) (by omega) (by omega) (by omega) ?_) (by decide))
    exact jr.vreturn rfl rfl (q 7 (by decide))
