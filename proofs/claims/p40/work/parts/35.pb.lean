/-! ===== the reference: contracts, 35.pb ===== -/
theorem r_emit {A : Nat → Option (Nat × (Nat → Int32))} {M : jm} {Q : Option Value → jm → Prop} {c : Int} (e_c : M 598 90 = c) (h_c : 0 ≤ c ∧ c ≤ 2199) {op : Int} (h_op : 0 ≤ op ∧ op ≤ 1000) {a : Int} (h_a : (-9223372036854775808) ≤ a ∧ a ≤ 9223372036854775807) (q : Q none (ju (ju (ju M 659 c op) 660 c a) 598 90 (c + 1))) : jc A 1 350 [.ref (598), .int (Int32.ofInt (op)), .long (Int64.ofInt (a))] M Q := by
  refine jc_of (m := xm_350) rfl (Nat.le_of_ble_eq_true rfl) rfl ?_
  refine jr.aload_n rfl rfl ?_
  refine jr.getf (i := 94) (v := .ref 659) rfl rfl (nlt rfl) rfl (nlt rfl) rfl rfl rfl rfl ?_
  refine jr.aload_n rfl rfl ?_
  refine jr.getf (i := 90) (x := c) (v := .int (Int32.ofInt (c))) rfl rfl (nlt rfl) rfl (nlt rfl) rfl rfl e_c rfl ?_
  refine jr.iload_n rfl rfl ?_
  refine jr.iast (i := c) (x := op) rfl (nlt rfl) rfl (Nat.le_of_ble_eq_true rfl) (by omega) (by omega) ?_
  refine jr.aload_n rfl rfl ?_
  refine jr.getf (i := 95) (v := .ref 660) rfl rfl (nlt rfl) rfl (nlt rfl) rfl rfl rfl rfl ?_
  refine jr.aload_n rfl rfl ?_
  refine jr.getf (i := 90) (x := c) (v := .int (Int32.ofInt (c))) rfl rfl (nlt rfl) rfl (nlt rfl) rfl rfl ((ju_c _ _ (by decide)).trans e_c) rfl ?_
  refine jr.lload_n rfl rfl ?_
  refine jr.last (i := c) (x := a) rfl (nlt rfl) rfl (Nat.le_of_ble_eq_true rfl) (by omega) (by omega) ?_
  refine jr.aload_n rfl rfl ?_
  refine jr.dup rfl rfl ?_
  refine jr.getf (i := 90) (x := c) (v := .int (Int32.ofInt (c))) rfl rfl (nlt rfl) rfl (nlt rfl) rfl rfl ((ju_c _ _ (by decide)).trans ((ju_c _ _ (by decide)).trans e_c)) rfl ?_
  refine jr.iconst rfl ?_
  refine jr.iadd rfl ?_
  refine jr.putf (i := 90) (x := (c + 1)) rfl rfl (nlt rfl) rfl (nlt rfl) rfl rfl rfl rfl rfl ?_
  exact jr.vreturn rfl rfl q
theorem r_push {A : Nat → Option (Nat × (Nat → Int32))} {M : jm} {Q : Option Value → jm → Prop} {c : Int} (e_c : M 598 102 = c) (h_c : 0 ≤ c ∧ c ≤ 399) {s : Int} (h_s : 0 ≤ s ∧ s ≤ 255) {w : Int} (h_w : (-1) ≤ w ∧ w ≤ 68) (q : Q none (ju (ju (ju (ju M 664 c s) 666 c w) 667 c 1) 598 102 (c + 1))) : jc A 1 356 [.ref (598), .int (Int32.ofInt (s)), .int (Int32.ofInt (w))] M Q := by
  refine jc_of (m := xm_356) rfl (Nat.le_of_ble_eq_true rfl) rfl ?_
  refine jr.aload_n rfl rfl ?_
  refine jr.getf (i := 103) (v := .ref 664) rfl rfl (nlt rfl) rfl (nlt rfl) rfl rfl rfl rfl ?_
  refine jr.aload_n rfl rfl ?_
  refine jr.getf (i := 102) (x := c) (v := .int (Int32.ofInt (c))) rfl rfl (nlt rfl) rfl (nlt rfl) rfl rfl e_c rfl ?_
  refine jr.iload_n rfl rfl ?_
  refine jr.iast (i := c) (x := s) rfl (nlt rfl) rfl (Nat.le_of_ble_eq_true rfl) (by omega) (by omega) ?_
  refine jr.aload_n rfl rfl ?_
  refine jr.getf (i := 105) (v := .ref 666) rfl rfl (nlt rfl) rfl (nlt rfl) rfl rfl rfl rfl ?_
  refine jr.aload_n rfl rfl ?_
  refine jr.getf (i := 102) (x := c) (v := .int (Int32.ofInt (c))) rfl rfl (nlt rfl) rfl (nlt rfl) rfl rfl ((ju_c _ _ (by decide)).trans e_c) rfl ?_
  refine jr.iload_n rfl rfl ?_
  refine jr.iast (i := c) (x := w) rfl (nlt rfl) rfl (Nat.le_of_ble_eq_true rfl) (by omega) (by omega) ?_
  refine jr.aload_n rfl rfl ?_
  refine jr.getf (i := 106) (v := .ref 667) rfl rfl (nlt rfl) rfl (nlt rfl) rfl rfl rfl rfl ?_
  refine jr.aload_n rfl rfl ?_
  refine jr.getf (i := 102) (x := c) (v := .int (Int32.ofInt (c))) rfl rfl (nlt rfl) rfl (nlt rfl) rfl rfl ((ju_c _ _ (by decide)).trans ((ju_c _ _ (by decide)).trans e_c)) rfl ?_
  refine jr.iconst rfl ?_
  refine jr.iast (i := c) (x := 1) rfl (nlt rfl) rfl (Nat.le_of_ble_eq_true rfl) (by omega) (by omega) ?_
  refine jr.aload_n rfl rfl ?_
  refine jr.dup rfl rfl ?_
  refine jr.getf (i := 102) (x := c) (v := .int (Int32.ofInt (c))) rfl rfl (nlt rfl) rfl (nlt rfl) rfl rfl ((ju_c _ _ (by decide)).trans ((ju_c _ _ (by decide)).trans ((ju_c _ _ (by decide)).trans e_c))) rfl ?_
  refine jr.iconst rfl ?_
  refine jr.iadd rfl ?_
  refine jr.putf (i := 102) (x := (c + 1)) rfl rfl (nlt rfl) rfl (nlt rfl) rfl rfl rfl rfl rfl ?_
  exact jr.vreturn rfl rfl q
theorem ES.fv {M : jm} {b o k d z x : Int} (h : ES M b o k d z x) {i f : Int} (h0 : 0 ≤ i ∧ i ≤ 13) (h1 : 0 ≤ f ∧ f ≤ 10) (h2 : M 650 (11 * i + f) ≠ -1) : FV (16 * i + f) := by
  obtain ⟨ht, P, D, E, ⟨g1, _⟩, _⟩ := h
  obtain ⟨q1, q2⟩ := g1 i f h0.1 h0.2 h1.1 h1.2 h2
  exact ⟨i, f, rfl, h1.1, h1.2, h0.1, h0.2, q1, q2⟩
theorem r_reduce_L0 {A : Nat → Option (Nat × (Nat → Int32))} {Q : Option Value → jm → Prop} {b kk : Int} {M0 : jm} {y0 : Int} (q : ∀ (M' : jm), RI M' → RH M' → RF M' → GS M' b 1 kk → (M' 598 102 = 0 ∨ strn (M' 664 (M' 598 102 - 1)) < y0) → TK M' = TK M0 → CP M0 M' → (∀ (a : Nat) (i : Int), a ≠ 598 → a ≠ 659 → a ≠ 660 → M' a i = M0 a i) → (∀ (i : Int), i ≠ 90 → i ≠ 100 → i ≠ 102 → M' 598 i = M0 598 i) → Q none M') : ∀ (nM : Nat) (M : jm) (y : Int), RI M → RH M → RF M → (∀ (a : Nat) (i : Int), a ≠ 598 → a ≠ 659 → a ≠ 660 → M a i = M0 a i) → (∀ (i : Int), i ≠ 90 → i ≠ 100 → i ≠ 102 → M 598 i = M0 598 i) → 1 ≤ y ∧ y ≤ 6 → GS M b 1 kk → TK M = TK M0 → CP M0 M → y = y0 → M 598 102 ≤ nM → jr A 1 xm_355 0 [(1, .int (Int32.ofInt (y))), (0, .ref (598))] [] M Q := by
  intro nM
  induction nM using Nat.strongRecOn with
  | ind nM ih =>
    intro M y hI_M hH_M hS_M hF_M hG_M h_y hy0 hy1 hy2 hy3 hm
    subst hy3
    obtain ⟨gs1, gs2, gs3, gs4, gs5, gs6⟩ := id hy0
    have hE := gs2
    have sl := ES.sgle gs2
    have bb := ES.bb gs2
    have kb := ES.kz gs2
    have b107 : (0 : Int) ≤ M 598 107 ∧ M 598 107 ≤ 16 := hI_M 598 107 (Nat.le_of_ble_eq_true rfl)
    have b73 : (0 : Int) ≤ M 598 73 ∧ M 598 73 ≤ 1600 := hI_M 598 73 (Nat.le_of_ble_eq_true rfl)
    have b88 : (0 : Int) ≤ M 598 88 ∧ M 598 88 ≤ 16 := hI_M 598 88 (Nat.le_of_ble_eq_true rfl)
    have b100 : (0 : Int) ≤ M 598 100 ∧ M 598 100 ≤ 13 := hI_M 598 100 (Nat.le_of_ble_eq_true rfl)
    have hCP := hy2
    refine jr.aload_n rfl rfl ?_
    obtain ⟨v1, e1⟩ : ∃ z, M 598 102 = z := ⟨_, rfl⟩
    have b1 : 0 ≤ v1 ∧ v1 ≤ 400 := by rw [← e1]; exact hI_M 598 102 (Nat.le_of_ble_eq_true rfl)
    refine jr.getf (i := 102) (x := v1) (v := .int (Int32.ofInt (v1))) rfl rfl (nlt rfl) rfl (nlt rfl) rfl rfl e1 rfl ?_
    refine jr.if_le rfl rfl (by first | (refine rgb (by assumption) ?_; exact rfl) | omega) (fun h4 => ?_) (fun h4 => ?_)
    · exact jr.vreturn rfl rfl (q _ hI_M hH_M hS_M  hy0 (Or.inl (by omega)) hy1 hCP (fun a i f598 f659 f660 => (hF_M a i f598 f659 f660)) (fun i g90 g100 g102 => (hG_M i g90 g100 g102)))
    · refine jr.aload_n rfl rfl ?_
      refine jr.getf (i := 103) (v := .ref 664) rfl rfl (nlt rfl) rfl (nlt rfl) rfl rfl rfl rfl ?_
      refine jr.aload_n rfl rfl ?_
      refine jr.getf (i := 102) (x := v1) (v := .int (Int32.ofInt (v1))) rfl rfl (nlt rfl) rfl (nlt rfl) rfl rfl e1 rfl ?_
      refine jr.iconst rfl ?_
      refine jr.isub rfl ?_
      obtain ⟨v2, e2⟩ : ∃ z, M 664 (v1 - 1) = z := ⟨_, rfl⟩
      have b2 : 0 ≤ v2 ∧ v2 ≤ 255 := by rw [← e2]; exact (by have q := hI_M 664 (v1 - 1) (Nat.le_of_ble_eq_true rfl); rw [xri_row rfl rfl] at q; exact q)
      refine jr.iald (i := (v1 - 1)) (x := v2) rfl (nlt rfl) rfl (Nat.le_of_ble_eq_true rfl) (by omega) (by omega) e2 ?_
      refine jr.bipush rfl (jbp _ (nlt rfl)) ?_
      refine jr.icmp_eq rfl rfl (by first | (refine rgb (by assumption) ?_; exact rfl) | omega) (rgl rfl) (fun h20 => ?_) (fun h20 => ?_)
      · exact jr.vreturn rfl rfl (q _ hI_M hH_M hS_M  hy0 (by rw [e1]; first | exact Or.inr (by rw [e2, h20]; show (0 : Int) < y; omega) | exact Or.inr (by rw [e2]; omega)) hy1 hCP (fun a i f598 f659 f660 => (hF_M a i f598 f659 f660)) (fun i g90 g100 g102 => (hG_M i g90 g100 g102)))
      · refine jr.aload_n rfl rfl ?_
        refine jr.getf (i := 103) (v := .ref 664) rfl rfl (nlt rfl) rfl (nlt rfl) rfl rfl rfl rfl ?_
        refine jr.aload_n rfl rfl ?_
        refine jr.getf (i := 102) (x := v1) (v := .int (Int32.ofInt (v1))) rfl rfl (nlt rfl) rfl (nlt rfl) rfl rfl e1 rfl ?_
        refine jr.iconst rfl ?_
        refine jr.isub rfl ?_
        refine jr.iald (i := (v1 - 1)) (x := v2) rfl (nlt rfl) rfl (Nat.le_of_ble_eq_true rfl) (by omega) (by omega) e2 ?_
        refine jr_s rfl rfl (Or.inl rfl) ⟨Nat.le_of_ble_eq_true rfl, Nat.le_of_ble_eq_true rfl⟩ rfl rfl (jc.deep (r_strength hI_M hH_M hS_M (Kp.rfl _) (by omega)  (fun r3 z3 w3_0 => ?_)) (Nat.le_of_ble_eq_true rfl))
        have tp := ES.top gs2 (by omega)
        rw [e1, e2] at tp
        have dp1 := ES.dpos gs2 (by omega)
        rw [e1, e2] at dp1
        have pt1 := ES.ptl gs2 (by omega)
        rw [e1, e2] at pt1
        refine jr.iload_n rfl rfl ?_
        refine jr.icmp_lt rfl rfl (by first | (refine rgb (by assumption) ?_; exact rfl) | omega) (by first | (refine rgb (by assumption) ?_; exact rfl) | omega) (fun h38 => ?_) (fun h38 => ?_)
        · exact jr.vreturn rfl rfl (q _ hI_M hH_M hS_M  hy0 (by rw [e1]; first | exact Or.inr (by rw [e2, h20]; show (0 : Int) < y; omega) | exact Or.inr (by rw [e2]; omega)) hy1 hCP (fun a i f598 f659 f660 => (hF_M a i f598 f659 f660)) (fun i g90 g100 g102 => (hG_M i g90 g100 g102)))
        · refine jr.aload_n rfl rfl ?_
          refine jr.dup rfl rfl ?_
          refine jr.getf (i := 102) (x := v1) (v := .int (Int32.ofInt (v1))) rfl rfl (nlt rfl) rfl (nlt rfl) rfl rfl e1 rfl ?_
          refine jr.iconst rfl ?_
          refine jr.isub rfl ?_
          refine jr.putf (i := 102) (x := (v1 - 1)) rfl rfl (nlt rfl) rfl (nlt rfl) rfl rfl rfl rfl rfl ?_
          refine jr.aload_n rfl rfl ?_
          refine jr.getf (i := 103) (v := .ref 664) rfl rfl (nlt rfl) rfl (nlt rfl) rfl rfl rfl rfl ?_
          refine jr.aload_n rfl rfl ?_
          refine jr.getf (i := 102) (x := (v1 - 1)) (v := .int (Int32.ofInt (v1 - 1))) rfl rfl (nlt rfl) rfl (nlt rfl) rfl rfl (ju_same _ _ _ _) rfl ?_
          refine jr.iald (i := (v1 - 1)) (x := v2) rfl (nlt rfl) rfl (Nat.le_of_ble_eq_true rfl) (by omega) (by omega) ((ju_c _ _ (by decide)).trans e2) ?_
          refine jr.istore_n (ls' := [_, _, _]) rfl (nlt rfl) rfl ?_
          refine jr.iload_n rfl rfl ?_
          refine jr.bipush rfl (jbp _ (nlt rfl)) ?_
          refine jr.icmp_eq rfl rfl (by first | (refine rgb (by assumption) ?_; exact rfl) | omega) (rgl rfl) (fun h64 => ?_) (fun h64 => ?_)
          · refine jr.aload_n rfl rfl ?_
            refine jr.iload_n rfl rfl ?_
            refine jr.lconst (x := 0) rfl (by decide) ?_
            obtain ⟨v4, e4⟩ : ∃ z, M 598 90 = z := ⟨_, rfl⟩
            have b4 : 0 ≤ v4 ∧ v4 ≤ 2200 := by rw [← e4]; exact hI_M 598 90 (Nat.le_of_ble_eq_true rfl)
            refine jr_v rfl rfl (Or.inl rfl) rfl rfl (nlt rfl) rfl ⟨rfl, Nat.le_of_ble_eq_true rfl, Nat.le_of_ble_eq_true rfl⟩ rfl (jc.deep (r_emit ((ju_i _ _ (zne (by decide))).trans e4) (by omega) (by omega) (by omega) ?_) (Nat.le_of_ble_eq_true rfl))
            refine jr.aload_n rfl rfl ?_
            refine jr.dup rfl rfl ?_
            obtain ⟨v5, e5⟩ : ∃ z, M 598 100 = z := ⟨_, rfl⟩
            have b5 : 0 ≤ v5 ∧ v5 ≤ 13 := by rw [← e5]; exact hI_M 598 100 (Nat.le_of_ble_eq_true rfl)
            refine jr.getf (i := 100) (x := v5) (v := .int (Int32.ofInt (v5))) rfl rfl (nlt rfl) rfl (nlt rfl) rfl rfl ((ju_i _ _ (zne (by decide))).trans ((ju_c _ _ (by decide)).trans ((ju_c _ _ (by decide)).trans ((ju_i _ _ (zne (by decide))).trans e5)))) rfl ?_
            refine jr.iconst rfl ?_
            refine jr.isub rfl ?_
            refine jr.putf (i := 100) (x := (v5 - 1)) rfl rfl (nlt rfl) rfl (nlt rfl) rfl rfl rfl rfl rfl ?_
            refine jr.goto rfl rfl ?_
            refine jr.goto rfl rfl ?_
            obtain ⟨v6, e6⟩ : ∃ z, M 598 72 = z := ⟨_, rfl⟩
            have b6 : 0 ≤ v6 ∧ v6 ≤ 1600 := by rw [← e6]; exact hI_M 598 72 (Nat.le_of_ble_eq_true rfl)
            have y7 : (ju (ju (ju (ju (ju M 598 102 (v1 - 1)) 659 v4 v2) 660 v4 0) 598 90 (v4 + 1)) 598 100 (v5 - 1)) 598 72 = v6 := ((ju_i _ _ (zne (by decide))).trans ((ju_i _ _ (zne (by decide))).trans ((ju_c _ _ (by decide)).trans ((ju_c _ _ (by decide)).trans ((ju_i _ _ (zne (by decide))).trans e6)))))
            obtain ⟨v8, e8⟩ : ∃ z, M 598 73 = z := ⟨_, rfl⟩
            have b8 : 0 ≤ v8 ∧ v8 ≤ 1600 := by rw [← e8]; exact hI_M 598 73 (Nat.le_of_ble_eq_true rfl)
            have y9 : (ju (ju (ju (ju (ju M 598 102 (v1 - 1)) 659 v4 v2) 660 v4 0) 598 90 (v4 + 1)) 598 100 (v5 - 1)) 598 73 = v8 := ((ju_i _ _ (zne (by decide))).trans ((ju_i _ _ (zne (by decide))).trans ((ju_c _ _ (by decide)).trans ((ju_c _ _ (by decide)).trans ((ju_i _ _ (zne (by decide))).trans e8)))))
            obtain ⟨v10, e10⟩ : ∃ z, M 598 74 = z := ⟨_, rfl⟩
            have b10 : 0 ≤ v10 ∧ v10 ≤ 4 := by rw [← e10]; exact hI_M 598 74 (Nat.le_of_ble_eq_true rfl)
            have y11 : (ju (ju (ju (ju (ju M 598 102 (v1 - 1)) 659 v4 v2) 660 v4 0) 598 90 (v4 + 1)) 598 100 (v5 - 1)) 598 74 = v10 := ((ju_i _ _ (zne (by decide))).trans ((ju_i _ _ (zne (by decide))).trans ((ju_c _ _ (by decide)).trans ((ju_c _ _ (by decide)).trans ((ju_i _ _ (zne (by decide))).trans e10)))))
            obtain ⟨v12, e12⟩ : ∃ z, M 598 79 = z := ⟨_, rfl⟩
            have b12 : 0 ≤ v12 ∧ v12 ≤ 255 := by rw [← e12]; exact hI_M 598 79 (Nat.le_of_ble_eq_true rfl)
            have y13 : (ju (ju (ju (ju (ju M 598 102 (v1 - 1)) 659 v4 v2) 660 v4 0) 598 90 (v4 + 1)) 598 100 (v5 - 1)) 598 79 = v12 := ((ju_i _ _ (zne (by decide))).trans ((ju_i _ _ (zne (by decide))).trans ((ju_c _ _ (by decide)).trans ((ju_c _ _ (by decide)).trans ((ju_i _ _ (zne (by decide))).trans e12)))))
            obtain ⟨v14, e14⟩ : ∃ z, M 598 80 = z := ⟨_, rfl⟩
            have b14 : 0 ≤ v14 ∧ v14 ≤ 7 := by rw [← e14]; exact hI_M 598 80 (Nat.le_of_ble_eq_true rfl)
            have y15 : (ju (ju (ju (ju (ju M 598 102 (v1 - 1)) 659 v4 v2) 660 v4 0) 598 90 (v4 + 1)) 598 100 (v5 - 1)) 598 80 = v14 := ((ju_i _ _ (zne (by decide))).trans ((ju_i _ _ (zne (by decide))).trans ((ju_c _ _ (by decide)).trans ((ju_c _ _ (by decide)).trans ((ju_i _ _ (zne (by decide))).trans e14)))))
            obtain ⟨v16, e16⟩ : ∃ z, M 598 89 = z := ⟨_, rfl⟩
            have b16 : 0 ≤ v16 ∧ v16 ≤ 301 := by rw [← e16]; exact hI_M 598 89 (Nat.le_of_ble_eq_true rfl)
            have y17 : (ju (ju (ju (ju (ju M 598 102 (v1 - 1)) 659 v4 v2) 660 v4 0) 598 90 (v4 + 1)) 598 100 (v5 - 1)) 598 89 = v16 := ((ju_i _ _ (zne (by decide))).trans ((ju_i _ _ (zne (by decide))).trans ((ju_c _ _ (by decide)).trans ((ju_c _ _ (by decide)).trans ((ju_i _ _ (zne (by decide))).trans e16)))))
            have y18 : (ju (ju (ju (ju (ju M 598 102 (v1 - 1)) 659 v4 v2) 660 v4 0) 598 90 (v4 + 1)) 598 100 (v5 - 1)) 598 100 = v5 - 1 := (ju_same _ _ _ _)
            refine jr.pick (ls := [_, _]) [1, 2] rfl rfl ?_
            exact ih (nM - 1) (by omega) (ju (ju (ju (ju (ju M 598 102 (v1 - 1)) 659 v4 v2) 660 v4 0) 598 90 (v4 + 1)) 598 100 (v5 - 1)) y (RI.u (RI.u (RI.u (RI.u (RI.u hI_M (a := 598) (i := 102) (show (0 : Int) ≤ _ ∧ _ ≤ (400 : Int) from by omega)) (a := 659) (i := v4) (by rw [xri_row rfl rfl]; show (0 : Int) ≤ _ ∧ _ ≤ (1000 : Int); omega)) (a := 660) (i := v4) (by rw [xri_row rfl rfl]; show (-9223372036854775808 : Int) ≤ _ ∧ _ ≤ (9223372036854775807 : Int); omega)) (a := 598) (i := 90) (show (0 : Int) ≤ _ ∧ _ ≤ (2200 : Int) from by omega)) (a := 598) (i := 100) (show (0 : Int) ≤ _ ∧ _ ≤ (13 : Int) from by omega)) (RH.o (RH.o (RH.o (RH.o (RH.o hH_M (by decide) (by decide) (by decide)) (by decide) (by decide) (by decide)) (by decide) (by decide) (by decide)) (by decide) (by decide) (by decide)) (by decide) (by decide) (by decide)) (RF.o (RF.o (RF.o (RF.o (RF.o hS_M (by decide) (by decide)) (by decide) (by decide)) (by decide) (by decide)) (by decide) (by decide)) (by decide) (by decide))  (fun a i f598 f659 f660 => ((ju_c _ _ f598).trans ((ju_c _ _ f598).trans ((ju_c _ _ f660).trans ((ju_c _ _ f659).trans ((ju_c _ _ f598).trans (hF_M a i f598 f659 f660))))))) (fun i g90 g100 g102 => ((ju_i _ _ g100).trans ((ju_i _ _ g90).trans ((ju_c _ _ (by decide)).trans ((ju_c _ _ (by decide)).trans ((ju_i _ _ g102).trans (hG_M i g90 g100 g102))))))) (by omega) ⟨by omega, ES.adj (ES.redU gs2 e1 e4 e5 e2 (by omega) (by omega) (by omega)) (k' := kk) (z' := 0) (by omega) (by omega) (by omega), by omega, by omega, by omega, by omega⟩ ((((TK.o (Or.inr ⟨by decide, by decide⟩)).trans ((TK.o (Or.inr ⟨by decide, by decide⟩)).trans ((TK.o (Or.inl (by decide))).trans ((TK.o (Or.inl (by decide))).trans ((TK.o (Or.inr ⟨by decide, by decide⟩)).trans rfl)))))).trans hy1) (CP.o (CP.emit (CP.o hCP (by decide) (Or.inr (by decide))) ((ju_i _ _ (zne (by decide))).trans e4)) (by decide) (Or.inr (by decide))) (by omega) (by rw [((ju_i _ _ (zne (by decide))).trans ((ju_i _ _ (zne (by decide))).trans ((ju_c _ _ (by decide)).trans ((ju_c _ _ (by decide)).trans (ju_same _ _ _ _)))))]; omega)
          · refine jr.iload_n rfl rfl ?_
            refine jr.bipush rfl (jbp _ (nlt rfl)) ?_
            refine jr.icmp_ne rfl rfl (by first | (refine rgb (by assumption) ?_; exact rfl) | omega) (rgl rfl) (fun h70 => ?_) (fun h70 => ?_)
            · refine jr.iload_n rfl rfl ?_
              refine jr.bipush rfl (jbp _ (nlt rfl)) ?_
              refine jr.icmp_eq rfl rfl (by first | (refine rgb (by assumption) ?_; exact rfl) | omega) (rgl rfl) (fun h95 => ?_) (fun h95 => ?_)
              · refine jr.aload_n rfl rfl ?_
                refine jr.bipush rfl (jbp _ (nlt rfl)) ?_
                refine jr.lconst (x := 0) rfl (by decide) ?_
                obtain ⟨v19, e19⟩ : ∃ z, M 598 90 = z := ⟨_, rfl⟩
                have b19 : 0 ≤ v19 ∧ v19 ≤ 2200 := by rw [← e19]; exact hI_M 598 90 (Nat.le_of_ble_eq_true rfl)
                refine jr_v rfl rfl (Or.inl rfl) rfl rfl (nlt rfl) rfl ⟨rfl, Nat.le_of_ble_eq_true rfl, Nat.le_of_ble_eq_true rfl⟩ rfl (jc.deep (r_emit ((ju_i _ _ (zne (by decide))).trans e19) (by omega) (by omega) (by omega) ?_) (Nat.le_of_ble_eq_true rfl))
                refine jr.aload_n rfl rfl ?_
                refine jr.getf (i := 95) (v := .ref 660) rfl rfl (nlt rfl) rfl (nlt rfl) rfl rfl rfl rfl ?_
                refine jr.aload_n rfl rfl ?_
                refine jr.getf (i := 104) (v := .ref 665) rfl rfl (nlt rfl) rfl (nlt rfl) rfl rfl rfl rfl ?_
                refine jr.aload_n rfl rfl ?_
                refine jr.getf (i := 102) (x := (v1 - 1)) (v := .int (Int32.ofInt (v1 - 1))) rfl rfl (nlt rfl) rfl (nlt rfl) rfl rfl ((ju_i _ _ (zne (by decide))).trans ((ju_c _ _ (by decide)).trans ((ju_c _ _ (by decide)).trans (ju_same _ _ _ _)))) rfl ?_
                obtain ⟨v20, e20⟩ : ∃ z, M 665 (v1 - 1) = z := ⟨_, rfl⟩
                have b20 : 0 ≤ v20 ∧ v20 ≤ 2200 := by rw [← e20]; exact (by have q := hI_M 665 (v1 - 1) (Nat.le_of_ble_eq_true rfl); rw [xri_row rfl rfl] at q; exact q)
                refine jr.iald (i := (v1 - 1)) (x := v20) rfl (nlt rfl) rfl (Nat.le_of_ble_eq_true rfl) (by omega) (by omega) ((ju_c _ _ (by decide)).trans ((ju_c _ _ (by decide)).trans ((ju_c _ _ (by decide)).trans ((ju_c _ _ (by decide)).trans e20)))) ?_
                refine jr.aload_n rfl rfl ?_
                refine jr.getf (i := 90) (x := (v19 + 1)) (v := .int (Int32.ofInt (v19 + 1))) rfl rfl (nlt rfl) rfl (nlt rfl) rfl rfl (ju_same _ _ _ _) rfl ?_
                refine jr.i2l rfl (by omega) ?_
                refine jr.last (i := v20) (x := (v19 + 1)) rfl (nlt rfl) rfl (Nat.le_of_ble_eq_true rfl) (by omega) (by omega) ?_
                refine jr.goto rfl rfl ?_
                refine jr.goto rfl rfl ?_
                obtain ⟨v21, e21⟩ : ∃ z, M 598 72 = z := ⟨_, rfl⟩
                have b21 : 0 ≤ v21 ∧ v21 ≤ 1600 := by rw [← e21]; exact hI_M 598 72 (Nat.le_of_ble_eq_true rfl)
                have y22 : (ju (ju (ju (ju (ju M 598 102 (v1 - 1)) 659 v19 9) 660 v19 0) 598 90 (v19 + 1)) 660 v20 (v19 + 1)) 598 72 = v21 := ((ju_c _ _ (by decide)).trans ((ju_i _ _ (zne (by decide))).trans ((ju_c _ _ (by decide)).trans ((ju_c _ _ (by decide)).trans ((ju_i _ _ (zne (by decide))).trans e21)))))
                obtain ⟨v23, e23⟩ : ∃ z, M 598 73 = z := ⟨_, rfl⟩
                have b23 : 0 ≤ v23 ∧ v23 ≤ 1600 := by rw [← e23]; exact hI_M 598 73 (Nat.le_of_ble_eq_true rfl)
                have y24 : (ju (ju (ju (ju (ju M 598 102 (v1 - 1)) 659 v19 9) 660 v19 0) 598 90 (v19 + 1)) 660 v20 (v19 + 1)) 598 73 = v23 := ((ju_c _ _ (by decide)).trans ((ju_i _ _ (zne (by decide))).trans ((ju_c _ _ (by decide)).trans ((ju_c _ _ (by decide)).trans ((ju_i _ _ (zne (by decide))).trans e23)))))
                obtain ⟨v25, e25⟩ : ∃ z, M 598 74 = z := ⟨_, rfl⟩
                have b25 : 0 ≤ v25 ∧ v25 ≤ 4 := by rw [← e25]; exact hI_M 598 74 (Nat.le_of_ble_eq_true rfl)
                have y26 : (ju (ju (ju (ju (ju M 598 102 (v1 - 1)) 659 v19 9) 660 v19 0) 598 90 (v19 + 1)) 660 v20 (v19 + 1)) 598 74 = v25 := ((ju_c _ _ (by decide)).trans ((ju_i _ _ (zne (by decide))).trans ((ju_c _ _ (by decide)).trans ((ju_c _ _ (by decide)).trans ((ju_i _ _ (zne (by decide))).trans e25)))))
                obtain ⟨v27, e27⟩ : ∃ z, M 598 79 = z := ⟨_, rfl⟩
                have b27 : 0 ≤ v27 ∧ v27 ≤ 255 := by rw [← e27]; exact hI_M 598 79 (Nat.le_of_ble_eq_true rfl)
                have y28 : (ju (ju (ju (ju (ju M 598 102 (v1 - 1)) 659 v19 9) 660 v19 0) 598 90 (v19 + 1)) 660 v20 (v19 + 1)) 598 79 = v27 := ((ju_c _ _ (by decide)).trans ((ju_i _ _ (zne (by decide))).trans ((ju_c _ _ (by decide)).trans ((ju_c _ _ (by decide)).trans ((ju_i _ _ (zne (by decide))).trans e27)))))
                obtain ⟨v29, e29⟩ : ∃ z, M 598 80 = z := ⟨_, rfl⟩
                have b29 : 0 ≤ v29 ∧ v29 ≤ 7 := by rw [← e29]; exact hI_M 598 80 (Nat.le_of_ble_eq_true rfl)
                have y30 : (ju (ju (ju (ju (ju M 598 102 (v1 - 1)) 659 v19 9) 660 v19 0) 598 90 (v19 + 1)) 660 v20 (v19 + 1)) 598 80 = v29 := ((ju_c _ _ (by decide)).trans ((ju_i _ _ (zne (by decide))).trans ((ju_c _ _ (by decide)).trans ((ju_c _ _ (by decide)).trans ((ju_i _ _ (zne (by decide))).trans e29)))))
                obtain ⟨v31, e31⟩ : ∃ z, M 598 89 = z := ⟨_, rfl⟩
                have b31 : 0 ≤ v31 ∧ v31 ≤ 301 := by rw [← e31]; exact hI_M 598 89 (Nat.le_of_ble_eq_true rfl)
                have y32 : (ju (ju (ju (ju (ju M 598 102 (v1 - 1)) 659 v19 9) 660 v19 0) 598 90 (v19 + 1)) 660 v20 (v19 + 1)) 598 89 = v31 := ((ju_c _ _ (by decide)).trans ((ju_i _ _ (zne (by decide))).trans ((ju_c _ _ (by decide)).trans ((ju_c _ _ (by decide)).trans ((ju_i _ _ (zne (by decide))).trans e31)))))
                obtain ⟨v33, e33⟩ : ∃ z, M 598 100 = z := ⟨_, rfl⟩
                have b33 : 0 ≤ v33 ∧ v33 ≤ 13 := by rw [← e33]; exact hI_M 598 100 (Nat.le_of_ble_eq_true rfl)
                have y34 : (ju (ju (ju (ju (ju M 598 102 (v1 - 1)) 659 v19 9) 660 v19 0) 598 90 (v19 + 1)) 660 v20 (v19 + 1)) 598 100 = v33 := ((ju_c _ _ (by decide)).trans ((ju_i _ _ (zne (by decide))).trans ((ju_c _ _ (by decide)).trans ((ju_c _ _ (by decide)).trans ((ju_i _ _ (zne (by decide))).trans e33)))))
                refine jr.pick (ls := [_, _]) [1, 2] rfl rfl ?_
                exact ih (nM - 1) (by omega) (ju (ju (ju (ju (ju M 598 102 (v1 - 1)) 659 v19 9) 660 v19 0) 598 90 (v19 + 1)) 660 v20 (v19 + 1)) y (RI.u (RI.u (RI.u (RI.u (RI.u hI_M (a := 598) (i := 102) (show (0 : Int) ≤ _ ∧ _ ≤ (400 : Int) from by omega)) (a := 659) (i := v19) (by rw [xri_row rfl rfl]; show (0 : Int) ≤ _ ∧ _ ≤ (1000 : Int); omega)) (a := 660) (i := v19) (by rw [xri_row rfl rfl]; show (-9223372036854775808 : Int) ≤ _ ∧ _ ≤ (9223372036854775807 : Int); omega)) (a := 598) (i := 90) (show (0 : Int) ≤ _ ∧ _ ≤ (2200 : Int) from by omega)) (a := 660) (i := v20) (by rw [xri_row rfl rfl]; show (-9223372036854775808 : Int) ≤ _ ∧ _ ≤ (9223372036854775807 : Int); omega)) (RH.o (RH.o (RH.o (RH.o (RH.o hH_M (by decide) (by decide) (by decide)) (by decide) (by decide) (by decide)) (by decide) (by decide) (by decide)) (by decide) (by decide) (by decide)) (by decide) (by decide) (by decide)) (RF.o (RF.o (RF.o (RF.o (RF.o hS_M (by decide) (by decide)) (by decide) (by decide)) (by decide) (by decide)) (by decide) (by decide)) (by decide) (by decide))  (fun a i f598 f659 f660 => ((ju_c _ _ f660).trans ((ju_c _ _ f598).trans ((ju_c _ _ f660).trans ((ju_c _ _ f659).trans ((ju_c _ _ f598).trans (hF_M a i f598 f659 f660))))))) (fun i g90 g100 g102 => ((ju_c _ _ (by decide)).trans ((ju_i _ _ g90).trans ((ju_c _ _ (by decide)).trans ((ju_c _ _ (by decide)).trans ((ju_i _ _ g102).trans (hG_M i g90 g100 g102))))))) (by omega) ⟨by omega, ES.adj (ES.redA gs2 e1 e19 e20 (by omega) (by rw [e2]; omega) (by omega)) (k' := kk) (z' := 0) (by omega) (by omega) (by omega), by omega, by omega, by omega, by omega⟩ ((((TK.o (Or.inl (by decide))).trans ((TK.o (Or.inr ⟨by decide, by decide⟩)).trans ((TK.o (Or.inl (by decide))).trans ((TK.o (Or.inl (by decide))).trans ((TK.o (Or.inr ⟨by decide, by decide⟩)).trans rfl)))))).trans hy1) (CP.o (CP.emit (CP.o hCP (by decide) (Or.inr (by decide))) ((ju_i _ _ (zne (by decide))).trans e19)) (by decide) (Or.inl (by decide))) (by omega) (by rw [((ju_c _ _ (by decide)).trans ((ju_i _ _ (zne (by decide))).trans ((ju_c _ _ (by decide)).trans ((ju_c _ _ (by decide)).trans (ju_same _ _ _ _)))))]; omega)
              · refine jr.iload_n rfl rfl ?_
                refine jr.bipush rfl (jbp _ (nlt rfl)) ?_
                refine jr.icmp_ne rfl rfl (by first | (refine rgb (by assumption) ?_; exact rfl) | omega) (rgl rfl) (fun h101 => ?_) (fun h101 => ?_)
                · refine jr.aload_n rfl rfl ?_
                  refine jr.bipush rfl (jbp _ (nlt rfl)) ?_
                  refine jr.iload_n rfl rfl ?_
                  refine jr.iadd rfl ?_
                  refine jr.lconst (x := 0) rfl (by decide) ?_
                  obtain ⟨v35, e35⟩ : ∃ z, M 598 90 = z := ⟨_, rfl⟩
                  have b35 : 0 ≤ v35 ∧ v35 ≤ 2200 := by rw [← e35]; exact hI_M 598 90 (Nat.le_of_ble_eq_true rfl)
                  refine jr_v rfl rfl (Or.inl rfl) rfl rfl (nlt rfl) rfl ⟨rfl, Nat.le_of_ble_eq_true rfl, Nat.le_of_ble_eq_true rfl⟩ rfl (jc.deep (r_emit ((ju_i _ _ (zne (by decide))).trans e35) (by omega) (by omega) (by omega) ?_) (Nat.le_of_ble_eq_true rfl))
                  refine jr.goto rfl rfl ?_
                  obtain ⟨v36, e36⟩ : ∃ z, M 598 72 = z := ⟨_, rfl⟩
                  have b36 : 0 ≤ v36 ∧ v36 ≤ 1600 := by rw [← e36]; exact hI_M 598 72 (Nat.le_of_ble_eq_true rfl)
                  have y37 : (ju (ju (ju (ju M 598 102 (v1 - 1)) 659 v35 (100 + v2)) 660 v35 0) 598 90 (v35 + 1)) 598 72 = v36 := ((ju_i _ _ (zne (by decide))).trans ((ju_c _ _ (by decide)).trans ((ju_c _ _ (by decide)).trans ((ju_i _ _ (zne (by decide))).trans e36))))
                  obtain ⟨v38, e38⟩ : ∃ z, M 598 73 = z := ⟨_, rfl⟩
                  have b38 : 0 ≤ v38 ∧ v38 ≤ 1600 := by rw [← e38]; exact hI_M 598 73 (Nat.le_of_ble_eq_true rfl)
                  have y39 : (ju (ju (ju (ju M 598 102 (v1 - 1)) 659 v35 (100 + v2)) 660 v35 0) 598 90 (v35 + 1)) 598 73 = v38 := ((ju_i _ _ (zne (by decide))).trans ((ju_c _ _ (by decide)).trans ((ju_c _ _ (by decide)).trans ((ju_i _ _ (zne (by decide))).trans e38))))
                  obtain ⟨v40, e40⟩ : ∃ z, M 598 74 = z := ⟨_, rfl⟩
                  have b40 : 0 ≤ v40 ∧ v40 ≤ 4 := by rw [← e40]; exact hI_M 598 74 (Nat.le_of_ble_eq_true rfl)
                  have y41 : (ju (ju (ju (ju M 598 102 (v1 - 1)) 659 v35 (100 + v2)) 660 v35 0) 598 90 (v35 + 1)) 598 74 = v40 := ((ju_i _ _ (zne (by decide))).trans ((ju_c _ _ (by decide)).trans ((ju_c _ _ (by decide)).trans ((ju_i _ _ (zne (by decide))).trans e40))))
                  obtain ⟨v42, e42⟩ : ∃ z, M 598 79 = z := ⟨_, rfl⟩
                  have b42 : 0 ≤ v42 ∧ v42 ≤ 255 := by rw [← e42]; exact hI_M 598 79 (Nat.le_of_ble_eq_true rfl)
                  have y43 : (ju (ju (ju (ju M 598 102 (v1 - 1)) 659 v35 (100 + v2)) 660 v35 0) 598 90 (v35 + 1)) 598 79 = v42 := ((ju_i _ _ (zne (by decide))).trans ((ju_c _ _ (by decide)).trans ((ju_c _ _ (by decide)).trans ((ju_i _ _ (zne (by decide))).trans e42))))
                  obtain ⟨v44, e44⟩ : ∃ z, M 598 80 = z := ⟨_, rfl⟩
                  have b44 : 0 ≤ v44 ∧ v44 ≤ 7 := by rw [← e44]; exact hI_M 598 80 (Nat.le_of_ble_eq_true rfl)
                  have y45 : (ju (ju (ju (ju M 598 102 (v1 - 1)) 659 v35 (100 + v2)) 660 v35 0) 598 90 (v35 + 1)) 598 80 = v44 := ((ju_i _ _ (zne (by decide))).trans ((ju_c _ _ (by decide)).trans ((ju_c _ _ (by decide)).trans ((ju_i _ _ (zne (by decide))).trans e44))))
                  obtain ⟨v46, e46⟩ : ∃ z, M 598 89 = z := ⟨_, rfl⟩
                  have b46 : 0 ≤ v46 ∧ v46 ≤ 301 := by rw [← e46]; exact hI_M 598 89 (Nat.le_of_ble_eq_true rfl)
                  have y47 : (ju (ju (ju (ju M 598 102 (v1 - 1)) 659 v35 (100 + v2)) 660 v35 0) 598 90 (v35 + 1)) 598 89 = v46 := ((ju_i _ _ (zne (by decide))).trans ((ju_c _ _ (by decide)).trans ((ju_c _ _ (by decide)).trans ((ju_i _ _ (zne (by decide))).trans e46))))
                  obtain ⟨v48, e48⟩ : ∃ z, M 598 100 = z := ⟨_, rfl⟩
                  have b48 : 0 ≤ v48 ∧ v48 ≤ 13 := by rw [← e48]; exact hI_M 598 100 (Nat.le_of_ble_eq_true rfl)
                  have y49 : (ju (ju (ju (ju M 598 102 (v1 - 1)) 659 v35 (100 + v2)) 660 v35 0) 598 90 (v35 + 1)) 598 100 = v48 := ((ju_i _ _ (zne (by decide))).trans ((ju_c _ _ (by decide)).trans ((ju_c _ _ (by decide)).trans ((ju_i _ _ (zne (by decide))).trans e48))))
                  refine jr.pick (ls := [_, _]) [1, 2] rfl rfl ?_
                  exact ih (nM - 1) (by omega) (ju (ju (ju (ju M 598 102 (v1 - 1)) 659 v35 (100 + v2)) 660 v35 0) 598 90 (v35 + 1)) y (RI.u (RI.u (RI.u (RI.u hI_M (a := 598) (i := 102) (show (0 : Int) ≤ _ ∧ _ ≤ (400 : Int) from by omega)) (a := 659) (i := v35) (by rw [xri_row rfl rfl]; show (0 : Int) ≤ _ ∧ _ ≤ (1000 : Int); omega)) (a := 660) (i := v35) (by rw [xri_row rfl rfl]; show (-9223372036854775808 : Int) ≤ _ ∧ _ ≤ (9223372036854775807 : Int); omega)) (a := 598) (i := 90) (show (0 : Int) ≤ _ ∧ _ ≤ (2200 : Int) from by omega)) (RH.o (RH.o (RH.o (RH.o hH_M (by decide) (by decide) (by decide)) (by decide) (by decide) (by decide)) (by decide) (by decide) (by decide)) (by decide) (by decide) (by decide)) (RF.o (RF.o (RF.o (RF.o hS_M (by decide) (by decide)) (by decide) (by decide)) (by decide) (by decide)) (by decide) (by decide))  (fun a i f598 f659 f660 => ((ju_c _ _ f598).trans ((ju_c _ _ f660).trans ((ju_c _ _ f659).trans ((ju_c _ _ f598).trans (hF_M a i f598 f659 f660)))))) (fun i g90 g100 g102 => ((ju_i _ _ g90).trans ((ju_c _ _ (by decide)).trans ((ju_c _ _ (by decide)).trans ((ju_i _ _ g102).trans (hG_M i g90 g100 g102)))))) (by omega) ⟨by omega, ES.adj (ES.redB gs2 e1 e35 e2 (by omega) (by omega) (by omega)) (k' := kk) (z' := 0) (by omega) (by omega) (by omega), by omega, by omega, by omega, by omega⟩ ((((TK.o (Or.inr ⟨by decide, by decide⟩)).trans ((TK.o (Or.inl (by decide))).trans ((TK.o (Or.inl (by decide))).trans ((TK.o (Or.inr ⟨by decide, by decide⟩)).trans rfl))))).trans hy1) (CP.emit (CP.o hCP (by decide) (Or.inr (by decide))) ((ju_i _ _ (zne (by decide))).trans e35)) (by omega) (by rw [((ju_i _ _ (zne (by decide))).trans ((ju_c _ _ (by decide)).trans ((ju_c _ _ (by decide)).trans (ju_same _ _ _ _))))]; omega)
                · refine jr.aload_n rfl rfl ?_
                  refine jr.bipush rfl (jbp _ (nlt rfl)) ?_
                  refine jr.lconst (x := 0) rfl (by decide) ?_
                  obtain ⟨v50, e50⟩ : ∃ z, M 598 90 = z := ⟨_, rfl⟩
                  have b50 : 0 ≤ v50 ∧ v50 ≤ 2200 := by rw [← e50]; exact hI_M 598 90 (Nat.le_of_ble_eq_true rfl)
                  refine jr_v rfl rfl (Or.inl rfl) rfl rfl (nlt rfl) rfl ⟨rfl, Nat.le_of_ble_eq_true rfl, Nat.le_of_ble_eq_true rfl⟩ rfl (jc.deep (r_emit ((ju_i _ _ (zne (by decide))).trans e50) (by omega) (by omega) (by omega) ?_) (Nat.le_of_ble_eq_true rfl))
                  refine jr.aload_n rfl rfl ?_
                  refine jr.getf (i := 95) (v := .ref 660) rfl rfl (nlt rfl) rfl (nlt rfl) rfl rfl rfl rfl ?_
                  refine jr.aload_n rfl rfl ?_
                  refine jr.getf (i := 104) (v := .ref 665) rfl rfl (nlt rfl) rfl (nlt rfl) rfl rfl rfl rfl ?_
                  refine jr.aload_n rfl rfl ?_
                  refine jr.getf (i := 102) (x := (v1 - 1)) (v := .int (Int32.ofInt (v1 - 1))) rfl rfl (nlt rfl) rfl (nlt rfl) rfl rfl ((ju_i _ _ (zne (by decide))).trans ((ju_c _ _ (by decide)).trans ((ju_c _ _ (by decide)).trans (ju_same _ _ _ _)))) rfl ?_
                  obtain ⟨v51, e51⟩ : ∃ z, M 665 (v1 - 1) = z := ⟨_, rfl⟩
                  have b51 : 0 ≤ v51 ∧ v51 ≤ 2200 := by rw [← e51]; exact (by have q := hI_M 665 (v1 - 1) (Nat.le_of_ble_eq_true rfl); rw [xri_row rfl rfl] at q; exact q)
                  refine jr.iald (i := (v1 - 1)) (x := v51) rfl (nlt rfl) rfl (Nat.le_of_ble_eq_true rfl) (by omega) (by omega) ((ju_c _ _ (by decide)).trans ((ju_c _ _ (by decide)).trans ((ju_c _ _ (by decide)).trans ((ju_c _ _ (by decide)).trans e51)))) ?_
                  refine jr.aload_n rfl rfl ?_
                  refine jr.getf (i := 90) (x := (v50 + 1)) (v := .int (Int32.ofInt (v50 + 1))) rfl rfl (nlt rfl) rfl (nlt rfl) rfl rfl (ju_same _ _ _ _) rfl ?_
                  refine jr.i2l rfl (by omega) ?_
                  refine jr.last (i := v51) (x := (v50 + 1)) rfl (nlt rfl) rfl (Nat.le_of_ble_eq_true rfl) (by omega) (by omega) ?_
                  refine jr.goto rfl rfl ?_
                  refine jr.goto rfl rfl ?_
                  obtain ⟨v52, e52⟩ : ∃ z, M 598 72 = z := ⟨_, rfl⟩
                  have b52 : 0 ≤ v52 ∧ v52 ≤ 1600 := by rw [← e52]; exact hI_M 598 72 (Nat.le_of_ble_eq_true rfl)
                  have y53 : (ju (ju (ju (ju (ju M 598 102 (v1 - 1)) 659 v50 9) 660 v50 0) 598 90 (v50 + 1)) 660 v51 (v50 + 1)) 598 72 = v52 := ((ju_c _ _ (by decide)).trans ((ju_i _ _ (zne (by decide))).trans ((ju_c _ _ (by decide)).trans ((ju_c _ _ (by decide)).trans ((ju_i _ _ (zne (by decide))).trans e52)))))
                  obtain ⟨v54, e54⟩ : ∃ z, M 598 73 = z := ⟨_, rfl⟩
                  have b54 : 0 ≤ v54 ∧ v54 ≤ 1600 := by rw [← e54]; exact hI_M 598 73 (Nat.le_of_ble_eq_true rfl)
                  have y55 : (ju (ju (ju (ju (ju M 598 102 (v1 - 1)) 659 v50 9) 660 v50 0) 598 90 (v50 + 1)) 660 v51 (v50 + 1)) 598 73 = v54 := ((ju_c _ _ (by decide)).trans ((ju_i _ _ (zne (by decide))).trans ((ju_c _ _ (by decide)).trans ((ju_c _ _ (by decide)).trans ((ju_i _ _ (zne (by decide))).trans e54)))))
                  obtain ⟨v56, e56⟩ : ∃ z, M 598 74 = z := ⟨_, rfl⟩
                  have b56 : 0 ≤ v56 ∧ v56 ≤ 4 := by rw [← e56]; exact hI_M 598 74 (Nat.le_of_ble_eq_true rfl)
                  have y57 : (ju (ju (ju (ju (ju M 598 102 (v1 - 1)) 659 v50 9) 660 v50 0) 598 90 (v50 + 1)) 660 v51 (v50 + 1)) 598 74 = v56 := ((ju_c _ _ (by decide)).trans ((ju_i _ _ (zne (by decide))).trans ((ju_c _ _ (by decide)).trans ((ju_c _ _ (by decide)).trans ((ju_i _ _ (zne (by decide))).trans e56)))))
                  obtain ⟨v58, e58⟩ : ∃ z, M 598 79 = z := ⟨_, rfl⟩
                  have b58 : 0 ≤ v58 ∧ v58 ≤ 255 := by rw [← e58]; exact hI_M 598 79 (Nat.le_of_ble_eq_true rfl)
                  have y59 : (ju (ju (ju (ju (ju M 598 102 (v1 - 1)) 659 v50 9) 660 v50 0) 598 90 (v50 + 1)) 660 v51 (v50 + 1)) 598 79 = v58 := ((ju_c _ _ (by decide)).trans ((ju_i _ _ (zne (by decide))).trans ((ju_c _ _ (by decide)).trans ((ju_c _ _ (by decide)).trans ((ju_i _ _ (zne (by decide))).trans e58)))))
                  obtain ⟨v60, e60⟩ : ∃ z, M 598 80 = z := ⟨_, rfl⟩
                  have b60 : 0 ≤ v60 ∧ v60 ≤ 7 := by rw [← e60]; exact hI_M 598 80 (Nat.le_of_ble_eq_true rfl)
                  have y61 : (ju (ju (ju (ju (ju M 598 102 (v1 - 1)) 659 v50 9) 660 v50 0) 598 90 (v50 + 1)) 660 v51 (v50 + 1)) 598 80 = v60 := ((ju_c _ _ (by decide)).trans ((ju_i _ _ (zne (by decide))).trans ((ju_c _ _ (by decide)).trans ((ju_c _ _ (by decide)).trans ((ju_i _ _ (zne (by decide))).trans e60)))))
                  obtain ⟨v62, e62⟩ : ∃ z, M 598 89 = z := ⟨_, rfl⟩
                  have b62 : 0 ≤ v62 ∧ v62 ≤ 301 := by rw [← e62]; exact hI_M 598 89 (Nat.le_of_ble_eq_true rfl)
                  have y63 : (ju (ju (ju (ju (ju M 598 102 (v1 - 1)) 659 v50 9) 660 v50 0) 598 90 (v50 + 1)) 660 v51 (v50 + 1)) 598 89 = v62 := ((ju_c _ _ (by decide)).trans ((ju_i _ _ (zne (by decide))).trans ((ju_c _ _ (by decide)).trans ((ju_c _ _ (by decide)).trans ((ju_i _ _ (zne (by decide))).trans e62)))))
                  obtain ⟨v64, e64⟩ : ∃ z, M 598 100 = z := ⟨_, rfl⟩
                  have b64 : 0 ≤ v64 ∧ v64 ≤ 13 := by rw [← e64]; exact hI_M 598 100 (Nat.le_of_ble_eq_true rfl)
                  have y65 : (ju (ju (ju (ju (ju M 598 102 (v1 - 1)) 659 v50 9) 660 v50 0) 598 90 (v50 + 1)) 660 v51 (v50 + 1)) 598 100 = v64 := ((ju_c _ _ (by decide)).trans ((ju_i _ _ (zne (by decide))).trans ((ju_c _ _ (by decide)).trans ((ju_c _ _ (by decide)).trans ((ju_i _ _ (zne (by decide))).trans e64)))))
                  refine jr.pick (ls := [_, _]) [1, 2] rfl rfl ?_
                  exact ih (nM - 1) (by omega) (ju (ju (ju (ju (ju M 598 102 (v1 - 1)) 659 v50 9) 660 v50 0) 598 90 (v50 + 1)) 660 v51 (v50 + 1)) y (RI.u (RI.u (RI.u (RI.u (RI.u hI_M (a := 598) (i := 102) (show (0 : Int) ≤ _ ∧ _ ≤ (400 : Int) from by omega)) (a := 659) (i := v50) (by rw [xri_row rfl rfl]; show (0 : Int) ≤ _ ∧ _ ≤ (1000 : Int); omega)) (a := 660) (i := v50) (by rw [xri_row rfl rfl]; show (-9223372036854775808 : Int) ≤ _ ∧ _ ≤ (9223372036854775807 : Int); omega)) (a := 598) (i := 90) (show (0 : Int) ≤ _ ∧ _ ≤ (2200 : Int) from by omega)) (a := 660) (i := v51) (by rw [xri_row rfl rfl]; show (-9223372036854775808 : Int) ≤ _ ∧ _ ≤ (9223372036854775807 : Int); omega)) (RH.o (RH.o (RH.o (RH.o (RH.o hH_M (by decide) (by decide) (by decide)) (by decide) (by decide) (by decide)) (by decide) (by decide) (by decide)) (by decide) (by decide) (by decide)) (by decide) (by decide) (by decide)) (RF.o (RF.o (RF.o (RF.o (RF.o hS_M (by decide) (by decide)) (by decide) (by decide)) (by decide) (by decide)) (by decide) (by decide)) (by decide) (by decide))  (fun a i f598 f659 f660 => ((ju_c _ _ f660).trans ((ju_c _ _ f598).trans ((ju_c _ _ f660).trans ((ju_c _ _ f659).trans ((ju_c _ _ f598).trans (hF_M a i f598 f659 f660))))))) (fun i g90 g100 g102 => ((ju_c _ _ (by decide)).trans ((ju_i _ _ g90).trans ((ju_c _ _ (by decide)).trans ((ju_c _ _ (by decide)).trans ((ju_i _ _ g102).trans (hG_M i g90 g100 g102))))))) (by omega) ⟨by omega, ES.adj (ES.redA gs2 e1 e50 e51 (by omega) (by rw [e2]; omega) (by omega)) (k' := kk) (z' := 0) (by omega) (by omega) (by omega), by omega, by omega, by omega, by omega⟩ ((((TK.o (Or.inl (by decide))).trans ((TK.o (Or.inr ⟨by decide, by decide⟩)).trans ((TK.o (Or.inl (by decide))).trans ((TK.o (Or.inl (by decide))).trans ((TK.o (Or.inr ⟨by decide, by decide⟩)).trans rfl)))))).trans hy1) (CP.o (CP.emit (CP.o hCP (by decide) (Or.inr (by decide))) ((ju_i _ _ (zne (by decide))).trans e50)) (by decide) (Or.inl (by decide))) (by omega) (by rw [((ju_c _ _ (by decide)).trans ((ju_i _ _ (zne (by decide))).trans ((ju_c _ _ (by decide)).trans ((ju_c _ _ (by decide)).trans (ju_same _ _ _ _)))))]; omega)
            · refine jr.aload_n rfl rfl ?_
              refine jr.iload_n rfl rfl ?_
              refine jr.lconst (x := 0) rfl (by decide) ?_
              obtain ⟨v66, e66⟩ : ∃ z, M 598 90 = z := ⟨_, rfl⟩
              have b66 : 0 ≤ v66 ∧ v66 ≤ 2200 := by rw [← e66]; exact hI_M 598 90 (Nat.le_of_ble_eq_true rfl)
              refine jr_v rfl rfl (Or.inl rfl) rfl rfl (nlt rfl) rfl ⟨rfl, Nat.le_of_ble_eq_true rfl, Nat.le_of_ble_eq_true rfl⟩ rfl (jc.deep (r_emit ((ju_i _ _ (zne (by decide))).trans e66) (by omega) (by omega) (by omega) ?_) (Nat.le_of_ble_eq_true rfl))
              refine jr.aload_n rfl rfl ?_
              refine jr.dup rfl rfl ?_
              obtain ⟨v67, e67⟩ : ∃ z, M 598 100 = z := ⟨_, rfl⟩
              have b67 : 0 ≤ v67 ∧ v67 ≤ 13 := by rw [← e67]; exact hI_M 598 100 (Nat.le_of_ble_eq_true rfl)
              refine jr.getf (i := 100) (x := v67) (v := .int (Int32.ofInt (v67))) rfl rfl (nlt rfl) rfl (nlt rfl) rfl rfl ((ju_i _ _ (zne (by decide))).trans ((ju_c _ _ (by decide)).trans ((ju_c _ _ (by decide)).trans ((ju_i _ _ (zne (by decide))).trans e67)))) rfl ?_
              refine jr.iconst rfl ?_
              refine jr.isub rfl ?_
              refine jr.putf (i := 100) (x := (v67 - 1)) rfl rfl (nlt rfl) rfl (nlt rfl) rfl rfl rfl rfl rfl ?_
              refine jr.goto rfl rfl ?_
              refine jr.goto rfl rfl ?_
              obtain ⟨v68, e68⟩ : ∃ z, M 598 72 = z := ⟨_, rfl⟩
              have b68 : 0 ≤ v68 ∧ v68 ≤ 1600 := by rw [← e68]; exact hI_M 598 72 (Nat.le_of_ble_eq_true rfl)
              have y69 : (ju (ju (ju (ju (ju M 598 102 (v1 - 1)) 659 v66 v2) 660 v66 0) 598 90 (v66 + 1)) 598 100 (v67 - 1)) 598 72 = v68 := ((ju_i _ _ (zne (by decide))).trans ((ju_i _ _ (zne (by decide))).trans ((ju_c _ _ (by decide)).trans ((ju_c _ _ (by decide)).trans ((ju_i _ _ (zne (by decide))).trans e68)))))
              obtain ⟨v70, e70⟩ : ∃ z, M 598 73 = z := ⟨_, rfl⟩
              have b70 : 0 ≤ v70 ∧ v70 ≤ 1600 := by rw [← e70]; exact hI_M 598 73 (Nat.le_of_ble_eq_true rfl)
              have y71 : (ju (ju (ju (ju (ju M 598 102 (v1 - 1)) 659 v66 v2) 660 v66 0) 598 90 (v66 + 1)) 598 100 (v67 - 1)) 598 73 = v70 := ((ju_i _ _ (zne (by decide))).trans ((ju_i _ _ (zne (by decide))).trans ((ju_c _ _ (by decide)).trans ((ju_c _ _ (by decide)).trans ((ju_i _ _ (zne (by decide))).trans e70)))))
              obtain ⟨v72, e72⟩ : ∃ z, M 598 74 = z := ⟨_, rfl⟩
              have b72 : 0 ≤ v72 ∧ v72 ≤ 4 := by rw [← e72]; exact hI_M 598 74 (Nat.le_of_ble_eq_true rfl)
              have y73 : (ju (ju (ju (ju (ju M 598 102 (v1 - 1)) 659 v66 v2) 660 v66 0) 598 90 (v66 + 1)) 598 100 (v67 - 1)) 598 74 = v72 := ((ju_i _ _ (zne (by decide))).trans ((ju_i _ _ (zne (by decide))).trans ((ju_c _ _ (by decide)).trans ((ju_c _ _ (by decide)).trans ((ju_i _ _ (zne (by decide))).trans e72)))))
              obtain ⟨v74, e74⟩ : ∃ z, M 598 79 = z := ⟨_, rfl⟩
              have b74 : 0 ≤ v74 ∧ v74 ≤ 255 := by rw [← e74]; exact hI_M 598 79 (Nat.le_of_ble_eq_true rfl)
              have y75 : (ju (ju (ju (ju (ju M 598 102 (v1 - 1)) 659 v66 v2) 660 v66 0) 598 90 (v66 + 1)) 598 100 (v67 - 1)) 598 79 = v74 := ((ju_i _ _ (zne (by decide))).trans ((ju_i _ _ (zne (by decide))).trans ((ju_c _ _ (by decide)).trans ((ju_c _ _ (by decide)).trans ((ju_i _ _ (zne (by decide))).trans e74)))))
              obtain ⟨v76, e76⟩ : ∃ z, M 598 80 = z := ⟨_, rfl⟩
              have b76 : 0 ≤ v76 ∧ v76 ≤ 7 := by rw [← e76]; exact hI_M 598 80 (Nat.le_of_ble_eq_true rfl)
              have y77 : (ju (ju (ju (ju (ju M 598 102 (v1 - 1)) 659 v66 v2) 660 v66 0) 598 90 (v66 + 1)) 598 100 (v67 - 1)) 598 80 = v76 := ((ju_i _ _ (zne (by decide))).trans ((ju_i _ _ (zne (by decide))).trans ((ju_c _ _ (by decide)).trans ((ju_c _ _ (by decide)).trans ((ju_i _ _ (zne (by decide))).trans e76)))))
              obtain ⟨v78, e78⟩ : ∃ z, M 598 89 = z := ⟨_, rfl⟩
              have b78 : 0 ≤ v78 ∧ v78 ≤ 301 := by rw [← e78]; exact hI_M 598 89 (Nat.le_of_ble_eq_true rfl)
              have y79 : (ju (ju (ju (ju (ju M 598 102 (v1 - 1)) 659 v66 v2) 660 v66 0) 598 90 (v66 + 1)) 598 100 (v67 - 1)) 598 89 = v78 := ((ju_i _ _ (zne (by decide))).trans ((ju_i _ _ (zne (by decide))).trans ((ju_c _ _ (by decide)).trans ((ju_c _ _ (by decide)).trans ((ju_i _ _ (zne (by decide))).trans e78)))))
              have y80 : (ju (ju (ju (ju (ju M 598 102 (v1 - 1)) 659 v66 v2) 660 v66 0) 598 90 (v66 + 1)) 598 100 (v67 - 1)) 598 100 = v67 - 1 := (ju_same _ _ _ _)
              refine jr.pick (ls := [_, _]) [1, 2] rfl rfl ?_
              exact ih (nM - 1) (by omega) (ju (ju (ju (ju (ju M 598 102 (v1 - 1)) 659 v66 v2) 660 v66 0) 598 90 (v66 + 1)) 598 100 (v67 - 1)) y (RI.u (RI.u (RI.u (RI.u (RI.u hI_M (a := 598) (i := 102) (show (0 : Int) ≤ _ ∧ _ ≤ (400 : Int) from by omega)) (a := 659) (i := v66) (by rw [xri_row rfl rfl]; show (0 : Int) ≤ _ ∧ _ ≤ (1000 : Int); omega)) (a := 660) (i := v66) (by rw [xri_row rfl rfl]; show (-9223372036854775808 : Int) ≤ _ ∧ _ ≤ (9223372036854775807 : Int); omega)) (a := 598) (i := 90) (show (0 : Int) ≤ _ ∧ _ ≤ (2200 : Int) from by omega)) (a := 598) (i := 100) (show (0 : Int) ≤ _ ∧ _ ≤ (13 : Int) from by omega)) (RH.o (RH.o (RH.o (RH.o (RH.o hH_M (by decide) (by decide) (by decide)) (by decide) (by decide) (by decide)) (by decide) (by decide) (by decide)) (by decide) (by decide) (by decide)) (by decide) (by decide) (by decide)) (RF.o (RF.o (RF.o (RF.o (RF.o hS_M (by decide) (by decide)) (by decide) (by decide)) (by decide) (by decide)) (by decide) (by decide)) (by decide) (by decide))  (fun a i f598 f659 f660 => ((ju_c _ _ f598).trans ((ju_c _ _ f598).trans ((ju_c _ _ f660).trans ((ju_c _ _ f659).trans ((ju_c _ _ f598).trans (hF_M a i f598 f659 f660))))))) (fun i g90 g100 g102 => ((ju_i _ _ g100).trans ((ju_i _ _ g90).trans ((ju_c _ _ (by decide)).trans ((ju_c _ _ (by decide)).trans ((ju_i _ _ g102).trans (hG_M i g90 g100 g102))))))) (by omega) ⟨by omega, ES.adj (ES.redU gs2 e1 e66 e67 e2 (by omega) (by omega) (by omega)) (k' := kk) (z' := 0) (by omega) (by omega) (by omega), by omega, by omega, by omega, by omega⟩ ((((TK.o (Or.inr ⟨by decide, by decide⟩)).trans ((TK.o (Or.inr ⟨by decide, by decide⟩)).trans ((TK.o (Or.inl (by decide))).trans ((TK.o (Or.inl (by decide))).trans ((TK.o (Or.inr ⟨by decide, by decide⟩)).trans rfl)))))).trans hy1) (CP.o (CP.emit (CP.o hCP (by decide) (Or.inr (by decide))) ((ju_i _ _ (zne (by decide))).trans e66)) (by decide) (Or.inr (by decide))) (by omega) (by rw [((ju_i _ _ (zne (by decide))).trans ((ju_i _ _ (zne (by decide))).trans ((ju_c _ _ (by decide)).trans ((ju_c _ _ (by decide)).trans (ju_same _ _ _ _)))))]; omega)
theorem r_reduce {A : Nat → Option (Nat × (Nat → Int32))} {Q : Option Value → jm → Prop} {b kk : Int} {M : jm} (hI_M : RI M) (hH_M : RH M) (hS_M : RF M) {y : Int} (h_y : 1 ≤ y ∧ y ≤ 6) (p0 : GS M b 1 kk) (q : ∀ (M' : jm), RI M' → RH M' → RF M' → GS M' b 1 kk → (M' 598 102 = 0 ∨ strn (M' 664 (M' 598 102 - 1)) < y) → TK M' = TK M → CP M M' → (∀ (a : Nat) (i : Int), a ≠ 598 → a ≠ 659 → a ≠ 660 → M' a i = M a i) → (∀ (i : Int), i ≠ 90 → i ≠ 100 → i ≠ 102 → M' 598 i = M 598 i) → Q none M') : jc A 2 355 [.ref (598), .int (Int32.ofInt (y))] M Q := by
  refine jc_of (m := xm_355) rfl (Nat.le_of_ble_eq_true rfl) rfl ?_
  refine jr.pick (ls := [_, _]) [1, 0] rfl rfl ?_
  obtain ⟨v1, e1⟩ : ∃ z, M 598 102 = z := ⟨_, rfl⟩
  have b1 : 0 ≤ v1 ∧ v1 ≤ 400 := by rw [← e1]; exact hI_M 598 102 (Nat.le_of_ble_eq_true rfl)
  exact r_reduce_L0 q 400 M y hI_M hH_M hS_M  (fun a i f598 f659 f660 => rfl) (fun i g90 g100 g102 => rfl) (by omega) p0 rfl (CP.rfl _) (by omega) (by omega)
theorem ES.dep {M : jm} {b o k d z x p d' : Int} (h : ES M b o k d z x) (e : M 598 100 = p) (hd : d' = d - 1) : ES (ju M 598 100 (p - 1)) b o k d' z x := by
  refine ES.fr2 h (fun a i ha => ju_c M _ ha) (ju_i M _ (by decide)) (ju_i M _ (by decide)) (ju_i M _ (by decide)) (ju_i M _ (by decide)) (ju_i M _ (by decide)) ?_ ?_ ?_ ?_
  · rw [ju_i M _ (by decide), ju_i M _ (by decide)]
    exact Int.le_refl _
  · obtain ⟨ht, P, D, E, ⟨_, _, _, _, _, _, _, _, _, _, q⟩, _⟩ := h
    exact q
  · obtain ⟨ht, P, D, E, ⟨_, _, _, _, _, _, _, _, _, q, _⟩, _⟩ := h
    exact ⟨q, Int.le_refl _⟩
  · rw [ju_same, e]
    omega
theorem r_kindAndField_L55 {A : Nat → Option (Nat × (Nat → Int32))} {Q : Option Value → jm → Prop} {b kk : Int} {M0 : jm} (q : ∀ (M' : jm), RI M' → RH M' → RF M' → (BS M' ∨ (GS M' b 1 kk ∧ TK M' < TK M0)) → TK M' ≤ TK M0 → M' 598 73 ≤ M' 598 72 → (M' 598 80 ≠ 0 ∨ TK M' < TK M0) → CP M0 M' → M0 598 89 ≤ M' 598 89 → (∀ (a : Nat) (i : Int), a ≠ 598 → a ≠ 659 → a ≠ 660 → M' a i = M0 a i) → (∀ (i : Int), i ≠ 73 → i ≠ 74 → i ≠ 75 → i ≠ 76 → i ≠ 77 → i ≠ 78 → i ≠ 79 → i ≠ 80 → i ≠ 81 → i ≠ 89 → i ≠ 90 → M' 598 i = M0 598 i) → Q none M') : ∀ (nM : Nat) (M : jm) (i : Int) (f : Int) (k : Int), RI M → RH M → RF M → (∀ (a : Nat) (i : Int), a ≠ 598 → a ≠ 659 → a ≠ 660 → M a i = M0 a i) → (∀ (i : Int), i ≠ 73 → i ≠ 74 → i ≠ 75 → i ≠ 76 → i ≠ 77 → i ≠ 78 → i ≠ 79 → i ≠ 80 → i ≠ 81 → i ≠ 89 → i ≠ 90 → M 598 i = M0 598 i) → (-1) ≤ i ∧ i ≤ 10 → (-1) ≤ f ∧ f ≤ 10 → 0 ≤ k ∧ k ≤ 13 → ES M b 0 (kk + 4) 0 0 (-1) → M 598 80 = 0 → M 598 89 ≤ 300 → M 598 100 ≤ 12 → M 598 73 ≤ M 598 72 → TK M < TK M0 → M 598 90 ≤ 1750 → M 598 74 ≠ 0 → (M 598 74 = 3 → M 598 79 ≠ 10 ∧ M 598 79 ≠ 11) → (f = -1 ∨ (0 ≤ f ∧ M 650 (11 * k + f) ≠ -1)) → CP M0 M → 0 ≤ kk → M0 598 89 ≤ M 598 89 → i + 1 ≤ nM → jr A 3 xm_358 55 [(3, .int (Int32.ofInt (i))), (2, .int (Int32.ofInt (f))), (1, .int (Int32.ofInt (k))), (0, .ref (598))] [] M Q := by
  intro nM
  induction nM using Nat.strongRecOn with
  | ind nM ih =>
    intro M i f k hI_M hH_M hS_M hF_M hG_M h_i h_f h_k hy0 hy1 hy2 hy3 hy4 hy5 hy6 hy7 hy8 hy9 hy10 hy11 hy12 hm
    have hCP := hy10
    have hE := hy0
    have bb := ES.bb hy0
    have kb := ES.kz hy0
    have sl := ES.sgle hy0
    have b107 : (0 : Int) ≤ M 598 107 ∧ M 598 107 ≤ 16 := hI_M 598 107 (Nat.le_of_ble_eq_true rfl)
    refine jr.iload_n rfl rfl ?_
    refine jr.if_lt rfl rfl (by first | (refine rgb (by assumption) ?_; exact rfl) | omega) (fun h56 => ?_) (fun h56 => ?_)
    · refine jr.iload_n rfl rfl ?_
      refine jr.iconst rfl ?_
      refine jr.icmp_ne rfl rfl (by first | (refine rgb (by assumption) ?_; exact rfl) | omega) (rgl rfl) (fun h99 => ?_) (fun h99 => ?_)
      · have sx99 : (0 : Int) ≤ f := by omega
        clear h99
        refine jr.aload_n rfl rfl ?_
        refine jr.iconst rfl ?_
        refine jr.bipush rfl (jbp _ (nlt rfl)) ?_
        refine jr.iload_n rfl rfl ?_
        refine jr.imul rfl ?_
        refine jr.iload_n rfl rfl ?_
        refine jr.iadd rfl ?_
        refine jr.i2l rfl (by omega) ?_
        obtain ⟨v1, e1⟩ : ∃ z, M 598 90 = z := ⟨_, rfl⟩
        have b1 : 0 ≤ v1 ∧ v1 ≤ 2200 := by rw [← e1]; exact hI_M 598 90 (Nat.le_of_ble_eq_true rfl)
        obtain ⟨v2, e2⟩ : ∃ z, M 598 100 = z := ⟨_, rfl⟩
        have b2 : 0 ≤ v2 ∧ v2 ≤ 13 := by rw [← e2]; exact hI_M 598 100 (Nat.le_of_ble_eq_true rfl)
        obtain ⟨v4, e4⟩ : ∃ z, M 598 107 = z := ⟨_, rfl⟩
        have b4 : 0 ≤ v4 ∧ v4 ≤ 16 := by rw [← e4]; exact hI_M 598 107 (Nat.le_of_ble_eq_true rfl)
        refine jr_v rfl rfl (Or.inl rfl) rfl rfl (nlt rfl) rfl ⟨rfl, Nat.le_of_ble_eq_true rfl, Nat.le_of_ble_eq_true rfl⟩ rfl (jc.deep (r_emit e1 (by omega) (by omega) (by omega) ?_) (Nat.le_of_ble_eq_true rfl))
        have hE := ES.emitO hE e1 5 ((16 * k) + f) (kk + 2) (Or.inr (Or.inl ⟨rfl, ES.fv hE (by omega) (by omega) (by omega)⟩)) (by omega) (by omega) (by omega)
        refine jr.aload_n rfl rfl ?_
        obtain ⟨v7, e7⟩ : ∃ z, M 598 73 = z := ⟨_, rfl⟩
        have b7 : 0 ≤ v7 ∧ v7 ≤ 1600 := by rw [← e7]; exact hI_M 598 73 (Nat.le_of_ble_eq_true rfl)
        obtain ⟨v8, e8⟩ : ∃ z, M 598 72 = z := ⟨_, rfl⟩
        have b8 : 0 ≤ v8 ∧ v8 ≤ 1600 := by rw [← e8]; exact hI_M 598 72 (Nat.le_of_ble_eq_true rfl)
        obtain ⟨v10, e10⟩ : ∃ z, M 598 89 = z := ⟨_, rfl⟩
        have b10 : 0 ≤ v10 ∧ v10 ≤ 301 := by rw [← e10]; exact hI_M 598 89 (Nat.le_of_ble_eq_true rfl)
        obtain ⟨v14, e14⟩ : ∃ z, M 598 74 = z := ⟨_, rfl⟩
        have b14 : 0 ≤ v14 ∧ v14 ≤ 4 := by rw [← e14]; exact hI_M 598 74 (Nat.le_of_ble_eq_true rfl)
        refine jr_v rfl rfl (Or.inl rfl) rfl rfl (nlt rfl) rfl ⟨rfl, Nat.le_of_ble_eq_true rfl, Nat.le_of_ble_eq_true rfl⟩ rfl (jc.deep (r_next (RI.u (RI.u (RI.u hI_M (a := 659) (i := v1) (by rw [xri_row rfl rfl]; show (0 : Int) ≤ _ ∧ _ ≤ (1000 : Int); omega)) (a := 660) (i := v1) (by rw [xri_row rfl rfl]; show (-9223372036854775808 : Int) ≤ _ ∧ _ ≤ (9223372036854775807 : Int); omega)) (a := 598) (i := 90) (show (0 : Int) ≤ _ ∧ _ ≤ (2200 : Int) from by omega)) (RH.o (RH.o (RH.o hH_M (by decide) (by decide) (by decide)) (by decide) (by decide) (by decide)) (by decide) (by decide) (by decide)) (RF.o (RF.o (RF.o hS_M (by decide) (by decide)) (by decide) (by decide)) (by decide) (by decide))   (by rw [((ju_i _ _ (zne (by decide))).trans ((ju_c _ _ (by decide)).trans ((ju_c _ _ (by decide)).trans e7))), ((ju_i _ _ (zne (by decide))).trans ((ju_c _ _ (by decide)).trans ((ju_c _ _ (by decide)).trans e8)))]; omega) (fun M6 hI_M6 hH_M6 hS_M6  w6_0 w6_1 w6_2 w6_3 w6_4 w6_5 w6_6 => ?_)) (Nat.le_of_ble_eq_true rfl))
        have y13 : (ju (ju (ju M 659 v1 5) 660 v1 ((16 * k) + f)) 598 90 (v1 + 1)) 598 73 = v7 := ((ju_i _ _ (zne (by decide))).trans ((ju_c _ _ (by decide)).trans ((ju_c _ _ (by decide)).trans e7)))
        have y15 : (ju (ju (ju M 659 v1 5) 660 v1 ((16 * k) + f)) 598 90 (v1 + 1)) 598 74 = v14 := ((ju_i _ _ (zne (by decide))).trans ((ju_c _ _ (by decide)).trans ((ju_c _ _ (by decide)).trans e14)))
        have tb6 : TK (ju (ju (ju M 659 v1 5) 660 v1 ((16 * k) + f)) 598 90 (v1 + 1)) = TK M := ((TK.o (Or.inr ⟨by decide, by decide⟩)).trans ((TK.o (Or.inl (by decide))).trans ((TK.o (Or.inl (by decide))).trans rfl)))
        have y9 : (ju (ju (ju M 659 v1 5) 660 v1 ((16 * k) + f)) 598 90 (v1 + 1)) 598 73 = v7 := ((ju_i _ _ (zne (by decide))).trans ((ju_c _ _ (by decide)).trans ((ju_c _ _ (by decide)).trans e7)))
        have y11 : (ju (ju (ju M 659 v1 5) 660 v1 ((16 * k) + f)) 598 90 (v1 + 1)) 598 89 = v10 := ((ju_i _ _ (zne (by decide))).trans ((ju_c _ _ (by decide)).trans ((ju_c _ _ (by decide)).trans e10)))
        have y12 : (ju (ju (ju M 659 v1 5) 660 v1 ((16 * k) + f)) 598 90 (v1 + 1)) 598 100 = v2 := ((ju_i _ _ (zne (by decide))).trans ((ju_c _ _ (by decide)).trans ((ju_c _ _ (by decide)).trans e2)))
        have x6_89 := w6_6 89 (zne rfl) (zne rfl) (zne rfl) (zne rfl) (zne rfl) (zne rfl) (zne rfl)
        have x6_100 := w6_6 100 (zne rfl) (zne rfl) (zne rfl) (zne rfl) (zne rfl) (zne rfl) (zne rfl)
        have hE := ES.fr2 hE w6_5 (w6_6 88 (zne rfl) (zne rfl) (zne rfl) (zne rfl) (zne rfl) (zne rfl) (zne rfl)) (w6_6 90 (zne rfl) (zne rfl) (zne rfl) (zne rfl) (zne rfl) (zne rfl) (zne rfl)) (w6_6 101 (zne rfl) (zne rfl) (zne rfl) (zne rfl) (zne rfl) (zne rfl) (zne rfl)) (w6_6 102 (zne rfl) (zne rfl) (zne rfl) (zne rfl) (zne rfl) (zne rfl) (zne rfl)) (w6_6 107 (zne rfl) (zne rfl) (zne rfl) (zne rfl) (zne rfl) (zne rfl) (zne rfl)) (k' := kk + 2) (d' := 0) (z' := 0) (by omega) (by omega) (by omega) (by omega)
        have e16 : M6 598 72 = v8 := ((w6_6 72 (zne rfl) (zne rfl) (zne rfl) (zne rfl) (zne rfl) (zne rfl) (zne rfl)).trans ((ju_i _ _ (zne (by decide))).trans ((ju_c _ _ (by decide)).trans ((ju_c _ _ (by decide)).trans e8))))
        obtain ⟨v18, e18⟩ : ∃ z, M6 598 73 = z := ⟨_, rfl⟩
        have b18 : 0 ≤ v18 ∧ v18 ≤ 1600 := by rw [← e18]; exact hI_M6 598 73 (Nat.le_of_ble_eq_true rfl)
        obtain ⟨v20, e20⟩ : ∃ z, M6 598 74 = z := ⟨_, rfl⟩
        have b20 : 0 ≤ v20 ∧ v20 ≤ 4 := by rw [← e20]; exact hI_M6 598 74 (Nat.le_of_ble_eq_true rfl)
        obtain ⟨v22, e22⟩ : ∃ z, M6 598 79 = z := ⟨_, rfl⟩
        have b22 : 0 ≤ v22 ∧ v22 ≤ 255 := by rw [← e22]; exact hI_M6 598 79 (Nat.le_of_ble_eq_true rfl)
        obtain ⟨v24, e24⟩ : ∃ z, M 598 80 = z := ⟨_, rfl⟩
        have b24 : 0 ≤ v24 ∧ v24 ≤ 7 := by rw [← e24]; exact hI_M 598 80 (Nat.le_of_ble_eq_true rfl)
        have e25 : M6 598 80 = v24 := ((w6_6 80 (zne rfl) (zne rfl) (zne rfl) (zne rfl) (zne rfl) (zne rfl) (zne rfl)).trans ((ju_i _ _ (zne (by decide))).trans ((ju_c _ _ (by decide)).trans ((ju_c _ _ (by decide)).trans e24))))
        have e27 : M6 598 89 = v10 := ((w6_6 89 (zne rfl) (zne rfl) (zne rfl) (zne rfl) (zne rfl) (zne rfl) (zne rfl)).trans ((ju_i _ _ (zne (by decide))).trans ((ju_c _ _ (by decide)).trans ((ju_c _ _ (by decide)).trans e10))))
        have e29 : M6 598 90 = v1 + 1 := ((w6_6 90 (zne rfl) (zne rfl) (zne rfl) (zne rfl) (zne rfl) (zne rfl) (zne rfl)).trans (ju_same _ _ _ _))
        have e31 : M6 598 100 = v2 := ((w6_6 100 (zne rfl) (zne rfl) (zne rfl) (zne rfl) (zne rfl) (zne rfl) (zne rfl)).trans ((ju_i _ _ (zne (by decide))).trans ((ju_c _ _ (by decide)).trans ((ju_c _ _ (by decide)).trans e2))))
        have e33 : M6 598 107 = v4 := ((w6_6 107 (zne rfl) (zne rfl) (zne rfl) (zne rfl) (zne rfl) (zne rfl) (zne rfl)).trans ((ju_i _ _ (zne (by decide))).trans ((ju_c _ _ (by decide)).trans ((ju_c _ _ (by decide)).trans e4))))
        exact jr.vreturn rfl rfl (q _ hI_M6 hH_M6 hS_M6  (by by_cases hf : v24 = 0; (first | (exact Or.inr ⟨⟨by omega, ES.adj hE (k' := kk) (z' := 0) (by omega) (by omega) (by omega), by omega, by omega, by omega, by omega⟩, by omega⟩) | (exfalso; omega)); (exact Or.inl ⟨by omega, by omega⟩)) (by omega) (by omega) (by omega) (CP.f (CP.emit hCP e1) (fun i => w6_5 659 i (nne rfl)) (w6_6 90 (zne rfl) (zne rfl) (zne rfl) (zne rfl) (zne rfl) (zne rfl) (zne rfl))) (by omega) (fun a i f598 f659 f660 => ((w6_5 a i f598).trans ((ju_c _ _ f598).trans ((ju_c _ _ f660).trans ((ju_c _ _ f659).trans (hF_M a i f598 f659 f660)))))) (fun i g73 g74 g75 g76 g77 g78 g79 g80 g81 g89 g90 => ((w6_6 i g73 g74 g75 g76 g77 g78 g79).trans ((ju_i _ _ g90).trans ((ju_c _ _ (by decide)).trans ((ju_c _ _ (by decide)).trans (hG_M i g73 g74 g75 g76 g77 g78 g79 g80 g81 g89 g90)))))))
      · refine jr.aload_n rfl rfl ?_
        refine jr.iconst rfl ?_
        refine jr.aload_n rfl rfl ?_
        obtain ⟨v35, e35⟩ : ∃ z, M 598 75 = z := ⟨_, rfl⟩
        have b35 : 0 ≤ v35 ∧ v35 ≤ 1600 := by rw [← e35]; exact hI_M 598 75 (Nat.le_of_ble_eq_true rfl)
        refine jr.getf (i := 75) (x := v35) (v := .int (Int32.ofInt (v35))) rfl rfl (nlt rfl) rfl (nlt rfl) rfl rfl e35 rfl ?_
        obtain ⟨v37, e37⟩ : ∃ z, M 598 73 = z := ⟨_, rfl⟩
        have b37 : 0 ≤ v37 ∧ v37 ≤ 1600 := by rw [← e37]; exact hI_M 598 73 (Nat.le_of_ble_eq_true rfl)
        obtain ⟨v39, e39⟩ : ∃ z, M 598 89 = z := ⟨_, rfl⟩
        have b39 : 0 ≤ v39 ∧ v39 ≤ 301 := by rw [← e39]; exact hI_M 598 89 (Nat.le_of_ble_eq_true rfl)
        obtain ⟨v41, e41⟩ : ∃ z, M 598 100 = z := ⟨_, rfl⟩
        have b41 : 0 ≤ v41 ∧ v41 ≤ 13 := by rw [← e41]; exact hI_M 598 100 (Nat.le_of_ble_eq_true rfl)
        refine jr_v rfl rfl (Or.inl rfl) rfl rfl (nlt rfl) rfl ⟨rfl, Nat.le_of_ble_eq_true rfl, Nat.le_of_ble_eq_true rfl⟩ rfl (jc.deep (r_fails hI_M hH_M hS_M  (by omega) (by omega)  (fun M36 hI_M36 hH_M36 hS_M36  w36_0 w36_1 w36_2 => ?_)) (Nat.le_of_ble_eq_true rfl))
        have tk36 : TK M36 = TK M := TK.fr (w36_2 73 (zne rfl) (zne rfl)) (w36_2 74 (zne rfl) (zne rfl))
        have x36_73 := w36_2 73 (zne rfl) (zne rfl)
        have x36_89 := w36_2 89 (zne rfl) (zne rfl)
        have x36_100 := w36_2 100 (zne rfl) (zne rfl)
        have hE := ES.fr2 hE w36_1 (w36_2 88 (zne rfl) (zne rfl)) (w36_2 90 (zne rfl) (zne rfl)) (w36_2 101 (zne rfl) (zne rfl)) (w36_2 102 (zne rfl) (zne rfl)) (w36_2 107 (zne rfl) (zne rfl)) (k' := kk + 4) (d' := 0) (z' := 0) (by omega) (by omega) (by omega) (by omega)
        obtain ⟨v43, e43⟩ : ∃ z, M 598 72 = z := ⟨_, rfl⟩
        have b43 : 0 ≤ v43 ∧ v43 ≤ 1600 := by rw [← e43]; exact hI_M 598 72 (Nat.le_of_ble_eq_true rfl)
        have e44 : M36 598 72 = v43 := ((w36_2 72 (zne rfl) (zne rfl)).trans e43)
        have e46 : M36 598 73 = v37 := ((w36_2 73 (zne rfl) (zne rfl)).trans e37)
        obtain ⟨v48, e48⟩ : ∃ z, M 598 74 = z := ⟨_, rfl⟩
        have b48 : 0 ≤ v48 ∧ v48 ≤ 4 := by rw [← e48]; exact hI_M 598 74 (Nat.le_of_ble_eq_true rfl)
        have e49 : M36 598 74 = v48 := ((w36_2 74 (zne rfl) (zne rfl)).trans e48)
        obtain ⟨v51, e51⟩ : ∃ z, M 598 79 = z := ⟨_, rfl⟩
        have b51 : 0 ≤ v51 ∧ v51 ≤ 255 := by rw [← e51]; exact hI_M 598 79 (Nat.le_of_ble_eq_true rfl)
        have e52 : M36 598 79 = v51 := ((w36_2 79 (zne rfl) (zne rfl)).trans e51)
        obtain ⟨v54, e54⟩ : ∃ z, M36 598 80 = z := ⟨_, rfl⟩
        have b54 : 0 ≤ v54 ∧ v54 ≤ 7 := by rw [← e54]; exact hI_M36 598 80 (Nat.le_of_ble_eq_true rfl)
        have e56 : M36 598 89 = v39 := ((w36_2 89 (zne rfl) (zne rfl)).trans e39)
        obtain ⟨v58, e58⟩ : ∃ z, M 598 90 = z := ⟨_, rfl⟩
        have b58 : 0 ≤ v58 ∧ v58 ≤ 2200 := by rw [← e58]; exact hI_M 598 90 (Nat.le_of_ble_eq_true rfl)
        have e59 : M36 598 90 = v58 := ((w36_2 90 (zne rfl) (zne rfl)).trans e58)
        have e61 : M36 598 100 = v41 := ((w36_2 100 (zne rfl) (zne rfl)).trans e41)
        obtain ⟨v63, e63⟩ : ∃ z, M 598 107 = z := ⟨_, rfl⟩
        have b63 : 0 ≤ v63 ∧ v63 ≤ 16 := by rw [← e63]; exact hI_M 598 107 (Nat.le_of_ble_eq_true rfl)
        have e64 : M36 598 107 = v63 := ((w36_2 107 (zne rfl) (zne rfl)).trans e63)
        exact jr.vreturn rfl rfl (q _ hI_M36 hH_M36 hS_M36  (by by_cases hf : v54 = 0; (first | (exfalso; omega) | (exact Or.inr ⟨⟨by omega, ES.adj hE (k' := kk) (z' := 0) (by omega) (by omega) (by omega), by omega, by omega, by omega, by omega⟩, by omega⟩)); (exact Or.inl ⟨by omega, by omega⟩)) (by omega) (by omega) (by omega) (CP.f hCP (fun i => w36_1 659 i (nne rfl)) (w36_2 90 (zne rfl) (zne rfl))) (by omega) (fun a i f598 f659 f660 => ((w36_1 a i f598).trans (hF_M a i f598 f659 f660))) (fun i g73 g74 g75 g76 g77 g78 g79 g80 g81 g89 g90 => ((w36_2 i g80 g81).trans (hG_M i g73 g74 g75 g76 g77 g78 g79 g80 g81 g89 g90))))
    · refine jr.aload_n rfl rfl ?_
      obtain ⟨v66, e66⟩ : ∃ z, M 598 76 = z := ⟨_, rfl⟩
      have b66 : (-1) ≤ v66 ∧ v66 ≤ 68 := by rw [← e66]; exact hI_M 598 76 (Nat.le_of_ble_eq_true rfl)
      refine jr.getf (i := 76) (x := v66) (v := .int (Int32.ofInt (v66))) rfl rfl (nlt rfl) rfl (nlt rfl) rfl rfl e66 rfl ?_
      refine jr.iconst rfl ?_
      refine jr.icmp_eq rfl rfl (by first | (refine rgb (by assumption) ?_; exact rfl) | omega) (rgl rfl) (fun h64 => ?_) (fun h64 => ?_)
      · refine jr.iload_n rfl rfl ?_
        refine jr.istore_n (ls' := [_, _, _, _]) rfl (nlt rfl) rfl ?_
        refine jr.iinc (ls' := [_, _, _, _]) rfl rfl (nlt rfl) rfl ?_
        refine jr.goto rfl rfl ?_
        obtain ⟨v67, e67⟩ : ∃ z, M 598 80 = z := ⟨_, rfl⟩
        have b67 : 0 ≤ v67 ∧ v67 ≤ 7 := by rw [← e67]; exact hI_M 598 80 (Nat.le_of_ble_eq_true rfl)
        obtain ⟨v68, e68⟩ : ∃ z, M 598 89 = z := ⟨_, rfl⟩
        have b68 : 0 ≤ v68 ∧ v68 ≤ 301 := by rw [← e68]; exact hI_M 598 89 (Nat.le_of_ble_eq_true rfl)
        obtain ⟨v69, e69⟩ : ∃ z, M 598 100 = z := ⟨_, rfl⟩
        have b69 : 0 ≤ v69 ∧ v69 ≤ 13 := by rw [← e69]; exact hI_M 598 100 (Nat.le_of_ble_eq_true rfl)
        obtain ⟨v70, e70⟩ : ∃ z, M 598 73 = z := ⟨_, rfl⟩
        have b70 : 0 ≤ v70 ∧ v70 ≤ 1600 := by rw [← e70]; exact hI_M 598 73 (Nat.le_of_ble_eq_true rfl)
        obtain ⟨v71, e71⟩ : ∃ z, M 598 72 = z := ⟨_, rfl⟩
        have b71 : 0 ≤ v71 ∧ v71 ≤ 1600 := by rw [← e71]; exact hI_M 598 72 (Nat.le_of_ble_eq_true rfl)
        obtain ⟨v72, e72⟩ : ∃ z, M 598 90 = z := ⟨_, rfl⟩
        have b72 : 0 ≤ v72 ∧ v72 ≤ 2200 := by rw [← e72]; exact hI_M 598 90 (Nat.le_of_ble_eq_true rfl)
        obtain ⟨v73, e73⟩ : ∃ z, M 598 74 = z := ⟨_, rfl⟩
        have b73 : 0 ≤ v73 ∧ v73 ≤ 4 := by rw [← e73]; exact hI_M 598 74 (Nat.le_of_ble_eq_true rfl)
        obtain ⟨v74, e74⟩ : ∃ z, M 598 79 = z := ⟨_, rfl⟩
        have b74 : 0 ≤ v74 ∧ v74 ≤ 255 := by rw [← e74]; exact hI_M 598 79 (Nat.le_of_ble_eq_true rfl)
        refine jr.pick (ls := [_, _, _, _]) [0, 1, 2, 3] rfl rfl ?_
        exact ih (nM - 1) (by omega) M (i + (-1)) f k hI_M hH_M hS_M  (fun a i f598 f659 f660 => (hF_M a i f598 f659 f660)) (fun i g73 g74 g75 g76 g77 g78 g79 g80 g81 g89 g90 => (hG_M i g73 g74 g75 g76 g77 g78 g79 g80 g81 g89 g90)) (by omega) (by omega) (by omega) hE (by rw [e67] <;> omega) (by rw [e68] <;> omega) (by rw [e69] <;> omega) (by rw [e70, e71] <;> omega) (by omega) (by rw [e72] <;> omega) (by rw [e73] <;> omega) (by rw [e73, e74] <;> omega) (by omega) hCP (by omega) (by rw [e68] <;> omega) (by omega)
      · have sx64 : (0 : Int) ≤ v66 := by omega
        clear h64
        refine jr.aload_n rfl rfl ?_
        refine jr.getf (i := 70) (v := .ref 650) rfl rfl (nlt rfl) rfl (nlt rfl) rfl rfl rfl rfl ?_
        refine jr.bipush rfl (jbp _ (nlt rfl)) ?_
        refine jr.iload_n rfl rfl ?_
        refine jr.imul rfl ?_
        refine jr.iload_n rfl rfl ?_
        refine jr.iadd rfl ?_
        obtain ⟨v75, e75⟩ : ∃ z, M 650 ((11 * k) + i) = z := ⟨_, rfl⟩
        have b75 : (-1) ≤ v75 ∧ v75 ≤ 68 := by rw [← e75]; exact (by have q := hI_M 650 ((11 * k) + i) (by decide); rw [xri_row rfl rfl] at q; exact q)
        refine jr.iald (i := ((11 * k) + i)) (x := v75) rfl (nlt rfl) rfl (Nat.le_of_ble_eq_true rfl) (by omega) (by omega) e75 ?_
        refine jr.aload_n rfl rfl ?_
        refine jr.getf (i := 76) (x := v66) (v := .int (Int32.ofInt (v66))) rfl rfl (nlt rfl) rfl (nlt rfl) rfl rfl e66 rfl ?_
        refine jr.icmp_ne rfl rfl (by first | (refine rgb (by assumption) ?_; exact rfl) | omega) (by first | (refine rgb (by assumption) ?_; exact rfl) | omega) (fun h82 => ?_) (fun h82 => ?_)
        · refine jr.iload_n rfl rfl ?_
          refine jr.istore_n (ls' := [_, _, _, _]) rfl (nlt rfl) rfl ?_
          refine jr.iinc (ls' := [_, _, _, _]) rfl rfl (nlt rfl) rfl ?_
          refine jr.goto rfl rfl ?_
          obtain ⟨v76, e76⟩ : ∃ z, M 598 80 = z := ⟨_, rfl⟩
          have b76 : 0 ≤ v76 ∧ v76 ≤ 7 := by rw [← e76]; exact hI_M 598 80 (Nat.le_of_ble_eq_true rfl)
          obtain ⟨v77, e77⟩ : ∃ z, M 598 89 = z := ⟨_, rfl⟩
          have b77 : 0 ≤ v77 ∧ v77 ≤ 301 := by rw [← e77]; exact hI_M 598 89 (Nat.le_of_ble_eq_true rfl)
          obtain ⟨v78, e78⟩ : ∃ z, M 598 100 = z := ⟨_, rfl⟩
          have b78 : 0 ≤ v78 ∧ v78 ≤ 13 := by rw [← e78]; exact hI_M 598 100 (Nat.le_of_ble_eq_true rfl)
          obtain ⟨v79, e79⟩ : ∃ z, M 598 73 = z := ⟨_, rfl⟩
          have b79 : 0 ≤ v79 ∧ v79 ≤ 1600 := by rw [← e79]; exact hI_M 598 73 (Nat.le_of_ble_eq_true rfl)
          obtain ⟨v80, e80⟩ : ∃ z, M 598 72 = z := ⟨_, rfl⟩
          have b80 : 0 ≤ v80 ∧ v80 ≤ 1600 := by rw [← e80]; exact hI_M 598 72 (Nat.le_of_ble_eq_true rfl)
          obtain ⟨v81, e81⟩ : ∃ z, M 598 90 = z := ⟨_, rfl⟩
          have b81 : 0 ≤ v81 ∧ v81 ≤ 2200 := by rw [← e81]; exact hI_M 598 90 (Nat.le_of_ble_eq_true rfl)
          obtain ⟨v82, e82⟩ : ∃ z, M 598 74 = z := ⟨_, rfl⟩
          have b82 : 0 ≤ v82 ∧ v82 ≤ 4 := by rw [← e82]; exact hI_M 598 74 (Nat.le_of_ble_eq_true rfl)
          obtain ⟨v83, e83⟩ : ∃ z, M 598 79 = z := ⟨_, rfl⟩
          have b83 : 0 ≤ v83 ∧ v83 ≤ 255 := by rw [← e83]; exact hI_M 598 79 (Nat.le_of_ble_eq_true rfl)
          refine jr.pick (ls := [_, _, _, _]) [0, 1, 2, 3] rfl rfl ?_
          exact ih (nM - 1) (by omega) M (i + (-1)) f k hI_M hH_M hS_M  (fun a i f598 f659 f660 => (hF_M a i f598 f659 f660)) (fun i g73 g74 g75 g76 g77 g78 g79 g80 g81 g89 g90 => (hG_M i g73 g74 g75 g76 g77 g78 g79 g80 g81 g89 g90)) (by omega) (by omega) (by omega) hE (by rw [e76] <;> omega) (by rw [e77] <;> omega) (by rw [e78] <;> omega) (by rw [e79, e80] <;> omega) (by omega) (by rw [e81] <;> omega) (by rw [e82] <;> omega) (by rw [e82, e83] <;> omega) (by omega) hCP (by omega) (by rw [e77] <;> omega) (by omega)
        · refine jr.iload_n rfl rfl ?_
          refine jr.goto rfl rfl ?_
          refine jr.istore_n (ls' := [_, _, _, _]) rfl (nlt rfl) rfl ?_
          refine jr.iinc (ls' := [_, _, _, _]) rfl rfl (nlt rfl) rfl ?_
          refine jr.goto rfl rfl ?_
          obtain ⟨v84, e84⟩ : ∃ z, M 598 80 = z := ⟨_, rfl⟩
          have b84 : 0 ≤ v84 ∧ v84 ≤ 7 := by rw [← e84]; exact hI_M 598 80 (Nat.le_of_ble_eq_true rfl)
          obtain ⟨v85, e85⟩ : ∃ z, M 598 89 = z := ⟨_, rfl⟩
          have b85 : 0 ≤ v85 ∧ v85 ≤ 301 := by rw [← e85]; exact hI_M 598 89 (Nat.le_of_ble_eq_true rfl)
          obtain ⟨v86, e86⟩ : ∃ z, M 598 100 = z := ⟨_, rfl⟩
          have b86 : 0 ≤ v86 ∧ v86 ≤ 13 := by rw [← e86]; exact hI_M 598 100 (Nat.le_of_ble_eq_true rfl)
          obtain ⟨v87, e87⟩ : ∃ z, M 598 73 = z := ⟨_, rfl⟩
          have b87 : 0 ≤ v87 ∧ v87 ≤ 1600 := by rw [← e87]; exact hI_M 598 73 (Nat.le_of_ble_eq_true rfl)
          obtain ⟨v88, e88⟩ : ∃ z, M 598 72 = z := ⟨_, rfl⟩
          have b88 : 0 ≤ v88 ∧ v88 ≤ 1600 := by rw [← e88]; exact hI_M 598 72 (Nat.le_of_ble_eq_true rfl)
          obtain ⟨v89, e89⟩ : ∃ z, M 598 90 = z := ⟨_, rfl⟩
          have b89 : 0 ≤ v89 ∧ v89 ≤ 2200 := by rw [← e89]; exact hI_M 598 90 (Nat.le_of_ble_eq_true rfl)
          obtain ⟨v90, e90⟩ : ∃ z, M 598 74 = z := ⟨_, rfl⟩
          have b90 : 0 ≤ v90 ∧ v90 ≤ 4 := by rw [← e90]; exact hI_M 598 74 (Nat.le_of_ble_eq_true rfl)
          obtain ⟨v91, e91⟩ : ∃ z, M 598 79 = z := ⟨_, rfl⟩
          have b91 : 0 ≤ v91 ∧ v91 ≤ 255 := by rw [← e91]; exact hI_M 598 79 (Nat.le_of_ble_eq_true rfl)
          refine jr.pick (ls := [_, _, _, _]) [0, 1, 2, 3] rfl rfl ?_
          exact ih (nM - 1) (by omega) M (i + (-1)) i k hI_M hH_M hS_M  (fun a i f598 f659 f660 => (hF_M a i f598 f659 f660)) (fun i g73 g74 g75 g76 g77 g78 g79 g80 g81 g89 g90 => (hG_M i g73 g74 g75 g76 g77 g78 g79 g80 g81 g89 g90)) (by omega) (by omega) (by omega) hE (by rw [e84] <;> omega) (by rw [e85] <;> omega) (by rw [e86] <;> omega) (by rw [e87, e88] <;> omega) (by omega) (by rw [e89] <;> omega) (by rw [e90] <;> omega) (by rw [e90, e91] <;> omega) (by omega) hCP (by omega) (by rw [e85] <;> omega) (by omega)
theorem r_kindAndField {A : Nat → Option (Nat × (Nat → Int32))} {Q : Option Value → jm → Prop} {b kk : Int} {M : jm} (hI_M : RI M) (hH_M : RH M) (hS_M : RF M) (p0 : GS M b 0 kk) (p1 : (M 598 74 = 1 ∧ 31 ≤ M 598 76 ∧ M 598 76 ≤ 44)) (q : ∀ (M' : jm), RI M' → RH M' → RF M' → (BS M' ∨ (GS M' b 1 kk ∧ TK M' < TK M)) → TK M' ≤ TK M → M' 598 73 ≤ M' 598 72 → (M' 598 80 ≠ 0 ∨ TK M' < TK M) → CP M M' → M 598 89 ≤ M' 598 89 → (∀ (a : Nat) (i : Int), a ≠ 598 → a ≠ 659 → a ≠ 660 → M' a i = M a i) → (∀ (i : Int), i ≠ 73 → i ≠ 74 → i ≠ 75 → i ≠ 76 → i ≠ 77 → i ≠ 78 → i ≠ 79 → i ≠ 80 → i ≠ 81 → i ≠ 89 → i ≠ 90 → M' 598 i = M 598 i) → Q none M') : jc A 4 358 [.ref (598)] M Q := by
  obtain ⟨gs1, gs2, gs3, gs4, gs5, gs6⟩ := id p0
  have hE := gs2
  have sl := ES.sgle gs2
  have bb := ES.bb gs2
  have kb := ES.kz gs2
  have b107 : (0 : Int) ≤ M 598 107 ∧ M 598 107 ≤ 16 := hI_M 598 107 (Nat.le_of_ble_eq_true rfl)
  have b73 : (0 : Int) ≤ M 598 73 ∧ M 598 73 ≤ 1600 := hI_M 598 73 (Nat.le_of_ble_eq_true rfl)
  have b88 : (0 : Int) ≤ M 598 88 ∧ M 598 88 ≤ 16 := hI_M 598 88 (Nat.le_of_ble_eq_true rfl)
  have b100 : (0 : Int) ≤ M 598 100 ∧ M 598 100 ≤ 13 := hI_M 598 100 (Nat.le_of_ble_eq_true rfl)
  refine jc_of (m := xm_358) rfl (Nat.le_of_ble_eq_true rfl) rfl ?_
  refine jr.aload_n rfl rfl ?_
  obtain ⟨v1, e1⟩ : ∃ z, M 598 76 = z := ⟨_, rfl⟩
  have b1 : (-1) ≤ v1 ∧ v1 ≤ 68 := by rw [← e1]; exact hI_M 598 76 (Nat.le_of_ble_eq_true rfl)
  refine jr.getf (i := 76) (x := v1) (v := .int (Int32.ofInt (v1))) rfl rfl (nlt rfl) rfl (nlt rfl) rfl rfl e1 rfl ?_
  refine jr.bipush rfl (jbp _ (nlt rfl)) ?_
  refine jr.isub rfl ?_
  refine jr.istore_n (ls' := [_, _]) rfl (nlt rfl) rfl ?_
  refine jr.aload_n rfl rfl ?_
  obtain ⟨v3, e3⟩ : ∃ z, M 598 89 = z := ⟨_, rfl⟩
  have b3 : 0 ≤ v3 ∧ v3 ≤ 301 := by rw [← e3]; exact hI_M 598 89 (Nat.le_of_ble_eq_true rfl)
  obtain ⟨v4, e4⟩ : ∃ z, M 598 73 = z := ⟨_, rfl⟩
  have b4 : 0 ≤ v4 ∧ v4 ≤ 1600 := by rw [← e4]; exact hI_M 598 73 (Nat.le_of_ble_eq_true rfl)
  obtain ⟨v7, e7⟩ : ∃ z, M 598 100 = z := ⟨_, rfl⟩
  have b7 : 0 ≤ v7 ∧ v7 ≤ 13 := by rw [← e7]; exact hI_M 598 100 (Nat.le_of_ble_eq_true rfl)
  refine jr_v rfl rfl (Or.inl rfl) rfl rfl (nlt rfl) rfl ⟨rfl, Nat.le_of_ble_eq_true rfl, Nat.le_of_ble_eq_true rfl⟩ rfl (jc.deep (r_node hI_M hH_M hS_M   (by rw [e3]; omega) (fun M2 hI_M2 hH_M2 hS_M2  w2_0 w2_1 w2_2 w2_3 w2_4 w2_5 => ?_)) (Nat.le_of_ble_eq_true rfl))
  have tk2 : TK M2 = TK M := TK.fr (w2_5 73 (zne rfl) (zne rfl) (zne rfl)) (w2_5 74 (zne rfl) (zne rfl) (zne rfl))
  have x2_73 := w2_5 73 (zne rfl) (zne rfl) (zne rfl)
  have x2_100 := w2_5 100 (zne rfl) (zne rfl) (zne rfl)
  have hE := ES.fr2 hE w2_4 (w2_5 88 (zne rfl) (zne rfl) (zne rfl)) (w2_5 90 (zne rfl) (zne rfl) (zne rfl)) (w2_5 101 (zne rfl) (zne rfl) (zne rfl)) (w2_5 102 (zne rfl) (zne rfl) (zne rfl)) (w2_5 107 (zne rfl) (zne rfl) (zne rfl)) (k' := kk + 4) (d' := 0) (z' := 0) (by omega) (by omega) (by omega) (by omega)
  refine jr.aload_n rfl rfl ?_
  refine jr_v rfl rfl (Or.inl rfl) rfl rfl (nlt rfl) rfl ⟨rfl, Nat.le_of_ble_eq_true rfl, Nat.le_of_ble_eq_true rfl⟩ rfl (jc.deep (c_good hI_M2  (fun t13_0 => ?_) (fun f13_0 => ?_)) (Nat.le_of_ble_eq_true rfl))
  · have w2_1r := Classical.byContradiction (fun z => w2_1 z t13_0)
    have w2_2r := w2_2 t13_0
    clear w2_1 w2_2 w2_3
    refine jr.if_eq rfl rfl (by first | exact rgl rfl | omega) (fun h => absurd h (by decide)) (fun _ => ?_)
    refine jr.aload_n rfl rfl ?_
    have e10 : M2 598 73 = v4 := ((w2_5 73 (zne rfl) (zne rfl) (zne rfl)).trans e4)
    obtain ⟨v11, e11⟩ : ∃ z, M 598 72 = z := ⟨_, rfl⟩
    have b11 : 0 ≤ v11 ∧ v11 ≤ 1600 := by rw [← e11]; exact hI_M 598 72 (Nat.le_of_ble_eq_true rfl)
    have e12 : M2 598 72 = v11 := ((w2_5 72 (zne rfl) (zne rfl) (zne rfl)).trans e11)
    obtain ⟨v14, e14⟩ : ∃ z, M2 598 89 = z := ⟨_, rfl⟩
    have b14 : 0 ≤ v14 ∧ v14 ≤ 301 := by rw [← e14]; exact hI_M2 598 89 (Nat.le_of_ble_eq_true rfl)
    have e16 : M2 598 100 = v7 := ((w2_5 100 (zne rfl) (zne rfl) (zne rfl)).trans e7)
    refine jr_v rfl rfl (Or.inl rfl) rfl rfl (nlt rfl) rfl ⟨rfl, Nat.le_of_ble_eq_true rfl, Nat.le_of_ble_eq_true rfl⟩ rfl (jc.deep (r_next hI_M2 hH_M2 hS_M2   (by rw [e10, e12]; omega) (fun M9 hI_M9 hH_M9 hS_M9  w9_0 w9_1 w9_2 w9_3 w9_4 w9_5 w9_6 => ?_)) (Nat.le_of_ble_eq_true rfl))
    have x9_89 := w9_6 89 (zne rfl) (zne rfl) (zne rfl) (zne rfl) (zne rfl) (zne rfl) (zne rfl)
    have x9_100 := w9_6 100 (zne rfl) (zne rfl) (zne rfl) (zne rfl) (zne rfl) (zne rfl) (zne rfl)
    have hE := ES.fr2 hE w9_5 (w9_6 88 (zne rfl) (zne rfl) (zne rfl) (zne rfl) (zne rfl) (zne rfl) (zne rfl)) (w9_6 90 (zne rfl) (zne rfl) (zne rfl) (zne rfl) (zne rfl) (zne rfl) (zne rfl)) (w9_6 101 (zne rfl) (zne rfl) (zne rfl) (zne rfl) (zne rfl) (zne rfl) (zne rfl)) (w9_6 102 (zne rfl) (zne rfl) (zne rfl) (zne rfl) (zne rfl) (zne rfl) (zne rfl)) (w9_6 107 (zne rfl) (zne rfl) (zne rfl) (zne rfl) (zne rfl) (zne rfl) (zne rfl)) (k' := kk + 4) (d' := 0) (z' := 0) (by omega) (by omega) (by omega) (by omega)
    refine jr.aload_n rfl rfl ?_
    refine jr.bipush rfl (jbp _ (nlt rfl)) ?_
    obtain ⟨v19, e19⟩ : ∃ z, M9 598 73 = z := ⟨_, rfl⟩
    have b19 : 0 ≤ v19 ∧ v19 ≤ 1600 := by rw [← e19]; exact hI_M9 598 73 (Nat.le_of_ble_eq_true rfl)
    have e20 : M9 598 72 = v11 := ((w9_6 72 (zne rfl) (zne rfl) (zne rfl) (zne rfl) (zne rfl) (zne rfl) (zne rfl)).trans e12)
    have e22 : M9 598 89 = v14 := ((w9_6 89 (zne rfl) (zne rfl) (zne rfl) (zne rfl) (zne rfl) (zne rfl) (zne rfl)).trans e14)
    have e24 : M9 598 100 = v7 := ((w9_6 100 (zne rfl) (zne rfl) (zne rfl) (zne rfl) (zne rfl) (zne rfl) (zne rfl)).trans e16)
    refine jr_v rfl rfl (Or.inl rfl) rfl rfl (nlt rfl) rfl ⟨rfl, Nat.le_of_ble_eq_true rfl, Nat.le_of_ble_eq_true rfl⟩ rfl (jc.deep (r_want hI_M9 hH_M9 hS_M9  (by omega) (by rw [e19, e20]; omega) (fun M18 hI_M18 hH_M18 hS_M18  w18_0 w18_1 w18_2 w18_3 w18_4 w18_5 w18_6 w18_7 => ?_)) (Nat.le_of_ble_eq_true rfl))
    have x18_89 := w18_7 89 (zne rfl) (zne rfl) (zne rfl) (zne rfl) (zne rfl) (zne rfl) (zne rfl) (zne rfl) (zne rfl)
    have x18_100 := w18_7 100 (zne rfl) (zne rfl) (zne rfl) (zne rfl) (zne rfl) (zne rfl) (zne rfl) (zne rfl) (zne rfl)
    have hE := ES.fr2 hE w18_6 (w18_7 88 (zne rfl) (zne rfl) (zne rfl) (zne rfl) (zne rfl) (zne rfl) (zne rfl) (zne rfl) (zne rfl)) (w18_7 90 (zne rfl) (zne rfl) (zne rfl) (zne rfl) (zne rfl) (zne rfl) (zne rfl) (zne rfl) (zne rfl)) (w18_7 101 (zne rfl) (zne rfl) (zne rfl) (zne rfl) (zne rfl) (zne rfl) (zne rfl) (zne rfl) (zne rfl)) (w18_7 102 (zne rfl) (zne rfl) (zne rfl) (zne rfl) (zne rfl) (zne rfl) (zne rfl) (zne rfl) (zne rfl)) (w18_7 107 (zne rfl) (zne rfl) (zne rfl) (zne rfl) (zne rfl) (zne rfl) (zne rfl) (zne rfl) (zne rfl)) (k' := kk + 4) (d' := 0) (z' := 0) (by omega) (by omega) (by omega) (by omega)
    refine jr.aload_n rfl rfl ?_
    refine jr_v rfl rfl (Or.inl rfl) rfl rfl (nlt rfl) rfl ⟨rfl, Nat.le_of_ble_eq_true rfl, Nat.le_of_ble_eq_true rfl⟩ rfl (jc.deep (c_good hI_M18  (fun t30_0 => ?_) (fun f30_0 => ?_)) (Nat.le_of_ble_eq_true rfl))
    · have w18_3r := Classical.byContradiction (fun z => w18_3 z t30_0)
      have w18_4r := w18_4 t30_0
      clear w18_3 w18_4
      refine jr.if_ne rfl rfl (by first | exact rgl rfl | omega) (fun _ => ?_) (fun h => absurd (by decide) h)
      refine jr.aload_n rfl rfl ?_
      obtain ⟨v26, e26⟩ : ∃ z, M18 598 74 = z := ⟨_, rfl⟩
      have b26 : 0 ≤ v26 ∧ v26 ≤ 4 := by rw [← e26]; exact hI_M18 598 74 (Nat.le_of_ble_eq_true rfl)
      refine jr.getf (i := 74) (x := v26) (v := .int (Int32.ofInt (v26))) rfl rfl (nlt rfl) rfl (nlt rfl) rfl rfl e26 rfl ?_
      refine jr.iconst rfl ?_
      refine jr.icmp_eq rfl rfl (by first | (refine rgb (by assumption) ?_; exact rfl) | omega) (rgl rfl) (fun h42 => ?_) (fun h42 => ?_)
      · refine jr.iconst rfl ?_
        refine jr.istore_n (ls' := [_, _, _]) rfl (nlt rfl) rfl ?_
        refine jr.bipush rfl (jbp _ (nlt rfl)) ?_
        refine jr.istore_n (ls' := [_, _, _, _]) rfl (nlt rfl) rfl ?_
        obtain ⟨v27, e27⟩ : ∃ z, M18 598 80 = z := ⟨_, rfl⟩
        have b27 : 0 ≤ v27 ∧ v27 ≤ 7 := by rw [← e27]; exact hI_M18 598 80 (Nat.le_of_ble_eq_true rfl)
        have e28 : M18 598 89 = v14 := ((w18_7 89 (zne rfl) (zne rfl) (zne rfl) (zne rfl) (zne rfl) (zne rfl) (zne rfl) (zne rfl) (zne rfl)).trans e22)
        have e29 : M18 598 100 = v7 := ((w18_7 100 (zne rfl) (zne rfl) (zne rfl) (zne rfl) (zne rfl) (zne rfl) (zne rfl) (zne rfl) (zne rfl)).trans e24)
        obtain ⟨v30, e30⟩ : ∃ z, M18 598 73 = z := ⟨_, rfl⟩
        have b30 : 0 ≤ v30 ∧ v30 ≤ 1600 := by rw [← e30]; exact hI_M18 598 73 (Nat.le_of_ble_eq_true rfl)
        have e31 : M18 598 72 = v11 := ((w18_7 72 (zne rfl) (zne rfl) (zne rfl) (zne rfl) (zne rfl) (zne rfl) (zne rfl) (zne rfl) (zne rfl)).trans e20)
        obtain ⟨v32, e32⟩ : ∃ z, M 598 90 = z := ⟨_, rfl⟩
        have b32 : 0 ≤ v32 ∧ v32 ≤ 2200 := by rw [← e32]; exact hI_M 598 90 (Nat.le_of_ble_eq_true rfl)
        have e33 : M2 598 90 = v32 := ((w2_5 90 (zne rfl) (zne rfl) (zne rfl)).trans e32)
        have e34 : M9 598 90 = v32 := ((w9_6 90 (zne rfl) (zne rfl) (zne rfl) (zne rfl) (zne rfl) (zne rfl) (zne rfl)).trans e33)
        have e35 : M18 598 90 = v32 := ((w18_7 90 (zne rfl) (zne rfl) (zne rfl) (zne rfl) (zne rfl) (zne rfl) (zne rfl) (zne rfl) (zne rfl)).trans e34)
        obtain ⟨v36, e36⟩ : ∃ z, M18 598 79 = z := ⟨_, rfl⟩
        have b36 : 0 ≤ v36 ∧ v36 ≤ 255 := by rw [← e36]; exact hI_M18 598 79 (Nat.le_of_ble_eq_true rfl)
        refine jr.pick (ls := [_, _, _, _]) [0, 1, 2, 3] rfl rfl ?_
        exact r_kindAndField_L55 q 12 M18 10 (-1) (v1 - 31) hI_M18 hH_M18 hS_M18  (fun a i f598 f659 f660 => ((w18_6 a i f598).trans ((w9_5 a i f598).trans ((w2_4 a i f598).trans rfl)))) (fun i g73 g74 g75 g76 g77 g78 g79 g80 g81 g89 g90 => ((w18_7 i g73 g74 g75 g76 g77 g78 g79 g80 g81).trans ((w9_6 i g73 g74 g75 g76 g77 g78 g79).trans ((w2_5 i g80 g81 g89).trans rfl)))) (by omega) (by omega) (by omega) hE (by rw [e27] <;> omega) (by rw [e28] <;> omega) (by rw [e29] <;> omega) (by rw [e30, e31] <;> omega) (by omega) (by rw [e35] <;> omega) (by rw [e26] <;> omega) (by rw [e26, e36] <;> omega) (by omega) (CP.f (CP.f (CP.f (CP.rfl _) (fun i => w2_4 659 i (nne rfl)) (w2_5 90 (zne rfl) (zne rfl) (zne rfl))) (fun i => w9_5 659 i (nne rfl)) (w9_6 90 (zne rfl) (zne rfl) (zne rfl) (zne rfl) (zne rfl) (zne rfl) (zne rfl))) (fun i => w18_6 659 i (nne rfl)) (w18_7 90 (zne rfl) (zne rfl) (zne rfl) (zne rfl) (zne rfl) (zne rfl) (zne rfl) (zne rfl) (zne rfl))) (by omega) (by rw [e28] <;> omega) (by omega)
      · refine jr.aload_n rfl rfl ?_
        obtain ⟨v38, e38⟩ : ∃ z, M18 598 73 = z := ⟨_, rfl⟩
        have b38 : 0 ≤ v38 ∧ v38 ≤ 1600 := by rw [← e38]; exact hI_M18 598 73 (Nat.le_of_ble_eq_true rfl)
        have e40 : M18 598 89 = v14 := ((w18_7 89 (zne rfl) (zne rfl) (zne rfl) (zne rfl) (zne rfl) (zne rfl) (zne rfl) (zne rfl) (zne rfl)).trans e22)
        have e42 : M18 598 100 = v7 := ((w18_7 100 (zne rfl) (zne rfl) (zne rfl) (zne rfl) (zne rfl) (zne rfl) (zne rfl) (zne rfl) (zne rfl)).trans e24)
        refine jr_v rfl rfl (Or.inl rfl) rfl rfl (nlt rfl) rfl ⟨rfl, Nat.le_of_ble_eq_true rfl, Nat.le_of_ble_eq_true rfl⟩ rfl (jc.deep (r_wrongToken hI_M18 hH_M18 hS_M18    (fun M37 hI_M37 hH_M37 hS_M37  w37_0 w37_1 w37_2 => ?_)) (Nat.le_of_ble_eq_true rfl))
        have tk37 : TK M37 = TK M18 := TK.fr (w37_2 73 (zne rfl) (zne rfl)) (w37_2 74 (zne rfl) (zne rfl))
        have x37_73 := w37_2 73 (zne rfl) (zne rfl)
        have x37_89 := w37_2 89 (zne rfl) (zne rfl)
        have x37_100 := w37_2 100 (zne rfl) (zne rfl)
        have hE := ES.fr2 hE w37_1 (w37_2 88 (zne rfl) (zne rfl)) (w37_2 90 (zne rfl) (zne rfl)) (w37_2 101 (zne rfl) (zne rfl)) (w37_2 102 (zne rfl) (zne rfl)) (w37_2 107 (zne rfl) (zne rfl)) (k' := kk + 4) (d' := 0) (z' := 0) (by omega) (by omega) (by omega) (by omega)
        have e44 : M18 598 72 = v11 := ((w18_7 72 (zne rfl) (zne rfl) (zne rfl) (zne rfl) (zne rfl) (zne rfl) (zne rfl) (zne rfl) (zne rfl)).trans e20)
        have e45 : M37 598 72 = v11 := ((w37_2 72 (zne rfl) (zne rfl)).trans e44)
        have e47 : M37 598 73 = v38 := ((w37_2 73 (zne rfl) (zne rfl)).trans e38)
        have e49 : M37 598 74 = v26 := ((w37_2 74 (zne rfl) (zne rfl)).trans e26)
        obtain ⟨v51, e51⟩ : ∃ z, M18 598 79 = z := ⟨_, rfl⟩
        have b51 : 0 ≤ v51 ∧ v51 ≤ 255 := by rw [← e51]; exact hI_M18 598 79 (Nat.le_of_ble_eq_true rfl)
        have e52 : M37 598 79 = v51 := ((w37_2 79 (zne rfl) (zne rfl)).trans e51)
        obtain ⟨v54, e54⟩ : ∃ z, M37 598 80 = z := ⟨_, rfl⟩
        have b54 : 0 ≤ v54 ∧ v54 ≤ 7 := by rw [← e54]; exact hI_M37 598 80 (Nat.le_of_ble_eq_true rfl)
        have e56 : M37 598 89 = v14 := ((w37_2 89 (zne rfl) (zne rfl)).trans e40)
        obtain ⟨v58, e58⟩ : ∃ z, M 598 90 = z := ⟨_, rfl⟩
        have b58 : 0 ≤ v58 ∧ v58 ≤ 2200 := by rw [← e58]; exact hI_M 598 90 (Nat.le_of_ble_eq_true rfl)
        have e59 : M2 598 90 = v58 := ((w2_5 90 (zne rfl) (zne rfl) (zne rfl)).trans e58)
        have e60 : M9 598 90 = v58 := ((w9_6 90 (zne rfl) (zne rfl) (zne rfl) (zne rfl) (zne rfl) (zne rfl) (zne rfl)).trans e59)
        have e61 : M18 598 90 = v58 := ((w18_7 90 (zne rfl) (zne rfl) (zne rfl) (zne rfl) (zne rfl) (zne rfl) (zne rfl) (zne rfl) (zne rfl)).trans e60)
        have e62 : M37 598 90 = v58 := ((w37_2 90 (zne rfl) (zne rfl)).trans e61)
        have e64 : M37 598 100 = v7 := ((w37_2 100 (zne rfl) (zne rfl)).trans e42)
        obtain ⟨v66, e66⟩ : ∃ z, M 598 107 = z := ⟨_, rfl⟩
        have b66 : 0 ≤ v66 ∧ v66 ≤ 16 := by rw [← e66]; exact hI_M 598 107 (Nat.le_of_ble_eq_true rfl)
        have e67 : M2 598 107 = v66 := ((w2_5 107 (zne rfl) (zne rfl) (zne rfl)).trans e66)
        have e68 : M9 598 107 = v66 := ((w9_6 107 (zne rfl) (zne rfl) (zne rfl) (zne rfl) (zne rfl) (zne rfl) (zne rfl)).trans e67)
        have e69 : M18 598 107 = v66 := ((w18_7 107 (zne rfl) (zne rfl) (zne rfl) (zne rfl) (zne rfl) (zne rfl) (zne rfl) (zne rfl) (zne rfl)).trans e68)
        have e70 : M37 598 107 = v66 := ((w37_2 107 (zne rfl) (zne rfl)).trans e69)
        exact jr.vreturn rfl rfl (q _ hI_M37 hH_M37 hS_M37  (by by_cases hf : v54 = 0; (first | (exfalso; omega) | (exact Or.inr ⟨⟨by omega, ES.adj hE (k' := kk) (z' := 0) (by omega) (by omega) (by omega), by omega, by omega, by omega, by omega⟩, by omega⟩)); (exact Or.inl ⟨by omega, by omega⟩)) (by omega) (by omega) (by omega) (CP.f (CP.f (CP.f (CP.f (CP.rfl _) (fun i => w2_4 659 i (nne rfl)) (w2_5 90 (zne rfl) (zne rfl) (zne rfl))) (fun i => w9_5 659 i (nne rfl)) (w9_6 90 (zne rfl) (zne rfl) (zne rfl) (zne rfl) (zne rfl) (zne rfl) (zne rfl))) (fun i => w18_6 659 i (nne rfl)) (w18_7 90 (zne rfl) (zne rfl) (zne rfl) (zne rfl) (zne rfl) (zne rfl) (zne rfl) (zne rfl) (zne rfl))) (fun i => w37_1 659 i (nne rfl)) (w37_2 90 (zne rfl) (zne rfl))) (by omega) (fun a i f598 f659 f660 => ((w37_1 a i f598).trans ((w18_6 a i f598).trans ((w9_5 a i f598).trans ((w2_4 a i f598).trans rfl))))) (fun i g73 g74 g75 g76 g77 g78 g79 g80 g81 g89 g90 => ((w37_2 i g80 g81).trans ((w18_7 i g73 g74 g75 g76 g77 g78 g79 g80 g81).trans ((w9_6 i g73 g74 g75 g76 g77 g78 g79).trans ((w2_5 i g80 g81 g89).trans rfl))))))
    · refine jr.if_ne rfl rfl (by first | exact rgl rfl | omega) (fun h => absurd h (by decide)) (fun _ => ?_)
      have e72 : M18 598 72 = v11 := ((w18_7 72 (zne rfl) (zne rfl) (zne rfl) (zne rfl) (zne rfl) (zne rfl) (zne rfl) (zne rfl) (zne rfl)).trans e20)
      obtain ⟨v74, e74⟩ : ∃ z, M18 598 73 = z := ⟨_, rfl⟩
      have b74 : 0 ≤ v74 ∧ v74 ≤ 1600 := by rw [← e74]; exact hI_M18 598 73 (Nat.le_of_ble_eq_true rfl)
      obtain ⟨v76, e76⟩ : ∃ z, M18 598 74 = z := ⟨_, rfl⟩
      have b76 : 0 ≤ v76 ∧ v76 ≤ 4 := by rw [← e76]; exact hI_M18 598 74 (Nat.le_of_ble_eq_true rfl)
      obtain ⟨v78, e78⟩ : ∃ z, M18 598 79 = z := ⟨_, rfl⟩
      have b78 : 0 ≤ v78 ∧ v78 ≤ 255 := by rw [← e78]; exact hI_M18 598 79 (Nat.le_of_ble_eq_true rfl)
      obtain ⟨v80, e80⟩ : ∃ z, M18 598 80 = z := ⟨_, rfl⟩
      have b80 : 0 ≤ v80 ∧ v80 ≤ 7 := by rw [← e80]; exact hI_M18 598 80 (Nat.le_of_ble_eq_true rfl)
      have e82 : M18 598 89 = v14 := ((w18_7 89 (zne rfl) (zne rfl) (zne rfl) (zne rfl) (zne rfl) (zne rfl) (zne rfl) (zne rfl) (zne rfl)).trans e22)
      obtain ⟨v84, e84⟩ : ∃ z, M 598 90 = z := ⟨_, rfl⟩
      have b84 : 0 ≤ v84 ∧ v84 ≤ 2200 := by rw [← e84]; exact hI_M 598 90 (Nat.le_of_ble_eq_true rfl)
      have e85 : M2 598 90 = v84 := ((w2_5 90 (zne rfl) (zne rfl) (zne rfl)).trans e84)
      have e86 : M9 598 90 = v84 := ((w9_6 90 (zne rfl) (zne rfl) (zne rfl) (zne rfl) (zne rfl) (zne rfl) (zne rfl)).trans e85)
      have e87 : M18 598 90 = v84 := ((w18_7 90 (zne rfl) (zne rfl) (zne rfl) (zne rfl) (zne rfl) (zne rfl) (zne rfl) (zne rfl) (zne rfl)).trans e86)
      have e89 : M18 598 100 = v7 := ((w18_7 100 (zne rfl) (zne rfl) (zne rfl) (zne rfl) (zne rfl) (zne rfl) (zne rfl) (zne rfl) (zne rfl)).trans e24)
      obtain ⟨v91, e91⟩ : ∃ z, M 598 107 = z := ⟨_, rfl⟩
      have b91 : 0 ≤ v91 ∧ v91 ≤ 16 := by rw [← e91]; exact hI_M 598 107 (Nat.le_of_ble_eq_true rfl)
      have e92 : M2 598 107 = v91 := ((w2_5 107 (zne rfl) (zne rfl) (zne rfl)).trans e91)
      have e93 : M9 598 107 = v91 := ((w9_6 107 (zne rfl) (zne rfl) (zne rfl) (zne rfl) (zne rfl) (zne rfl) (zne rfl)).trans e92)
      have e94 : M18 598 107 = v91 := ((w18_7 107 (zne rfl) (zne rfl) (zne rfl) (zne rfl) (zne rfl) (zne rfl) (zne rfl) (zne rfl) (zne rfl)).trans e93)
      exact jr.vreturn rfl rfl (q _ hI_M18 hH_M18 hS_M18  (by by_cases hf : v80 = 0; (first | (exfalso; omega) | (exact Or.inr ⟨⟨by omega, ES.adj hE (k' := kk) (z' := 0) (by omega) (by omega) (by omega), by omega, by omega, by omega, by omega⟩, by omega⟩)); (exact Or.inl ⟨by omega, by omega⟩)) (by omega) (by omega) (by omega) (CP.f (CP.f (CP.f (CP.rfl _) (fun i => w2_4 659 i (nne rfl)) (w2_5 90 (zne rfl) (zne rfl) (zne rfl))) (fun i => w9_5 659 i (nne rfl)) (w9_6 90 (zne rfl) (zne rfl) (zne rfl) (zne rfl) (zne rfl) (zne rfl) (zne rfl))) (fun i => w18_6 659 i (nne rfl)) (w18_7 90 (zne rfl) (zne rfl) (zne rfl) (zne rfl) (zne rfl) (zne rfl) (zne rfl) (zne rfl) (zne rfl))) (by omega) (fun a i f598 f659 f660 => ((w18_6 a i f598).trans ((w9_5 a i f598).trans ((w2_4 a i f598).trans rfl)))) (fun i g73 g74 g75 g76 g77 g78 g79 g80 g81 g89 g90 => ((w18_7 i g73 g74 g75 g76 g77 g78 g79 g80 g81).trans ((w9_6 i g73 g74 g75 g76 g77 g78 g79).trans ((w2_5 i g80 g81 g89).trans rfl)))))
  · refine jr.if_eq rfl rfl (by first | exact rgl rfl | omega) (fun _ => ?_) (fun h => absurd (by decide) h)
    refine jr.aload_n rfl rfl ?_
    refine jr.bipush rfl (jbp _ (nlt rfl)) ?_
    have e97 : M2 598 73 = v4 := ((w2_5 73 (zne rfl) (zne rfl) (zne rfl)).trans e4)
    obtain ⟨v98, e98⟩ : ∃ z, M 598 72 = z := ⟨_, rfl⟩
    have b98 : 0 ≤ v98 ∧ v98 ≤ 1600 := by rw [← e98]; exact hI_M 598 72 (Nat.le_of_ble_eq_true rfl)
    have e99 : M2 598 72 = v98 := ((w2_5 72 (zne rfl) (zne rfl) (zne rfl)).trans e98)
    obtain ⟨v101, e101⟩ : ∃ z, M2 598 89 = z := ⟨_, rfl⟩
    have b101 : 0 ≤ v101 ∧ v101 ≤ 301 := by rw [← e101]; exact hI_M2 598 89 (Nat.le_of_ble_eq_true rfl)
    have e103 : M2 598 100 = v7 := ((w2_5 100 (zne rfl) (zne rfl) (zne rfl)).trans e7)
    refine jr_v rfl rfl (Or.inl rfl) rfl rfl (nlt rfl) rfl ⟨rfl, Nat.le_of_ble_eq_true rfl, Nat.le_of_ble_eq_true rfl⟩ rfl (jc.deep (r_want hI_M2 hH_M2 hS_M2  (by omega) (by rw [e97, e99]; omega) (fun M96 hI_M96 hH_M96 hS_M96  w96_0 w96_1 w96_2 w96_3 w96_4 w96_5 w96_6 w96_7 => ?_)) (Nat.le_of_ble_eq_true rfl))
    have x96_89 := w96_7 89 (zne rfl) (zne rfl) (zne rfl) (zne rfl) (zne rfl) (zne rfl) (zne rfl) (zne rfl) (zne rfl)
    have x96_100 := w96_7 100 (zne rfl) (zne rfl) (zne rfl) (zne rfl) (zne rfl) (zne rfl) (zne rfl) (zne rfl) (zne rfl)
    have hE := ES.fr2 hE w96_6 (w96_7 88 (zne rfl) (zne rfl) (zne rfl) (zne rfl) (zne rfl) (zne rfl) (zne rfl) (zne rfl) (zne rfl)) (w96_7 90 (zne rfl) (zne rfl) (zne rfl) (zne rfl) (zne rfl) (zne rfl) (zne rfl) (zne rfl) (zne rfl)) (w96_7 101 (zne rfl) (zne rfl) (zne rfl) (zne rfl) (zne rfl) (zne rfl) (zne rfl) (zne rfl) (zne rfl)) (w96_7 102 (zne rfl) (zne rfl) (zne rfl) (zne rfl) (zne rfl) (zne rfl) (zne rfl) (zne rfl) (zne rfl)) (w96_7 107 (zne rfl) (zne rfl) (zne rfl) (zne rfl) (zne rfl) (zne rfl) (zne rfl) (zne rfl) (zne rfl)) (k' := kk + 4) (d' := 0) (z' := 0) (by omega) (by omega) (by omega) (by omega)
    refine jr.aload_n rfl rfl ?_
    obtain ⟨v105, e105⟩ : ∃ z, M96 598 80 = z := ⟨_, rfl⟩
    have b105 : 0 ≤ v105 ∧ v105 ≤ 7 := by rw [← e105]; exact hI_M96 598 80 (Nat.le_of_ble_eq_true rfl)
    refine jr_v rfl rfl (Or.inl rfl) rfl rfl (nlt rfl) rfl ⟨rfl, Nat.le_of_ble_eq_true rfl, Nat.le_of_ble_eq_true rfl⟩ rfl (jc.deep (c_good hI_M96  (fun t30_0 => ?_) (fun f30_0 => ?_)) (Nat.le_of_ble_eq_true rfl))
    · have w96_3r := Classical.byContradiction (fun z => w96_3 z t30_0)
      have w96_4r := w96_4 t30_0
      clear w96_3 w96_4
      exfalso
      omega
    · refine jr.if_ne rfl rfl (by first | exact rgl rfl | omega) (fun h => absurd h (by decide)) (fun _ => ?_)
      have e106 : M96 598 72 = v98 := ((w96_7 72 (zne rfl) (zne rfl) (zne rfl) (zne rfl) (zne rfl) (zne rfl) (zne rfl) (zne rfl) (zne rfl)).trans e99)
      obtain ⟨v108, e108⟩ : ∃ z, M96 598 73 = z := ⟨_, rfl⟩
      have b108 : 0 ≤ v108 ∧ v108 ≤ 1600 := by rw [← e108]; exact hI_M96 598 73 (Nat.le_of_ble_eq_true rfl)
      obtain ⟨v110, e110⟩ : ∃ z, M96 598 74 = z := ⟨_, rfl⟩
      have b110 : 0 ≤ v110 ∧ v110 ≤ 4 := by rw [← e110]; exact hI_M96 598 74 (Nat.le_of_ble_eq_true rfl)
      obtain ⟨v112, e112⟩ : ∃ z, M96 598 79 = z := ⟨_, rfl⟩
      have b112 : 0 ≤ v112 ∧ v112 ≤ 255 := by rw [← e112]; exact hI_M96 598 79 (Nat.le_of_ble_eq_true rfl)
      have e115 : M96 598 89 = v101 := ((w96_7 89 (zne rfl) (zne rfl) (zne rfl) (zne rfl) (zne rfl) (zne rfl) (zne rfl) (zne rfl) (zne rfl)).trans e101)
      obtain ⟨v117, e117⟩ : ∃ z, M 598 90 = z := ⟨_, rfl⟩
      have b117 : 0 ≤ v117 ∧ v117 ≤ 2200 := by rw [← e117]; exact hI_M 598 90 (Nat.le_of_ble_eq_true rfl)
      have e118 : M2 598 90 = v117 := ((w2_5 90 (zne rfl) (zne rfl) (zne rfl)).trans e117)
      have e119 : M96 598 90 = v117 := ((w96_7 90 (zne rfl) (zne rfl) (zne rfl) (zne rfl) (zne rfl) (zne rfl) (zne rfl) (zne rfl) (zne rfl)).trans e118)
      have e121 : M96 598 100 = v7 := ((w96_7 100 (zne rfl) (zne rfl) (zne rfl) (zne rfl) (zne rfl) (zne rfl) (zne rfl) (zne rfl) (zne rfl)).trans e103)
      obtain ⟨v123, e123⟩ : ∃ z, M 598 107 = z := ⟨_, rfl⟩
      have b123 : 0 ≤ v123 ∧ v123 ≤ 16 := by rw [← e123]; exact hI_M 598 107 (Nat.le_of_ble_eq_true rfl)
      have e124 : M2 598 107 = v123 := ((w2_5 107 (zne rfl) (zne rfl) (zne rfl)).trans e123)
      have e125 : M96 598 107 = v123 := ((w96_7 107 (zne rfl) (zne rfl) (zne rfl) (zne rfl) (zne rfl) (zne rfl) (zne rfl) (zne rfl) (zne rfl)).trans e124)
      exact jr.vreturn rfl rfl (q _ hI_M96 hH_M96 hS_M96  (by by_cases hf : v105 = 0; (first | (exfalso; omega) | (exact Or.inr ⟨⟨by omega, ES.adj hE (k' := kk) (z' := 0) (by omega) (by omega) (by omega), by omega, by omega, by omega, by omega⟩, by omega⟩)); (exact Or.inl ⟨by omega, by omega⟩)) (by omega) (by omega) (by omega) (CP.f (CP.f (CP.rfl _) (fun i => w2_4 659 i (nne rfl)) (w2_5 90 (zne rfl) (zne rfl) (zne rfl))) (fun i => w96_6 659 i (nne rfl)) (w96_7 90 (zne rfl) (zne rfl) (zne rfl) (zne rfl) (zne rfl) (zne rfl) (zne rfl) (zne rfl) (zne rfl))) (by omega) (fun a i f598 f659 f660 => ((w96_6 a i f598).trans ((w2_4 a i f598).trans rfl))) (fun i g73 g74 g75 g76 g77 g78 g79 g80 g81 g89 g90 => ((w96_7 i g73 g74 g75 g76 g77 g78 g79 g80 g81).trans ((w2_5 i g80 g81 g89).trans rfl))))
theorem r_hasKind_L51 {A : Nat → Option (Nat × (Nat → Int32))} {Q : Option Value → jm → Prop} {b kk : Int} {M0 : jm} (q : ∀ (M' : jm), RI M' → RH M' → RF M' → (BS M' ∨ (GS M' b 1 kk ∧ TK M' < TK M0)) → TK M' ≤ TK M0 → M' 598 73 ≤ M' 598 72 → (M' 598 80 ≠ 0 ∨ TK M' < TK M0) → CP M0 M' → M0 598 89 ≤ M' 598 89 → (∀ (a : Nat) (i : Int), a ≠ 598 → a ≠ 659 → a ≠ 660 → M' a i = M0 a i) → (∀ (i : Int), i ≠ 73 → i ≠ 74 → i ≠ 75 → i ≠ 76 → i ≠ 77 → i ≠ 78 → i ≠ 79 → i ≠ 80 → i ≠ 81 → i ≠ 89 → i ≠ 90 → i ≠ 100 → M' 598 i = M0 598 i) → Q none M') : ∀ (M : jm) , RI M → RH M → RF M → (∀ (a : Nat) (i : Int), a ≠ 598 → a ≠ 659 → a ≠ 660 → M a i = M0 a i) → (∀ (i : Int), i ≠ 73 → i ≠ 74 → i ≠ 75 → i ≠ 76 → i ≠ 77 → i ≠ 78 → i ≠ 79 → i ≠ 80 → i ≠ 81 → i ≠ 89 → i ≠ 90 → i ≠ 100 → M 598 i = M0 598 i) → ES M b 0 (kk + 4) 1 0 (-1) → M 598 80 = 0 → M 598 89 ≤ 300 → 1 ≤ M 598 100 ∧ M 598 100 ≤ 12 → M 598 73 ≤ M 598 72 → TK M < TK M0 → M 598 90 ≤ 1750 → M 598 74 = 1 → 31 ≤ M 598 76 ∧ M 598 76 ≤ 44 → CP M0 M → 0 ≤ kk → M0 598 89 ≤ M 598 89 → jr A 4 xm_359 51 [(0, .ref (598))] [] M Q := by
    intro M  hI_M hH_M hS_M hF_M hG_M  hy0 hy1 hy2 hy3 hy4 hy5 hy6 hy7 hy8 hy9 hy10 hy11
    have hCP := hy9
    have hE := hy0
    have bb := ES.bb hy0
    have kb := ES.kz hy0
    have sl := ES.sgle hy0
    have b107 : (0 : Int) ≤ M 598 107 ∧ M 598 107 ≤ 16 := hI_M 598 107 (Nat.le_of_ble_eq_true rfl)
    refine jr.aload_n rfl rfl ?_
    refine jr.bipush rfl (jbp _ (nlt rfl)) ?_
    refine jr.aload_n rfl rfl ?_
    obtain ⟨v1, e1⟩ : ∃ z, M 598 76 = z := ⟨_, rfl⟩
    have b1 : (-1) ≤ v1 ∧ v1 ≤ 68 := by rw [← e1]; exact hI_M 598 76 (Nat.le_of_ble_eq_true rfl)
    refine jr.getf (i := 76) (x := v1) (v := .int (Int32.ofInt (v1))) rfl rfl (nlt rfl) rfl (nlt rfl) rfl rfl e1 rfl ?_
    refine jr.bipush rfl (jbp _ (nlt rfl)) ?_
    refine jr.isub rfl ?_
    refine jr.i2l rfl (by omega) ?_
    obtain ⟨v2, e2⟩ : ∃ z, M 598 90 = z := ⟨_, rfl⟩
    have b2 : 0 ≤ v2 ∧ v2 ≤ 2200 := by rw [← e2]; exact hI_M 598 90 (Nat.le_of_ble_eq_true rfl)
    obtain ⟨v3, e3⟩ : ∃ z, M 598 100 = z := ⟨_, rfl⟩
    have b3 : 0 ≤ v3 ∧ v3 ≤ 13 := by rw [← e3]; exact hI_M 598 100 (Nat.le_of_ble_eq_true rfl)
    obtain ⟨v5, e5⟩ : ∃ z, M 598 107 = z := ⟨_, rfl⟩
    have b5 : 0 ≤ v5 ∧ v5 ≤ 16 := by rw [← e5]; exact hI_M 598 107 (Nat.le_of_ble_eq_true rfl)
    refine jr_v rfl rfl (Or.inl rfl) rfl rfl (nlt rfl) rfl ⟨rfl, Nat.le_of_ble_eq_true rfl, Nat.le_of_ble_eq_true rfl⟩ rfl (jc.deep (r_emit e2 (by omega) (by omega) (by omega) ?_) (Nat.le_of_ble_eq_true rfl))
    have hE := ES.emitO hE e2 6 (v1 - 31) (kk + 2) (Or.inr (Or.inr (Or.inl rfl))) (by omega) (by omega) (by omega)
    refine jr.aload_n rfl rfl ?_
    obtain ⟨v8, e8⟩ : ∃ z, M 598 73 = z := ⟨_, rfl⟩
    have b8 : 0 ≤ v8 ∧ v8 ≤ 1600 := by rw [← e8]; exact hI_M 598 73 (Nat.le_of_ble_eq_true rfl)
    obtain ⟨v9, e9⟩ : ∃ z, M 598 72 = z := ⟨_, rfl⟩
    have b9 : 0 ≤ v9 ∧ v9 ≤ 1600 := by rw [← e9]; exact hI_M 598 72 (Nat.le_of_ble_eq_true rfl)
    obtain ⟨v11, e11⟩ : ∃ z, M 598 89 = z := ⟨_, rfl⟩
    have b11 : 0 ≤ v11 ∧ v11 ≤ 301 := by rw [← e11]; exact hI_M 598 89 (Nat.le_of_ble_eq_true rfl)
    obtain ⟨v15, e15⟩ : ∃ z, M 598 74 = z := ⟨_, rfl⟩
    have b15 : 0 ≤ v15 ∧ v15 ≤ 4 := by rw [← e15]; exact hI_M 598 74 (Nat.le_of_ble_eq_true rfl)
    refine jr_v rfl rfl (Or.inl rfl) rfl rfl (nlt rfl) rfl ⟨rfl, Nat.le_of_ble_eq_true rfl, Nat.le_of_ble_eq_true rfl⟩ rfl (jc.deep (r_next (RI.u (RI.u (RI.u hI_M (a := 659) (i := v2) (by rw [xri_row rfl rfl]; show (0 : Int) ≤ _ ∧ _ ≤ (1000 : Int); omega)) (a := 660) (i := v2) (by rw [xri_row rfl rfl]; show (-9223372036854775808 : Int) ≤ _ ∧ _ ≤ (9223372036854775807 : Int); omega)) (a := 598) (i := 90) (show (0 : Int) ≤ _ ∧ _ ≤ (2200 : Int) from by omega)) (RH.o (RH.o (RH.o hH_M (by decide) (by decide) (by decide)) (by decide) (by decide) (by decide)) (by decide) (by decide) (by decide)) (RF.o (RF.o (RF.o hS_M (by decide) (by decide)) (by decide) (by decide)) (by decide) (by decide))   (by rw [((ju_i _ _ (zne (by decide))).trans ((ju_c _ _ (by decide)).trans ((ju_c _ _ (by decide)).trans e8))), ((ju_i _ _ (zne (by decide))).trans ((ju_c _ _ (by decide)).trans ((ju_c _ _ (by decide)).trans e9)))]; omega) (fun M7 hI_M7 hH_M7 hS_M7  w7_0 w7_1 w7_2 w7_3 w7_4 w7_5 w7_6 => ?_)) (Nat.le_of_ble_eq_true rfl))
    have y14 : (ju (ju (ju M 659 v2 6) 660 v2 (v1 - 31)) 598 90 (v2 + 1)) 598 73 = v8 := ((ju_i _ _ (zne (by decide))).trans ((ju_c _ _ (by decide)).trans ((ju_c _ _ (by decide)).trans e8)))
    have y16 : (ju (ju (ju M 659 v2 6) 660 v2 (v1 - 31)) 598 90 (v2 + 1)) 598 74 = v15 := ((ju_i _ _ (zne (by decide))).trans ((ju_c _ _ (by decide)).trans ((ju_c _ _ (by decide)).trans e15)))
    have tb7 : TK (ju (ju (ju M 659 v2 6) 660 v2 (v1 - 31)) 598 90 (v2 + 1)) = TK M := ((TK.o (Or.inr ⟨by decide, by decide⟩)).trans ((TK.o (Or.inl (by decide))).trans ((TK.o (Or.inl (by decide))).trans rfl)))
    have y10 : (ju (ju (ju M 659 v2 6) 660 v2 (v1 - 31)) 598 90 (v2 + 1)) 598 73 = v8 := ((ju_i _ _ (zne (by decide))).trans ((ju_c _ _ (by decide)).trans ((ju_c _ _ (by decide)).trans e8)))
    have y12 : (ju (ju (ju M 659 v2 6) 660 v2 (v1 - 31)) 598 90 (v2 + 1)) 598 89 = v11 := ((ju_i _ _ (zne (by decide))).trans ((ju_c _ _ (by decide)).trans ((ju_c _ _ (by decide)).trans e11)))
    have y13 : (ju (ju (ju M 659 v2 6) 660 v2 (v1 - 31)) 598 90 (v2 + 1)) 598 100 = v3 := ((ju_i _ _ (zne (by decide))).trans ((ju_c _ _ (by decide)).trans ((ju_c _ _ (by decide)).trans e3)))
    have x7_89 := w7_6 89 (zne rfl) (zne rfl) (zne rfl) (zne rfl) (zne rfl) (zne rfl) (zne rfl)
    have x7_100 := w7_6 100 (zne rfl) (zne rfl) (zne rfl) (zne rfl) (zne rfl) (zne rfl) (zne rfl)
    have hE := ES.fr2 hE w7_5 (w7_6 88 (zne rfl) (zne rfl) (zne rfl) (zne rfl) (zne rfl) (zne rfl) (zne rfl)) (w7_6 90 (zne rfl) (zne rfl) (zne rfl) (zne rfl) (zne rfl) (zne rfl) (zne rfl)) (w7_6 101 (zne rfl) (zne rfl) (zne rfl) (zne rfl) (zne rfl) (zne rfl) (zne rfl)) (w7_6 102 (zne rfl) (zne rfl) (zne rfl) (zne rfl) (zne rfl) (zne rfl) (zne rfl)) (w7_6 107 (zne rfl) (zne rfl) (zne rfl) (zne rfl) (zne rfl) (zne rfl) (zne rfl)) (k' := kk + 2) (d' := 1) (z' := 0) (by omega) (by omega) (by omega) (by omega)
    refine jr.aload_n rfl rfl ?_
    refine jr.bipush rfl (jbp _ (nlt rfl)) ?_
    obtain ⟨v18, e18⟩ : ∃ z, M7 598 73 = z := ⟨_, rfl⟩
    have b18 : 0 ≤ v18 ∧ v18 ≤ 1600 := by rw [← e18]; exact hI_M7 598 73 (Nat.le_of_ble_eq_true rfl)
    have e19 : M7 598 72 = v9 := ((w7_6 72 (zne rfl) (zne rfl) (zne rfl) (zne rfl) (zne rfl) (zne rfl) (zne rfl)).trans ((ju_i _ _ (zne (by decide))).trans ((ju_c _ _ (by decide)).trans ((ju_c _ _ (by decide)).trans e9))))
    have e21 : M7 598 89 = v11 := ((w7_6 89 (zne rfl) (zne rfl) (zne rfl) (zne rfl) (zne rfl) (zne rfl) (zne rfl)).trans ((ju_i _ _ (zne (by decide))).trans ((ju_c _ _ (by decide)).trans ((ju_c _ _ (by decide)).trans e11))))
    have e23 : M7 598 100 = v3 := ((w7_6 100 (zne rfl) (zne rfl) (zne rfl) (zne rfl) (zne rfl) (zne rfl) (zne rfl)).trans ((ju_i _ _ (zne (by decide))).trans ((ju_c _ _ (by decide)).trans ((ju_c _ _ (by decide)).trans e3))))
    refine jr_v rfl rfl (Or.inl rfl) rfl rfl (nlt rfl) rfl ⟨rfl, Nat.le_of_ble_eq_true rfl, Nat.le_of_ble_eq_true rfl⟩ rfl (jc.deep (r_want hI_M7 hH_M7 hS_M7  (by omega) (by rw [e18, e19]; omega) (fun M17 hI_M17 hH_M17 hS_M17  w17_0 w17_1 w17_2 w17_3 w17_4 w17_5 w17_6 w17_7 => ?_)) (Nat.le_of_ble_eq_true rfl))
    have x17_89 := w17_7 89 (zne rfl) (zne rfl) (zne rfl) (zne rfl) (zne rfl) (zne rfl) (zne rfl) (zne rfl) (zne rfl)
    have x17_100 := w17_7 100 (zne rfl) (zne rfl) (zne rfl) (zne rfl) (zne rfl) (zne rfl) (zne rfl) (zne rfl) (zne rfl)
    have hE := ES.fr2 hE w17_6 (w17_7 88 (zne rfl) (zne rfl) (zne rfl) (zne rfl) (zne rfl) (zne rfl) (zne rfl) (zne rfl) (zne rfl)) (w17_7 90 (zne rfl) (zne rfl) (zne rfl) (zne rfl) (zne rfl) (zne rfl) (zne rfl) (zne rfl) (zne rfl)) (w17_7 101 (zne rfl) (zne rfl) (zne rfl) (zne rfl) (zne rfl) (zne rfl) (zne rfl) (zne rfl) (zne rfl)) (w17_7 102 (zne rfl) (zne rfl) (zne rfl) (zne rfl) (zne rfl) (zne rfl) (zne rfl) (zne rfl) (zne rfl)) (w17_7 107 (zne rfl) (zne rfl) (zne rfl) (zne rfl) (zne rfl) (zne rfl) (zne rfl) (zne rfl) (zne rfl)) (k' := kk + 2) (d' := 1) (z' := 0) (by omega) (by omega) (by omega) (by omega)
    refine jr.aload_n rfl rfl ?_
    refine jr.dup rfl rfl ?_
    have e25 : M17 598 100 = v3 := ((w17_7 100 (zne rfl) (zne rfl) (zne rfl) (zne rfl) (zne rfl) (zne rfl) (zne rfl) (zne rfl) (zne rfl)).trans e23)
    refine jr.getf (i := 100) (x := v3) (v := .int (Int32.ofInt (v3))) rfl rfl (nlt rfl) rfl (nlt rfl) rfl rfl e25 rfl ?_
    refine jr.iconst rfl ?_
    refine jr.isub rfl ?_
    refine jr.putf (i := 100) (x := (v3 - 1)) rfl rfl (nlt rfl) rfl (nlt rfl) rfl rfl rfl rfl rfl ?_
    have e26 : M17 598 72 = v9 := ((w17_7 72 (zne rfl) (zne rfl) (zne rfl) (zne rfl) (zne rfl) (zne rfl) (zne rfl) (zne rfl) (zne rfl)).trans e19)
    have y27 : (ju M17 598 100 (v3 - 1)) 598 72 = v9 := ((ju_i _ _ (zne (by decide))).trans e26)
    obtain ⟨v28, e28⟩ : ∃ z, M17 598 73 = z := ⟨_, rfl⟩
    have b28 : 0 ≤ v28 ∧ v28 ≤ 1600 := by rw [← e28]; exact hI_M17 598 73 (Nat.le_of_ble_eq_true rfl)
    have y29 : (ju M17 598 100 (v3 - 1)) 598 73 = v28 := ((ju_i _ _ (zne (by decide))).trans e28)
    obtain ⟨v30, e30⟩ : ∃ z, M17 598 74 = z := ⟨_, rfl⟩
    have b30 : 0 ≤ v30 ∧ v30 ≤ 4 := by rw [← e30]; exact hI_M17 598 74 (Nat.le_of_ble_eq_true rfl)
    have y31 : (ju M17 598 100 (v3 - 1)) 598 74 = v30 := ((ju_i _ _ (zne (by decide))).trans e30)
    obtain ⟨v32, e32⟩ : ∃ z, M17 598 79 = z := ⟨_, rfl⟩
    have b32 : 0 ≤ v32 ∧ v32 ≤ 255 := by rw [← e32]; exact hI_M17 598 79 (Nat.le_of_ble_eq_true rfl)
    have y33 : (ju M17 598 100 (v3 - 1)) 598 79 = v32 := ((ju_i _ _ (zne (by decide))).trans e32)
    obtain ⟨v34, e34⟩ : ∃ z, M17 598 80 = z := ⟨_, rfl⟩
    have b34 : 0 ≤ v34 ∧ v34 ≤ 7 := by rw [← e34]; exact hI_M17 598 80 (Nat.le_of_ble_eq_true rfl)
    have y35 : (ju M17 598 100 (v3 - 1)) 598 80 = v34 := ((ju_i _ _ (zne (by decide))).trans e34)
    have e36 : M17 598 89 = v11 := ((w17_7 89 (zne rfl) (zne rfl) (zne rfl) (zne rfl) (zne rfl) (zne rfl) (zne rfl) (zne rfl) (zne rfl)).trans e21)
    have y37 : (ju M17 598 100 (v3 - 1)) 598 89 = v11 := ((ju_i _ _ (zne (by decide))).trans e36)
    have e38 : M7 598 90 = v2 + 1 := ((w7_6 90 (zne rfl) (zne rfl) (zne rfl) (zne rfl) (zne rfl) (zne rfl) (zne rfl)).trans (ju_same _ _ _ _))
    have e39 : M17 598 90 = v2 + 1 := ((w17_7 90 (zne rfl) (zne rfl) (zne rfl) (zne rfl) (zne rfl) (zne rfl) (zne rfl) (zne rfl) (zne rfl)).trans e38)
    have y40 : (ju M17 598 100 (v3 - 1)) 598 90 = v2 + 1 := ((ju_i _ _ (zne (by decide))).trans e39)
    have y41 : (ju M17 598 100 (v3 - 1)) 598 100 = v3 - 1 := (ju_same _ _ _ _)
    have e42 : M7 598 107 = v5 := ((w7_6 107 (zne rfl) (zne rfl) (zne rfl) (zne rfl) (zne rfl) (zne rfl) (zne rfl)).trans ((ju_i _ _ (zne (by decide))).trans ((ju_c _ _ (by decide)).trans ((ju_c _ _ (by decide)).trans e5))))
    have e43 : M17 598 107 = v5 := ((w17_7 107 (zne rfl) (zne rfl) (zne rfl) (zne rfl) (zne rfl) (zne rfl) (zne rfl) (zne rfl) (zne rfl)).trans e42)
    have y44 : (ju M17 598 100 (v3 - 1)) 598 107 = v5 := ((ju_i _ _ (zne (by decide))).trans e43)
    have y45 : TK (ju M17 598 100 (v3 - 1)) = TK M17 := ((TK.o (Or.inr ⟨by decide, by decide⟩)).trans rfl)
    exact jr.vreturn rfl rfl (q _ (RI.u hI_M17 (a := 598) (i := 100) (show (0 : Int) ≤ _ ∧ _ ≤ (13 : Int) from by omega)) (RH.o hH_M17 (by decide) (by decide) (by decide)) (RF.o hS_M17 (by decide) (by decide))  (by by_cases hf : v34 = 0; (first | (exact Or.inr ⟨⟨by omega, ES.adj (ES.dep hE e25 (d' := 0) (by omega)) (k' := kk) (z' := 0) (by omega) (by omega) (by omega), by omega, by omega, by omega, by omega⟩, by omega⟩) | (exfalso; omega)); (exact Or.inl ⟨by omega, by omega⟩)) (by omega) (by omega) (by omega) (CP.o (CP.f (CP.f (CP.emit hCP e2) (fun i => w7_5 659 i (nne rfl)) (w7_6 90 (zne rfl) (zne rfl) (zne rfl) (zne rfl) (zne rfl) (zne rfl) (zne rfl))) (fun i => w17_6 659 i (nne rfl)) (w17_7 90 (zne rfl) (zne rfl) (zne rfl) (zne rfl) (zne rfl) (zne rfl) (zne rfl) (zne rfl) (zne rfl))) (by decide) (Or.inr (by decide))) (by omega) (fun a i f598 f659 f660 => ((ju_c _ _ f598).trans ((w17_6 a i f598).trans ((w7_5 a i f598).trans ((ju_c _ _ f598).trans ((ju_c _ _ f660).trans ((ju_c _ _ f659).trans (hF_M a i f598 f659 f660)))))))) (fun i g73 g74 g75 g76 g77 g78 g79 g80 g81 g89 g90 g100 => ((ju_i _ _ g100).trans ((w17_7 i g73 g74 g75 g76 g77 g78 g79 g80 g81).trans ((w7_6 i g73 g74 g75 g76 g77 g78 g79).trans ((ju_i _ _ g90).trans ((ju_c _ _ (by decide)).trans ((ju_c _ _ (by decide)).trans (hG_M i g73 g74 g75 g76 g77 g78 g79 g80 g81 g89 g90 g100)))))))))
theorem r_hasKind {A : Nat → Option (Nat × (Nat → Int32))} {Q : Option Value → jm → Prop} {b kk : Int} {M : jm} (hI_M : RI M) (hH_M : RH M) (hS_M : RF M) (p0 : GS M b 0 kk) (p1 : M 598 74 = 1) (q : ∀ (M' : jm), RI M' → RH M' → RF M' → (BS M' ∨ (GS M' b 1 kk ∧ TK M' < TK M)) → TK M' ≤ TK M → M' 598 73 ≤ M' 598 72 → (M' 598 80 ≠ 0 ∨ TK M' < TK M) → CP M M' → M 598 89 ≤ M' 598 89 → (∀ (a : Nat) (i : Int), a ≠ 598 → a ≠ 659 → a ≠ 660 → M' a i = M a i) → (∀ (i : Int), i ≠ 73 → i ≠ 74 → i ≠ 75 → i ≠ 76 → i ≠ 77 → i ≠ 78 → i ≠ 79 → i ≠ 80 → i ≠ 81 → i ≠ 89 → i ≠ 90 → i ≠ 100 → M' 598 i = M 598 i) → Q none M') : jc A 5 359 [.ref (598)] M Q := by
  obtain ⟨gs1, gs2, gs3, gs4, gs5, gs6⟩ := id p0
  have hE := gs2
  have sl := ES.sgle gs2
  have bb := ES.bb gs2
  have kb := ES.kz gs2
  have b107 : (0 : Int) ≤ M 598 107 ∧ M 598 107 ≤ 16 := hI_M 598 107 (Nat.le_of_ble_eq_true rfl)
  have b73 : (0 : Int) ≤ M 598 73 ∧ M 598 73 ≤ 1600 := hI_M 598 73 (Nat.le_of_ble_eq_true rfl)
  have b88 : (0 : Int) ≤ M 598 88 ∧ M 598 88 ≤ 16 := hI_M 598 88 (Nat.le_of_ble_eq_true rfl)
  have b100 : (0 : Int) ≤ M 598 100 ∧ M 598 100 ≤ 13 := hI_M 598 100 (Nat.le_of_ble_eq_true rfl)
  refine jc_of (m := xm_359) rfl (Nat.le_of_ble_eq_true rfl) rfl ?_
  refine jr.aload_n rfl rfl ?_
  obtain ⟨v2, e2⟩ : ∃ z, M 598 89 = z := ⟨_, rfl⟩
  have b2 : 0 ≤ v2 ∧ v2 ≤ 301 := by rw [← e2]; exact hI_M 598 89 (Nat.le_of_ble_eq_true rfl)
  obtain ⟨v3, e3⟩ : ∃ z, M 598 73 = z := ⟨_, rfl⟩
  have b3 : 0 ≤ v3 ∧ v3 ≤ 1600 := by rw [← e3]; exact hI_M 598 73 (Nat.le_of_ble_eq_true rfl)
  obtain ⟨v6, e6⟩ : ∃ z, M 598 100 = z := ⟨_, rfl⟩
  have b6 : 0 ≤ v6 ∧ v6 ≤ 13 := by rw [← e6]; exact hI_M 598 100 (Nat.le_of_ble_eq_true rfl)
  refine jr_v rfl rfl (Or.inl rfl) rfl rfl (nlt rfl) rfl ⟨rfl, Nat.le_of_ble_eq_true rfl, Nat.le_of_ble_eq_true rfl⟩ rfl (jc.deep (r_node hI_M hH_M hS_M   (by rw [e2]; omega) (fun M1 hI_M1 hH_M1 hS_M1  w1_0 w1_1 w1_2 w1_3 w1_4 w1_5 => ?_)) (Nat.le_of_ble_eq_true rfl))
  have tk1 : TK M1 = TK M := TK.fr (w1_5 73 (zne rfl) (zne rfl) (zne rfl)) (w1_5 74 (zne rfl) (zne rfl) (zne rfl))
  have x1_73 := w1_5 73 (zne rfl) (zne rfl) (zne rfl)
  have x1_100 := w1_5 100 (zne rfl) (zne rfl) (zne rfl)
  have hE := ES.fr2 hE w1_4 (w1_5 88 (zne rfl) (zne rfl) (zne rfl)) (w1_5 90 (zne rfl) (zne rfl) (zne rfl)) (w1_5 101 (zne rfl) (zne rfl) (zne rfl)) (w1_5 102 (zne rfl) (zne rfl) (zne rfl)) (w1_5 107 (zne rfl) (zne rfl) (zne rfl)) (k' := kk + 4) (d' := 0) (z' := 0) (by omega) (by omega) (by omega) (by omega)
  refine jr.aload_n rfl rfl ?_
  refine jr_v rfl rfl (Or.inl rfl) rfl rfl (nlt rfl) rfl ⟨rfl, Nat.le_of_ble_eq_true rfl, Nat.le_of_ble_eq_true rfl⟩ rfl (jc.deep (c_good hI_M1  (fun t5_0 => ?_) (fun f5_0 => ?_)) (Nat.le_of_ble_eq_true rfl))
  · have w1_1r := Classical.byContradiction (fun z => w1_1 z t5_0)
    have w1_2r := w1_2 t5_0
    clear w1_1 w1_2 w1_3
    refine jr.if_eq rfl rfl (by first | exact rgl rfl | omega) (fun h => absurd h (by decide)) (fun _ => ?_)
    refine jr.aload_n rfl rfl ?_
    have e9 : M1 598 73 = v3 := ((w1_5 73 (zne rfl) (zne rfl) (zne rfl)).trans e3)
    obtain ⟨v10, e10⟩ : ∃ z, M 598 72 = z := ⟨_, rfl⟩
    have b10 : 0 ≤ v10 ∧ v10 ≤ 1600 := by rw [← e10]; exact hI_M 598 72 (Nat.le_of_ble_eq_true rfl)
    have e11 : M1 598 72 = v10 := ((w1_5 72 (zne rfl) (zne rfl) (zne rfl)).trans e10)
    obtain ⟨v13, e13⟩ : ∃ z, M1 598 89 = z := ⟨_, rfl⟩
    have b13 : 0 ≤ v13 ∧ v13 ≤ 301 := by rw [← e13]; exact hI_M1 598 89 (Nat.le_of_ble_eq_true rfl)
    have e15 : M1 598 100 = v6 := ((w1_5 100 (zne rfl) (zne rfl) (zne rfl)).trans e6)
    refine jr_v rfl rfl (Or.inl rfl) rfl rfl (nlt rfl) rfl ⟨rfl, Nat.le_of_ble_eq_true rfl, Nat.le_of_ble_eq_true rfl⟩ rfl (jc.deep (r_next hI_M1 hH_M1 hS_M1   (by rw [e9, e11]; omega) (fun M8 hI_M8 hH_M8 hS_M8  w8_0 w8_1 w8_2 w8_3 w8_4 w8_5 w8_6 => ?_)) (Nat.le_of_ble_eq_true rfl))
    have x8_89 := w8_6 89 (zne rfl) (zne rfl) (zne rfl) (zne rfl) (zne rfl) (zne rfl) (zne rfl)
    have x8_100 := w8_6 100 (zne rfl) (zne rfl) (zne rfl) (zne rfl) (zne rfl) (zne rfl) (zne rfl)
    have hE := ES.fr2 hE w8_5 (w8_6 88 (zne rfl) (zne rfl) (zne rfl) (zne rfl) (zne rfl) (zne rfl) (zne rfl)) (w8_6 90 (zne rfl) (zne rfl) (zne rfl) (zne rfl) (zne rfl) (zne rfl) (zne rfl)) (w8_6 101 (zne rfl) (zne rfl) (zne rfl) (zne rfl) (zne rfl) (zne rfl) (zne rfl)) (w8_6 102 (zne rfl) (zne rfl) (zne rfl) (zne rfl) (zne rfl) (zne rfl) (zne rfl)) (w8_6 107 (zne rfl) (zne rfl) (zne rfl) (zne rfl) (zne rfl) (zne rfl) (zne rfl)) (k' := kk + 4) (d' := 0) (z' := 0) (by omega) (by omega) (by omega) (by omega)
    refine jr.aload_n rfl rfl ?_
    refine jr.bipush rfl (jbp _ (nlt rfl)) ?_
    obtain ⟨v18, e18⟩ : ∃ z, M8 598 73 = z := ⟨_, rfl⟩
    have b18 : 0 ≤ v18 ∧ v18 ≤ 1600 := by rw [← e18]; exact hI_M8 598 73 (Nat.le_of_ble_eq_true rfl)
    have e19 : M8 598 72 = v10 := ((w8_6 72 (zne rfl) (zne rfl) (zne rfl) (zne rfl) (zne rfl) (zne rfl) (zne rfl)).trans e11)
    obtain ⟨v20, e20⟩ : ∃ z, M1 598 80 = z := ⟨_, rfl⟩
    have b20 : 0 ≤ v20 ∧ v20 ≤ 7 := by rw [← e20]; exact hI_M1 598 80 (Nat.le_of_ble_eq_true rfl)
    have e21 : M8 598 80 = v20 := ((w8_6 80 (zne rfl) (zne rfl) (zne rfl) (zne rfl) (zne rfl) (zne rfl) (zne rfl)).trans e20)
    have e22 : M8 598 100 = v6 := ((w8_6 100 (zne rfl) (zne rfl) (zne rfl) (zne rfl) (zne rfl) (zne rfl) (zne rfl)).trans e15)
    refine jr_v rfl rfl (Or.inl rfl) rfl rfl (nlt rfl) rfl ⟨rfl, Nat.le_of_ble_eq_true rfl, Nat.le_of_ble_eq_true rfl⟩ rfl (jc.deep (r_wantDeeper hI_M8 hH_M8 hS_M8  (by omega) (by rw [e18, e19]; omega) (by rw [e21, e22]; intro q; omega) (fun M17 hI_M17 hH_M17 hS_M17  w17_0 w17_1 w17_2 w17_3 w17_4 w17_5 w17_6 w17_7 w17_8 w17_9 w17_10 => ?_)) (Nat.le_of_ble_eq_true rfl))
    refine jr.aload_n rfl rfl ?_
    have e24 : M8 598 89 = v13 := ((w8_6 89 (zne rfl) (zne rfl) (zne rfl) (zne rfl) (zne rfl) (zne rfl) (zne rfl)).trans e13)
    refine jr_v rfl rfl (Or.inl rfl) rfl rfl (nlt rfl) rfl ⟨rfl, Nat.le_of_ble_eq_true rfl, Nat.le_of_ble_eq_true rfl⟩ rfl (jc.deep (c_good hI_M17  (fun t22_0 => ?_) (fun f22_0 => ?_)) (Nat.le_of_ble_eq_true rfl))
    · have w17_0r := w17_0 t22_0
      have w17_4r := w17_4.resolve_right (fun z => z.1 t22_0)
      have w17_5r := Classical.byContradiction (fun z => w17_5 z t22_0)
      have w17_6r := w17_6 t22_0
      have w17_7r := w17_7 t22_0
      clear w17_0 w17_4 w17_5 w17_6 w17_7
      have x17_89 := w17_10 89 (zne rfl) (zne rfl) (zne rfl) (zne rfl) (zne rfl) (zne rfl) (zne rfl) (zne rfl) (zne rfl) (zne rfl)
      have hE := ES.fr2 hE w17_9 (w17_10 88 (zne rfl) (zne rfl) (zne rfl) (zne rfl) (zne rfl) (zne rfl) (zne rfl) (zne rfl) (zne rfl) (zne rfl)) (w17_10 90 (zne rfl) (zne rfl) (zne rfl) (zne rfl) (zne rfl) (zne rfl) (zne rfl) (zne rfl) (zne rfl) (zne rfl)) (w17_10 101 (zne rfl) (zne rfl) (zne rfl) (zne rfl) (zne rfl) (zne rfl) (zne rfl) (zne rfl) (zne rfl) (zne rfl)) (w17_10 102 (zne rfl) (zne rfl) (zne rfl) (zne rfl) (zne rfl) (zne rfl) (zne rfl) (zne rfl) (zne rfl) (zne rfl)) (w17_10 107 (zne rfl) (zne rfl) (zne rfl) (zne rfl) (zne rfl) (zne rfl) (zne rfl) (zne rfl) (zne rfl) (zne rfl)) (k' := kk + 4) (d' := 1) (z' := 0) (by omega) (by omega) (by omega) (by omega)
      refine jr.if_eq rfl rfl (by first | exact rgl rfl | omega) (fun h => absurd h (by decide)) (fun _ => ?_)
      refine jr.aload_n rfl rfl ?_
      refine jr.bipush rfl (jbp _ (nlt rfl)) ?_
      refine jr.bipush rfl (jbp _ (nlt rfl)) ?_
      refine jr_v rfl rfl (Or.inl rfl) rfl rfl (nlt rfl) rfl ⟨rfl, Nat.le_of_ble_eq_true rfl, Nat.le_of_ble_eq_true rfl⟩ rfl (jc.deep (c_isWordIn hI_M17 (by omega) (by omega) (fun t33_0 t33_1 t33_2 => ?_) (fun f33_0 => ?_)) (Nat.le_of_ble_eq_true rfl))
      · refine jr.if_ne rfl rfl (by first | exact rgl rfl | omega) (fun _ => ?_) (fun h => absurd (by decide) h)
        refine jr.aload_n rfl rfl ?_
        obtain ⟨v27, e27⟩ : ∃ z, M17 598 80 = z := ⟨_, rfl⟩
        have b27 : 0 ≤ v27 ∧ v27 ≤ 7 := by rw [← e27]; exact hI_M17 598 80 (Nat.le_of_ble_eq_true rfl)
        refine jr_v rfl rfl (Or.inl rfl) rfl rfl (nlt rfl) rfl ⟨rfl, Nat.le_of_ble_eq_true rfl, Nat.le_of_ble_eq_true rfl⟩ rfl (jc.deep (c_good hI_M17  (fun t44_0 => ?_) (fun f44_0 => ?_)) (Nat.le_of_ble_eq_true rfl))
        · refine jr.if_ne rfl rfl (by first | exact rgl rfl | omega) (fun _ => ?_) (fun h => absurd (by decide) h)
          have e28 : M8 598 89 = v13 := ((w8_6 89 (zne rfl) (zne rfl) (zne rfl) (zne rfl) (zne rfl) (zne rfl) (zne rfl)).trans e13)
          have e29 : M17 598 89 = v13 := ((w17_10 89 (zne rfl) (zne rfl) (zne rfl) (zne rfl) (zne rfl) (zne rfl) (zne rfl) (zne rfl) (zne rfl) (zne rfl)).trans e28)
          obtain ⟨v30, e30⟩ : ∃ z, M17 598 100 = z := ⟨_, rfl⟩
          have b30 : 0 ≤ v30 ∧ v30 ≤ 13 := by rw [← e30]; exact hI_M17 598 100 (Nat.le_of_ble_eq_true rfl)
          obtain ⟨v31, e31⟩ : ∃ z, M17 598 73 = z := ⟨_, rfl⟩
          have b31 : 0 ≤ v31 ∧ v31 ≤ 1600 := by rw [← e31]; exact hI_M17 598 73 (Nat.le_of_ble_eq_true rfl)
          have e32 : M17 598 72 = v10 := ((w17_10 72 (zne rfl) (zne rfl) (zne rfl) (zne rfl) (zne rfl) (zne rfl) (zne rfl) (zne rfl) (zne rfl) (zne rfl)).trans e19)
          obtain ⟨v33, e33⟩ : ∃ z, M 598 90 = z := ⟨_, rfl⟩
          have b33 : 0 ≤ v33 ∧ v33 ≤ 2200 := by rw [← e33]; exact hI_M 598 90 (Nat.le_of_ble_eq_true rfl)
          have e34 : M1 598 90 = v33 := ((w1_5 90 (zne rfl) (zne rfl) (zne rfl)).trans e33)
          have e35 : M8 598 90 = v33 := ((w8_6 90 (zne rfl) (zne rfl) (zne rfl) (zne rfl) (zne rfl) (zne rfl) (zne rfl)).trans e34)
          have e36 : M17 598 90 = v33 := ((w17_10 90 (zne rfl) (zne rfl) (zne rfl) (zne rfl) (zne rfl) (zne rfl) (zne rfl) (zne rfl) (zne rfl) (zne rfl)).trans e35)
          obtain ⟨v37, e37⟩ : ∃ z, M17 598 74 = z := ⟨_, rfl⟩
          have b37 : 0 ≤ v37 ∧ v37 ≤ 4 := by rw [← e37]; exact hI_M17 598 74 (Nat.le_of_ble_eq_true rfl)
          obtain ⟨v38, e38⟩ : ∃ z, M17 598 76 = z := ⟨_, rfl⟩
          have b38 : (-1) ≤ v38 ∧ v38 ≤ 68 := by rw [← e38]; exact hI_M17 598 76 (Nat.le_of_ble_eq_true rfl)
          refine jr.pick (ls := [_]) [0] rfl rfl ?_
          exact r_hasKind_L51 q M17  hI_M17 hH_M17 hS_M17  (fun a i f598 f659 f660 => ((w17_9 a i f598).trans ((w8_5 a i f598).trans ((w1_4 a i f598).trans rfl)))) (fun i g73 g74 g75 g76 g77 g78 g79 g80 g81 g89 g90 g100 => ((w17_10 i g73 g74 g75 g76 g77 g78 g79 g80 g81 g100).trans ((w8_6 i g73 g74 g75 g76 g77 g78 g79).trans ((w1_5 i g80 g81 g89).trans rfl))))  hE (by rw [e27] <;> omega) (by rw [e29] <;> omega) (by rw [e30] <;> omega) (by rw [e31, e32] <;> omega) (by omega) (by rw [e36] <;> omega) (by rw [e37] <;> omega) (by rw [e38] <;> omega) (CP.f (CP.f (CP.f (CP.rfl _) (fun i => w1_4 659 i (nne rfl)) (w1_5 90 (zne rfl) (zne rfl) (zne rfl))) (fun i => w8_5 659 i (nne rfl)) (w8_6 90 (zne rfl) (zne rfl) (zne rfl) (zne rfl) (zne rfl) (zne rfl) (zne rfl))) (fun i => w17_9 659 i (nne rfl)) (w17_10 90 (zne rfl) (zne rfl) (zne rfl) (zne rfl) (zne rfl) (zne rfl) (zne rfl) (zne rfl) (zne rfl) (zne rfl))) (by omega) (by rw [e29] <;> omega)
        · exfalso
          omega
      · refine jr.if_ne rfl rfl (by first | exact rgl rfl | omega) (fun h => absurd h (by decide)) (fun _ => ?_)
        refine jr.aload_n rfl rfl ?_
        refine jr_v rfl rfl (Or.inl rfl) rfl rfl (nlt rfl) rfl ⟨rfl, Nat.le_of_ble_eq_true rfl, Nat.le_of_ble_eq_true rfl⟩ rfl (jc.deep (r_wrongToken hI_M17 hH_M17 hS_M17    (fun M39 hI_M39 hH_M39 hS_M39  w39_0 w39_1 w39_2 => ?_)) (Nat.le_of_ble_eq_true rfl))
        have tk39 : TK M39 = TK M17 := TK.fr (w39_2 73 (zne rfl) (zne rfl)) (w39_2 74 (zne rfl) (zne rfl))
        refine jr.aload_n rfl rfl ?_
        obtain ⟨v40, e40⟩ : ∃ z, M39 598 80 = z := ⟨_, rfl⟩
        have b40 : 0 ≤ v40 ∧ v40 ≤ 7 := by rw [← e40]; exact hI_M39 598 80 (Nat.le_of_ble_eq_true rfl)
        refine jr_v rfl rfl (Or.inl rfl) rfl rfl (nlt rfl) rfl ⟨rfl, Nat.le_of_ble_eq_true rfl, Nat.le_of_ble_eq_true rfl⟩ rfl (jc.deep (c_good hI_M39  (fun t44_0 => ?_) (fun f44_0 => ?_)) (Nat.le_of_ble_eq_true rfl))
        · exfalso
          omega
        · refine jr.if_ne rfl rfl (by first | exact rgl rfl | omega) (fun h => absurd h (by decide)) (fun _ => ?_)
          have e41 : M17 598 72 = v10 := ((w17_10 72 (zne rfl) (zne rfl) (zne rfl) (zne rfl) (zne rfl) (zne rfl) (zne rfl) (zne rfl) (zne rfl) (zne rfl)).trans e19)
          have e42 : M39 598 72 = v10 := ((w39_2 72 (zne rfl) (zne rfl)).trans e41)
          obtain ⟨v44, e44⟩ : ∃ z, M17 598 73 = z := ⟨_, rfl⟩
          have b44 : 0 ≤ v44 ∧ v44 ≤ 1600 := by rw [← e44]; exact hI_M17 598 73 (Nat.le_of_ble_eq_true rfl)
          have e45 : M39 598 73 = v44 := ((w39_2 73 (zne rfl) (zne rfl)).trans e44)
          obtain ⟨v47, e47⟩ : ∃ z, M17 598 74 = z := ⟨_, rfl⟩
          have b47 : 0 ≤ v47 ∧ v47 ≤ 4 := by rw [← e47]; exact hI_M17 598 74 (Nat.le_of_ble_eq_true rfl)
          have e48 : M39 598 74 = v47 := ((w39_2 74 (zne rfl) (zne rfl)).trans e47)
          obtain ⟨v50, e50⟩ : ∃ z, M17 598 79 = z := ⟨_, rfl⟩
          have b50 : 0 ≤ v50 ∧ v50 ≤ 255 := by rw [← e50]; exact hI_M17 598 79 (Nat.le_of_ble_eq_true rfl)
          have e51 : M39 598 79 = v50 := ((w39_2 79 (zne rfl) (zne rfl)).trans e50)
          have e54 : M8 598 89 = v13 := ((w8_6 89 (zne rfl) (zne rfl) (zne rfl) (zne rfl) (zne rfl) (zne rfl) (zne rfl)).trans e13)
          have e55 : M17 598 89 = v13 := ((w17_10 89 (zne rfl) (zne rfl) (zne rfl) (zne rfl) (zne rfl) (zne rfl) (zne rfl) (zne rfl) (zne rfl) (zne rfl)).trans e54)
          have e56 : M39 598 89 = v13 := ((w39_2 89 (zne rfl) (zne rfl)).trans e55)
          obtain ⟨v58, e58⟩ : ∃ z, M 598 90 = z := ⟨_, rfl⟩
          have b58 : 0 ≤ v58 ∧ v58 ≤ 2200 := by rw [← e58]; exact hI_M 598 90 (Nat.le_of_ble_eq_true rfl)
          have e59 : M1 598 90 = v58 := ((w1_5 90 (zne rfl) (zne rfl) (zne rfl)).trans e58)
          have e60 : M8 598 90 = v58 := ((w8_6 90 (zne rfl) (zne rfl) (zne rfl) (zne rfl) (zne rfl) (zne rfl) (zne rfl)).trans e59)
          have e61 : M17 598 90 = v58 := ((w17_10 90 (zne rfl) (zne rfl) (zne rfl) (zne rfl) (zne rfl) (zne rfl) (zne rfl) (zne rfl) (zne rfl) (zne rfl)).trans e60)
          have e62 : M39 598 90 = v58 := ((w39_2 90 (zne rfl) (zne rfl)).trans e61)
          obtain ⟨v64, e64⟩ : ∃ z, M17 598 100 = z := ⟨_, rfl⟩
          have b64 : 0 ≤ v64 ∧ v64 ≤ 13 := by rw [← e64]; exact hI_M17 598 100 (Nat.le_of_ble_eq_true rfl)
          have e65 : M39 598 100 = v64 := ((w39_2 100 (zne rfl) (zne rfl)).trans e64)
          obtain ⟨v67, e67⟩ : ∃ z, M 598 107 = z := ⟨_, rfl⟩
          have b67 : 0 ≤ v67 ∧ v67 ≤ 16 := by rw [← e67]; exact hI_M 598 107 (Nat.le_of_ble_eq_true rfl)
          have e68 : M1 598 107 = v67 := ((w1_5 107 (zne rfl) (zne rfl) (zne rfl)).trans e67)
          have e69 : M8 598 107 = v67 := ((w8_6 107 (zne rfl) (zne rfl) (zne rfl) (zne rfl) (zne rfl) (zne rfl) (zne rfl)).trans e68)
          have e70 : M17 598 107 = v67 := ((w17_10 107 (zne rfl) (zne rfl) (zne rfl) (zne rfl) (zne rfl) (zne rfl) (zne rfl) (zne rfl) (zne rfl) (zne rfl)).trans e69)
          have e71 : M39 598 107 = v67 := ((w39_2 107 (zne rfl) (zne rfl)).trans e70)
          exact jr.vreturn rfl rfl (q _ hI_M39 hH_M39 hS_M39  (by by_cases hf : v40 = 0; (first | (exfalso; omega) | (exact Or.inr ⟨⟨by omega, ES.adj hE (k' := kk) (z' := 0) (by omega) (by omega) (by omega), by omega, by omega, by omega, by omega⟩, by omega⟩)); (exact Or.inl ⟨by omega, by omega⟩)) (by omega) (by omega) (by omega) (CP.f (CP.f (CP.f (CP.f (CP.rfl _) (fun i => w1_4 659 i (nne rfl)) (w1_5 90 (zne rfl) (zne rfl) (zne rfl))) (fun i => w8_5 659 i (nne rfl)) (w8_6 90 (zne rfl) (zne rfl) (zne rfl) (zne rfl) (zne rfl) (zne rfl) (zne rfl))) (fun i => w17_9 659 i (nne rfl)) (w17_10 90 (zne rfl) (zne rfl) (zne rfl) (zne rfl) (zne rfl) (zne rfl) (zne rfl) (zne rfl) (zne rfl) (zne rfl))) (fun i => w39_1 659 i (nne rfl)) (w39_2 90 (zne rfl) (zne rfl))) (by omega) (fun a i f598 f659 f660 => ((w39_1 a i f598).trans ((w17_9 a i f598).trans ((w8_5 a i f598).trans ((w1_4 a i f598).trans rfl))))) (fun i g73 g74 g75 g76 g77 g78 g79 g80 g81 g89 g90 g100 => ((w39_2 i g80 g81).trans ((w17_10 i g73 g74 g75 g76 g77 g78 g79 g80 g81 g100).trans ((w8_6 i g73 g74 g75 g76 g77 g78 g79).trans ((w1_5 i g80 g81 g89).trans rfl))))))
    · refine jr.if_eq rfl rfl (by first | exact rgl rfl | omega) (fun _ => ?_) (fun h => absurd (by decide) h)
      refine jr.aload_n rfl rfl ?_
      obtain ⟨v73, e73⟩ : ∃ z, M17 598 80 = z := ⟨_, rfl⟩
      have b73 : 0 ≤ v73 ∧ v73 ≤ 7 := by rw [← e73]; exact hI_M17 598 80 (Nat.le_of_ble_eq_true rfl)
      refine jr_v rfl rfl (Or.inl rfl) rfl rfl (nlt rfl) rfl ⟨rfl, Nat.le_of_ble_eq_true rfl, Nat.le_of_ble_eq_true rfl⟩ rfl (jc.deep (c_good hI_M17  (fun t44_0 => ?_) (fun f44_0 => ?_)) (Nat.le_of_ble_eq_true rfl))
      · exfalso
        omega
      · refine jr.if_ne rfl rfl (by first | exact rgl rfl | omega) (fun h => absurd h (by decide)) (fun _ => ?_)
        have e74 : M17 598 72 = v10 := ((w17_10 72 (zne rfl) (zne rfl) (zne rfl) (zne rfl) (zne rfl) (zne rfl) (zne rfl) (zne rfl) (zne rfl) (zne rfl)).trans e19)
        obtain ⟨v76, e76⟩ : ∃ z, M17 598 73 = z := ⟨_, rfl⟩
        have b76 : 0 ≤ v76 ∧ v76 ≤ 1600 := by rw [← e76]; exact hI_M17 598 73 (Nat.le_of_ble_eq_true rfl)
        obtain ⟨v78, e78⟩ : ∃ z, M17 598 74 = z := ⟨_, rfl⟩
        have b78 : 0 ≤ v78 ∧ v78 ≤ 4 := by rw [← e78]; exact hI_M17 598 74 (Nat.le_of_ble_eq_true rfl)
        obtain ⟨v80, e80⟩ : ∃ z, M17 598 79 = z := ⟨_, rfl⟩
        have b80 : 0 ≤ v80 ∧ v80 ≤ 255 := by rw [← e80]; exact hI_M17 598 79 (Nat.le_of_ble_eq_true rfl)
        have e83 : M8 598 89 = v13 := ((w8_6 89 (zne rfl) (zne rfl) (zne rfl) (zne rfl) (zne rfl) (zne rfl) (zne rfl)).trans e13)
        have e84 : M17 598 89 = v13 := ((w17_10 89 (zne rfl) (zne rfl) (zne rfl) (zne rfl) (zne rfl) (zne rfl) (zne rfl) (zne rfl) (zne rfl) (zne rfl)).trans e83)
        obtain ⟨v86, e86⟩ : ∃ z, M 598 90 = z := ⟨_, rfl⟩
        have b86 : 0 ≤ v86 ∧ v86 ≤ 2200 := by rw [← e86]; exact hI_M 598 90 (Nat.le_of_ble_eq_true rfl)
        have e87 : M1 598 90 = v86 := ((w1_5 90 (zne rfl) (zne rfl) (zne rfl)).trans e86)
        have e88 : M8 598 90 = v86 := ((w8_6 90 (zne rfl) (zne rfl) (zne rfl) (zne rfl) (zne rfl) (zne rfl) (zne rfl)).trans e87)
        have e89 : M17 598 90 = v86 := ((w17_10 90 (zne rfl) (zne rfl) (zne rfl) (zne rfl) (zne rfl) (zne rfl) (zne rfl) (zne rfl) (zne rfl) (zne rfl)).trans e88)
        obtain ⟨v91, e91⟩ : ∃ z, M17 598 100 = z := ⟨_, rfl⟩
        have b91 : 0 ≤ v91 ∧ v91 ≤ 13 := by rw [← e91]; exact hI_M17 598 100 (Nat.le_of_ble_eq_true rfl)
        obtain ⟨v93, e93⟩ : ∃ z, M 598 107 = z := ⟨_, rfl⟩
        have b93 : 0 ≤ v93 ∧ v93 ≤ 16 := by rw [← e93]; exact hI_M 598 107 (Nat.le_of_ble_eq_true rfl)
        have e94 : M1 598 107 = v93 := ((w1_5 107 (zne rfl) (zne rfl) (zne rfl)).trans e93)
        have e95 : M8 598 107 = v93 := ((w8_6 107 (zne rfl) (zne rfl) (zne rfl) (zne rfl) (zne rfl) (zne rfl) (zne rfl)).trans e94)
        have e96 : M17 598 107 = v93 := ((w17_10 107 (zne rfl) (zne rfl) (zne rfl) (zne rfl) (zne rfl) (zne rfl) (zne rfl) (zne rfl) (zne rfl) (zne rfl)).trans e95)
        exact jr.vreturn rfl rfl (q _ hI_M17 hH_M17 hS_M17  (by by_cases hf : v73 = 0; (first | (exfalso; omega) | (exact Or.inr ⟨⟨by omega, ES.adj hE (k' := kk) (z' := 0) (by omega) (by omega) (by omega), by omega, by omega, by omega, by omega⟩, by omega⟩)); (exact Or.inl ⟨by omega, by omega⟩)) (by omega) (by omega) (by omega) (CP.f (CP.f (CP.f (CP.rfl _) (fun i => w1_4 659 i (nne rfl)) (w1_5 90 (zne rfl) (zne rfl) (zne rfl))) (fun i => w8_5 659 i (nne rfl)) (w8_6 90 (zne rfl) (zne rfl) (zne rfl) (zne rfl) (zne rfl) (zne rfl) (zne rfl))) (fun i => w17_9 659 i (nne rfl)) (w17_10 90 (zne rfl) (zne rfl) (zne rfl) (zne rfl) (zne rfl) (zne rfl) (zne rfl) (zne rfl) (zne rfl) (zne rfl))) (by omega) (fun a i f598 f659 f660 => ((w17_9 a i f598).trans ((w8_5 a i f598).trans ((w1_4 a i f598).trans rfl)))) (fun i g73 g74 g75 g76 g77 g78 g79 g80 g81 g89 g90 g100 => ((w17_10 i g73 g74 g75 g76 g77 g78 g79 g80 g81 g100).trans ((w8_6 i g73 g74 g75 g76 g77 g78 g79).trans ((w1_5 i g80 g81 g89).trans rfl)))))
  · refine jr.if_eq rfl rfl (by first | exact rgl rfl | omega) (fun _ => ?_) (fun h => absurd (by decide) h)
    refine jr.aload_n rfl rfl ?_
    refine jr.bipush rfl (jbp _ (nlt rfl)) ?_
    have e99 : M1 598 73 = v3 := ((w1_5 73 (zne rfl) (zne rfl) (zne rfl)).trans e3)
    obtain ⟨v100, e100⟩ : ∃ z, M 598 72 = z := ⟨_, rfl⟩
    have b100 : 0 ≤ v100 ∧ v100 ≤ 1600 := by rw [← e100]; exact hI_M 598 72 (Nat.le_of_ble_eq_true rfl)
    have e101 : M1 598 72 = v100 := ((w1_5 72 (zne rfl) (zne rfl) (zne rfl)).trans e100)
    obtain ⟨v102, e102⟩ : ∃ z, M1 598 80 = z := ⟨_, rfl⟩
    have b102 : 0 ≤ v102 ∧ v102 ≤ 7 := by rw [← e102]; exact hI_M1 598 80 (Nat.le_of_ble_eq_true rfl)
    have e103 : M1 598 100 = v6 := ((w1_5 100 (zne rfl) (zne rfl) (zne rfl)).trans e6)
    refine jr_v rfl rfl (Or.inl rfl) rfl rfl (nlt rfl) rfl ⟨rfl, Nat.le_of_ble_eq_true rfl, Nat.le_of_ble_eq_true rfl⟩ rfl (jc.deep (r_wantDeeper hI_M1 hH_M1 hS_M1  (by omega) (by rw [e99, e101]; omega) (by rw [e102, e103]; intro q; omega) (fun M98 hI_M98 hH_M98 hS_M98  w98_0 w98_1 w98_2 w98_3 w98_4 w98_5 w98_6 w98_7 w98_8 w98_9 w98_10 => ?_)) (Nat.le_of_ble_eq_true rfl))
    refine jr.aload_n rfl rfl ?_
    obtain ⟨v105, e105⟩ : ∃ z, M1 598 89 = z := ⟨_, rfl⟩
    have b105 : 0 ≤ v105 ∧ v105 ≤ 301 := by rw [← e105]; exact hI_M1 598 89 (Nat.le_of_ble_eq_true rfl)
    obtain ⟨v108, e108⟩ : ∃ z, M98 598 80 = z := ⟨_, rfl⟩
    have b108 : 0 ≤ v108 ∧ v108 ≤ 7 := by rw [← e108]; exact hI_M98 598 80 (Nat.le_of_ble_eq_true rfl)
    refine jr_v rfl rfl (Or.inl rfl) rfl rfl (nlt rfl) rfl ⟨rfl, Nat.le_of_ble_eq_true rfl, Nat.le_of_ble_eq_true rfl⟩ rfl (jc.deep (c_good hI_M98  (fun t22_0 => ?_) (fun f22_0 => ?_)) (Nat.le_of_ble_eq_true rfl))
    · have w98_0r := w98_0 t22_0
      have w98_4r := w98_4.resolve_right (fun z => z.1 t22_0)
      have w98_5r := Classical.byContradiction (fun z => w98_5 z t22_0)
      have w98_6r := w98_6 t22_0
      have w98_7r := w98_7 t22_0
      clear w98_0 w98_4 w98_5 w98_6 w98_7
      exfalso
      omega
    · refine jr.if_eq rfl rfl (by first | exact rgl rfl | omega) (fun _ => ?_) (fun h => absurd (by decide) h)
      refine jr.aload_n rfl rfl ?_
      refine jr_v rfl rfl (Or.inl rfl) rfl rfl (nlt rfl) rfl ⟨rfl, Nat.le_of_ble_eq_true rfl, Nat.le_of_ble_eq_true rfl⟩ rfl (jc.deep (c_good hI_M98  (fun t44_0 => ?_) (fun f44_0 => ?_)) (Nat.le_of_ble_eq_true rfl))
      · exfalso
        omega
      · refine jr.if_ne rfl rfl (by first | exact rgl rfl | omega) (fun h => absurd h (by decide)) (fun _ => ?_)
        have e109 : M98 598 72 = v100 := ((w98_10 72 (zne rfl) (zne rfl) (zne rfl) (zne rfl) (zne rfl) (zne rfl) (zne rfl) (zne rfl) (zne rfl) (zne rfl)).trans e101)
        obtain ⟨v111, e111⟩ : ∃ z, M98 598 73 = z := ⟨_, rfl⟩
        have b111 : 0 ≤ v111 ∧ v111 ≤ 1600 := by rw [← e111]; exact hI_M98 598 73 (Nat.le_of_ble_eq_true rfl)
        obtain ⟨v113, e113⟩ : ∃ z, M98 598 74 = z := ⟨_, rfl⟩
        have b113 : 0 ≤ v113 ∧ v113 ≤ 4 := by rw [← e113]; exact hI_M98 598 74 (Nat.le_of_ble_eq_true rfl)
        obtain ⟨v115, e115⟩ : ∃ z, M98 598 79 = z := ⟨_, rfl⟩
        have b115 : 0 ≤ v115 ∧ v115 ≤ 255 := by rw [← e115]; exact hI_M98 598 79 (Nat.le_of_ble_eq_true rfl)
        obtain ⟨v118, e118⟩ : ∃ z, M1 598 89 = z := ⟨_, rfl⟩
        have b118 : 0 ≤ v118 ∧ v118 ≤ 301 := by rw [← e118]; exact hI_M1 598 89 (Nat.le_of_ble_eq_true rfl)
        have e119 : M98 598 89 = v118 := ((w98_10 89 (zne rfl) (zne rfl) (zne rfl) (zne rfl) (zne rfl) (zne rfl) (zne rfl) (zne rfl) (zne rfl) (zne rfl)).trans e118)
        obtain ⟨v121, e121⟩ : ∃ z, M 598 90 = z := ⟨_, rfl⟩
        have b121 : 0 ≤ v121 ∧ v121 ≤ 2200 := by rw [← e121]; exact hI_M 598 90 (Nat.le_of_ble_eq_true rfl)
        have e122 : M1 598 90 = v121 := ((w1_5 90 (zne rfl) (zne rfl) (zne rfl)).trans e121)
        have e123 : M98 598 90 = v121 := ((w98_10 90 (zne rfl) (zne rfl) (zne rfl) (zne rfl) (zne rfl) (zne rfl) (zne rfl) (zne rfl) (zne rfl) (zne rfl)).trans e122)
        obtain ⟨v125, e125⟩ : ∃ z, M98 598 100 = z := ⟨_, rfl⟩
        have b125 : 0 ≤ v125 ∧ v125 ≤ 13 := by rw [← e125]; exact hI_M98 598 100 (Nat.le_of_ble_eq_true rfl)
        obtain ⟨v127, e127⟩ : ∃ z, M 598 107 = z := ⟨_, rfl⟩
        have b127 : 0 ≤ v127 ∧ v127 ≤ 16 := by rw [← e127]; exact hI_M 598 107 (Nat.le_of_ble_eq_true rfl)
        have e128 : M1 598 107 = v127 := ((w1_5 107 (zne rfl) (zne rfl) (zne rfl)).trans e127)
        have e129 : M98 598 107 = v127 := ((w98_10 107 (zne rfl) (zne rfl) (zne rfl) (zne rfl) (zne rfl) (zne rfl) (zne rfl) (zne rfl) (zne rfl) (zne rfl)).trans e128)
        exact jr.vreturn rfl rfl (q _ hI_M98 hH_M98 hS_M98  (by by_cases hf : v108 = 0; (first | (exfalso; omega) | (exact Or.inr ⟨⟨by omega, ES.adj hE (k' := kk) (z' := 0) (by omega) (by omega) (by omega), by omega, by omega, by omega, by omega⟩, by omega⟩)); (exact Or.inl ⟨by omega, by omega⟩)) (by omega) (by omega) (by omega) (CP.f (CP.f (CP.rfl _) (fun i => w1_4 659 i (nne rfl)) (w1_5 90 (zne rfl) (zne rfl) (zne rfl))) (fun i => w98_9 659 i (nne rfl)) (w98_10 90 (zne rfl) (zne rfl) (zne rfl) (zne rfl) (zne rfl) (zne rfl) (zne rfl) (zne rfl) (zne rfl) (zne rfl))) (by omega) (fun a i f598 f659 f660 => ((w98_9 a i f598).trans ((w1_4 a i f598).trans rfl))) (fun i g73 g74 g75 g76 g77 g78 g79 g80 g81 g89 g90 g100 => ((w98_10 i g73 g74 g75 g76 g77 g78 g79 g80 g81 g100).trans ((w1_5 i g80 g81 g89).trans rfl))))
theorem r_takeOperand_L195 {A : Nat → Option (Nat × (Nat → Int32))} {Q : Option Value → jm → Prop} {b kk : Int} {M0 : jm} (q : ∀ (r : Int) (M' : jm), RI M' → RH M' → RF M' → 0 ≤ r ∧ r ≤ 1 → (BS M' ∨ (GS M' b r kk ∧ TK M' < TK M0)) → TK M' ≤ TK M0 → M' 598 73 ≤ M' 598 72 → (M' 598 80 ≠ 0 ∨ TK M' < TK M0) → CP M0 M' → M0 598 89 ≤ M' 598 89 → (∀ (a : Nat) (i : Int), a ≠ 598 → a ≠ 659 → a ≠ 660 → a ≠ 664 → a ≠ 666 → a ≠ 667 → M' a i = M0 a i) → (∀ (i : Int), i ≠ 73 → i ≠ 74 → i ≠ 75 → i ≠ 76 → i ≠ 77 → i ≠ 78 → i ≠ 79 → i ≠ 80 → i ≠ 81 → i ≠ 89 → i ≠ 90 → i ≠ 100 → i ≠ 102 → M' 598 i = M0 598 i) → Q (some (.int (Int32.ofInt r))) M') : ∀ (M : jm) , RI M → RH M → RF M → (∀ (a : Nat) (i : Int), a ≠ 598 → a ≠ 659 → a ≠ 660 → a ≠ 664 → a ≠ 666 → a ≠ 667 → M a i = M0 a i) → (∀ (i : Int), i ≠ 73 → i ≠ 74 → i ≠ 75 → i ≠ 76 → i ≠ 77 → i ≠ 78 → i ≠ 79 → i ≠ 80 → i ≠ 81 → i ≠ 89 → i ≠ 90 → i ≠ 100 → i ≠ 102 → M 598 i = M0 598 i) → GS M b 0 kk → TK M = TK M0 → CP M0 M → M 598 89 = M0 598 89 → M 598 74 = 1 → 25 ≤ M 598 76 ∧ M 598 76 ≤ 30 → jr A 5 xm_360 195 [(0, .ref (598))] [] M Q := by
    intro M  hI_M hH_M hS_M hF_M hG_M  hy0 hy1 hy2 hy3 hy4 hy5
    have p0 := hy0
    have hCP := hy2
    obtain ⟨gs1, gs2, gs3, gs4, gs5, gs6⟩ := id hy0
    have hE := gs2
    have sl := ES.sgle gs2
    have bb := ES.bb gs2
    have kb := ES.kz gs2
    have b107 : (0 : Int) ≤ M 598 107 ∧ M 598 107 ≤ 16 := hI_M 598 107 (Nat.le_of_ble_eq_true rfl)
    have b73 : (0 : Int) ≤ M 598 73 ∧ M 598 73 ≤ 1600 := hI_M 598 73 (Nat.le_of_ble_eq_true rfl)
    have b88 : (0 : Int) ≤ M 598 88 ∧ M 598 88 ≤ 16 := hI_M 598 88 (Nat.le_of_ble_eq_true rfl)
    have b100 : (0 : Int) ≤ M 598 100 ∧ M 598 100 ≤ 13 := hI_M 598 100 (Nat.le_of_ble_eq_true rfl)
    refine jr.aload_n rfl rfl ?_
    obtain ⟨v1, e1⟩ : ∃ z, M 598 76 = z := ⟨_, rfl⟩
    have b1 : (-1) ≤ v1 ∧ v1 ≤ 68 := by rw [← e1]; exact hI_M 598 76 (Nat.le_of_ble_eq_true rfl)
    refine jr.getf (i := 76) (x := v1) (v := .int (Int32.ofInt (v1))) rfl rfl (nlt rfl) rfl (nlt rfl) rfl rfl e1 rfl ?_
    refine jr.istore_n (ls' := [_, _]) rfl (nlt rfl) rfl ?_
    refine jr.aload_n rfl rfl ?_
    obtain ⟨v3, e3⟩ : ∃ z, M 598 89 = z := ⟨_, rfl⟩
    have b3 : 0 ≤ v3 ∧ v3 ≤ 301 := by rw [← e3]; exact hI_M 598 89 (Nat.le_of_ble_eq_true rfl)
    obtain ⟨v4, e4⟩ : ∃ z, M 598 73 = z := ⟨_, rfl⟩
    have b4 : 0 ≤ v4 ∧ v4 ≤ 1600 := by rw [← e4]; exact hI_M 598 73 (Nat.le_of_ble_eq_true rfl)
    obtain ⟨v7, e7⟩ : ∃ z, M 598 100 = z := ⟨_, rfl⟩
    have b7 : 0 ≤ v7 ∧ v7 ≤ 13 := by rw [← e7]; exact hI_M 598 100 (Nat.le_of_ble_eq_true rfl)
    refine jr_v rfl rfl (Or.inl rfl) rfl rfl (nlt rfl) rfl ⟨rfl, Nat.le_of_ble_eq_true rfl, Nat.le_of_ble_eq_true rfl⟩ rfl (jc.deep (r_node hI_M hH_M hS_M   (by rw [e3]; omega) (fun M2 hI_M2 hH_M2 hS_M2  w2_0 w2_1 w2_2 w2_3 w2_4 w2_5 => ?_)) (Nat.le_of_ble_eq_true rfl))
    have tk2 : TK M2 = TK M := TK.fr (w2_5 73 (zne rfl) (zne rfl) (zne rfl)) (w2_5 74 (zne rfl) (zne rfl) (zne rfl))
    have x2_73 := w2_5 73 (zne rfl) (zne rfl) (zne rfl)
    have x2_100 := w2_5 100 (zne rfl) (zne rfl) (zne rfl)
    have hE := ES.fr2 hE w2_4 (w2_5 88 (zne rfl) (zne rfl) (zne rfl)) (w2_5 90 (zne rfl) (zne rfl) (zne rfl)) (w2_5 101 (zne rfl) (zne rfl) (zne rfl)) (w2_5 102 (zne rfl) (zne rfl) (zne rfl)) (w2_5 107 (zne rfl) (zne rfl) (zne rfl)) (k' := kk + 4) (d' := 0) (z' := 0) (by omega) (by omega) (by omega) (by omega)
    refine jr.aload_n rfl rfl ?_
    refine jr_v rfl rfl (Or.inl rfl) rfl rfl (nlt rfl) rfl ⟨rfl, Nat.le_of_ble_eq_true rfl, Nat.le_of_ble_eq_true rfl⟩ rfl (jc.deep (c_good hI_M2  (fun t205_0 => ?_) (fun f205_0 => ?_)) (Nat.le_of_ble_eq_true rfl))
    · have w2_1r := Classical.byContradiction (fun z => w2_1 z t205_0)
      have w2_2r := w2_2 t205_0
      clear w2_1 w2_2 w2_3
      refine jr.if_eq rfl rfl (by first | exact rgl rfl | omega) (fun h => absurd h (by decide)) (fun _ => ?_)
      refine jr.aload_n rfl rfl ?_
      have e10 : M2 598 73 = v4 := ((w2_5 73 (zne rfl) (zne rfl) (zne rfl)).trans e4)
      obtain ⟨v11, e11⟩ : ∃ z, M 598 72 = z := ⟨_, rfl⟩
      have b11 : 0 ≤ v11 ∧ v11 ≤ 1600 := by rw [← e11]; exact hI_M 598 72 (Nat.le_of_ble_eq_true rfl)
      have e12 : M2 598 72 = v11 := ((w2_5 72 (zne rfl) (zne rfl) (zne rfl)).trans e11)
      obtain ⟨v14, e14⟩ : ∃ z, M2 598 89 = z := ⟨_, rfl⟩
      have b14 : 0 ≤ v14 ∧ v14 ≤ 301 := by rw [← e14]; exact hI_M2 598 89 (Nat.le_of_ble_eq_true rfl)
      have e16 : M2 598 100 = v7 := ((w2_5 100 (zne rfl) (zne rfl) (zne rfl)).trans e7)
      refine jr_v rfl rfl (Or.inl rfl) rfl rfl (nlt rfl) rfl ⟨rfl, Nat.le_of_ble_eq_true rfl, Nat.le_of_ble_eq_true rfl⟩ rfl (jc.deep (r_next hI_M2 hH_M2 hS_M2   (by rw [e10, e12]; omega) (fun M9 hI_M9 hH_M9 hS_M9  w9_0 w9_1 w9_2 w9_3 w9_4 w9_5 w9_6 => ?_)) (Nat.le_of_ble_eq_true rfl))
      have x9_89 := w9_6 89 (zne rfl) (zne rfl) (zne rfl) (zne rfl) (zne rfl) (zne rfl) (zne rfl)
      have x9_100 := w9_6 100 (zne rfl) (zne rfl) (zne rfl) (zne rfl) (zne rfl) (zne rfl) (zne rfl)
      have hE := ES.fr2 hE w9_5 (w9_6 88 (zne rfl) (zne rfl) (zne rfl) (zne rfl) (zne rfl) (zne rfl) (zne rfl)) (w9_6 90 (zne rfl) (zne rfl) (zne rfl) (zne rfl) (zne rfl) (zne rfl) (zne rfl)) (w9_6 101 (zne rfl) (zne rfl) (zne rfl) (zne rfl) (zne rfl) (zne rfl) (zne rfl)) (w9_6 102 (zne rfl) (zne rfl) (zne rfl) (zne rfl) (zne rfl) (zne rfl) (zne rfl)) (w9_6 107 (zne rfl) (zne rfl) (zne rfl) (zne rfl) (zne rfl) (zne rfl) (zne rfl)) (k' := kk + 4) (d' := 0) (z' := 0) (by omega) (by omega) (by omega) (by omega)
      refine jr.aload_n rfl rfl ?_
      refine jr.bipush rfl (jbp _ (nlt rfl)) ?_
      refine jr.iload_n rfl rfl ?_
      obtain ⟨v18, e18⟩ : ∃ z, M 598 102 = z := ⟨_, rfl⟩
      have b18 : 0 ≤ v18 ∧ v18 ≤ 400 := by rw [← e18]; exact hI_M 598 102 (Nat.le_of_ble_eq_true rfl)
      have e19 : M2 598 102 = v18 := ((w2_5 102 (zne rfl) (zne rfl) (zne rfl)).trans e18)
      have e20 : M9 598 102 = v18 := ((w9_6 102 (zne rfl) (zne rfl) (zne rfl) (zne rfl) (zne rfl) (zne rfl) (zne rfl)).trans e19)
      refine jr_v rfl rfl (Or.inl rfl) rfl rfl (nlt rfl) rfl ⟨rfl, Nat.le_of_ble_eq_true rfl, Nat.le_of_ble_eq_true rfl⟩ rfl (jc.deep (r_push e20 (by omega) (by omega) (by omega) ?_) (Nat.le_of_ble_eq_true rfl))
      have hE := ES.deep hE e20 40 v1 1 (kk + 2) (by omega) (by omega) (by omega)
      refine jr.aload_n rfl rfl ?_
      refine jr.bipush rfl (jbp _ (nlt rfl)) ?_
      obtain ⟨v22, e22⟩ : ∃ z, M9 598 73 = z := ⟨_, rfl⟩
      have b22 : 0 ≤ v22 ∧ v22 ≤ 1600 := by rw [← e22]; exact hI_M9 598 73 (Nat.le_of_ble_eq_true rfl)
      have e23 : M9 598 72 = v11 := ((w9_6 72 (zne rfl) (zne rfl) (zne rfl) (zne rfl) (zne rfl) (zne rfl) (zne rfl)).trans e12)
      obtain ⟨v24, e24⟩ : ∃ z, M2 598 80 = z := ⟨_, rfl⟩
      have b24 : 0 ≤ v24 ∧ v24 ≤ 7 := by rw [← e24]; exact hI_M2 598 80 (Nat.le_of_ble_eq_true rfl)
      have e25 : M9 598 80 = v24 := ((w9_6 80 (zne rfl) (zne rfl) (zne rfl) (zne rfl) (zne rfl) (zne rfl) (zne rfl)).trans e24)
      have e26 : M9 598 100 = v7 := ((w9_6 100 (zne rfl) (zne rfl) (zne rfl) (zne rfl) (zne rfl) (zne rfl) (zne rfl)).trans e16)
      obtain ⟨v28, e28⟩ : ∃ z, M9 598 74 = z := ⟨_, rfl⟩
      have b28 : 0 ≤ v28 ∧ v28 ≤ 4 := by rw [← e28]; exact hI_M9 598 74 (Nat.le_of_ble_eq_true rfl)
      obtain ⟨v30, e30⟩ : ∃ z, M9 598 79 = z := ⟨_, rfl⟩
      have b30 : 0 ≤ v30 ∧ v30 ≤ 255 := by rw [← e30]; exact hI_M9 598 79 (Nat.le_of_ble_eq_true rfl)
      refine jr_v rfl rfl (Or.inl rfl) rfl rfl (nlt rfl) rfl ⟨rfl, Nat.le_of_ble_eq_true rfl, Nat.le_of_ble_eq_true rfl⟩ rfl (jc.deep (r_wantDeeper (RI.u (RI.u (RI.u (RI.u hI_M9 (a := 664) (i := v18) (by rw [xri_row rfl rfl]; show (0 : Int) ≤ _ ∧ _ ≤ (255 : Int); omega)) (a := 666) (i := v18) (by rw [xri_row rfl rfl]; show (-1 : Int) ≤ _ ∧ _ ≤ (68 : Int); omega)) (a := 667) (i := v18) (by rw [xri_row rfl rfl]; show (0 : Int) ≤ _ ∧ _ ≤ (4 : Int); omega)) (a := 598) (i := 102) (show (0 : Int) ≤ _ ∧ _ ≤ (400 : Int) from by omega)) (RH.o (RH.o (RH.o (RH.o hH_M9 (by decide) (by decide) (by decide)) (by decide) (by decide) (by decide)) (by decide) (by decide) (by decide)) (by decide) (by decide) (by decide)) (RF.o (RF.o (RF.o (RF.o hS_M9 (by decide) (by decide)) (by decide) (by decide)) (by decide) (by decide)) (by decide) (by decide))  (by omega) (by rw [((ju_i _ _ (zne (by decide))).trans ((ju_c _ _ (by decide)).trans ((ju_c _ _ (by decide)).trans ((ju_c _ _ (by decide)).trans e22)))), ((ju_i _ _ (zne (by decide))).trans ((ju_c _ _ (by decide)).trans ((ju_c _ _ (by decide)).trans ((ju_c _ _ (by decide)).trans e23))))]; omega) (by rw [((ju_i _ _ (zne (by decide))).trans ((ju_c _ _ (by decide)).trans ((ju_c _ _ (by decide)).trans ((ju_c _ _ (by decide)).trans e25)))), ((ju_i _ _ (zne (by decide))).trans ((ju_c _ _ (by decide)).trans ((ju_c _ _ (by decide)).trans ((ju_c _ _ (by decide)).trans e26))))]; intro q; omega) (fun M21 hI_M21 hH_M21 hS_M21  w21_0 w21_1 w21_2 w21_3 w21_4 w21_5 w21_6 w21_7 w21_8 w21_9 w21_10 => ?_)) (Nat.le_of_ble_eq_true rfl))
      have y27 : (ju (ju (ju (ju M9 664 v18 40) 666 v18 v1) 667 v18 1) 598 102 (v18 + 1)) 598 73 = v22 := ((ju_i _ _ (zne (by decide))).trans ((ju_c _ _ (by decide)).trans ((ju_c _ _ (by decide)).trans ((ju_c _ _ (by decide)).trans e22))))
      have y29 : (ju (ju (ju (ju M9 664 v18 40) 666 v18 v1) 667 v18 1) 598 102 (v18 + 1)) 598 74 = v28 := ((ju_i _ _ (zne (by decide))).trans ((ju_c _ _ (by decide)).trans ((ju_c _ _ (by decide)).trans ((ju_c _ _ (by decide)).trans e28))))
      have y31 : (ju (ju (ju (ju M9 664 v18 40) 666 v18 v1) 667 v18 1) 598 102 (v18 + 1)) 598 79 = v30 := ((ju_i _ _ (zne (by decide))).trans ((ju_c _ _ (by decide)).trans ((ju_c _ _ (by decide)).trans ((ju_c _ _ (by decide)).trans e30))))
      have y32 : (ju (ju (ju (ju M9 664 v18 40) 666 v18 v1) 667 v18 1) 598 102 (v18 + 1)) 598 80 = v24 := ((ju_i _ _ (zne (by decide))).trans ((ju_c _ _ (by decide)).trans ((ju_c _ _ (by decide)).trans ((ju_c _ _ (by decide)).trans e25))))
      have y33 : (ju (ju (ju (ju M9 664 v18 40) 666 v18 v1) 667 v18 1) 598 102 (v18 + 1)) 598 100 = v7 := ((ju_i _ _ (zne (by decide))).trans ((ju_c _ _ (by decide)).trans ((ju_c _ _ (by decide)).trans ((ju_c _ _ (by decide)).trans e26))))
      have tb21 : TK (ju (ju (ju (ju M9 664 v18 40) 666 v18 v1) 667 v18 1) 598 102 (v18 + 1)) = TK M9 := ((TK.o (Or.inr ⟨by decide, by decide⟩)).trans ((TK.o (Or.inl (by decide))).trans ((TK.o (Or.inl (by decide))).trans ((TK.o (Or.inl (by decide))).trans rfl))))
      refine jr.iconst rfl ?_
      have e34 : M21 598 72 = v11 := ((w21_10 72 (zne rfl) (zne rfl) (zne rfl) (zne rfl) (zne rfl) (zne rfl) (zne rfl) (zne rfl) (zne rfl) (zne rfl)).trans ((ju_i _ _ (zne (by decide))).trans ((ju_c _ _ (by decide)).trans ((ju_c _ _ (by decide)).trans ((ju_c _ _ (by decide)).trans e23)))))
      obtain ⟨v36, e36⟩ : ∃ z, M21 598 73 = z := ⟨_, rfl⟩
      have b36 : 0 ≤ v36 ∧ v36 ≤ 1600 := by rw [← e36]; exact hI_M21 598 73 (Nat.le_of_ble_eq_true rfl)
      obtain ⟨v38, e38⟩ : ∃ z, M21 598 74 = z := ⟨_, rfl⟩
      have b38 : 0 ≤ v38 ∧ v38 ≤ 4 := by rw [← e38]; exact hI_M21 598 74 (Nat.le_of_ble_eq_true rfl)
      obtain ⟨v40, e40⟩ : ∃ z, M21 598 79 = z := ⟨_, rfl⟩
      have b40 : 0 ≤ v40 ∧ v40 ≤ 255 := by rw [← e40]; exact hI_M21 598 79 (Nat.le_of_ble_eq_true rfl)
      obtain ⟨v42, e42⟩ : ∃ z, M21 598 80 = z := ⟨_, rfl⟩
      have b42 : 0 ≤ v42 ∧ v42 ≤ 7 := by rw [← e42]; exact hI_M21 598 80 (Nat.le_of_ble_eq_true rfl)
      have e44 : M9 598 89 = v14 := ((w9_6 89 (zne rfl) (zne rfl) (zne rfl) (zne rfl) (zne rfl) (zne rfl) (zne rfl)).trans e14)
      have e45 : M21 598 89 = v14 := ((w21_10 89 (zne rfl) (zne rfl) (zne rfl) (zne rfl) (zne rfl) (zne rfl) (zne rfl) (zne rfl) (zne rfl) (zne rfl)).trans ((ju_i _ _ (zne (by decide))).trans ((ju_c _ _ (by decide)).trans ((ju_c _ _ (by decide)).trans ((ju_c _ _ (by decide)).trans e44)))))
      obtain ⟨v47, e47⟩ : ∃ z, M 598 90 = z := ⟨_, rfl⟩
      have b47 : 0 ≤ v47 ∧ v47 ≤ 2200 := by rw [← e47]; exact hI_M 598 90 (Nat.le_of_ble_eq_true rfl)
      have e48 : M2 598 90 = v47 := ((w2_5 90 (zne rfl) (zne rfl) (zne rfl)).trans e47)
      have e49 : M9 598 90 = v47 := ((w9_6 90 (zne rfl) (zne rfl) (zne rfl) (zne rfl) (zne rfl) (zne rfl) (zne rfl)).trans e48)
      have e50 : M21 598 90 = v47 := ((w21_10 90 (zne rfl) (zne rfl) (zne rfl) (zne rfl) (zne rfl) (zne rfl) (zne rfl) (zne rfl) (zne rfl) (zne rfl)).trans ((ju_i _ _ (zne (by decide))).trans ((ju_c _ _ (by decide)).trans ((ju_c _ _ (by decide)).trans ((ju_c _ _ (by decide)).trans e49)))))
      obtain ⟨v52, e52⟩ : ∃ z, M21 598 100 = z := ⟨_, rfl⟩
      have b52 : 0 ≤ v52 ∧ v52 ≤ 13 := by rw [← e52]; exact hI_M21 598 100 (Nat.le_of_ble_eq_true rfl)
      obtain ⟨v54, e54⟩ : ∃ z, M 598 107 = z := ⟨_, rfl⟩
      have b54 : 0 ≤ v54 ∧ v54 ≤ 16 := by rw [← e54]; exact hI_M 598 107 (Nat.le_of_ble_eq_true rfl)
      have e55 : M2 598 107 = v54 := ((w2_5 107 (zne rfl) (zne rfl) (zne rfl)).trans e54)
      have e56 : M9 598 107 = v54 := ((w9_6 107 (zne rfl) (zne rfl) (zne rfl) (zne rfl) (zne rfl) (zne rfl) (zne rfl)).trans e55)
      have e57 : M21 598 107 = v54 := ((w21_10 107 (zne rfl) (zne rfl) (zne rfl) (zne rfl) (zne rfl) (zne rfl) (zne rfl) (zne rfl) (zne rfl) (zne rfl)).trans ((ju_i _ _ (zne (by decide))).trans ((ju_c _ _ (by decide)).trans ((ju_c _ _ (by decide)).trans ((ju_c _ _ (by decide)).trans e56)))))
      have e60 : M9 598 89 = v14 := ((w9_6 89 (zne rfl) (zne rfl) (zne rfl) (zne rfl) (zne rfl) (zne rfl) (zne rfl)).trans e14)
      exact jr.ireturn rfl rfl rfl (q _ _ hI_M21 hH_M21 hS_M21  (by omega) (by by_cases hf : v42 = 0; (first | (have y59 : (ju (ju (ju (ju M9 664 v18 40) 666 v18 v1) 667 v18 1) 598 102 (v18 + 1)) 598 73 = v22 := ((ju_i _ _ (zne (by decide))).trans ((ju_c _ _ (by decide)).trans ((ju_c _ _ (by decide)).trans ((ju_c _ _ (by decide)).trans e22)))); have y61 : (ju (ju (ju (ju M9 664 v18 40) 666 v18 v1) 667 v18 1) 598 102 (v18 + 1)) 598 89 = v14 := ((ju_i _ _ (zne (by decide))).trans ((ju_c _ _ (by decide)).trans ((ju_c _ _ (by decide)).trans ((ju_c _ _ (by decide)).trans e60)))); have y62 : (ju (ju (ju (ju M9 664 v18 40) 666 v18 v1) 667 v18 1) 598 102 (v18 + 1)) 598 100 = v7 := ((ju_i _ _ (zne (by decide))).trans ((ju_c _ _ (by decide)).trans ((ju_c _ _ (by decide)).trans ((ju_c _ _ (by decide)).trans e26)))); have x21_89 := w21_10 89 (zne rfl) (zne rfl) (zne rfl) (zne rfl) (zne rfl) (zne rfl) (zne rfl) (zne rfl) (zne rfl) (zne rfl); have hE := ES.fr2 hE w21_9 (w21_10 88 (zne rfl) (zne rfl) (zne rfl) (zne rfl) (zne rfl) (zne rfl) (zne rfl) (zne rfl) (zne rfl) (zne rfl)) (w21_10 90 (zne rfl) (zne rfl) (zne rfl) (zne rfl) (zne rfl) (zne rfl) (zne rfl) (zne rfl) (zne rfl) (zne rfl)) (w21_10 101 (zne rfl) (zne rfl) (zne rfl) (zne rfl) (zne rfl) (zne rfl) (zne rfl) (zne rfl) (zne rfl) (zne rfl)) (w21_10 102 (zne rfl) (zne rfl) (zne rfl) (zne rfl) (zne rfl) (zne rfl) (zne rfl) (zne rfl) (zne rfl) (zne rfl)) (w21_10 107 (zne rfl) (zne rfl) (zne rfl) (zne rfl) (zne rfl) (zne rfl) (zne rfl) (zne rfl) (zne rfl) (zne rfl)) (k' := kk + 2) (d' := 0) (z' := 0) (by omega) (by omega) (by omega) (by omega); exact Or.inr ⟨⟨by omega, ES.adj hE (k' := kk) (z' := 0) (by omega) (by omega) (by omega), by omega, by omega, by omega, by omega⟩, by omega⟩) | (exfalso; omega)); (exact Or.inl ⟨by omega, by omega⟩)) (by omega) (by omega) (by omega) (CP.f (CP.o (CP.o (CP.o (CP.o (CP.f (CP.f hCP (fun i => w2_4 659 i (nne rfl)) (w2_5 90 (zne rfl) (zne rfl) (zne rfl))) (fun i => w9_5 659 i (nne rfl)) (w9_6 90 (zne rfl) (zne rfl) (zne rfl) (zne rfl) (zne rfl) (zne rfl) (zne rfl))) (by decide) (Or.inl (by decide))) (by decide) (Or.inl (by decide))) (by decide) (Or.inl (by decide))) (by decide) (Or.inr (by decide))) (fun i => w21_9 659 i (nne rfl)) (w21_10 90 (zne rfl) (zne rfl) (zne rfl) (zne rfl) (zne rfl) (zne rfl) (zne rfl) (zne rfl) (zne rfl) (zne rfl))) (by omega) (fun a i f598 f659 f660 f664 f666 f667 => ((w21_9 a i f598).trans ((ju_c _ _ f598).trans ((ju_c _ _ f667).trans ((ju_c _ _ f666).trans ((ju_c _ _ f664).trans ((w9_5 a i f598).trans ((w2_4 a i f598).trans (hF_M a i f598 f659 f660 f664 f666 f667))))))))) (fun i g73 g74 g75 g76 g77 g78 g79 g80 g81 g89 g90 g100 g102 => ((w21_10 i g73 g74 g75 g76 g77 g78 g79 g80 g81 g100).trans ((ju_i _ _ g102).trans ((ju_c _ _ (by decide)).trans ((ju_c _ _ (by decide)).trans ((ju_c _ _ (by decide)).trans ((w9_6 i g73 g74 g75 g76 g77 g78 g79).trans ((w2_5 i g80 g81 g89).trans (hG_M i g73 g74 g75 g76 g77 g78 g79 g80 g81 g89 g90 g100 g102))))))))))
    · refine jr.if_eq rfl rfl (by first | exact rgl rfl | omega) (fun _ => ?_) (fun h => absurd (by decide) h)
      refine jr.aload_n rfl rfl ?_
      refine jr.bipush rfl (jbp _ (nlt rfl)) ?_
      refine jr.iload_n rfl rfl ?_
      obtain ⟨v63, e63⟩ : ∃ z, M 598 102 = z := ⟨_, rfl⟩
      have b63 : 0 ≤ v63 ∧ v63 ≤ 400 := by rw [← e63]; exact hI_M 598 102 (Nat.le_of_ble_eq_true rfl)
      have e64 : M2 598 102 = v63 := ((w2_5 102 (zne rfl) (zne rfl) (zne rfl)).trans e63)
      refine jr_v rfl rfl (Or.inl rfl) rfl rfl (nlt rfl) rfl ⟨rfl, Nat.le_of_ble_eq_true rfl, Nat.le_of_ble_eq_true rfl⟩ rfl (jc.deep (r_push e64 (by omega) (by omega) (by omega) ?_) (Nat.le_of_ble_eq_true rfl))
      have hE := ES.deep hE e64 40 v1 1 (kk + 2) (by omega) (by omega) (by omega)
      refine jr.aload_n rfl rfl ?_
      refine jr.bipush rfl (jbp _ (nlt rfl)) ?_
      have e66 : M2 598 73 = v4 := ((w2_5 73 (zne rfl) (zne rfl) (zne rfl)).trans e4)
      obtain ⟨v67, e67⟩ : ∃ z, M 598 72 = z := ⟨_, rfl⟩
      have b67 : 0 ≤ v67 ∧ v67 ≤ 1600 := by rw [← e67]; exact hI_M 598 72 (Nat.le_of_ble_eq_true rfl)
      have e68 : M2 598 72 = v67 := ((w2_5 72 (zne rfl) (zne rfl) (zne rfl)).trans e67)
      obtain ⟨v69, e69⟩ : ∃ z, M2 598 80 = z := ⟨_, rfl⟩
      have b69 : 0 ≤ v69 ∧ v69 ≤ 7 := by rw [← e69]; exact hI_M2 598 80 (Nat.le_of_ble_eq_true rfl)
      have e70 : M2 598 100 = v7 := ((w2_5 100 (zne rfl) (zne rfl) (zne rfl)).trans e7)
      obtain ⟨v72, e72⟩ : ∃ z, M 598 74 = z := ⟨_, rfl⟩
      have b72 : 0 ≤ v72 ∧ v72 ≤ 4 := by rw [← e72]; exact hI_M 598 74 (Nat.le_of_ble_eq_true rfl)
      have e73 : M2 598 74 = v72 := ((w2_5 74 (zne rfl) (zne rfl) (zne rfl)).trans e72)
      obtain ⟨v75, e75⟩ : ∃ z, M 598 79 = z := ⟨_, rfl⟩
      have b75 : 0 ≤ v75 ∧ v75 ≤ 255 := by rw [← e75]; exact hI_M 598 79 (Nat.le_of_ble_eq_true rfl)
      have e76 : M2 598 79 = v75 := ((w2_5 79 (zne rfl) (zne rfl) (zne rfl)).trans e75)
      refine jr_v rfl rfl (Or.inl rfl) rfl rfl (nlt rfl) rfl ⟨rfl, Nat.le_of_ble_eq_true rfl, Nat.le_of_ble_eq_true rfl⟩ rfl (jc.deep (r_wantDeeper (RI.u (RI.u (RI.u (RI.u hI_M2 (a := 664) (i := v63) (by rw [xri_row rfl rfl]; show (0 : Int) ≤ _ ∧ _ ≤ (255 : Int); omega)) (a := 666) (i := v63) (by rw [xri_row rfl rfl]; show (-1 : Int) ≤ _ ∧ _ ≤ (68 : Int); omega)) (a := 667) (i := v63) (by rw [xri_row rfl rfl]; show (0 : Int) ≤ _ ∧ _ ≤ (4 : Int); omega)) (a := 598) (i := 102) (show (0 : Int) ≤ _ ∧ _ ≤ (400 : Int) from by omega)) (RH.o (RH.o (RH.o (RH.o hH_M2 (by decide) (by decide) (by decide)) (by decide) (by decide) (by decide)) (by decide) (by decide) (by decide)) (by decide) (by decide) (by decide)) (RF.o (RF.o (RF.o (RF.o hS_M2 (by decide) (by decide)) (by decide) (by decide)) (by decide) (by decide)) (by decide) (by decide))  (by omega) (by rw [((ju_i _ _ (zne (by decide))).trans ((ju_c _ _ (by decide)).trans ((ju_c _ _ (by decide)).trans ((ju_c _ _ (by decide)).trans e66)))), ((ju_i _ _ (zne (by decide))).trans ((ju_c _ _ (by decide)).trans ((ju_c _ _ (by decide)).trans ((ju_c _ _ (by decide)).trans e68))))]; omega) (by rw [((ju_i _ _ (zne (by decide))).trans ((ju_c _ _ (by decide)).trans ((ju_c _ _ (by decide)).trans ((ju_c _ _ (by decide)).trans e69)))), ((ju_i _ _ (zne (by decide))).trans ((ju_c _ _ (by decide)).trans ((ju_c _ _ (by decide)).trans ((ju_c _ _ (by decide)).trans e70))))]; intro q; omega) (fun M65 hI_M65 hH_M65 hS_M65  w65_0 w65_1 w65_2 w65_3 w65_4 w65_5 w65_6 w65_7 w65_8 w65_9 w65_10 => ?_)) (Nat.le_of_ble_eq_true rfl))
      have y71 : (ju (ju (ju (ju M2 664 v63 40) 666 v63 v1) 667 v63 1) 598 102 (v63 + 1)) 598 73 = v4 := ((ju_i _ _ (zne (by decide))).trans ((ju_c _ _ (by decide)).trans ((ju_c _ _ (by decide)).trans ((ju_c _ _ (by decide)).trans e66))))
      have y74 : (ju (ju (ju (ju M2 664 v63 40) 666 v63 v1) 667 v63 1) 598 102 (v63 + 1)) 598 74 = v72 := ((ju_i _ _ (zne (by decide))).trans ((ju_c _ _ (by decide)).trans ((ju_c _ _ (by decide)).trans ((ju_c _ _ (by decide)).trans e73))))
      have y77 : (ju (ju (ju (ju M2 664 v63 40) 666 v63 v1) 667 v63 1) 598 102 (v63 + 1)) 598 79 = v75 := ((ju_i _ _ (zne (by decide))).trans ((ju_c _ _ (by decide)).trans ((ju_c _ _ (by decide)).trans ((ju_c _ _ (by decide)).trans e76))))
      have y78 : (ju (ju (ju (ju M2 664 v63 40) 666 v63 v1) 667 v63 1) 598 102 (v63 + 1)) 598 80 = v69 := ((ju_i _ _ (zne (by decide))).trans ((ju_c _ _ (by decide)).trans ((ju_c _ _ (by decide)).trans ((ju_c _ _ (by decide)).trans e69))))
      have y79 : (ju (ju (ju (ju M2 664 v63 40) 666 v63 v1) 667 v63 1) 598 102 (v63 + 1)) 598 100 = v7 := ((ju_i _ _ (zne (by decide))).trans ((ju_c _ _ (by decide)).trans ((ju_c _ _ (by decide)).trans ((ju_c _ _ (by decide)).trans e70))))
      have tb65 : TK (ju (ju (ju (ju M2 664 v63 40) 666 v63 v1) 667 v63 1) 598 102 (v63 + 1)) = TK M2 := ((TK.o (Or.inr ⟨by decide, by decide⟩)).trans ((TK.o (Or.inl (by decide))).trans ((TK.o (Or.inl (by decide))).trans ((TK.o (Or.inl (by decide))).trans rfl))))
      refine jr.iconst rfl ?_
      have e80 : M65 598 72 = v67 := ((w65_10 72 (zne rfl) (zne rfl) (zne rfl) (zne rfl) (zne rfl) (zne rfl) (zne rfl) (zne rfl) (zne rfl) (zne rfl)).trans ((ju_i _ _ (zne (by decide))).trans ((ju_c _ _ (by decide)).trans ((ju_c _ _ (by decide)).trans ((ju_c _ _ (by decide)).trans e68)))))
      obtain ⟨v82, e82⟩ : ∃ z, M65 598 73 = z := ⟨_, rfl⟩
      have b82 : 0 ≤ v82 ∧ v82 ≤ 1600 := by rw [← e82]; exact hI_M65 598 73 (Nat.le_of_ble_eq_true rfl)
      obtain ⟨v84, e84⟩ : ∃ z, M65 598 74 = z := ⟨_, rfl⟩
      have b84 : 0 ≤ v84 ∧ v84 ≤ 4 := by rw [← e84]; exact hI_M65 598 74 (Nat.le_of_ble_eq_true rfl)
      obtain ⟨v86, e86⟩ : ∃ z, M65 598 79 = z := ⟨_, rfl⟩
      have b86 : 0 ≤ v86 ∧ v86 ≤ 255 := by rw [← e86]; exact hI_M65 598 79 (Nat.le_of_ble_eq_true rfl)
      obtain ⟨v88, e88⟩ : ∃ z, M65 598 80 = z := ⟨_, rfl⟩
      have b88 : 0 ≤ v88 ∧ v88 ≤ 7 := by rw [← e88]; exact hI_M65 598 80 (Nat.le_of_ble_eq_true rfl)
      obtain ⟨v90, e90⟩ : ∃ z, M2 598 89 = z := ⟨_, rfl⟩
      have b90 : 0 ≤ v90 ∧ v90 ≤ 301 := by rw [← e90]; exact hI_M2 598 89 (Nat.le_of_ble_eq_true rfl)
      have e91 : M65 598 89 = v90 := ((w65_10 89 (zne rfl) (zne rfl) (zne rfl) (zne rfl) (zne rfl) (zne rfl) (zne rfl) (zne rfl) (zne rfl) (zne rfl)).trans ((ju_i _ _ (zne (by decide))).trans ((ju_c _ _ (by decide)).trans ((ju_c _ _ (by decide)).trans ((ju_c _ _ (by decide)).trans e90)))))
      obtain ⟨v93, e93⟩ : ∃ z, M 598 90 = z := ⟨_, rfl⟩
      have b93 : 0 ≤ v93 ∧ v93 ≤ 2200 := by rw [← e93]; exact hI_M 598 90 (Nat.le_of_ble_eq_true rfl)
      have e94 : M2 598 90 = v93 := ((w2_5 90 (zne rfl) (zne rfl) (zne rfl)).trans e93)
      have e95 : M65 598 90 = v93 := ((w65_10 90 (zne rfl) (zne rfl) (zne rfl) (zne rfl) (zne rfl) (zne rfl) (zne rfl) (zne rfl) (zne rfl) (zne rfl)).trans ((ju_i _ _ (zne (by decide))).trans ((ju_c _ _ (by decide)).trans ((ju_c _ _ (by decide)).trans ((ju_c _ _ (by decide)).trans e94)))))
      obtain ⟨v97, e97⟩ : ∃ z, M65 598 100 = z := ⟨_, rfl⟩
      have b97 : 0 ≤ v97 ∧ v97 ≤ 13 := by rw [← e97]; exact hI_M65 598 100 (Nat.le_of_ble_eq_true rfl)
      obtain ⟨v99, e99⟩ : ∃ z, M 598 107 = z := ⟨_, rfl⟩
      have b99 : 0 ≤ v99 ∧ v99 ≤ 16 := by rw [← e99]; exact hI_M 598 107 (Nat.le_of_ble_eq_true rfl)
      have e100 : M2 598 107 = v99 := ((w2_5 107 (zne rfl) (zne rfl) (zne rfl)).trans e99)
      have e101 : M65 598 107 = v99 := ((w65_10 107 (zne rfl) (zne rfl) (zne rfl) (zne rfl) (zne rfl) (zne rfl) (zne rfl) (zne rfl) (zne rfl) (zne rfl)).trans ((ju_i _ _ (zne (by decide))).trans ((ju_c _ _ (by decide)).trans ((ju_c _ _ (by decide)).trans ((ju_c _ _ (by decide)).trans e100)))))
      obtain ⟨v104, e104⟩ : ∃ z, M2 598 89 = z := ⟨_, rfl⟩
      have b104 : 0 ≤ v104 ∧ v104 ≤ 301 := by rw [← e104]; exact hI_M2 598 89 (Nat.le_of_ble_eq_true rfl)
      exact jr.ireturn rfl rfl rfl (q _ _ hI_M65 hH_M65 hS_M65  (by omega) (by by_cases hf : v88 = 0; (first | (have y103 : (ju (ju (ju (ju M2 664 v63 40) 666 v63 v1) 667 v63 1) 598 102 (v63 + 1)) 598 73 = v4 := ((ju_i _ _ (zne (by decide))).trans ((ju_c _ _ (by decide)).trans ((ju_c _ _ (by decide)).trans ((ju_c _ _ (by decide)).trans e66)))); have y105 : (ju (ju (ju (ju M2 664 v63 40) 666 v63 v1) 667 v63 1) 598 102 (v63 + 1)) 598 89 = v104 := ((ju_i _ _ (zne (by decide))).trans ((ju_c _ _ (by decide)).trans ((ju_c _ _ (by decide)).trans ((ju_c _ _ (by decide)).trans e104)))); have y106 : (ju (ju (ju (ju M2 664 v63 40) 666 v63 v1) 667 v63 1) 598 102 (v63 + 1)) 598 100 = v7 := ((ju_i _ _ (zne (by decide))).trans ((ju_c _ _ (by decide)).trans ((ju_c _ _ (by decide)).trans ((ju_c _ _ (by decide)).trans e70)))); have x65_89 := w65_10 89 (zne rfl) (zne rfl) (zne rfl) (zne rfl) (zne rfl) (zne rfl) (zne rfl) (zne rfl) (zne rfl) (zne rfl); have hE := ES.fr2 hE w65_9 (w65_10 88 (zne rfl) (zne rfl) (zne rfl) (zne rfl) (zne rfl) (zne rfl) (zne rfl) (zne rfl) (zne rfl) (zne rfl)) (w65_10 90 (zne rfl) (zne rfl) (zne rfl) (zne rfl) (zne rfl) (zne rfl) (zne rfl) (zne rfl) (zne rfl) (zne rfl)) (w65_10 101 (zne rfl) (zne rfl) (zne rfl) (zne rfl) (zne rfl) (zne rfl) (zne rfl) (zne rfl) (zne rfl) (zne rfl)) (w65_10 102 (zne rfl) (zne rfl) (zne rfl) (zne rfl) (zne rfl) (zne rfl) (zne rfl) (zne rfl) (zne rfl) (zne rfl)) (w65_10 107 (zne rfl) (zne rfl) (zne rfl) (zne rfl) (zne rfl) (zne rfl) (zne rfl) (zne rfl) (zne rfl) (zne rfl)) (k' := kk + 2) (d' := 0) (z' := 0) (by omega) (by omega) (by omega) (by omega); exact Or.inr ⟨⟨by omega, ES.adj hE (k' := kk) (z' := 0) (by omega) (by omega) (by omega), by omega, by omega, by omega, by omega⟩, by omega⟩) | (exfalso; omega)); (exact Or.inl ⟨by omega, by omega⟩)) (by omega) (by omega) (by omega) (CP.f (CP.o (CP.o (CP.o (CP.o (CP.f hCP (fun i => w2_4 659 i (nne rfl)) (w2_5 90 (zne rfl) (zne rfl) (zne rfl))) (by decide) (Or.inl (by decide))) (by decide) (Or.inl (by decide))) (by decide) (Or.inl (by decide))) (by decide) (Or.inr (by decide))) (fun i => w65_9 659 i (nne rfl)) (w65_10 90 (zne rfl) (zne rfl) (zne rfl) (zne rfl) (zne rfl) (zne rfl) (zne rfl) (zne rfl) (zne rfl) (zne rfl))) (by omega) (fun a i f598 f659 f660 f664 f666 f667 => ((w65_9 a i f598).trans ((ju_c _ _ f598).trans ((ju_c _ _ f667).trans ((ju_c _ _ f666).trans ((ju_c _ _ f664).trans ((w2_4 a i f598).trans (hF_M a i f598 f659 f660 f664 f666 f667)))))))) (fun i g73 g74 g75 g76 g77 g78 g79 g80 g81 g89 g90 g100 g102 => ((w65_10 i g73 g74 g75 g76 g77 g78 g79 g80 g81 g100).trans ((ju_i _ _ g102).trans ((ju_c _ _ (by decide)).trans ((ju_c _ _ (by decide)).trans ((ju_c _ _ (by decide)).trans ((w2_5 i g80 g81 g89).trans (hG_M i g73 g74 g75 g76 g77 g78 g79 g80 g81 g89 g90 g100 g102)))))))))
theorem r_takeOperand_L146 {A : Nat → Option (Nat × (Nat → Int32))} {Q : Option Value → jm → Prop} {b kk : Int} {M0 : jm} (q : ∀ (r : Int) (M' : jm), RI M' → RH M' → RF M' → 0 ≤ r ∧ r ≤ 1 → (BS M' ∨ (GS M' b r kk ∧ TK M' < TK M0)) → TK M' ≤ TK M0 → M' 598 73 ≤ M' 598 72 → (M' 598 80 ≠ 0 ∨ TK M' < TK M0) → CP M0 M' → M0 598 89 ≤ M' 598 89 → (∀ (a : Nat) (i : Int), a ≠ 598 → a ≠ 659 → a ≠ 660 → a ≠ 664 → a ≠ 666 → a ≠ 667 → M' a i = M0 a i) → (∀ (i : Int), i ≠ 73 → i ≠ 74 → i ≠ 75 → i ≠ 76 → i ≠ 77 → i ≠ 78 → i ≠ 79 → i ≠ 80 → i ≠ 81 → i ≠ 89 → i ≠ 90 → i ≠ 100 → i ≠ 102 → M' 598 i = M0 598 i) → Q (some (.int (Int32.ofInt r))) M') : ∀ (M : jm) , RI M → RH M → RF M → (∀ (a : Nat) (i : Int), a ≠ 598 → a ≠ 659 → a ≠ 660 → a ≠ 664 → a ≠ 666 → a ≠ 667 → M a i = M0 a i) → (∀ (i : Int), i ≠ 73 → i ≠ 74 → i ≠ 75 → i ≠ 76 → i ≠ 77 → i ≠ 78 → i ≠ 79 → i ≠ 80 → i ≠ 81 → i ≠ 89 → i ≠ 90 → i ≠ 100 → i ≠ 102 → M 598 i = M0 598 i) → GS M b 0 kk → TK M = TK M0 → CP M0 M → M 598 89 = M0 598 89 → M 598 74 = 1 → (M 598 76 = 10 ∨ (19 ≤ M 598 76 ∧ M 598 76 ≤ 23)) → jr A 5 xm_360 146 [(0, .ref (598))] [] M Q := by
    intro M  hI_M hH_M hS_M hF_M hG_M  hy0 hy1 hy2 hy3 hy4 hy5
    have p0 := hy0
    have hCP := hy2
    obtain ⟨gs1, gs2, gs3, gs4, gs5, gs6⟩ := id hy0
    have hE := gs2
    have sl := ES.sgle gs2
    have bb := ES.bb gs2
    have kb := ES.kz gs2
    have b107 : (0 : Int) ≤ M 598 107 ∧ M 598 107 ≤ 16 := hI_M 598 107 (Nat.le_of_ble_eq_true rfl)
    have b73 : (0 : Int) ≤ M 598 73 ∧ M 598 73 ≤ 1600 := hI_M 598 73 (Nat.le_of_ble_eq_true rfl)
    have b88 : (0 : Int) ≤ M 598 88 ∧ M 598 88 ≤ 16 := hI_M 598 88 (Nat.le_of_ble_eq_true rfl)
    have b100 : (0 : Int) ≤ M 598 100 ∧ M 598 100 ≤ 13 := hI_M 598 100 (Nat.le_of_ble_eq_true rfl)
    refine jr.aload_n rfl rfl ?_
    obtain ⟨v2, e2⟩ : ∃ z, M 598 89 = z := ⟨_, rfl⟩
    have b2 : 0 ≤ v2 ∧ v2 ≤ 301 := by rw [← e2]; exact hI_M 598 89 (Nat.le_of_ble_eq_true rfl)
    obtain ⟨v3, e3⟩ : ∃ z, M 598 73 = z := ⟨_, rfl⟩
    have b3 : 0 ≤ v3 ∧ v3 ≤ 1600 := by rw [← e3]; exact hI_M 598 73 (Nat.le_of_ble_eq_true rfl)
    obtain ⟨v6, e6⟩ : ∃ z, M 598 100 = z := ⟨_, rfl⟩
    have b6 : 0 ≤ v6 ∧ v6 ≤ 13 := by rw [← e6]; exact hI_M 598 100 (Nat.le_of_ble_eq_true rfl)
    refine jr_v rfl rfl (Or.inl rfl) rfl rfl (nlt rfl) rfl ⟨rfl, Nat.le_of_ble_eq_true rfl, Nat.le_of_ble_eq_true rfl⟩ rfl (jc.deep (r_node hI_M hH_M hS_M   (by rw [e2]; omega) (fun M1 hI_M1 hH_M1 hS_M1  w1_0 w1_1 w1_2 w1_3 w1_4 w1_5 => ?_)) (Nat.le_of_ble_eq_true rfl))
    have tk1 : TK M1 = TK M := TK.fr (w1_5 73 (zne rfl) (zne rfl) (zne rfl)) (w1_5 74 (zne rfl) (zne rfl) (zne rfl))
    have x1_73 := w1_5 73 (zne rfl) (zne rfl) (zne rfl)
    have x1_100 := w1_5 100 (zne rfl) (zne rfl) (zne rfl)
    have hE := ES.fr2 hE w1_4 (w1_5 88 (zne rfl) (zne rfl) (zne rfl)) (w1_5 90 (zne rfl) (zne rfl) (zne rfl)) (w1_5 101 (zne rfl) (zne rfl) (zne rfl)) (w1_5 102 (zne rfl) (zne rfl) (zne rfl)) (w1_5 107 (zne rfl) (zne rfl) (zne rfl)) (k' := kk + 4) (d' := 0) (z' := 0) (by omega) (by omega) (by omega) (by omega)
    refine jr.aload_n rfl rfl ?_
    refine jr.sipush rfl (by decide) ?_
    refine jr.aload_n rfl rfl ?_
    obtain ⟨v8, e8⟩ : ∃ z, M 598 76 = z := ⟨_, rfl⟩
    have b8 : (-1) ≤ v8 ∧ v8 ≤ 68 := by rw [← e8]; exact hI_M 598 76 (Nat.le_of_ble_eq_true rfl)
    have e9 : M1 598 76 = v8 := ((w1_5 76 (zne rfl) (zne rfl) (zne rfl)).trans e8)
    refine jr.getf (i := 76) (x := v8) (v := .int (Int32.ofInt (v8))) rfl rfl (nlt rfl) rfl (nlt rfl) rfl rfl e9 rfl ?_
    refine jr.iadd rfl ?_
    refine jr.lconst (x := 0) rfl (by decide) ?_
    obtain ⟨v10, e10⟩ : ∃ z, M 598 90 = z := ⟨_, rfl⟩
    have b10 : 0 ≤ v10 ∧ v10 ≤ 2200 := by rw [← e10]; exact hI_M 598 90 (Nat.le_of_ble_eq_true rfl)
    have e11 : M1 598 90 = v10 := ((w1_5 90 (zne rfl) (zne rfl) (zne rfl)).trans e10)
    have e12 : M1 598 100 = v6 := ((w1_5 100 (zne rfl) (zne rfl) (zne rfl)).trans e6)
    obtain ⟨v14, e14⟩ : ∃ z, M 598 107 = z := ⟨_, rfl⟩
    have b14 : 0 ≤ v14 ∧ v14 ≤ 16 := by rw [← e14]; exact hI_M 598 107 (Nat.le_of_ble_eq_true rfl)
    have e15 : M1 598 107 = v14 := ((w1_5 107 (zne rfl) (zne rfl) (zne rfl)).trans e14)
    refine jr_v rfl rfl (Or.inl rfl) rfl rfl (nlt rfl) rfl ⟨rfl, Nat.le_of_ble_eq_true rfl, Nat.le_of_ble_eq_true rfl⟩ rfl (jc.deep (r_emit e11 (by omega) (by omega) (by omega) ?_) (Nat.le_of_ble_eq_true rfl))
    have hE := ES.emitO hE e11 (340 + v8) 0 (kk + 2) (Or.inr (Or.inr (Or.inr (by omega)))) (by omega) (by omega) (by omega)
    refine jr.aload_n rfl rfl ?_
    have e18 : M1 598 73 = v3 := ((w1_5 73 (zne rfl) (zne rfl) (zne rfl)).trans e3)
    obtain ⟨v19, e19⟩ : ∃ z, M 598 72 = z := ⟨_, rfl⟩
    have b19 : 0 ≤ v19 ∧ v19 ≤ 1600 := by rw [← e19]; exact hI_M 598 72 (Nat.le_of_ble_eq_true rfl)
    have e20 : M1 598 72 = v19 := ((w1_5 72 (zne rfl) (zne rfl) (zne rfl)).trans e19)
    obtain ⟨v22, e22⟩ : ∃ z, M1 598 89 = z := ⟨_, rfl⟩
    have b22 : 0 ≤ v22 ∧ v22 ≤ 301 := by rw [← e22]; exact hI_M1 598 89 (Nat.le_of_ble_eq_true rfl)
    obtain ⟨v26, e26⟩ : ∃ z, M 598 74 = z := ⟨_, rfl⟩
    have b26 : 0 ≤ v26 ∧ v26 ≤ 4 := by rw [← e26]; exact hI_M 598 74 (Nat.le_of_ble_eq_true rfl)
    have e27 : M1 598 74 = v26 := ((w1_5 74 (zne rfl) (zne rfl) (zne rfl)).trans e26)
    refine jr_v rfl rfl (Or.inl rfl) rfl rfl (nlt rfl) rfl ⟨rfl, Nat.le_of_ble_eq_true rfl, Nat.le_of_ble_eq_true rfl⟩ rfl (jc.deep (r_next (RI.u (RI.u (RI.u hI_M1 (a := 659) (i := v10) (by rw [xri_row rfl rfl]; show (0 : Int) ≤ _ ∧ _ ≤ (1000 : Int); omega)) (a := 660) (i := v10) (by rw [xri_row rfl rfl]; show (-9223372036854775808 : Int) ≤ _ ∧ _ ≤ (9223372036854775807 : Int); omega)) (a := 598) (i := 90) (show (0 : Int) ≤ _ ∧ _ ≤ (2200 : Int) from by omega)) (RH.o (RH.o (RH.o hH_M1 (by decide) (by decide) (by decide)) (by decide) (by decide) (by decide)) (by decide) (by decide) (by decide)) (RF.o (RF.o (RF.o hS_M1 (by decide) (by decide)) (by decide) (by decide)) (by decide) (by decide))   (by rw [((ju_i _ _ (zne (by decide))).trans ((ju_c _ _ (by decide)).trans ((ju_c _ _ (by decide)).trans e18))), ((ju_i _ _ (zne (by decide))).trans ((ju_c _ _ (by decide)).trans ((ju_c _ _ (by decide)).trans e20)))]; omega) (fun M17 hI_M17 hH_M17 hS_M17  w17_0 w17_1 w17_2 w17_3 w17_4 w17_5 w17_6 => ?_)) (Nat.le_of_ble_eq_true rfl))
    have y25 : (ju (ju (ju M1 659 v10 (340 + v8)) 660 v10 0) 598 90 (v10 + 1)) 598 73 = v3 := ((ju_i _ _ (zne (by decide))).trans ((ju_c _ _ (by decide)).trans ((ju_c _ _ (by decide)).trans e18)))
    have y28 : (ju (ju (ju M1 659 v10 (340 + v8)) 660 v10 0) 598 90 (v10 + 1)) 598 74 = v26 := ((ju_i _ _ (zne (by decide))).trans ((ju_c _ _ (by decide)).trans ((ju_c _ _ (by decide)).trans e27)))
    have tb17 : TK (ju (ju (ju M1 659 v10 (340 + v8)) 660 v10 0) 598 90 (v10 + 1)) = TK M1 := ((TK.o (Or.inr ⟨by decide, by decide⟩)).trans ((TK.o (Or.inl (by decide))).trans ((TK.o (Or.inl (by decide))).trans rfl)))
    have y21 : (ju (ju (ju M1 659 v10 (340 + v8)) 660 v10 0) 598 90 (v10 + 1)) 598 73 = v3 := ((ju_i _ _ (zne (by decide))).trans ((ju_c _ _ (by decide)).trans ((ju_c _ _ (by decide)).trans e18)))
    have y23 : (ju (ju (ju M1 659 v10 (340 + v8)) 660 v10 0) 598 90 (v10 + 1)) 598 89 = v22 := ((ju_i _ _ (zne (by decide))).trans ((ju_c _ _ (by decide)).trans ((ju_c _ _ (by decide)).trans e22)))
    have y24 : (ju (ju (ju M1 659 v10 (340 + v8)) 660 v10 0) 598 90 (v10 + 1)) 598 100 = v6 := ((ju_i _ _ (zne (by decide))).trans ((ju_c _ _ (by decide)).trans ((ju_c _ _ (by decide)).trans e12)))
    have x17_89 := w17_6 89 (zne rfl) (zne rfl) (zne rfl) (zne rfl) (zne rfl) (zne rfl) (zne rfl)
    have x17_100 := w17_6 100 (zne rfl) (zne rfl) (zne rfl) (zne rfl) (zne rfl) (zne rfl) (zne rfl)
    have hE := ES.fr2 hE w17_5 (w17_6 88 (zne rfl) (zne rfl) (zne rfl) (zne rfl) (zne rfl) (zne rfl) (zne rfl)) (w17_6 90 (zne rfl) (zne rfl) (zne rfl) (zne rfl) (zne rfl) (zne rfl) (zne rfl)) (w17_6 101 (zne rfl) (zne rfl) (zne rfl) (zne rfl) (zne rfl) (zne rfl) (zne rfl)) (w17_6 102 (zne rfl) (zne rfl) (zne rfl) (zne rfl) (zne rfl) (zne rfl) (zne rfl)) (w17_6 107 (zne rfl) (zne rfl) (zne rfl) (zne rfl) (zne rfl) (zne rfl) (zne rfl)) (k' := kk + 2) (d' := 0) (z' := 0) (by omega) (by omega) (by omega) (by omega)
    refine jr.iconst rfl ?_
    have e29 : M17 598 72 = v19 := ((w17_6 72 (zne rfl) (zne rfl) (zne rfl) (zne rfl) (zne rfl) (zne rfl) (zne rfl)).trans ((ju_i _ _ (zne (by decide))).trans ((ju_c _ _ (by decide)).trans ((ju_c _ _ (by decide)).trans e20))))
    obtain ⟨v31, e31⟩ : ∃ z, M17 598 73 = z := ⟨_, rfl⟩
    have b31 : 0 ≤ v31 ∧ v31 ≤ 1600 := by rw [← e31]; exact hI_M17 598 73 (Nat.le_of_ble_eq_true rfl)
    obtain ⟨v33, e33⟩ : ∃ z, M17 598 74 = z := ⟨_, rfl⟩
    have b33 : 0 ≤ v33 ∧ v33 ≤ 4 := by rw [← e33]; exact hI_M17 598 74 (Nat.le_of_ble_eq_true rfl)
    obtain ⟨v35, e35⟩ : ∃ z, M17 598 79 = z := ⟨_, rfl⟩
    have b35 : 0 ≤ v35 ∧ v35 ≤ 255 := by rw [← e35]; exact hI_M17 598 79 (Nat.le_of_ble_eq_true rfl)
    obtain ⟨v37, e37⟩ : ∃ z, M1 598 80 = z := ⟨_, rfl⟩
    have b37 : 0 ≤ v37 ∧ v37 ≤ 7 := by rw [← e37]; exact hI_M1 598 80 (Nat.le_of_ble_eq_true rfl)
    have e38 : M17 598 80 = v37 := ((w17_6 80 (zne rfl) (zne rfl) (zne rfl) (zne rfl) (zne rfl) (zne rfl) (zne rfl)).trans ((ju_i _ _ (zne (by decide))).trans ((ju_c _ _ (by decide)).trans ((ju_c _ _ (by decide)).trans e37))))
    have e40 : M17 598 89 = v22 := ((w17_6 89 (zne rfl) (zne rfl) (zne rfl) (zne rfl) (zne rfl) (zne rfl) (zne rfl)).trans ((ju_i _ _ (zne (by decide))).trans ((ju_c _ _ (by decide)).trans ((ju_c _ _ (by decide)).trans e22))))
    have e42 : M17 598 90 = v10 + 1 := ((w17_6 90 (zne rfl) (zne rfl) (zne rfl) (zne rfl) (zne rfl) (zne rfl) (zne rfl)).trans (ju_same _ _ _ _))
    have e44 : M17 598 100 = v6 := ((w17_6 100 (zne rfl) (zne rfl) (zne rfl) (zne rfl) (zne rfl) (zne rfl) (zne rfl)).trans ((ju_i _ _ (zne (by decide))).trans ((ju_c _ _ (by decide)).trans ((ju_c _ _ (by decide)).trans e12))))
    have e46 : M17 598 107 = v14 := ((w17_6 107 (zne rfl) (zne rfl) (zne rfl) (zne rfl) (zne rfl) (zne rfl) (zne rfl)).trans ((ju_i _ _ (zne (by decide))).trans ((ju_c _ _ (by decide)).trans ((ju_c _ _ (by decide)).trans e15))))
    exact jr.ireturn rfl rfl rfl (q _ _ hI_M17 hH_M17 hS_M17  (by omega) (by by_cases hf : v37 = 0; (first | (exact Or.inr ⟨⟨by omega, ES.adj hE (k' := kk) (z' := 0) (by omega) (by omega) (by omega), by omega, by omega, by omega, by omega⟩, by omega⟩) | (exfalso; omega)); (exact Or.inl ⟨by omega, by omega⟩)) (by omega) (by omega) (by omega) (CP.f (CP.emit (CP.f hCP (fun i => w1_4 659 i (nne rfl)) (w1_5 90 (zne rfl) (zne rfl) (zne rfl))) e11) (fun i => w17_5 659 i (nne rfl)) (w17_6 90 (zne rfl) (zne rfl) (zne rfl) (zne rfl) (zne rfl) (zne rfl) (zne rfl))) (by omega) (fun a i f598 f659 f660 f664 f666 f667 => ((w17_5 a i f598).trans ((ju_c _ _ f598).trans ((ju_c _ _ f660).trans ((ju_c _ _ f659).trans ((w1_4 a i f598).trans (hF_M a i f598 f659 f660 f664 f666 f667))))))) (fun i g73 g74 g75 g76 g77 g78 g79 g80 g81 g89 g90 g100 g102 => ((w17_6 i g73 g74 g75 g76 g77 g78 g79).trans ((ju_i _ _ g90).trans ((ju_c _ _ (by decide)).trans ((ju_c _ _ (by decide)).trans ((w1_5 i g80 g81 g89).trans (hG_M i g73 g74 g75 g76 g77 g78 g79 g80 g81 g89 g90 g100 g102))))))))
theorem r_takeOperand_L86 {A : Nat → Option (Nat × (Nat → Int32))} {Q : Option Value → jm → Prop} {b kk : Int} {M0 : jm} (q : ∀ (r : Int) (M' : jm), RI M' → RH M' → RF M' → 0 ≤ r ∧ r ≤ 1 → (BS M' ∨ (GS M' b r kk ∧ TK M' < TK M0)) → TK M' ≤ TK M0 → M' 598 73 ≤ M' 598 72 → (M' 598 80 ≠ 0 ∨ TK M' < TK M0) → CP M0 M' → M0 598 89 ≤ M' 598 89 → (∀ (a : Nat) (i : Int), a ≠ 598 → a ≠ 659 → a ≠ 660 → a ≠ 664 → a ≠ 666 → a ≠ 667 → M' a i = M0 a i) → (∀ (i : Int), i ≠ 73 → i ≠ 74 → i ≠ 75 → i ≠ 76 → i ≠ 77 → i ≠ 78 → i ≠ 79 → i ≠ 80 → i ≠ 81 → i ≠ 89 → i ≠ 90 → i ≠ 100 → i ≠ 102 → M' 598 i = M0 598 i) → Q (some (.int (Int32.ofInt r))) M') : ∀ (M : jm) , RI M → RH M → RF M → (∀ (a : Nat) (i : Int), a ≠ 598 → a ≠ 659 → a ≠ 660 → a ≠ 664 → a ≠ 666 → a ≠ 667 → M a i = M0 a i) → (∀ (i : Int), i ≠ 73 → i ≠ 74 → i ≠ 75 → i ≠ 76 → i ≠ 77 → i ≠ 78 → i ≠ 79 → i ≠ 80 → i ≠ 81 → i ≠ 89 → i ≠ 90 → i ≠ 100 → i ≠ 102 → M 598 i = M0 598 i) → GS M b 0 kk → TK M = TK M0 → CP M0 M → M 598 89 = M0 598 89 → M 598 74 = 2 → jr A 5 xm_360 86 [(0, .ref (598))] [] M Q := by
    intro M  hI_M hH_M hS_M hF_M hG_M  hy0 hy1 hy2 hy3 hy4
    have p0 := hy0
    have hCP := hy2
    obtain ⟨gs1, gs2, gs3, gs4, gs5, gs6⟩ := id hy0
    have hE := gs2
    have sl := ES.sgle gs2
    have bb := ES.bb gs2
    have kb := ES.kz gs2
    have b107 : (0 : Int) ≤ M 598 107 ∧ M 598 107 ≤ 16 := hI_M 598 107 (Nat.le_of_ble_eq_true rfl)
    have b73 : (0 : Int) ≤ M 598 73 ∧ M 598 73 ≤ 1600 := hI_M 598 73 (Nat.le_of_ble_eq_true rfl)
    have b88 : (0 : Int) ≤ M 598 88 ∧ M 598 88 ≤ 16 := hI_M 598 88 (Nat.le_of_ble_eq_true rfl)
    have b100 : (0 : Int) ≤ M 598 100 ∧ M 598 100 ≤ 13 := hI_M 598 100 (Nat.le_of_ble_eq_true rfl)
    refine jr.aload_n rfl rfl ?_
    obtain ⟨v2, e2⟩ : ∃ z, M 598 89 = z := ⟨_, rfl⟩
    have b2 : 0 ≤ v2 ∧ v2 ≤ 301 := by rw [← e2]; exact hI_M 598 89 (Nat.le_of_ble_eq_true rfl)
    obtain ⟨v3, e3⟩ : ∃ z, M 598 73 = z := ⟨_, rfl⟩
    have b3 : 0 ≤ v3 ∧ v3 ≤ 1600 := by rw [← e3]; exact hI_M 598 73 (Nat.le_of_ble_eq_true rfl)
    obtain ⟨v6, e6⟩ : ∃ z, M 598 100 = z := ⟨_, rfl⟩
    have b6 : 0 ≤ v6 ∧ v6 ≤ 13 := by rw [← e6]; exact hI_M 598 100 (Nat.le_of_ble_eq_true rfl)
    refine jr_v rfl rfl (Or.inl rfl) rfl rfl (nlt rfl) rfl ⟨rfl, Nat.le_of_ble_eq_true rfl, Nat.le_of_ble_eq_true rfl⟩ rfl (jc.deep (r_node hI_M hH_M hS_M   (by rw [e2]; omega) (fun M1 hI_M1 hH_M1 hS_M1  w1_0 w1_1 w1_2 w1_3 w1_4 w1_5 => ?_)) (Nat.le_of_ble_eq_true rfl))
    have tk1 : TK M1 = TK M := TK.fr (w1_5 73 (zne rfl) (zne rfl) (zne rfl)) (w1_5 74 (zne rfl) (zne rfl) (zne rfl))
    have x1_73 := w1_5 73 (zne rfl) (zne rfl) (zne rfl)
    have x1_100 := w1_5 100 (zne rfl) (zne rfl) (zne rfl)
    have hE := ES.fr2 hE w1_4 (w1_5 88 (zne rfl) (zne rfl) (zne rfl)) (w1_5 90 (zne rfl) (zne rfl) (zne rfl)) (w1_5 101 (zne rfl) (zne rfl) (zne rfl)) (w1_5 102 (zne rfl) (zne rfl) (zne rfl)) (w1_5 107 (zne rfl) (zne rfl) (zne rfl)) (k' := kk + 4) (d' := 0) (z' := 0) (by omega) (by omega) (by omega) (by omega)
    refine jr.aload_n rfl rfl ?_
    obtain ⟨v8, e8⟩ : ∃ z, M 598 78 = z := ⟨_, rfl⟩
    have b8 : (-9223372036854775808) ≤ v8 ∧ v8 ≤ 9223372036854775807 := by rw [← e8]; exact hI_M 598 78 (Nat.le_of_ble_eq_true rfl)
    have e9 : M1 598 78 = v8 := ((w1_5 78 (zne rfl) (zne rfl) (zne rfl)).trans e8)
    refine jr.getf (i := 78) (x := v8) (v := .long (Int64.ofInt (v8))) rfl rfl (nlt rfl) rfl (nlt rfl) rfl rfl e9 rfl ?_
    refine jr.ldc2 (x := 4294967295) rfl rfl (by decide) ?_
    refine jr.lcmp_le rfl rfl rfl (by omega) (by omega) (fun h97 => ?_) (fun h97 => ?_)
    · refine jr.aload_n rfl rfl ?_
      refine jr.iconst rfl ?_
      refine jr.aload_n rfl rfl ?_
      refine jr.getf (i := 78) (x := v8) (v := .long (Int64.ofInt (v8))) rfl rfl (nlt rfl) rfl (nlt rfl) rfl rfl e9 rfl ?_
      obtain ⟨v10, e10⟩ : ∃ z, M 598 90 = z := ⟨_, rfl⟩
      have b10 : 0 ≤ v10 ∧ v10 ≤ 2200 := by rw [← e10]; exact hI_M 598 90 (Nat.le_of_ble_eq_true rfl)
      have e11 : M1 598 90 = v10 := ((w1_5 90 (zne rfl) (zne rfl) (zne rfl)).trans e10)
      have e12 : M1 598 100 = v6 := ((w1_5 100 (zne rfl) (zne rfl) (zne rfl)).trans e6)
      obtain ⟨v14, e14⟩ : ∃ z, M 598 107 = z := ⟨_, rfl⟩
      have b14 : 0 ≤ v14 ∧ v14 ≤ 16 := by rw [← e14]; exact hI_M 598 107 (Nat.le_of_ble_eq_true rfl)
      have e15 : M1 598 107 = v14 := ((w1_5 107 (zne rfl) (zne rfl) (zne rfl)).trans e14)
      refine jr_v rfl rfl (Or.inl rfl) rfl rfl (nlt rfl) rfl ⟨rfl, Nat.le_of_ble_eq_true rfl, Nat.le_of_ble_eq_true rfl⟩ rfl (jc.deep (r_emit e11 (by omega) (by omega) (by omega) ?_) (Nat.le_of_ble_eq_true rfl))
      have hE := ES.emitO hE e11 4 v8 (kk + 2) (Or.inl rfl) (by omega) (by omega) (by omega)
      refine jr.aload_n rfl rfl ?_
      have e18 : M1 598 73 = v3 := ((w1_5 73 (zne rfl) (zne rfl) (zne rfl)).trans e3)
      obtain ⟨v19, e19⟩ : ∃ z, M 598 72 = z := ⟨_, rfl⟩
      have b19 : 0 ≤ v19 ∧ v19 ≤ 1600 := by rw [← e19]; exact hI_M 598 72 (Nat.le_of_ble_eq_true rfl)
      have e20 : M1 598 72 = v19 := ((w1_5 72 (zne rfl) (zne rfl) (zne rfl)).trans e19)
      obtain ⟨v22, e22⟩ : ∃ z, M1 598 89 = z := ⟨_, rfl⟩
      have b22 : 0 ≤ v22 ∧ v22 ≤ 301 := by rw [← e22]; exact hI_M1 598 89 (Nat.le_of_ble_eq_true rfl)
      obtain ⟨v26, e26⟩ : ∃ z, M 598 74 = z := ⟨_, rfl⟩
      have b26 : 0 ≤ v26 ∧ v26 ≤ 4 := by rw [← e26]; exact hI_M 598 74 (Nat.le_of_ble_eq_true rfl)
      have e27 : M1 598 74 = v26 := ((w1_5 74 (zne rfl) (zne rfl) (zne rfl)).trans e26)
      refine jr_v rfl rfl (Or.inl rfl) rfl rfl (nlt rfl) rfl ⟨rfl, Nat.le_of_ble_eq_true rfl, Nat.le_of_ble_eq_true rfl⟩ rfl (jc.deep (r_next (RI.u (RI.u (RI.u hI_M1 (a := 659) (i := v10) (by rw [xri_row rfl rfl]; show (0 : Int) ≤ _ ∧ _ ≤ (1000 : Int); omega)) (a := 660) (i := v10) (by rw [xri_row rfl rfl]; show (-9223372036854775808 : Int) ≤ _ ∧ _ ≤ (9223372036854775807 : Int); omega)) (a := 598) (i := 90) (show (0 : Int) ≤ _ ∧ _ ≤ (2200 : Int) from by omega)) (RH.o (RH.o (RH.o hH_M1 (by decide) (by decide) (by decide)) (by decide) (by decide) (by decide)) (by decide) (by decide) (by decide)) (RF.o (RF.o (RF.o hS_M1 (by decide) (by decide)) (by decide) (by decide)) (by decide) (by decide))   (by rw [((ju_i _ _ (zne (by decide))).trans ((ju_c _ _ (by decide)).trans ((ju_c _ _ (by decide)).trans e18))), ((ju_i _ _ (zne (by decide))).trans ((ju_c _ _ (by decide)).trans ((ju_c _ _ (by decide)).trans e20)))]; omega) (fun M17 hI_M17 hH_M17 hS_M17  w17_0 w17_1 w17_2 w17_3 w17_4 w17_5 w17_6 => ?_)) (Nat.le_of_ble_eq_true rfl))
      have y25 : (ju (ju (ju M1 659 v10 4) 660 v10 v8) 598 90 (v10 + 1)) 598 73 = v3 := ((ju_i _ _ (zne (by decide))).trans ((ju_c _ _ (by decide)).trans ((ju_c _ _ (by decide)).trans e18)))
      have y28 : (ju (ju (ju M1 659 v10 4) 660 v10 v8) 598 90 (v10 + 1)) 598 74 = v26 := ((ju_i _ _ (zne (by decide))).trans ((ju_c _ _ (by decide)).trans ((ju_c _ _ (by decide)).trans e27)))
      have tb17 : TK (ju (ju (ju M1 659 v10 4) 660 v10 v8) 598 90 (v10 + 1)) = TK M1 := ((TK.o (Or.inr ⟨by decide, by decide⟩)).trans ((TK.o (Or.inl (by decide))).trans ((TK.o (Or.inl (by decide))).trans rfl)))
      have y21 : (ju (ju (ju M1 659 v10 4) 660 v10 v8) 598 90 (v10 + 1)) 598 73 = v3 := ((ju_i _ _ (zne (by decide))).trans ((ju_c _ _ (by decide)).trans ((ju_c _ _ (by decide)).trans e18)))
      have y23 : (ju (ju (ju M1 659 v10 4) 660 v10 v8) 598 90 (v10 + 1)) 598 89 = v22 := ((ju_i _ _ (zne (by decide))).trans ((ju_c _ _ (by decide)).trans ((ju_c _ _ (by decide)).trans e22)))
      have y24 : (ju (ju (ju M1 659 v10 4) 660 v10 v8) 598 90 (v10 + 1)) 598 100 = v6 := ((ju_i _ _ (zne (by decide))).trans ((ju_c _ _ (by decide)).trans ((ju_c _ _ (by decide)).trans e12)))
      have x17_89 := w17_6 89 (zne rfl) (zne rfl) (zne rfl) (zne rfl) (zne rfl) (zne rfl) (zne rfl)
      have x17_100 := w17_6 100 (zne rfl) (zne rfl) (zne rfl) (zne rfl) (zne rfl) (zne rfl) (zne rfl)
      have hE := ES.fr2 hE w17_5 (w17_6 88 (zne rfl) (zne rfl) (zne rfl) (zne rfl) (zne rfl) (zne rfl) (zne rfl)) (w17_6 90 (zne rfl) (zne rfl) (zne rfl) (zne rfl) (zne rfl) (zne rfl) (zne rfl)) (w17_6 101 (zne rfl) (zne rfl) (zne rfl) (zne rfl) (zne rfl) (zne rfl) (zne rfl)) (w17_6 102 (zne rfl) (zne rfl) (zne rfl) (zne rfl) (zne rfl) (zne rfl) (zne rfl)) (w17_6 107 (zne rfl) (zne rfl) (zne rfl) (zne rfl) (zne rfl) (zne rfl) (zne rfl)) (k' := kk + 2) (d' := 0) (z' := 0) (by omega) (by omega) (by omega) (by omega)
      refine jr.iconst rfl ?_
      have e29 : M17 598 72 = v19 := ((w17_6 72 (zne rfl) (zne rfl) (zne rfl) (zne rfl) (zne rfl) (zne rfl) (zne rfl)).trans ((ju_i _ _ (zne (by decide))).trans ((ju_c _ _ (by decide)).trans ((ju_c _ _ (by decide)).trans e20))))
      obtain ⟨v31, e31⟩ : ∃ z, M17 598 73 = z := ⟨_, rfl⟩
      have b31 : 0 ≤ v31 ∧ v31 ≤ 1600 := by rw [← e31]; exact hI_M17 598 73 (Nat.le_of_ble_eq_true rfl)
      obtain ⟨v33, e33⟩ : ∃ z, M17 598 74 = z := ⟨_, rfl⟩
      have b33 : 0 ≤ v33 ∧ v33 ≤ 4 := by rw [← e33]; exact hI_M17 598 74 (Nat.le_of_ble_eq_true rfl)
      obtain ⟨v35, e35⟩ : ∃ z, M17 598 79 = z := ⟨_, rfl⟩
      have b35 : 0 ≤ v35 ∧ v35 ≤ 255 := by rw [← e35]; exact hI_M17 598 79 (Nat.le_of_ble_eq_true rfl)
      obtain ⟨v37, e37⟩ : ∃ z, M1 598 80 = z := ⟨_, rfl⟩
      have b37 : 0 ≤ v37 ∧ v37 ≤ 7 := by rw [← e37]; exact hI_M1 598 80 (Nat.le_of_ble_eq_true rfl)
      have e38 : M17 598 80 = v37 := ((w17_6 80 (zne rfl) (zne rfl) (zne rfl) (zne rfl) (zne rfl) (zne rfl) (zne rfl)).trans ((ju_i _ _ (zne (by decide))).trans ((ju_c _ _ (by decide)).trans ((ju_c _ _ (by decide)).trans e37))))
      have e40 : M17 598 89 = v22 := ((w17_6 89 (zne rfl) (zne rfl) (zne rfl) (zne rfl) (zne rfl) (zne rfl) (zne rfl)).trans ((ju_i _ _ (zne (by decide))).trans ((ju_c _ _ (by decide)).trans ((ju_c _ _ (by decide)).trans e22))))
      have e42 : M17 598 90 = v10 + 1 := ((w17_6 90 (zne rfl) (zne rfl) (zne rfl) (zne rfl) (zne rfl) (zne rfl) (zne rfl)).trans (ju_same _ _ _ _))
      have e44 : M17 598 100 = v6 := ((w17_6 100 (zne rfl) (zne rfl) (zne rfl) (zne rfl) (zne rfl) (zne rfl) (zne rfl)).trans ((ju_i _ _ (zne (by decide))).trans ((ju_c _ _ (by decide)).trans ((ju_c _ _ (by decide)).trans e12))))
      have e46 : M17 598 107 = v14 := ((w17_6 107 (zne rfl) (zne rfl) (zne rfl) (zne rfl) (zne rfl) (zne rfl) (zne rfl)).trans ((ju_i _ _ (zne (by decide))).trans ((ju_c _ _ (by decide)).trans ((ju_c _ _ (by decide)).trans e15))))
      exact jr.ireturn rfl rfl rfl (q _ _ hI_M17 hH_M17 hS_M17  (by omega) (by by_cases hf : v37 = 0; (first | (exact Or.inr ⟨⟨by omega, ES.adj hE (k' := kk) (z' := 0) (by omega) (by omega) (by omega), by omega, by omega, by omega, by omega⟩, by omega⟩) | (exfalso; omega)); (exact Or.inl ⟨by omega, by omega⟩)) (by omega) (by omega) (by omega) (CP.f (CP.emit (CP.f hCP (fun i => w1_4 659 i (nne rfl)) (w1_5 90 (zne rfl) (zne rfl) (zne rfl))) e11) (fun i => w17_5 659 i (nne rfl)) (w17_6 90 (zne rfl) (zne rfl) (zne rfl) (zne rfl) (zne rfl) (zne rfl) (zne rfl))) (by omega) (fun a i f598 f659 f660 f664 f666 f667 => ((w17_5 a i f598).trans ((ju_c _ _ f598).trans ((ju_c _ _ f660).trans ((ju_c _ _ f659).trans ((w1_4 a i f598).trans (hF_M a i f598 f659 f660 f664 f666 f667))))))) (fun i g73 g74 g75 g76 g77 g78 g79 g80 g81 g89 g90 g100 g102 => ((w17_6 i g73 g74 g75 g76 g77 g78 g79).trans ((ju_i _ _ g90).trans ((ju_c _ _ (by decide)).trans ((ju_c _ _ (by decide)).trans ((w1_5 i g80 g81 g89).trans (hG_M i g73 g74 g75 g76 g77 g78 g79 g80 g81 g89 g90 g100 g102))))))))
    · refine jr.aload_n rfl rfl ?_
      refine jr.bipush rfl (jbp _ (nlt rfl)) ?_
      refine jr.aload_n rfl rfl ?_
      obtain ⟨v48, e48⟩ : ∃ z, M 598 75 = z := ⟨_, rfl⟩
      have b48 : 0 ≤ v48 ∧ v48 ≤ 1600 := by rw [← e48]; exact hI_M 598 75 (Nat.le_of_ble_eq_true rfl)
      have e49 : M1 598 75 = v48 := ((w1_5 75 (zne rfl) (zne rfl) (zne rfl)).trans e48)
      refine jr.getf (i := 75) (x := v48) (v := .int (Int32.ofInt (v48))) rfl rfl (nlt rfl) rfl (nlt rfl) rfl rfl e49 rfl ?_
      have e51 : M1 598 73 = v3 := ((w1_5 73 (zne rfl) (zne rfl) (zne rfl)).trans e3)
      obtain ⟨v53, e53⟩ : ∃ z, M1 598 89 = z := ⟨_, rfl⟩
      have b53 : 0 ≤ v53 ∧ v53 ≤ 301 := by rw [← e53]; exact hI_M1 598 89 (Nat.le_of_ble_eq_true rfl)
      have e55 : M1 598 100 = v6 := ((w1_5 100 (zne rfl) (zne rfl) (zne rfl)).trans e6)
      refine jr_v rfl rfl (Or.inl rfl) rfl rfl (nlt rfl) rfl ⟨rfl, Nat.le_of_ble_eq_true rfl, Nat.le_of_ble_eq_true rfl⟩ rfl (jc.deep (r_fails hI_M1 hH_M1 hS_M1  (by omega) (by omega)  (fun M50 hI_M50 hH_M50 hS_M50  w50_0 w50_1 w50_2 => ?_)) (Nat.le_of_ble_eq_true rfl))
      have tk50 : TK M50 = TK M1 := TK.fr (w50_2 73 (zne rfl) (zne rfl)) (w50_2 74 (zne rfl) (zne rfl))
      have x50_73 := w50_2 73 (zne rfl) (zne rfl)
      have x50_89 := w50_2 89 (zne rfl) (zne rfl)
      have x50_100 := w50_2 100 (zne rfl) (zne rfl)
      have hE := ES.fr2 hE w50_1 (w50_2 88 (zne rfl) (zne rfl)) (w50_2 90 (zne rfl) (zne rfl)) (w50_2 101 (zne rfl) (zne rfl)) (w50_2 102 (zne rfl) (zne rfl)) (w50_2 107 (zne rfl) (zne rfl)) (k' := kk + 4) (d' := 0) (z' := 0) (by omega) (by omega) (by omega) (by omega)
      refine jr.aload_n rfl rfl ?_
      refine jr.iconst rfl ?_
      refine jr.aload_n rfl rfl ?_
      have e57 : M50 598 78 = v8 := ((w50_2 78 (zne rfl) (zne rfl)).trans e9)
      refine jr.getf (i := 78) (x := v8) (v := .long (Int64.ofInt (v8))) rfl rfl (nlt rfl) rfl (nlt rfl) rfl rfl e57 rfl ?_
      obtain ⟨v58, e58⟩ : ∃ z, M 598 90 = z := ⟨_, rfl⟩
      have b58 : 0 ≤ v58 ∧ v58 ≤ 2200 := by rw [← e58]; exact hI_M 598 90 (Nat.le_of_ble_eq_true rfl)
      have e59 : M1 598 90 = v58 := ((w1_5 90 (zne rfl) (zne rfl) (zne rfl)).trans e58)
      have e60 : M50 598 90 = v58 := ((w50_2 90 (zne rfl) (zne rfl)).trans e59)
      have e61 : M50 598 100 = v6 := ((w50_2 100 (zne rfl) (zne rfl)).trans e55)
      obtain ⟨v63, e63⟩ : ∃ z, M 598 107 = z := ⟨_, rfl⟩
      have b63 : 0 ≤ v63 ∧ v63 ≤ 16 := by rw [← e63]; exact hI_M 598 107 (Nat.le_of_ble_eq_true rfl)
      have e64 : M1 598 107 = v63 := ((w1_5 107 (zne rfl) (zne rfl) (zne rfl)).trans e63)
      have e65 : M50 598 107 = v63 := ((w50_2 107 (zne rfl) (zne rfl)).trans e64)
      refine jr_v rfl rfl (Or.inl rfl) rfl rfl (nlt rfl) rfl ⟨rfl, Nat.le_of_ble_eq_true rfl, Nat.le_of_ble_eq_true rfl⟩ rfl (jc.deep (r_emit e60 (by omega) (by omega) (by omega) ?_) (Nat.le_of_ble_eq_true rfl))
      have hE := ES.emitO hE e60 4 v8 (kk + 2) (Or.inl rfl) (by omega) (by omega) (by omega)
      refine jr.aload_n rfl rfl ?_
      have e68 : M50 598 73 = v3 := ((w50_2 73 (zne rfl) (zne rfl)).trans e51)
      obtain ⟨v69, e69⟩ : ∃ z, M 598 72 = z := ⟨_, rfl⟩
      have b69 : 0 ≤ v69 ∧ v69 ≤ 1600 := by rw [← e69]; exact hI_M 598 72 (Nat.le_of_ble_eq_true rfl)
      have e70 : M1 598 72 = v69 := ((w1_5 72 (zne rfl) (zne rfl) (zne rfl)).trans e69)
      have e71 : M50 598 72 = v69 := ((w50_2 72 (zne rfl) (zne rfl)).trans e70)
      have e73 : M50 598 89 = v53 := ((w50_2 89 (zne rfl) (zne rfl)).trans e53)
      obtain ⟨v77, e77⟩ : ∃ z, M 598 74 = z := ⟨_, rfl⟩
      have b77 : 0 ≤ v77 ∧ v77 ≤ 4 := by rw [← e77]; exact hI_M 598 74 (Nat.le_of_ble_eq_true rfl)
      have e78 : M1 598 74 = v77 := ((w1_5 74 (zne rfl) (zne rfl) (zne rfl)).trans e77)
      have e79 : M50 598 74 = v77 := ((w50_2 74 (zne rfl) (zne rfl)).trans e78)
      refine jr_v rfl rfl (Or.inl rfl) rfl rfl (nlt rfl) rfl ⟨rfl, Nat.le_of_ble_eq_true rfl, Nat.le_of_ble_eq_true rfl⟩ rfl (jc.deep (r_next (RI.u (RI.u (RI.u hI_M50 (a := 659) (i := v58) (by rw [xri_row rfl rfl]; show (0 : Int) ≤ _ ∧ _ ≤ (1000 : Int); omega)) (a := 660) (i := v58) (by rw [xri_row rfl rfl]; show (-9223372036854775808 : Int) ≤ _ ∧ _ ≤ (9223372036854775807 : Int); omega)) (a := 598) (i := 90) (show (0 : Int) ≤ _ ∧ _ ≤ (2200 : Int) from by omega)) (RH.o (RH.o (RH.o hH_M50 (by decide) (by decide) (by decide)) (by decide) (by decide) (by decide)) (by decide) (by decide) (by decide)) (RF.o (RF.o (RF.o hS_M50 (by decide) (by decide)) (by decide) (by decide)) (by decide) (by decide))   (by rw [((ju_i _ _ (zne (by decide))).trans ((ju_c _ _ (by decide)).trans ((ju_c _ _ (by decide)).trans e68))), ((ju_i _ _ (zne (by decide))).trans ((ju_c _ _ (by decide)).trans ((ju_c _ _ (by decide)).trans e71)))]; omega) (fun M67 hI_M67 hH_M67 hS_M67  w67_0 w67_1 w67_2 w67_3 w67_4 w67_5 w67_6 => ?_)) (Nat.le_of_ble_eq_true rfl))
      have y76 : (ju (ju (ju M50 659 v58 4) 660 v58 v8) 598 90 (v58 + 1)) 598 73 = v3 := ((ju_i _ _ (zne (by decide))).trans ((ju_c _ _ (by decide)).trans ((ju_c _ _ (by decide)).trans e68)))
      have y80 : (ju (ju (ju M50 659 v58 4) 660 v58 v8) 598 90 (v58 + 1)) 598 74 = v77 := ((ju_i _ _ (zne (by decide))).trans ((ju_c _ _ (by decide)).trans ((ju_c _ _ (by decide)).trans e79)))
      have tb67 : TK (ju (ju (ju M50 659 v58 4) 660 v58 v8) 598 90 (v58 + 1)) = TK M50 := ((TK.o (Or.inr ⟨by decide, by decide⟩)).trans ((TK.o (Or.inl (by decide))).trans ((TK.o (Or.inl (by decide))).trans rfl)))
      have y72 : (ju (ju (ju M50 659 v58 4) 660 v58 v8) 598 90 (v58 + 1)) 598 73 = v3 := ((ju_i _ _ (zne (by decide))).trans ((ju_c _ _ (by decide)).trans ((ju_c _ _ (by decide)).trans e68)))
      have y74 : (ju (ju (ju M50 659 v58 4) 660 v58 v8) 598 90 (v58 + 1)) 598 89 = v53 := ((ju_i _ _ (zne (by decide))).trans ((ju_c _ _ (by decide)).trans ((ju_c _ _ (by decide)).trans e73)))
      have y75 : (ju (ju (ju M50 659 v58 4) 660 v58 v8) 598 90 (v58 + 1)) 598 100 = v6 := ((ju_i _ _ (zne (by decide))).trans ((ju_c _ _ (by decide)).trans ((ju_c _ _ (by decide)).trans e61)))
      have x67_89 := w67_6 89 (zne rfl) (zne rfl) (zne rfl) (zne rfl) (zne rfl) (zne rfl) (zne rfl)
      have x67_100 := w67_6 100 (zne rfl) (zne rfl) (zne rfl) (zne rfl) (zne rfl) (zne rfl) (zne rfl)
      have hE := ES.fr2 hE w67_5 (w67_6 88 (zne rfl) (zne rfl) (zne rfl) (zne rfl) (zne rfl) (zne rfl) (zne rfl)) (w67_6 90 (zne rfl) (zne rfl) (zne rfl) (zne rfl) (zne rfl) (zne rfl) (zne rfl)) (w67_6 101 (zne rfl) (zne rfl) (zne rfl) (zne rfl) (zne rfl) (zne rfl) (zne rfl)) (w67_6 102 (zne rfl) (zne rfl) (zne rfl) (zne rfl) (zne rfl) (zne rfl) (zne rfl)) (w67_6 107 (zne rfl) (zne rfl) (zne rfl) (zne rfl) (zne rfl) (zne rfl) (zne rfl)) (k' := kk + 2) (d' := 0) (z' := 0) (by omega) (by omega) (by omega) (by omega)
      refine jr.iconst rfl ?_
      have e81 : M67 598 72 = v69 := ((w67_6 72 (zne rfl) (zne rfl) (zne rfl) (zne rfl) (zne rfl) (zne rfl) (zne rfl)).trans ((ju_i _ _ (zne (by decide))).trans ((ju_c _ _ (by decide)).trans ((ju_c _ _ (by decide)).trans e71))))
      obtain ⟨v83, e83⟩ : ∃ z, M67 598 73 = z := ⟨_, rfl⟩
      have b83 : 0 ≤ v83 ∧ v83 ≤ 1600 := by rw [← e83]; exact hI_M67 598 73 (Nat.le_of_ble_eq_true rfl)
      obtain ⟨v85, e85⟩ : ∃ z, M67 598 74 = z := ⟨_, rfl⟩
      have b85 : 0 ≤ v85 ∧ v85 ≤ 4 := by rw [← e85]; exact hI_M67 598 74 (Nat.le_of_ble_eq_true rfl)
      obtain ⟨v87, e87⟩ : ∃ z, M67 598 79 = z := ⟨_, rfl⟩
      have b87 : 0 ≤ v87 ∧ v87 ≤ 255 := by rw [← e87]; exact hI_M67 598 79 (Nat.le_of_ble_eq_true rfl)
      obtain ⟨v89, e89⟩ : ∃ z, M50 598 80 = z := ⟨_, rfl⟩
      have b89 : 0 ≤ v89 ∧ v89 ≤ 7 := by rw [← e89]; exact hI_M50 598 80 (Nat.le_of_ble_eq_true rfl)
      have e90 : M67 598 80 = v89 := ((w67_6 80 (zne rfl) (zne rfl) (zne rfl) (zne rfl) (zne rfl) (zne rfl) (zne rfl)).trans ((ju_i _ _ (zne (by decide))).trans ((ju_c _ _ (by decide)).trans ((ju_c _ _ (by decide)).trans e89))))
      have e92 : M67 598 89 = v53 := ((w67_6 89 (zne rfl) (zne rfl) (zne rfl) (zne rfl) (zne rfl) (zne rfl) (zne rfl)).trans ((ju_i _ _ (zne (by decide))).trans ((ju_c _ _ (by decide)).trans ((ju_c _ _ (by decide)).trans e73))))
      have e94 : M67 598 90 = v58 + 1 := ((w67_6 90 (zne rfl) (zne rfl) (zne rfl) (zne rfl) (zne rfl) (zne rfl) (zne rfl)).trans (ju_same _ _ _ _))
      have e96 : M67 598 100 = v6 := ((w67_6 100 (zne rfl) (zne rfl) (zne rfl) (zne rfl) (zne rfl) (zne rfl) (zne rfl)).trans ((ju_i _ _ (zne (by decide))).trans ((ju_c _ _ (by decide)).trans ((ju_c _ _ (by decide)).trans e61))))
      have e98 : M67 598 107 = v63 := ((w67_6 107 (zne rfl) (zne rfl) (zne rfl) (zne rfl) (zne rfl) (zne rfl) (zne rfl)).trans ((ju_i _ _ (zne (by decide))).trans ((ju_c _ _ (by decide)).trans ((ju_c _ _ (by decide)).trans e65))))
      exact jr.ireturn rfl rfl rfl (q _ _ hI_M67 hH_M67 hS_M67  (by omega) (by by_cases hf : v89 = 0; (first | (exfalso; omega) | (exact Or.inr ⟨⟨by omega, ES.adj hE (k' := kk) (z' := 0) (by omega) (by omega) (by omega), by omega, by omega, by omega, by omega⟩, by omega⟩)); (exact Or.inl ⟨by omega, by omega⟩)) (by omega) (by omega) (by omega) (CP.f (CP.emit (CP.f (CP.f hCP (fun i => w1_4 659 i (nne rfl)) (w1_5 90 (zne rfl) (zne rfl) (zne rfl))) (fun i => w50_1 659 i (nne rfl)) (w50_2 90 (zne rfl) (zne rfl))) e60) (fun i => w67_5 659 i (nne rfl)) (w67_6 90 (zne rfl) (zne rfl) (zne rfl) (zne rfl) (zne rfl) (zne rfl) (zne rfl))) (by omega) (fun a i f598 f659 f660 f664 f666 f667 => ((w67_5 a i f598).trans ((ju_c _ _ f598).trans ((ju_c _ _ f660).trans ((ju_c _ _ f659).trans ((w50_1 a i f598).trans ((w1_4 a i f598).trans (hF_M a i f598 f659 f660 f664 f666 f667)))))))) (fun i g73 g74 g75 g76 g77 g78 g79 g80 g81 g89 g90 g100 g102 => ((w67_6 i g73 g74 g75 g76 g77 g78 g79).trans ((ju_i _ _ g90).trans ((ju_c _ _ (by decide)).trans ((ju_c _ _ (by decide)).trans ((w50_2 i g80 g81).trans ((w1_5 i g80 g81 g89).trans (hG_M i g73 g74 g75 g76 g77 g78 g79 g80 g81 g89 g90 g100 g102)))))))))
theorem r_takeOperand_L65 {A : Nat → Option (Nat × (Nat → Int32))} {Q : Option Value → jm → Prop} {b kk : Int} {M0 : jm} (q : ∀ (r : Int) (M' : jm), RI M' → RH M' → RF M' → 0 ≤ r ∧ r ≤ 1 → (BS M' ∨ (GS M' b r kk ∧ TK M' < TK M0)) → TK M' ≤ TK M0 → M' 598 73 ≤ M' 598 72 → (M' 598 80 ≠ 0 ∨ TK M' < TK M0) → CP M0 M' → M0 598 89 ≤ M' 598 89 → (∀ (a : Nat) (i : Int), a ≠ 598 → a ≠ 659 → a ≠ 660 → a ≠ 664 → a ≠ 666 → a ≠ 667 → M' a i = M0 a i) → (∀ (i : Int), i ≠ 73 → i ≠ 74 → i ≠ 75 → i ≠ 76 → i ≠ 77 → i ≠ 78 → i ≠ 79 → i ≠ 80 → i ≠ 81 → i ≠ 89 → i ≠ 90 → i ≠ 100 → i ≠ 102 → M' 598 i = M0 598 i) → Q (some (.int (Int32.ofInt r))) M') : ∀ (M : jm) , RI M → RH M → RF M → (∀ (a : Nat) (i : Int), a ≠ 598 → a ≠ 659 → a ≠ 660 → a ≠ 664 → a ≠ 666 → a ≠ 667 → M a i = M0 a i) → (∀ (i : Int), i ≠ 73 → i ≠ 74 → i ≠ 75 → i ≠ 76 → i ≠ 77 → i ≠ 78 → i ≠ 79 → i ≠ 80 → i ≠ 81 → i ≠ 89 → i ≠ 90 → i ≠ 100 → i ≠ 102 → M 598 i = M0 598 i) → GS M b 0 kk → TK M = TK M0 → CP M0 M → M 598 89 = M0 598 89 → M 598 74 = 3 → jr A 5 xm_360 65 [(0, .ref (598))] [] M Q := by
    intro M  hI_M hH_M hS_M hF_M hG_M  hy0 hy1 hy2 hy3 hy4
    have p0 := hy0
    have hCP := hy2
    obtain ⟨gs1, gs2, gs3, gs4, gs5, gs6⟩ := id hy0
    have hE := gs2
    have sl := ES.sgle gs2
    have bb := ES.bb gs2
    have kb := ES.kz gs2
    have b107 : (0 : Int) ≤ M 598 107 ∧ M 598 107 ≤ 16 := hI_M 598 107 (Nat.le_of_ble_eq_true rfl)
    have b73 : (0 : Int) ≤ M 598 73 ∧ M 598 73 ≤ 1600 := hI_M 598 73 (Nat.le_of_ble_eq_true rfl)
    have b88 : (0 : Int) ≤ M 598 88 ∧ M 598 88 ≤ 16 := hI_M 598 88 (Nat.le_of_ble_eq_true rfl)
    have b100 : (0 : Int) ≤ M 598 100 ∧ M 598 100 ≤ 13 := hI_M 598 100 (Nat.le_of_ble_eq_true rfl)
    refine jr.aload_n rfl rfl ?_
    refine jr.bipush rfl (jbp _ (nlt rfl)) ?_
    refine jr.iconst rfl ?_
    obtain ⟨v1, e1⟩ : ∃ z, M 598 102 = z := ⟨_, rfl⟩
    have b1 : 0 ≤ v1 ∧ v1 ≤ 400 := by rw [← e1]; exact hI_M 598 102 (Nat.le_of_ble_eq_true rfl)
    refine jr_v rfl rfl (Or.inl rfl) rfl rfl (nlt rfl) rfl ⟨rfl, Nat.le_of_ble_eq_true rfl, Nat.le_of_ble_eq_true rfl⟩ rfl (jc.deep (r_push e1 (by omega) (by omega) (by omega) ?_) (Nat.le_of_ble_eq_true rfl))
    have hE := ES.deep hE e1 40 (-1) 0 kk (by omega) (by omega) (by omega)
    refine jr.aload_n rfl rfl ?_
    obtain ⟨v3, e3⟩ : ∃ z, M 598 73 = z := ⟨_, rfl⟩
    have b3 : 0 ≤ v3 ∧ v3 ≤ 1600 := by rw [← e3]; exact hI_M 598 73 (Nat.le_of_ble_eq_true rfl)
    obtain ⟨v4, e4⟩ : ∃ z, M 598 72 = z := ⟨_, rfl⟩
    have b4 : 0 ≤ v4 ∧ v4 ≤ 1600 := by rw [← e4]; exact hI_M 598 72 (Nat.le_of_ble_eq_true rfl)
    obtain ⟨v5, e5⟩ : ∃ z, M 598 100 = z := ⟨_, rfl⟩
    have b5 : 0 ≤ v5 ∧ v5 ≤ 13 := by rw [← e5]; exact hI_M 598 100 (Nat.le_of_ble_eq_true rfl)
    obtain ⟨v7, e7⟩ : ∃ z, M 598 89 = z := ⟨_, rfl⟩
    have b7 : 0 ≤ v7 ∧ v7 ≤ 301 := by rw [← e7]; exact hI_M 598 89 (Nat.le_of_ble_eq_true rfl)
    obtain ⟨v11, e11⟩ : ∃ z, M 598 74 = z := ⟨_, rfl⟩
    have b11 : 0 ≤ v11 ∧ v11 ≤ 4 := by rw [← e11]; exact hI_M 598 74 (Nat.le_of_ble_eq_true rfl)
    obtain ⟨v13, e13⟩ : ∃ z, M 598 79 = z := ⟨_, rfl⟩
    have b13 : 0 ≤ v13 ∧ v13 ≤ 255 := by rw [← e13]; exact hI_M 598 79 (Nat.le_of_ble_eq_true rfl)
    obtain ⟨v15, e15⟩ : ∃ z, M 598 80 = z := ⟨_, rfl⟩
    have b15 : 0 ≤ v15 ∧ v15 ≤ 7 := by rw [← e15]; exact hI_M 598 80 (Nat.le_of_ble_eq_true rfl)
    refine jr_v rfl rfl (Or.inl rfl) rfl rfl (nlt rfl) rfl ⟨rfl, Nat.le_of_ble_eq_true rfl, Nat.le_of_ble_eq_true rfl⟩ rfl (jc.deep (r_deeper (RI.u (RI.u (RI.u (RI.u hI_M (a := 664) (i := v1) (by rw [xri_row rfl rfl]; show (0 : Int) ≤ _ ∧ _ ≤ (255 : Int); omega)) (a := 666) (i := v1) (by rw [xri_row rfl rfl]; show (-1 : Int) ≤ _ ∧ _ ≤ (68 : Int); omega)) (a := 667) (i := v1) (by rw [xri_row rfl rfl]; show (0 : Int) ≤ _ ∧ _ ≤ (4 : Int); omega)) (a := 598) (i := 102) (show (0 : Int) ≤ _ ∧ _ ≤ (400 : Int) from by omega)) (RH.o (RH.o (RH.o (RH.o hH_M (by decide) (by decide) (by decide)) (by decide) (by decide) (by decide)) (by decide) (by decide) (by decide)) (by decide) (by decide) (by decide)) (RF.o (RF.o (RF.o (RF.o hS_M (by decide) (by decide)) (by decide) (by decide)) (by decide) (by decide)) (by decide) (by decide))   (by rw [((ju_i _ _ (zne (by decide))).trans ((ju_c _ _ (by decide)).trans ((ju_c _ _ (by decide)).trans ((ju_c _ _ (by decide)).trans e3)))), ((ju_i _ _ (zne (by decide))).trans ((ju_c _ _ (by decide)).trans ((ju_c _ _ (by decide)).trans ((ju_c _ _ (by decide)).trans e4))))]; omega) (by rw [((ju_i _ _ (zne (by decide))).trans ((ju_c _ _ (by decide)).trans ((ju_c _ _ (by decide)).trans ((ju_c _ _ (by decide)).trans e5))))]; omega) (fun M2 hI_M2 hH_M2 hS_M2  w2_0 w2_1 w2_2 w2_3 w2_4 w2_5 w2_6 w2_7 w2_8 w2_9 => ?_)) (Nat.le_of_ble_eq_true rfl))
    have y10 : (ju (ju (ju (ju M 664 v1 40) 666 v1 (-1)) 667 v1 1) 598 102 (v1 + 1)) 598 73 = v3 := ((ju_i _ _ (zne (by decide))).trans ((ju_c _ _ (by decide)).trans ((ju_c _ _ (by decide)).trans ((ju_c _ _ (by decide)).trans e3))))
    have y12 : (ju (ju (ju (ju M 664 v1 40) 666 v1 (-1)) 667 v1 1) 598 102 (v1 + 1)) 598 74 = v11 := ((ju_i _ _ (zne (by decide))).trans ((ju_c _ _ (by decide)).trans ((ju_c _ _ (by decide)).trans ((ju_c _ _ (by decide)).trans e11))))
    have y14 : (ju (ju (ju (ju M 664 v1 40) 666 v1 (-1)) 667 v1 1) 598 102 (v1 + 1)) 598 79 = v13 := ((ju_i _ _ (zne (by decide))).trans ((ju_c _ _ (by decide)).trans ((ju_c _ _ (by decide)).trans ((ju_c _ _ (by decide)).trans e13))))
    have y16 : (ju (ju (ju (ju M 664 v1 40) 666 v1 (-1)) 667 v1 1) 598 102 (v1 + 1)) 598 80 = v15 := ((ju_i _ _ (zne (by decide))).trans ((ju_c _ _ (by decide)).trans ((ju_c _ _ (by decide)).trans ((ju_c _ _ (by decide)).trans e15))))
    have y17 : (ju (ju (ju (ju M 664 v1 40) 666 v1 (-1)) 667 v1 1) 598 102 (v1 + 1)) 598 100 = v5 := ((ju_i _ _ (zne (by decide))).trans ((ju_c _ _ (by decide)).trans ((ju_c _ _ (by decide)).trans ((ju_c _ _ (by decide)).trans e5))))
    have tb2 : TK (ju (ju (ju (ju M 664 v1 40) 666 v1 (-1)) 667 v1 1) 598 102 (v1 + 1)) = TK M := ((TK.o (Or.inr ⟨by decide, by decide⟩)).trans ((TK.o (Or.inl (by decide))).trans ((TK.o (Or.inl (by decide))).trans ((TK.o (Or.inl (by decide))).trans rfl))))
    have y6 : (ju (ju (ju (ju M 664 v1 40) 666 v1 (-1)) 667 v1 1) 598 102 (v1 + 1)) 598 73 = v3 := ((ju_i _ _ (zne (by decide))).trans ((ju_c _ _ (by decide)).trans ((ju_c _ _ (by decide)).trans ((ju_c _ _ (by decide)).trans e3))))
    have y8 : (ju (ju (ju (ju M 664 v1 40) 666 v1 (-1)) 667 v1 1) 598 102 (v1 + 1)) 598 89 = v7 := ((ju_i _ _ (zne (by decide))).trans ((ju_c _ _ (by decide)).trans ((ju_c _ _ (by decide)).trans ((ju_c _ _ (by decide)).trans e7))))
    have y9 : (ju (ju (ju (ju M 664 v1 40) 666 v1 (-1)) 667 v1 1) 598 102 (v1 + 1)) 598 100 = v5 := ((ju_i _ _ (zne (by decide))).trans ((ju_c _ _ (by decide)).trans ((ju_c _ _ (by decide)).trans ((ju_c _ _ (by decide)).trans e5))))
    have x2_89 := w2_9 89 (zne rfl) (zne rfl) (zne rfl) (zne rfl) (zne rfl) (zne rfl) (zne rfl) (zne rfl) (zne rfl) (zne rfl)
    have hE := ES.fr2 hE w2_8 (w2_9 88 (zne rfl) (zne rfl) (zne rfl) (zne rfl) (zne rfl) (zne rfl) (zne rfl) (zne rfl) (zne rfl) (zne rfl)) (w2_9 90 (zne rfl) (zne rfl) (zne rfl) (zne rfl) (zne rfl) (zne rfl) (zne rfl) (zne rfl) (zne rfl) (zne rfl)) (w2_9 101 (zne rfl) (zne rfl) (zne rfl) (zne rfl) (zne rfl) (zne rfl) (zne rfl) (zne rfl) (zne rfl) (zne rfl)) (w2_9 102 (zne rfl) (zne rfl) (zne rfl) (zne rfl) (zne rfl) (zne rfl) (zne rfl) (zne rfl) (zne rfl) (zne rfl)) (w2_9 107 (zne rfl) (zne rfl) (zne rfl) (zne rfl) (zne rfl) (zne rfl) (zne rfl) (zne rfl) (zne rfl) (zne rfl)) (k' := kk) (d' := 0) (z' := 0) (by omega) (by omega) (by omega) (by omega)
    refine jr.iconst rfl ?_
    have e18 : M2 598 72 = v4 := ((w2_9 72 (zne rfl) (zne rfl) (zne rfl) (zne rfl) (zne rfl) (zne rfl) (zne rfl) (zne rfl) (zne rfl) (zne rfl)).trans ((ju_i _ _ (zne (by decide))).trans ((ju_c _ _ (by decide)).trans ((ju_c _ _ (by decide)).trans ((ju_c _ _ (by decide)).trans e4)))))
    obtain ⟨v20, e20⟩ : ∃ z, M2 598 73 = z := ⟨_, rfl⟩
    have b20 : 0 ≤ v20 ∧ v20 ≤ 1600 := by rw [← e20]; exact hI_M2 598 73 (Nat.le_of_ble_eq_true rfl)
    obtain ⟨v22, e22⟩ : ∃ z, M2 598 74 = z := ⟨_, rfl⟩
    have b22 : 0 ≤ v22 ∧ v22 ≤ 4 := by rw [← e22]; exact hI_M2 598 74 (Nat.le_of_ble_eq_true rfl)
    obtain ⟨v24, e24⟩ : ∃ z, M2 598 79 = z := ⟨_, rfl⟩
    have b24 : 0 ≤ v24 ∧ v24 ≤ 255 := by rw [← e24]; exact hI_M2 598 79 (Nat.le_of_ble_eq_true rfl)
    obtain ⟨v26, e26⟩ : ∃ z, M2 598 80 = z := ⟨_, rfl⟩
    have b26 : 0 ≤ v26 ∧ v26 ≤ 7 := by rw [← e26]; exact hI_M2 598 80 (Nat.le_of_ble_eq_true rfl)
    have e28 : M2 598 89 = v7 := ((w2_9 89 (zne rfl) (zne rfl) (zne rfl) (zne rfl) (zne rfl) (zne rfl) (zne rfl) (zne rfl) (zne rfl) (zne rfl)).trans ((ju_i _ _ (zne (by decide))).trans ((ju_c _ _ (by decide)).trans ((ju_c _ _ (by decide)).trans ((ju_c _ _ (by decide)).trans e7)))))
    obtain ⟨v30, e30⟩ : ∃ z, M 598 90 = z := ⟨_, rfl⟩
    have b30 : 0 ≤ v30 ∧ v30 ≤ 2200 := by rw [← e30]; exact hI_M 598 90 (Nat.le_of_ble_eq_true rfl)
    have e31 : M2 598 90 = v30 := ((w2_9 90 (zne rfl) (zne rfl) (zne rfl) (zne rfl) (zne rfl) (zne rfl) (zne rfl) (zne rfl) (zne rfl) (zne rfl)).trans ((ju_i _ _ (zne (by decide))).trans ((ju_c _ _ (by decide)).trans ((ju_c _ _ (by decide)).trans ((ju_c _ _ (by decide)).trans e30)))))
    obtain ⟨v33, e33⟩ : ∃ z, M2 598 100 = z := ⟨_, rfl⟩
    have b33 : 0 ≤ v33 ∧ v33 ≤ 13 := by rw [← e33]; exact hI_M2 598 100 (Nat.le_of_ble_eq_true rfl)
    obtain ⟨v35, e35⟩ : ∃ z, M 598 107 = z := ⟨_, rfl⟩
    have b35 : 0 ≤ v35 ∧ v35 ≤ 16 := by rw [← e35]; exact hI_M 598 107 (Nat.le_of_ble_eq_true rfl)
    have e36 : M2 598 107 = v35 := ((w2_9 107 (zne rfl) (zne rfl) (zne rfl) (zne rfl) (zne rfl) (zne rfl) (zne rfl) (zne rfl) (zne rfl) (zne rfl)).trans ((ju_i _ _ (zne (by decide))).trans ((ju_c _ _ (by decide)).trans ((ju_c _ _ (by decide)).trans ((ju_c _ _ (by decide)).trans e35)))))
    exact jr.ireturn rfl rfl rfl (q _ _ hI_M2 hH_M2 hS_M2  (by omega) (by by_cases hf : v26 = 0; (first | (exact Or.inr ⟨⟨by omega, ES.adj hE (k' := kk) (z' := 0) (by omega) (by omega) (by omega), by omega, by omega, by omega, by omega⟩, by omega⟩) | (exfalso; omega)); (exact Or.inl ⟨by omega, by omega⟩)) (by omega) (by omega) (by omega) (CP.f (CP.o (CP.o (CP.o (CP.o hCP (by decide) (Or.inl (by decide))) (by decide) (Or.inl (by decide))) (by decide) (Or.inl (by decide))) (by decide) (Or.inr (by decide))) (fun i => w2_8 659 i (nne rfl)) (w2_9 90 (zne rfl) (zne rfl) (zne rfl) (zne rfl) (zne rfl) (zne rfl) (zne rfl) (zne rfl) (zne rfl) (zne rfl))) (by omega) (fun a i f598 f659 f660 f664 f666 f667 => ((w2_8 a i f598).trans ((ju_c _ _ f598).trans ((ju_c _ _ f667).trans ((ju_c _ _ f666).trans ((ju_c _ _ f664).trans (hF_M a i f598 f659 f660 f664 f666 f667))))))) (fun i g73 g74 g75 g76 g77 g78 g79 g80 g81 g89 g90 g100 g102 => ((w2_9 i g73 g74 g75 g76 g77 g78 g79 g80 g81 g100).trans ((ju_i _ _ g102).trans ((ju_c _ _ (by decide)).trans ((ju_c _ _ (by decide)).trans ((ju_c _ _ (by decide)).trans (hG_M i g73 g74 g75 g76 g77 g78 g79 g80 g81 g89 g90 g100 g102))))))))
theorem r_takeOperand_L18 {A : Nat → Option (Nat × (Nat → Int32))} {Q : Option Value → jm → Prop} {b kk : Int} {M0 : jm} (q : ∀ (r : Int) (M' : jm), RI M' → RH M' → RF M' → 0 ≤ r ∧ r ≤ 1 → (BS M' ∨ (GS M' b r kk ∧ TK M' < TK M0)) → TK M' ≤ TK M0 → M' 598 73 ≤ M' 598 72 → (M' 598 80 ≠ 0 ∨ TK M' < TK M0) → CP M0 M' → M0 598 89 ≤ M' 598 89 → (∀ (a : Nat) (i : Int), a ≠ 598 → a ≠ 659 → a ≠ 660 → a ≠ 664 → a ≠ 666 → a ≠ 667 → M' a i = M0 a i) → (∀ (i : Int), i ≠ 73 → i ≠ 74 → i ≠ 75 → i ≠ 76 → i ≠ 77 → i ≠ 78 → i ≠ 79 → i ≠ 80 → i ≠ 81 → i ≠ 89 → i ≠ 90 → i ≠ 100 → i ≠ 102 → M' 598 i = M0 598 i) → Q (some (.int (Int32.ofInt r))) M') : ∀ (M : jm) , RI M → RH M → RF M → (∀ (a : Nat) (i : Int), a ≠ 598 → a ≠ 659 → a ≠ 660 → a ≠ 664 → a ≠ 666 → a ≠ 667 → M a i = M0 a i) → (∀ (i : Int), i ≠ 73 → i ≠ 74 → i ≠ 75 → i ≠ 76 → i ≠ 77 → i ≠ 78 → i ≠ 79 → i ≠ 80 → i ≠ 81 → i ≠ 89 → i ≠ 90 → i ≠ 100 → i ≠ 102 → M 598 i = M0 598 i) → GS M b 0 kk → TK M = TK M0 → CP M0 M → M 598 89 = M0 598 89 → M 598 74 = 3 → jr A 5 xm_360 18 [(0, .ref (598))] [] M Q := by
    intro M  hI_M hH_M hS_M hF_M hG_M  hy0 hy1 hy2 hy3 hy4
    have p0 := hy0
    have hCP := hy2
    obtain ⟨gs1, gs2, gs3, gs4, gs5, gs6⟩ := id hy0
    have hE := gs2
    have sl := ES.sgle gs2
    have bb := ES.bb gs2
    have kb := ES.kz gs2
    have b107 : (0 : Int) ≤ M 598 107 ∧ M 598 107 ≤ 16 := hI_M 598 107 (Nat.le_of_ble_eq_true rfl)
    have b73 : (0 : Int) ≤ M 598 73 ∧ M 598 73 ≤ 1600 := hI_M 598 73 (Nat.le_of_ble_eq_true rfl)
    have b88 : (0 : Int) ≤ M 598 88 ∧ M 598 88 ≤ 16 := hI_M 598 88 (Nat.le_of_ble_eq_true rfl)
    have b100 : (0 : Int) ≤ M 598 100 ∧ M 598 100 ≤ 13 := hI_M 598 100 (Nat.le_of_ble_eq_true rfl)
    refine jr.aload_n rfl rfl ?_
    obtain ⟨v2, e2⟩ : ∃ z, M 598 89 = z := ⟨_, rfl⟩
    have b2 : 0 ≤ v2 ∧ v2 ≤ 301 := by rw [← e2]; exact hI_M 598 89 (Nat.le_of_ble_eq_true rfl)
    obtain ⟨v3, e3⟩ : ∃ z, M 598 73 = z := ⟨_, rfl⟩
    have b3 : 0 ≤ v3 ∧ v3 ≤ 1600 := by rw [← e3]; exact hI_M 598 73 (Nat.le_of_ble_eq_true rfl)
    obtain ⟨v6, e6⟩ : ∃ z, M 598 100 = z := ⟨_, rfl⟩
    have b6 : 0 ≤ v6 ∧ v6 ≤ 13 := by rw [← e6]; exact hI_M 598 100 (Nat.le_of_ble_eq_true rfl)
    refine jr_v rfl rfl (Or.inl rfl) rfl rfl (nlt rfl) rfl ⟨rfl, Nat.le_of_ble_eq_true rfl, Nat.le_of_ble_eq_true rfl⟩ rfl (jc.deep (r_node hI_M hH_M hS_M   (by rw [e2]; omega) (fun M1 hI_M1 hH_M1 hS_M1  w1_0 w1_1 w1_2 w1_3 w1_4 w1_5 => ?_)) (Nat.le_of_ble_eq_true rfl))
    have tk1 : TK M1 = TK M := TK.fr (w1_5 73 (zne rfl) (zne rfl) (zne rfl)) (w1_5 74 (zne rfl) (zne rfl) (zne rfl))
    have x1_73 := w1_5 73 (zne rfl) (zne rfl) (zne rfl)
    have x1_100 := w1_5 100 (zne rfl) (zne rfl) (zne rfl)
    have hE := ES.fr2 hE w1_4 (w1_5 88 (zne rfl) (zne rfl) (zne rfl)) (w1_5 90 (zne rfl) (zne rfl) (zne rfl)) (w1_5 101 (zne rfl) (zne rfl) (zne rfl)) (w1_5 102 (zne rfl) (zne rfl) (zne rfl)) (w1_5 107 (zne rfl) (zne rfl) (zne rfl)) (k' := kk + 4) (d' := 0) (z' := 0) (by omega) (by omega) (by omega) (by omega)
    refine jr.aload_n rfl rfl ?_
    refine jr.aload_n rfl rfl ?_
    refine jr.bipush rfl (jbp _ (nlt rfl)) ?_
    refine jr_v rfl rfl (Or.inl rfl) rfl rfl (nlt rfl) rfl ⟨rfl, Nat.le_of_ble_eq_true rfl, Nat.le_of_ble_eq_true rfl⟩ rfl (jc.deep (c_isSign hI_M1 (by omega) (fun t26_0 t26_1 => ?_) (fun f26_0 => ?_)) (Nat.le_of_ble_eq_true rfl))
    · refine jr.if_eq rfl rfl (by first | exact rgl rfl | omega) (fun h => absurd h (by decide)) (fun _ => ?_)
      refine jr.bipush rfl (jbp _ (nlt rfl)) ?_
      refine jr.goto rfl rfl ?_
      refine jr.iconst rfl ?_
      obtain ⟨v8, e8⟩ : ∃ z, M 598 102 = z := ⟨_, rfl⟩
      have b8 : 0 ≤ v8 ∧ v8 ≤ 400 := by rw [← e8]; exact hI_M 598 102 (Nat.le_of_ble_eq_true rfl)
      have e9 : M1 598 102 = v8 := ((w1_5 102 (zne rfl) (zne rfl) (zne rfl)).trans e8)
      refine jr_v rfl rfl (Or.inl rfl) rfl rfl (nlt rfl) rfl ⟨rfl, Nat.le_of_ble_eq_true rfl, Nat.le_of_ble_eq_true rfl⟩ rfl (jc.deep (r_push e9 (by omega) (by omega) (by omega) ?_) (Nat.le_of_ble_eq_true rfl))
      have hE := ES.deep hE e9 10 (-1) 1 (kk + 2) (by omega) (by omega) (by omega)
      refine jr.aload_n rfl rfl ?_
      refine jr_v rfl rfl (Or.inl rfl) rfl rfl (nlt rfl) rfl ⟨rfl, Nat.le_of_ble_eq_true rfl, Nat.le_of_ble_eq_true rfl⟩ rfl (jc.deep (c_good (RI.u (RI.u (RI.u (RI.u hI_M1 (a := 664) (i := v8) (by rw [xri_row rfl rfl]; show (0 : Int) ≤ _ ∧ _ ≤ (255 : Int); omega)) (a := 666) (i := v8) (by rw [xri_row rfl rfl]; show (-1 : Int) ≤ _ ∧ _ ≤ (68 : Int); omega)) (a := 667) (i := v8) (by rw [xri_row rfl rfl]; show (0 : Int) ≤ _ ∧ _ ≤ (4 : Int); omega)) (a := 598) (i := 102) (show (0 : Int) ≤ _ ∧ _ ≤ (400 : Int) from by omega))  (fun t44_0 => ?_) (fun f44_0 => ?_)) (Nat.le_of_ble_eq_true rfl))
      · refine jr.if_eq rfl rfl (by first | exact rgl rfl | omega) (fun h => absurd h (by decide)) (fun _ => ?_)
        refine jr.aload_n rfl rfl ?_
        have e11 : M1 598 73 = v3 := ((w1_5 73 (zne rfl) (zne rfl) (zne rfl)).trans e3)
        obtain ⟨v12, e12⟩ : ∃ z, M 598 72 = z := ⟨_, rfl⟩
        have b12 : 0 ≤ v12 ∧ v12 ≤ 1600 := by rw [← e12]; exact hI_M 598 72 (Nat.le_of_ble_eq_true rfl)
        have e13 : M1 598 72 = v12 := ((w1_5 72 (zne rfl) (zne rfl) (zne rfl)).trans e12)
        have e14 : M1 598 100 = v6 := ((w1_5 100 (zne rfl) (zne rfl) (zne rfl)).trans e6)
        obtain ⟨v16, e16⟩ : ∃ z, M1 598 89 = z := ⟨_, rfl⟩
        have b16 : 0 ≤ v16 ∧ v16 ≤ 301 := by rw [← e16]; exact hI_M1 598 89 (Nat.le_of_ble_eq_true rfl)
        obtain ⟨v20, e20⟩ : ∃ z, M 598 74 = z := ⟨_, rfl⟩
        have b20 : 0 ≤ v20 ∧ v20 ≤ 4 := by rw [← e20]; exact hI_M 598 74 (Nat.le_of_ble_eq_true rfl)
        have e21 : M1 598 74 = v20 := ((w1_5 74 (zne rfl) (zne rfl) (zne rfl)).trans e20)
        obtain ⟨v23, e23⟩ : ∃ z, M 598 79 = z := ⟨_, rfl⟩
        have b23 : 0 ≤ v23 ∧ v23 ≤ 255 := by rw [← e23]; exact hI_M 598 79 (Nat.le_of_ble_eq_true rfl)
        have e24 : M1 598 79 = v23 := ((w1_5 79 (zne rfl) (zne rfl) (zne rfl)).trans e23)
        obtain ⟨v26, e26⟩ : ∃ z, M1 598 80 = z := ⟨_, rfl⟩
        have b26 : 0 ≤ v26 ∧ v26 ≤ 7 := by rw [← e26]; exact hI_M1 598 80 (Nat.le_of_ble_eq_true rfl)
        refine jr_v rfl rfl (Or.inl rfl) rfl rfl (nlt rfl) rfl ⟨rfl, Nat.le_of_ble_eq_true rfl, Nat.le_of_ble_eq_true rfl⟩ rfl (jc.deep (r_deeper (RI.u (RI.u (RI.u (RI.u hI_M1 (a := 664) (i := v8) (by rw [xri_row rfl rfl]; show (0 : Int) ≤ _ ∧ _ ≤ (255 : Int); omega)) (a := 666) (i := v8) (by rw [xri_row rfl rfl]; show (-1 : Int) ≤ _ ∧ _ ≤ (68 : Int); omega)) (a := 667) (i := v8) (by rw [xri_row rfl rfl]; show (0 : Int) ≤ _ ∧ _ ≤ (4 : Int); omega)) (a := 598) (i := 102) (show (0 : Int) ≤ _ ∧ _ ≤ (400 : Int) from by omega)) (RH.o (RH.o (RH.o (RH.o hH_M1 (by decide) (by decide) (by decide)) (by decide) (by decide) (by decide)) (by decide) (by decide) (by decide)) (by decide) (by decide) (by decide)) (RF.o (RF.o (RF.o (RF.o hS_M1 (by decide) (by decide)) (by decide) (by decide)) (by decide) (by decide)) (by decide) (by decide))   (by rw [((ju_i _ _ (zne (by decide))).trans ((ju_c _ _ (by decide)).trans ((ju_c _ _ (by decide)).trans ((ju_c _ _ (by decide)).trans e11)))), ((ju_i _ _ (zne (by decide))).trans ((ju_c _ _ (by decide)).trans ((ju_c _ _ (by decide)).trans ((ju_c _ _ (by decide)).trans e13))))]; omega) (by rw [((ju_i _ _ (zne (by decide))).trans ((ju_c _ _ (by decide)).trans ((ju_c _ _ (by decide)).trans ((ju_c _ _ (by decide)).trans e14))))]; omega) (fun M10 hI_M10 hH_M10 hS_M10  w10_0 w10_1 w10_2 w10_3 w10_4 w10_5 w10_6 w10_7 w10_8 w10_9 => ?_)) (Nat.le_of_ble_eq_true rfl))
        have y19 : (ju (ju (ju (ju M1 664 v8 10) 666 v8 (-1)) 667 v8 1) 598 102 (v8 + 1)) 598 73 = v3 := ((ju_i _ _ (zne (by decide))).trans ((ju_c _ _ (by decide)).trans ((ju_c _ _ (by decide)).trans ((ju_c _ _ (by decide)).trans e11))))
        have y22 : (ju (ju (ju (ju M1 664 v8 10) 666 v8 (-1)) 667 v8 1) 598 102 (v8 + 1)) 598 74 = v20 := ((ju_i _ _ (zne (by decide))).trans ((ju_c _ _ (by decide)).trans ((ju_c _ _ (by decide)).trans ((ju_c _ _ (by decide)).trans e21))))
        have y25 : (ju (ju (ju (ju M1 664 v8 10) 666 v8 (-1)) 667 v8 1) 598 102 (v8 + 1)) 598 79 = v23 := ((ju_i _ _ (zne (by decide))).trans ((ju_c _ _ (by decide)).trans ((ju_c _ _ (by decide)).trans ((ju_c _ _ (by decide)).trans e24))))
        have y27 : (ju (ju (ju (ju M1 664 v8 10) 666 v8 (-1)) 667 v8 1) 598 102 (v8 + 1)) 598 80 = v26 := ((ju_i _ _ (zne (by decide))).trans ((ju_c _ _ (by decide)).trans ((ju_c _ _ (by decide)).trans ((ju_c _ _ (by decide)).trans e26))))
        have y28 : (ju (ju (ju (ju M1 664 v8 10) 666 v8 (-1)) 667 v8 1) 598 102 (v8 + 1)) 598 100 = v6 := ((ju_i _ _ (zne (by decide))).trans ((ju_c _ _ (by decide)).trans ((ju_c _ _ (by decide)).trans ((ju_c _ _ (by decide)).trans e14))))
        have tb10 : TK (ju (ju (ju (ju M1 664 v8 10) 666 v8 (-1)) 667 v8 1) 598 102 (v8 + 1)) = TK M1 := ((TK.o (Or.inr ⟨by decide, by decide⟩)).trans ((TK.o (Or.inl (by decide))).trans ((TK.o (Or.inl (by decide))).trans ((TK.o (Or.inl (by decide))).trans rfl))))
        have y15 : (ju (ju (ju (ju M1 664 v8 10) 666 v8 (-1)) 667 v8 1) 598 102 (v8 + 1)) 598 73 = v3 := ((ju_i _ _ (zne (by decide))).trans ((ju_c _ _ (by decide)).trans ((ju_c _ _ (by decide)).trans ((ju_c _ _ (by decide)).trans e11))))
        have y17 : (ju (ju (ju (ju M1 664 v8 10) 666 v8 (-1)) 667 v8 1) 598 102 (v8 + 1)) 598 89 = v16 := ((ju_i _ _ (zne (by decide))).trans ((ju_c _ _ (by decide)).trans ((ju_c _ _ (by decide)).trans ((ju_c _ _ (by decide)).trans e16))))
        have y18 : (ju (ju (ju (ju M1 664 v8 10) 666 v8 (-1)) 667 v8 1) 598 102 (v8 + 1)) 598 100 = v6 := ((ju_i _ _ (zne (by decide))).trans ((ju_c _ _ (by decide)).trans ((ju_c _ _ (by decide)).trans ((ju_c _ _ (by decide)).trans e14))))
        have x10_89 := w10_9 89 (zne rfl) (zne rfl) (zne rfl) (zne rfl) (zne rfl) (zne rfl) (zne rfl) (zne rfl) (zne rfl) (zne rfl)
        have hE := ES.fr2 hE w10_8 (w10_9 88 (zne rfl) (zne rfl) (zne rfl) (zne rfl) (zne rfl) (zne rfl) (zne rfl) (zne rfl) (zne rfl) (zne rfl)) (w10_9 90 (zne rfl) (zne rfl) (zne rfl) (zne rfl) (zne rfl) (zne rfl) (zne rfl) (zne rfl) (zne rfl) (zne rfl)) (w10_9 101 (zne rfl) (zne rfl) (zne rfl) (zne rfl) (zne rfl) (zne rfl) (zne rfl) (zne rfl) (zne rfl) (zne rfl)) (w10_9 102 (zne rfl) (zne rfl) (zne rfl) (zne rfl) (zne rfl) (zne rfl) (zne rfl) (zne rfl) (zne rfl) (zne rfl)) (w10_9 107 (zne rfl) (zne rfl) (zne rfl) (zne rfl) (zne rfl) (zne rfl) (zne rfl) (zne rfl) (zne rfl) (zne rfl)) (k' := kk + 2) (d' := 0) (z' := 0) (by omega) (by omega) (by omega) (by omega)
        refine jr.iconst rfl ?_
        have e29 : M10 598 72 = v12 := ((w10_9 72 (zne rfl) (zne rfl) (zne rfl) (zne rfl) (zne rfl) (zne rfl) (zne rfl) (zne rfl) (zne rfl) (zne rfl)).trans ((ju_i _ _ (zne (by decide))).trans ((ju_c _ _ (by decide)).trans ((ju_c _ _ (by decide)).trans ((ju_c _ _ (by decide)).trans e13)))))
        obtain ⟨v31, e31⟩ : ∃ z, M10 598 73 = z := ⟨_, rfl⟩
        have b31 : 0 ≤ v31 ∧ v31 ≤ 1600 := by rw [← e31]; exact hI_M10 598 73 (Nat.le_of_ble_eq_true rfl)
        obtain ⟨v33, e33⟩ : ∃ z, M10 598 74 = z := ⟨_, rfl⟩
        have b33 : 0 ≤ v33 ∧ v33 ≤ 4 := by rw [← e33]; exact hI_M10 598 74 (Nat.le_of_ble_eq_true rfl)
        obtain ⟨v35, e35⟩ : ∃ z, M10 598 79 = z := ⟨_, rfl⟩
        have b35 : 0 ≤ v35 ∧ v35 ≤ 255 := by rw [← e35]; exact hI_M10 598 79 (Nat.le_of_ble_eq_true rfl)
        obtain ⟨v37, e37⟩ : ∃ z, M10 598 80 = z := ⟨_, rfl⟩
        have b37 : 0 ≤ v37 ∧ v37 ≤ 7 := by rw [← e37]; exact hI_M10 598 80 (Nat.le_of_ble_eq_true rfl)
        have e39 : M10 598 89 = v16 := ((w10_9 89 (zne rfl) (zne rfl) (zne rfl) (zne rfl) (zne rfl) (zne rfl) (zne rfl) (zne rfl) (zne rfl) (zne rfl)).trans ((ju_i _ _ (zne (by decide))).trans ((ju_c _ _ (by decide)).trans ((ju_c _ _ (by decide)).trans ((ju_c _ _ (by decide)).trans e16)))))
        obtain ⟨v41, e41⟩ : ∃ z, M 598 90 = z := ⟨_, rfl⟩
        have b41 : 0 ≤ v41 ∧ v41 ≤ 2200 := by rw [← e41]; exact hI_M 598 90 (Nat.le_of_ble_eq_true rfl)
        have e42 : M1 598 90 = v41 := ((w1_5 90 (zne rfl) (zne rfl) (zne rfl)).trans e41)
        have e43 : M10 598 90 = v41 := ((w10_9 90 (zne rfl) (zne rfl) (zne rfl) (zne rfl) (zne rfl) (zne rfl) (zne rfl) (zne rfl) (zne rfl) (zne rfl)).trans ((ju_i _ _ (zne (by decide))).trans ((ju_c _ _ (by decide)).trans ((ju_c _ _ (by decide)).trans ((ju_c _ _ (by decide)).trans e42)))))
        obtain ⟨v45, e45⟩ : ∃ z, M10 598 100 = z := ⟨_, rfl⟩
        have b45 : 0 ≤ v45 ∧ v45 ≤ 13 := by rw [← e45]; exact hI_M10 598 100 (Nat.le_of_ble_eq_true rfl)
        obtain ⟨v47, e47⟩ : ∃ z, M 598 107 = z := ⟨_, rfl⟩
        have b47 : 0 ≤ v47 ∧ v47 ≤ 16 := by rw [← e47]; exact hI_M 598 107 (Nat.le_of_ble_eq_true rfl)
        have e48 : M1 598 107 = v47 := ((w1_5 107 (zne rfl) (zne rfl) (zne rfl)).trans e47)
        have e49 : M10 598 107 = v47 := ((w10_9 107 (zne rfl) (zne rfl) (zne rfl) (zne rfl) (zne rfl) (zne rfl) (zne rfl) (zne rfl) (zne rfl) (zne rfl)).trans ((ju_i _ _ (zne (by decide))).trans ((ju_c _ _ (by decide)).trans ((ju_c _ _ (by decide)).trans ((ju_c _ _ (by decide)).trans e48)))))
        exact jr.ireturn rfl rfl rfl (q _ _ hI_M10 hH_M10 hS_M10  (by omega) (by by_cases hf : v37 = 0; (first | (exact Or.inr ⟨⟨by omega, ES.adj hE (k' := kk) (z' := 0) (by omega) (by omega) (by omega), by omega, by omega, by omega, by omega⟩, by omega⟩) | (exfalso; omega)); (exact Or.inl ⟨by omega, by omega⟩)) (by omega) (by omega) (by omega) (CP.f (CP.o (CP.o (CP.o (CP.o (CP.f hCP (fun i => w1_4 659 i (nne rfl)) (w1_5 90 (zne rfl) (zne rfl) (zne rfl))) (by decide) (Or.inl (by decide))) (by decide) (Or.inl (by decide))) (by decide) (Or.inl (by decide))) (by decide) (Or.inr (by decide))) (fun i => w10_8 659 i (nne rfl)) (w10_9 90 (zne rfl) (zne rfl) (zne rfl) (zne rfl) (zne rfl) (zne rfl) (zne rfl) (zne rfl) (zne rfl) (zne rfl))) (by omega) (fun a i f598 f659 f660 f664 f666 f667 => ((w10_8 a i f598).trans ((ju_c _ _ f598).trans ((ju_c _ _ f667).trans ((ju_c _ _ f666).trans ((ju_c _ _ f664).trans ((w1_4 a i f598).trans (hF_M a i f598 f659 f660 f664 f666 f667)))))))) (fun i g73 g74 g75 g76 g77 g78 g79 g80 g81 g89 g90 g100 g102 => ((w10_9 i g73 g74 g75 g76 g77 g78 g79 g80 g81 g100).trans ((ju_i _ _ g102).trans ((ju_c _ _ (by decide)).trans ((ju_c _ _ (by decide)).trans ((ju_c _ _ (by decide)).trans ((w1_5 i g80 g81 g89).trans (hG_M i g73 g74 g75 g76 g77 g78 g79 g80 g81 g89 g90 g100 g102)))))))))
      · refine jr.if_eq rfl rfl (by first | exact rgl rfl | omega) (fun _ => ?_) (fun h => absurd (by decide) h)
        refine jr.iconst rfl ?_
        obtain ⟨v51, e51⟩ : ∃ z, M 598 72 = z := ⟨_, rfl⟩
        have b51 : 0 ≤ v51 ∧ v51 ≤ 1600 := by rw [← e51]; exact hI_M 598 72 (Nat.le_of_ble_eq_true rfl)
        have e52 : M1 598 72 = v51 := ((w1_5 72 (zne rfl) (zne rfl) (zne rfl)).trans e51)
        have y53 : (ju (ju (ju (ju M1 664 v8 10) 666 v8 (-1)) 667 v8 1) 598 102 (v8 + 1)) 598 72 = v51 := ((ju_i _ _ (zne (by decide))).trans ((ju_c _ _ (by decide)).trans ((ju_c _ _ (by decide)).trans ((ju_c _ _ (by decide)).trans e52))))
        have e54 : M1 598 73 = v3 := ((w1_5 73 (zne rfl) (zne rfl) (zne rfl)).trans e3)
        have y55 : (ju (ju (ju (ju M1 664 v8 10) 666 v8 (-1)) 667 v8 1) 598 102 (v8 + 1)) 598 73 = v3 := ((ju_i _ _ (zne (by decide))).trans ((ju_c _ _ (by decide)).trans ((ju_c _ _ (by decide)).trans ((ju_c _ _ (by decide)).trans e54))))
        obtain ⟨v56, e56⟩ : ∃ z, M 598 74 = z := ⟨_, rfl⟩
        have b56 : 0 ≤ v56 ∧ v56 ≤ 4 := by rw [← e56]; exact hI_M 598 74 (Nat.le_of_ble_eq_true rfl)
        have e57 : M1 598 74 = v56 := ((w1_5 74 (zne rfl) (zne rfl) (zne rfl)).trans e56)
        have y58 : (ju (ju (ju (ju M1 664 v8 10) 666 v8 (-1)) 667 v8 1) 598 102 (v8 + 1)) 598 74 = v56 := ((ju_i _ _ (zne (by decide))).trans ((ju_c _ _ (by decide)).trans ((ju_c _ _ (by decide)).trans ((ju_c _ _ (by decide)).trans e57))))
        obtain ⟨v59, e59⟩ : ∃ z, M 598 79 = z := ⟨_, rfl⟩
        have b59 : 0 ≤ v59 ∧ v59 ≤ 255 := by rw [← e59]; exact hI_M 598 79 (Nat.le_of_ble_eq_true rfl)
        have e60 : M1 598 79 = v59 := ((w1_5 79 (zne rfl) (zne rfl) (zne rfl)).trans e59)
        have y61 : (ju (ju (ju (ju M1 664 v8 10) 666 v8 (-1)) 667 v8 1) 598 102 (v8 + 1)) 598 79 = v59 := ((ju_i _ _ (zne (by decide))).trans ((ju_c _ _ (by decide)).trans ((ju_c _ _ (by decide)).trans ((ju_c _ _ (by decide)).trans e60))))
        obtain ⟨v62, e62⟩ : ∃ z, M1 598 80 = z := ⟨_, rfl⟩
        have b62 : 0 ≤ v62 ∧ v62 ≤ 7 := by rw [← e62]; exact hI_M1 598 80 (Nat.le_of_ble_eq_true rfl)
        have y63 : (ju (ju (ju (ju M1 664 v8 10) 666 v8 (-1)) 667 v8 1) 598 102 (v8 + 1)) 598 80 = v62 := ((ju_i _ _ (zne (by decide))).trans ((ju_c _ _ (by decide)).trans ((ju_c _ _ (by decide)).trans ((ju_c _ _ (by decide)).trans e62))))
        obtain ⟨v64, e64⟩ : ∃ z, M1 598 89 = z := ⟨_, rfl⟩
        have b64 : 0 ≤ v64 ∧ v64 ≤ 301 := by rw [← e64]; exact hI_M1 598 89 (Nat.le_of_ble_eq_true rfl)
        have y65 : (ju (ju (ju (ju M1 664 v8 10) 666 v8 (-1)) 667 v8 1) 598 102 (v8 + 1)) 598 89 = v64 := ((ju_i _ _ (zne (by decide))).trans ((ju_c _ _ (by decide)).trans ((ju_c _ _ (by decide)).trans ((ju_c _ _ (by decide)).trans e64))))
        obtain ⟨v66, e66⟩ : ∃ z, M 598 90 = z := ⟨_, rfl⟩
        have b66 : 0 ≤ v66 ∧ v66 ≤ 2200 := by rw [← e66]; exact hI_M 598 90 (Nat.le_of_ble_eq_true rfl)
        have e67 : M1 598 90 = v66 := ((w1_5 90 (zne rfl) (zne rfl) (zne rfl)).trans e66)
        have y68 : (ju (ju (ju (ju M1 664 v8 10) 666 v8 (-1)) 667 v8 1) 598 102 (v8 + 1)) 598 90 = v66 := ((ju_i _ _ (zne (by decide))).trans ((ju_c _ _ (by decide)).trans ((ju_c _ _ (by decide)).trans ((ju_c _ _ (by decide)).trans e67))))
        have e69 : M1 598 100 = v6 := ((w1_5 100 (zne rfl) (zne rfl) (zne rfl)).trans e6)
        have y70 : (ju (ju (ju (ju M1 664 v8 10) 666 v8 (-1)) 667 v8 1) 598 102 (v8 + 1)) 598 100 = v6 := ((ju_i _ _ (zne (by decide))).trans ((ju_c _ _ (by decide)).trans ((ju_c _ _ (by decide)).trans ((ju_c _ _ (by decide)).trans e69))))
        obtain ⟨v71, e71⟩ : ∃ z, M 598 107 = z := ⟨_, rfl⟩
        have b71 : 0 ≤ v71 ∧ v71 ≤ 16 := by rw [← e71]; exact hI_M 598 107 (Nat.le_of_ble_eq_true rfl)
        have e72 : M1 598 107 = v71 := ((w1_5 107 (zne rfl) (zne rfl) (zne rfl)).trans e71)
        have y73 : (ju (ju (ju (ju M1 664 v8 10) 666 v8 (-1)) 667 v8 1) 598 102 (v8 + 1)) 598 107 = v71 := ((ju_i _ _ (zne (by decide))).trans ((ju_c _ _ (by decide)).trans ((ju_c _ _ (by decide)).trans ((ju_c _ _ (by decide)).trans e72))))
        have y74 : TK (ju (ju (ju (ju M1 664 v8 10) 666 v8 (-1)) 667 v8 1) 598 102 (v8 + 1)) = TK M1 := ((TK.o (Or.inr ⟨by decide, by decide⟩)).trans ((TK.o (Or.inl (by decide))).trans ((TK.o (Or.inl (by decide))).trans ((TK.o (Or.inl (by decide))).trans rfl))))
        exact jr.ireturn rfl rfl rfl (q _ _ (RI.u (RI.u (RI.u (RI.u hI_M1 (a := 664) (i := v8) (by rw [xri_row rfl rfl]; show (0 : Int) ≤ _ ∧ _ ≤ (255 : Int); omega)) (a := 666) (i := v8) (by rw [xri_row rfl rfl]; show (-1 : Int) ≤ _ ∧ _ ≤ (68 : Int); omega)) (a := 667) (i := v8) (by rw [xri_row rfl rfl]; show (0 : Int) ≤ _ ∧ _ ≤ (4 : Int); omega)) (a := 598) (i := 102) (show (0 : Int) ≤ _ ∧ _ ≤ (400 : Int) from by omega)) (RH.o (RH.o (RH.o (RH.o hH_M1 (by decide) (by decide) (by decide)) (by decide) (by decide) (by decide)) (by decide) (by decide) (by decide)) (by decide) (by decide) (by decide)) (RF.o (RF.o (RF.o (RF.o hS_M1 (by decide) (by decide)) (by decide) (by decide)) (by decide) (by decide)) (by decide) (by decide))  (by omega) (by by_cases hf : v62 = 0; (first | (exact Or.inr ⟨⟨by omega, ES.adj hE (k' := kk) (z' := 0) (by omega) (by omega) (by omega), by omega, by omega, by omega, by omega⟩, by omega⟩) | (exfalso; omega)); (exact Or.inl ⟨by omega, by omega⟩)) (by omega) (by omega) (by omega) (CP.o (CP.o (CP.o (CP.o (CP.f hCP (fun i => w1_4 659 i (nne rfl)) (w1_5 90 (zne rfl) (zne rfl) (zne rfl))) (by decide) (Or.inl (by decide))) (by decide) (Or.inl (by decide))) (by decide) (Or.inl (by decide))) (by decide) (Or.inr (by decide))) (by omega) (fun a i f598 f659 f660 f664 f666 f667 => ((ju_c _ _ f598).trans ((ju_c _ _ f667).trans ((ju_c _ _ f666).trans ((ju_c _ _ f664).trans ((w1_4 a i f598).trans (hF_M a i f598 f659 f660 f664 f666 f667))))))) (fun i g73 g74 g75 g76 g77 g78 g79 g80 g81 g89 g90 g100 g102 => ((ju_i _ _ g102).trans ((ju_c _ _ (by decide)).trans ((ju_c _ _ (by decide)).trans ((ju_c _ _ (by decide)).trans ((w1_5 i g80 g81 g89).trans (hG_M i g73 g74 g75 g76 g77 g78 g79 g80 g81 g89 g90 g100 g102))))))))
    · refine jr.if_eq rfl rfl (by first | exact rgl rfl | omega) (fun _ => ?_) (fun h => absurd (by decide) h)
      refine jr.bipush rfl (jbp _ (nlt rfl)) ?_
      refine jr.iconst rfl ?_
      obtain ⟨v75, e75⟩ : ∃ z, M 598 102 = z := ⟨_, rfl⟩
      have b75 : 0 ≤ v75 ∧ v75 ≤ 400 := by rw [← e75]; exact hI_M 598 102 (Nat.le_of_ble_eq_true rfl)
      have e76 : M1 598 102 = v75 := ((w1_5 102 (zne rfl) (zne rfl) (zne rfl)).trans e75)
      refine jr_v rfl rfl (Or.inl rfl) rfl rfl (nlt rfl) rfl ⟨rfl, Nat.le_of_ble_eq_true rfl, Nat.le_of_ble_eq_true rfl⟩ rfl (jc.deep (r_push e76 (by omega) (by omega) (by omega) ?_) (Nat.le_of_ble_eq_true rfl))
      have hE := ES.deep hE e76 11 (-1) 1 (kk + 2) (by omega) (by omega) (by omega)
      refine jr.aload_n rfl rfl ?_
      refine jr_v rfl rfl (Or.inl rfl) rfl rfl (nlt rfl) rfl ⟨rfl, Nat.le_of_ble_eq_true rfl, Nat.le_of_ble_eq_true rfl⟩ rfl (jc.deep (c_good (RI.u (RI.u (RI.u (RI.u hI_M1 (a := 664) (i := v75) (by rw [xri_row rfl rfl]; show (0 : Int) ≤ _ ∧ _ ≤ (255 : Int); omega)) (a := 666) (i := v75) (by rw [xri_row rfl rfl]; show (-1 : Int) ≤ _ ∧ _ ≤ (68 : Int); omega)) (a := 667) (i := v75) (by rw [xri_row rfl rfl]; show (0 : Int) ≤ _ ∧ _ ≤ (4 : Int); omega)) (a := 598) (i := 102) (show (0 : Int) ≤ _ ∧ _ ≤ (400 : Int) from by omega))  (fun t44_0 => ?_) (fun f44_0 => ?_)) (Nat.le_of_ble_eq_true rfl))
      · refine jr.if_eq rfl rfl (by first | exact rgl rfl | omega) (fun h => absurd h (by decide)) (fun _ => ?_)
        refine jr.aload_n rfl rfl ?_
        have e78 : M1 598 73 = v3 := ((w1_5 73 (zne rfl) (zne rfl) (zne rfl)).trans e3)
        obtain ⟨v79, e79⟩ : ∃ z, M 598 72 = z := ⟨_, rfl⟩
        have b79 : 0 ≤ v79 ∧ v79 ≤ 1600 := by rw [← e79]; exact hI_M 598 72 (Nat.le_of_ble_eq_true rfl)
        have e80 : M1 598 72 = v79 := ((w1_5 72 (zne rfl) (zne rfl) (zne rfl)).trans e79)
        have e81 : M1 598 100 = v6 := ((w1_5 100 (zne rfl) (zne rfl) (zne rfl)).trans e6)
        obtain ⟨v83, e83⟩ : ∃ z, M1 598 89 = z := ⟨_, rfl⟩
        have b83 : 0 ≤ v83 ∧ v83 ≤ 301 := by rw [← e83]; exact hI_M1 598 89 (Nat.le_of_ble_eq_true rfl)
        obtain ⟨v87, e87⟩ : ∃ z, M 598 74 = z := ⟨_, rfl⟩
        have b87 : 0 ≤ v87 ∧ v87 ≤ 4 := by rw [← e87]; exact hI_M 598 74 (Nat.le_of_ble_eq_true rfl)
        have e88 : M1 598 74 = v87 := ((w1_5 74 (zne rfl) (zne rfl) (zne rfl)).trans e87)
        obtain ⟨v90, e90⟩ : ∃ z, M 598 79 = z := ⟨_, rfl⟩
        have b90 : 0 ≤ v90 ∧ v90 ≤ 255 := by rw [← e90]; exact hI_M 598 79 (Nat.le_of_ble_eq_true rfl)
        have e91 : M1 598 79 = v90 := ((w1_5 79 (zne rfl) (zne rfl) (zne rfl)).trans e90)
        obtain ⟨v93, e93⟩ : ∃ z, M1 598 80 = z := ⟨_, rfl⟩
        have b93 : 0 ≤ v93 ∧ v93 ≤ 7 := by rw [← e93]; exact hI_M1 598 80 (Nat.le_of_ble_eq_true rfl)
        refine jr_v rfl rfl (Or.inl rfl) rfl rfl (nlt rfl) rfl ⟨rfl, Nat.le_of_ble_eq_true rfl, Nat.le_of_ble_eq_true rfl⟩ rfl (jc.deep (r_deeper (RI.u (RI.u (RI.u (RI.u hI_M1 (a := 664) (i := v75) (by rw [xri_row rfl rfl]; show (0 : Int) ≤ _ ∧ _ ≤ (255 : Int); omega)) (a := 666) (i := v75) (by rw [xri_row rfl rfl]; show (-1 : Int) ≤ _ ∧ _ ≤ (68 : Int); omega)) (a := 667) (i := v75) (by rw [xri_row rfl rfl]; show (0 : Int) ≤ _ ∧ _ ≤ (4 : Int); omega)) (a := 598) (i := 102) (show (0 : Int) ≤ _ ∧ _ ≤ (400 : Int) from by omega)) (RH.o (RH.o (RH.o (RH.o hH_M1 (by decide) (by decide) (by decide)) (by decide) (by decide) (by decide)) (by decide) (by decide) (by decide)) (by decide) (by decide) (by decide)) (RF.o (RF.o (RF.o (RF.o hS_M1 (by decide) (by decide)) (by decide) (by decide)) (by decide) (by decide)) (by decide) (by decide))   (by rw [((ju_i _ _ (zne (by decide))).trans ((ju_c _ _ (by decide)).trans ((ju_c _ _ (by decide)).trans ((ju_c _ _ (by decide)).trans e78)))), ((ju_i _ _ (zne (by decide))).trans ((ju_c _ _ (by decide)).trans ((ju_c _ _ (by decide)).trans ((ju_c _ _ (by decide)).trans e80))))]; omega) (by rw [((ju_i _ _ (zne (by decide))).trans ((ju_c _ _ (by decide)).trans ((ju_c _ _ (by decide)).trans ((ju_c _ _ (by decide)).trans e81))))]; omega) (fun M77 hI_M77 hH_M77 hS_M77  w77_0 w77_1 w77_2 w77_3 w77_4 w77_5 w77_6 w77_7 w77_8 w77_9 => ?_)) (Nat.le_of_ble_eq_true rfl))
        have y86 : (ju (ju (ju (ju M1 664 v75 11) 666 v75 (-1)) 667 v75 1) 598 102 (v75 + 1)) 598 73 = v3 := ((ju_i _ _ (zne (by decide))).trans ((ju_c _ _ (by decide)).trans ((ju_c _ _ (by decide)).trans ((ju_c _ _ (by decide)).trans e78))))
        have y89 : (ju (ju (ju (ju M1 664 v75 11) 666 v75 (-1)) 667 v75 1) 598 102 (v75 + 1)) 598 74 = v87 := ((ju_i _ _ (zne (by decide))).trans ((ju_c _ _ (by decide)).trans ((ju_c _ _ (by decide)).trans ((ju_c _ _ (by decide)).trans e88))))
        have y92 : (ju (ju (ju (ju M1 664 v75 11) 666 v75 (-1)) 667 v75 1) 598 102 (v75 + 1)) 598 79 = v90 := ((ju_i _ _ (zne (by decide))).trans ((ju_c _ _ (by decide)).trans ((ju_c _ _ (by decide)).trans ((ju_c _ _ (by decide)).trans e91))))
        have y94 : (ju (ju (ju (ju M1 664 v75 11) 666 v75 (-1)) 667 v75 1) 598 102 (v75 + 1)) 598 80 = v93 := ((ju_i _ _ (zne (by decide))).trans ((ju_c _ _ (by decide)).trans ((ju_c _ _ (by decide)).trans ((ju_c _ _ (by decide)).trans e93))))
        have y95 : (ju (ju (ju (ju M1 664 v75 11) 666 v75 (-1)) 667 v75 1) 598 102 (v75 + 1)) 598 100 = v6 := ((ju_i _ _ (zne (by decide))).trans ((ju_c _ _ (by decide)).trans ((ju_c _ _ (by decide)).trans ((ju_c _ _ (by decide)).trans e81))))
        have tb77 : TK (ju (ju (ju (ju M1 664 v75 11) 666 v75 (-1)) 667 v75 1) 598 102 (v75 + 1)) = TK M1 := ((TK.o (Or.inr ⟨by decide, by decide⟩)).trans ((TK.o (Or.inl (by decide))).trans ((TK.o (Or.inl (by decide))).trans ((TK.o (Or.inl (by decide))).trans rfl))))
        have y82 : (ju (ju (ju (ju M1 664 v75 11) 666 v75 (-1)) 667 v75 1) 598 102 (v75 + 1)) 598 73 = v3 := ((ju_i _ _ (zne (by decide))).trans ((ju_c _ _ (by decide)).trans ((ju_c _ _ (by decide)).trans ((ju_c _ _ (by decide)).trans e78))))
        have y84 : (ju (ju (ju (ju M1 664 v75 11) 666 v75 (-1)) 667 v75 1) 598 102 (v75 + 1)) 598 89 = v83 := ((ju_i _ _ (zne (by decide))).trans ((ju_c _ _ (by decide)).trans ((ju_c _ _ (by decide)).trans ((ju_c _ _ (by decide)).trans e83))))
        have y85 : (ju (ju (ju (ju M1 664 v75 11) 666 v75 (-1)) 667 v75 1) 598 102 (v75 + 1)) 598 100 = v6 := ((ju_i _ _ (zne (by decide))).trans ((ju_c _ _ (by decide)).trans ((ju_c _ _ (by decide)).trans ((ju_c _ _ (by decide)).trans e81))))
        have x77_89 := w77_9 89 (zne rfl) (zne rfl) (zne rfl) (zne rfl) (zne rfl) (zne rfl) (zne rfl) (zne rfl) (zne rfl) (zne rfl)
        have hE := ES.fr2 hE w77_8 (w77_9 88 (zne rfl) (zne rfl) (zne rfl) (zne rfl) (zne rfl) (zne rfl) (zne rfl) (zne rfl) (zne rfl) (zne rfl)) (w77_9 90 (zne rfl) (zne rfl) (zne rfl) (zne rfl) (zne rfl) (zne rfl) (zne rfl) (zne rfl) (zne rfl) (zne rfl)) (w77_9 101 (zne rfl) (zne rfl) (zne rfl) (zne rfl) (zne rfl) (zne rfl) (zne rfl) (zne rfl) (zne rfl) (zne rfl)) (w77_9 102 (zne rfl) (zne rfl) (zne rfl) (zne rfl) (zne rfl) (zne rfl) (zne rfl) (zne rfl) (zne rfl) (zne rfl)) (w77_9 107 (zne rfl) (zne rfl) (zne rfl) (zne rfl) (zne rfl) (zne rfl) (zne rfl) (zne rfl) (zne rfl) (zne rfl)) (k' := kk + 2) (d' := 0) (z' := 0) (by omega) (by omega) (by omega) (by omega)
        refine jr.iconst rfl ?_
        have e96 : M77 598 72 = v79 := ((w77_9 72 (zne rfl) (zne rfl) (zne rfl) (zne rfl) (zne rfl) (zne rfl) (zne rfl) (zne rfl) (zne rfl) (zne rfl)).trans ((ju_i _ _ (zne (by decide))).trans ((ju_c _ _ (by decide)).trans ((ju_c _ _ (by decide)).trans ((ju_c _ _ (by decide)).trans e80)))))
        obtain ⟨v98, e98⟩ : ∃ z, M77 598 73 = z := ⟨_, rfl⟩
        have b98 : 0 ≤ v98 ∧ v98 ≤ 1600 := by rw [← e98]; exact hI_M77 598 73 (Nat.le_of_ble_eq_true rfl)
        obtain ⟨v100, e100⟩ : ∃ z, M77 598 74 = z := ⟨_, rfl⟩
        have b100 : 0 ≤ v100 ∧ v100 ≤ 4 := by rw [← e100]; exact hI_M77 598 74 (Nat.le_of_ble_eq_true rfl)
        obtain ⟨v102, e102⟩ : ∃ z, M77 598 79 = z := ⟨_, rfl⟩
        have b102 : 0 ≤ v102 ∧ v102 ≤ 255 := by rw [← e102]; exact hI_M77 598 79 (Nat.le_of_ble_eq_true rfl)
        obtain ⟨v104, e104⟩ : ∃ z, M77 598 80 = z := ⟨_, rfl⟩
        have b104 : 0 ≤ v104 ∧ v104 ≤ 7 := by rw [← e104]; exact hI_M77 598 80 (Nat.le_of_ble_eq_true rfl)
        have e106 : M77 598 89 = v83 := ((w77_9 89 (zne rfl) (zne rfl) (zne rfl) (zne rfl) (zne rfl) (zne rfl) (zne rfl) (zne rfl) (zne rfl) (zne rfl)).trans ((ju_i _ _ (zne (by decide))).trans ((ju_c _ _ (by decide)).trans ((ju_c _ _ (by decide)).trans ((ju_c _ _ (by decide)).trans e83)))))
        obtain ⟨v108, e108⟩ : ∃ z, M 598 90 = z := ⟨_, rfl⟩
        have b108 : 0 ≤ v108 ∧ v108 ≤ 2200 := by rw [← e108]; exact hI_M 598 90 (Nat.le_of_ble_eq_true rfl)
        have e109 : M1 598 90 = v108 := ((w1_5 90 (zne rfl) (zne rfl) (zne rfl)).trans e108)
        have e110 : M77 598 90 = v108 := ((w77_9 90 (zne rfl) (zne rfl) (zne rfl) (zne rfl) (zne rfl) (zne rfl) (zne rfl) (zne rfl) (zne rfl) (zne rfl)).trans ((ju_i _ _ (zne (by decide))).trans ((ju_c _ _ (by decide)).trans ((ju_c _ _ (by decide)).trans ((ju_c _ _ (by decide)).trans e109)))))
        obtain ⟨v112, e112⟩ : ∃ z, M77 598 100 = z := ⟨_, rfl⟩
        have b112 : 0 ≤ v112 ∧ v112 ≤ 13 := by rw [← e112]; exact hI_M77 598 100 (Nat.le_of_ble_eq_true rfl)
        obtain ⟨v114, e114⟩ : ∃ z, M 598 107 = z := ⟨_, rfl⟩
        have b114 : 0 ≤ v114 ∧ v114 ≤ 16 := by rw [← e114]; exact hI_M 598 107 (Nat.le_of_ble_eq_true rfl)
        have e115 : M1 598 107 = v114 := ((w1_5 107 (zne rfl) (zne rfl) (zne rfl)).trans e114)
        have e116 : M77 598 107 = v114 := ((w77_9 107 (zne rfl) (zne rfl) (zne rfl) (zne rfl) (zne rfl) (zne rfl) (zne rfl) (zne rfl) (zne rfl) (zne rfl)).trans ((ju_i _ _ (zne (by decide))).trans ((ju_c _ _ (by decide)).trans ((ju_c _ _ (by decide)).trans ((ju_c _ _ (by decide)).trans e115)))))
        exact jr.ireturn rfl rfl rfl (q _ _ hI_M77 hH_M77 hS_M77  (by omega) (by by_cases hf : v104 = 0; (first | (exact Or.inr ⟨⟨by omega, ES.adj hE (k' := kk) (z' := 0) (by omega) (by omega) (by omega), by omega, by omega, by omega, by omega⟩, by omega⟩) | (exfalso; omega)); (exact Or.inl ⟨by omega, by omega⟩)) (by omega) (by omega) (by omega) (CP.f (CP.o (CP.o (CP.o (CP.o (CP.f hCP (fun i => w1_4 659 i (nne rfl)) (w1_5 90 (zne rfl) (zne rfl) (zne rfl))) (by decide) (Or.inl (by decide))) (by decide) (Or.inl (by decide))) (by decide) (Or.inl (by decide))) (by decide) (Or.inr (by decide))) (fun i => w77_8 659 i (nne rfl)) (w77_9 90 (zne rfl) (zne rfl) (zne rfl) (zne rfl) (zne rfl) (zne rfl) (zne rfl) (zne rfl) (zne rfl) (zne rfl))) (by omega) (fun a i f598 f659 f660 f664 f666 f667 => ((w77_8 a i f598).trans ((ju_c _ _ f598).trans ((ju_c _ _ f667).trans ((ju_c _ _ f666).trans ((ju_c _ _ f664).trans ((w1_4 a i f598).trans (hF_M a i f598 f659 f660 f664 f666 f667)))))))) (fun i g73 g74 g75 g76 g77 g78 g79 g80 g81 g89 g90 g100 g102 => ((w77_9 i g73 g74 g75 g76 g77 g78 g79 g80 g81 g100).trans ((ju_i _ _ g102).trans ((ju_c _ _ (by decide)).trans ((ju_c _ _ (by decide)).trans ((ju_c _ _ (by decide)).trans ((w1_5 i g80 g81 g89).trans (hG_M i g73 g74 g75 g76 g77 g78 g79 g80 g81 g89 g90 g100 g102)))))))))
      · refine jr.if_eq rfl rfl (by first | exact rgl rfl | omega) (fun _ => ?_) (fun h => absurd (by decide) h)
        refine jr.iconst rfl ?_
        obtain ⟨v118, e118⟩ : ∃ z, M 598 72 = z := ⟨_, rfl⟩
        have b118 : 0 ≤ v118 ∧ v118 ≤ 1600 := by rw [← e118]; exact hI_M 598 72 (Nat.le_of_ble_eq_true rfl)
        have e119 : M1 598 72 = v118 := ((w1_5 72 (zne rfl) (zne rfl) (zne rfl)).trans e118)
        have y120 : (ju (ju (ju (ju M1 664 v75 11) 666 v75 (-1)) 667 v75 1) 598 102 (v75 + 1)) 598 72 = v118 := ((ju_i _ _ (zne (by decide))).trans ((ju_c _ _ (by decide)).trans ((ju_c _ _ (by decide)).trans ((ju_c _ _ (by decide)).trans e119))))
        have e121 : M1 598 73 = v3 := ((w1_5 73 (zne rfl) (zne rfl) (zne rfl)).trans e3)
        have y122 : (ju (ju (ju (ju M1 664 v75 11) 666 v75 (-1)) 667 v75 1) 598 102 (v75 + 1)) 598 73 = v3 := ((ju_i _ _ (zne (by decide))).trans ((ju_c _ _ (by decide)).trans ((ju_c _ _ (by decide)).trans ((ju_c _ _ (by decide)).trans e121))))
        obtain ⟨v123, e123⟩ : ∃ z, M 598 74 = z := ⟨_, rfl⟩
        have b123 : 0 ≤ v123 ∧ v123 ≤ 4 := by rw [← e123]; exact hI_M 598 74 (Nat.le_of_ble_eq_true rfl)
        have e124 : M1 598 74 = v123 := ((w1_5 74 (zne rfl) (zne rfl) (zne rfl)).trans e123)
        have y125 : (ju (ju (ju (ju M1 664 v75 11) 666 v75 (-1)) 667 v75 1) 598 102 (v75 + 1)) 598 74 = v123 := ((ju_i _ _ (zne (by decide))).trans ((ju_c _ _ (by decide)).trans ((ju_c _ _ (by decide)).trans ((ju_c _ _ (by decide)).trans e124))))
        obtain ⟨v126, e126⟩ : ∃ z, M 598 79 = z := ⟨_, rfl⟩
        have b126 : 0 ≤ v126 ∧ v126 ≤ 255 := by rw [← e126]; exact hI_M 598 79 (Nat.le_of_ble_eq_true rfl)
        have e127 : M1 598 79 = v126 := ((w1_5 79 (zne rfl) (zne rfl) (zne rfl)).trans e126)
        have y128 : (ju (ju (ju (ju M1 664 v75 11) 666 v75 (-1)) 667 v75 1) 598 102 (v75 + 1)) 598 79 = v126 := ((ju_i _ _ (zne (by decide))).trans ((ju_c _ _ (by decide)).trans ((ju_c _ _ (by decide)).trans ((ju_c _ _ (by decide)).trans e127))))
        obtain ⟨v129, e129⟩ : ∃ z, M1 598 80 = z := ⟨_, rfl⟩
        have b129 : 0 ≤ v129 ∧ v129 ≤ 7 := by rw [← e129]; exact hI_M1 598 80 (Nat.le_of_ble_eq_true rfl)
        have y130 : (ju (ju (ju (ju M1 664 v75 11) 666 v75 (-1)) 667 v75 1) 598 102 (v75 + 1)) 598 80 = v129 := ((ju_i _ _ (zne (by decide))).trans ((ju_c _ _ (by decide)).trans ((ju_c _ _ (by decide)).trans ((ju_c _ _ (by decide)).trans e129))))
        obtain ⟨v131, e131⟩ : ∃ z, M1 598 89 = z := ⟨_, rfl⟩
        have b131 : 0 ≤ v131 ∧ v131 ≤ 301 := by rw [← e131]; exact hI_M1 598 89 (Nat.le_of_ble_eq_true rfl)
        have y132 : (ju (ju (ju (ju M1 664 v75 11) 666 v75 (-1)) 667 v75 1) 598 102 (v75 + 1)) 598 89 = v131 := ((ju_i _ _ (zne (by decide))).trans ((ju_c _ _ (by decide)).trans ((ju_c _ _ (by decide)).trans ((ju_c _ _ (by decide)).trans e131))))
        obtain ⟨v133, e133⟩ : ∃ z, M 598 90 = z := ⟨_, rfl⟩
        have b133 : 0 ≤ v133 ∧ v133 ≤ 2200 := by rw [← e133]; exact hI_M 598 90 (Nat.le_of_ble_eq_true rfl)
        have e134 : M1 598 90 = v133 := ((w1_5 90 (zne rfl) (zne rfl) (zne rfl)).trans e133)
        have y135 : (ju (ju (ju (ju M1 664 v75 11) 666 v75 (-1)) 667 v75 1) 598 102 (v75 + 1)) 598 90 = v133 := ((ju_i _ _ (zne (by decide))).trans ((ju_c _ _ (by decide)).trans ((ju_c _ _ (by decide)).trans ((ju_c _ _ (by decide)).trans e134))))
        have e136 : M1 598 100 = v6 := ((w1_5 100 (zne rfl) (zne rfl) (zne rfl)).trans e6)
        have y137 : (ju (ju (ju (ju M1 664 v75 11) 666 v75 (-1)) 667 v75 1) 598 102 (v75 + 1)) 598 100 = v6 := ((ju_i _ _ (zne (by decide))).trans ((ju_c _ _ (by decide)).trans ((ju_c _ _ (by decide)).trans ((ju_c _ _ (by decide)).trans e136))))
        obtain ⟨v138, e138⟩ : ∃ z, M 598 107 = z := ⟨_, rfl⟩
        have b138 : 0 ≤ v138 ∧ v138 ≤ 16 := by rw [← e138]; exact hI_M 598 107 (Nat.le_of_ble_eq_true rfl)
        have e139 : M1 598 107 = v138 := ((w1_5 107 (zne rfl) (zne rfl) (zne rfl)).trans e138)
        have y140 : (ju (ju (ju (ju M1 664 v75 11) 666 v75 (-1)) 667 v75 1) 598 102 (v75 + 1)) 598 107 = v138 := ((ju_i _ _ (zne (by decide))).trans ((ju_c _ _ (by decide)).trans ((ju_c _ _ (by decide)).trans ((ju_c _ _ (by decide)).trans e139))))
        have y141 : TK (ju (ju (ju (ju M1 664 v75 11) 666 v75 (-1)) 667 v75 1) 598 102 (v75 + 1)) = TK M1 := ((TK.o (Or.inr ⟨by decide, by decide⟩)).trans ((TK.o (Or.inl (by decide))).trans ((TK.o (Or.inl (by decide))).trans ((TK.o (Or.inl (by decide))).trans rfl))))
        exact jr.ireturn rfl rfl rfl (q _ _ (RI.u (RI.u (RI.u (RI.u hI_M1 (a := 664) (i := v75) (by rw [xri_row rfl rfl]; show (0 : Int) ≤ _ ∧ _ ≤ (255 : Int); omega)) (a := 666) (i := v75) (by rw [xri_row rfl rfl]; show (-1 : Int) ≤ _ ∧ _ ≤ (68 : Int); omega)) (a := 667) (i := v75) (by rw [xri_row rfl rfl]; show (0 : Int) ≤ _ ∧ _ ≤ (4 : Int); omega)) (a := 598) (i := 102) (show (0 : Int) ≤ _ ∧ _ ≤ (400 : Int) from by omega)) (RH.o (RH.o (RH.o (RH.o hH_M1 (by decide) (by decide) (by decide)) (by decide) (by decide) (by decide)) (by decide) (by decide) (by decide)) (by decide) (by decide) (by decide)) (RF.o (RF.o (RF.o (RF.o hS_M1 (by decide) (by decide)) (by decide) (by decide)) (by decide) (by decide)) (by decide) (by decide))  (by omega) (by by_cases hf : v129 = 0; (first | (exact Or.inr ⟨⟨by omega, ES.adj hE (k' := kk) (z' := 0) (by omega) (by omega) (by omega), by omega, by omega, by omega, by omega⟩, by omega⟩) | (exfalso; omega)); (exact Or.inl ⟨by omega, by omega⟩)) (by omega) (by omega) (by omega) (CP.o (CP.o (CP.o (CP.o (CP.f hCP (fun i => w1_4 659 i (nne rfl)) (w1_5 90 (zne rfl) (zne rfl) (zne rfl))) (by decide) (Or.inl (by decide))) (by decide) (Or.inl (by decide))) (by decide) (Or.inl (by decide))) (by decide) (Or.inr (by decide))) (by omega) (fun a i f598 f659 f660 f664 f666 f667 => ((ju_c _ _ f598).trans ((ju_c _ _ f667).trans ((ju_c _ _ f666).trans ((ju_c _ _ f664).trans ((w1_4 a i f598).trans (hF_M a i f598 f659 f660 f664 f666 f667))))))) (fun i g73 g74 g75 g76 g77 g78 g79 g80 g81 g89 g90 g100 g102 => ((ju_i _ _ g102).trans ((ju_c _ _ (by decide)).trans ((ju_c _ _ (by decide)).trans ((ju_c _ _ (by decide)).trans ((w1_5 i g80 g81 g89).trans (hG_M i g73 g74 g75 g76 g77 g78 g79 g80 g81 g89 g90 g100 g102))))))))
theorem r_takeOperand {A : Nat → Option (Nat × (Nat → Int32))} {Q : Option Value → jm → Prop} {b kk : Int} {M : jm} (hI_M : RI M) (hH_M : RH M) (hS_M : RF M) (p0 : GS M b 0 kk) (q : ∀ (r : Int) (M' : jm), RI M' → RH M' → RF M' → 0 ≤ r ∧ r ≤ 1 → (BS M' ∨ (GS M' b r kk ∧ TK M' < TK M)) → TK M' ≤ TK M → M' 598 73 ≤ M' 598 72 → (M' 598 80 ≠ 0 ∨ TK M' < TK M) → CP M M' → M 598 89 ≤ M' 598 89 → (∀ (a : Nat) (i : Int), a ≠ 598 → a ≠ 659 → a ≠ 660 → a ≠ 664 → a ≠ 666 → a ≠ 667 → M' a i = M a i) → (∀ (i : Int), i ≠ 73 → i ≠ 74 → i ≠ 75 → i ≠ 76 → i ≠ 77 → i ≠ 78 → i ≠ 79 → i ≠ 80 → i ≠ 81 → i ≠ 89 → i ≠ 90 → i ≠ 100 → i ≠ 102 → M' 598 i = M 598 i) → Q (some (.int (Int32.ofInt r))) M') : jc A 6 360 [.ref (598)] M Q := by
  obtain ⟨gs1, gs2, gs3, gs4, gs5, gs6⟩ := id p0
  have hE := gs2
  have sl := ES.sgle gs2
  have bb := ES.bb gs2
  have kb := ES.kz gs2
  have b107 : (0 : Int) ≤ M 598 107 ∧ M 598 107 ≤ 16 := hI_M 598 107 (Nat.le_of_ble_eq_true rfl)
  have b73 : (0 : Int) ≤ M 598 73 ∧ M 598 73 ≤ 1600 := hI_M 598 73 (Nat.le_of_ble_eq_true rfl)
  have b88 : (0 : Int) ≤ M 598 88 ∧ M 598 88 ≤ 16 := hI_M 598 88 (Nat.le_of_ble_eq_true rfl)
  have b100 : (0 : Int) ≤ M 598 100 ∧ M 598 100 ≤ 13 := hI_M 598 100 (Nat.le_of_ble_eq_true rfl)
  refine jc_of (m := xm_360) rfl (Nat.le_of_ble_eq_true rfl) rfl ?_
  refine jr.aload_n rfl rfl ?_
  refine jr.bipush rfl (jbp _ (nlt rfl)) ?_
  refine jr_v rfl rfl (Or.inl rfl) rfl rfl (nlt rfl) rfl ⟨rfl, Nat.le_of_ble_eq_true rfl, Nat.le_of_ble_eq_true rfl⟩ rfl (jc.deep (c_isSign hI_M (by omega) (fun t3_0 t3_1 => ?_) (fun f3_0 => ?_)) (Nat.le_of_ble_eq_true rfl))
  · refine jr.if_ne rfl rfl (by first | exact rgl rfl | omega) (fun _ => ?_) (fun h => absurd (by decide) h)
    refine jr.pick (ls := [_]) [0] rfl rfl ?_
    exact r_takeOperand_L18 q M  hI_M hH_M hS_M  (fun a i f598 f659 f660 f664 f666 f667 => rfl) (fun i g73 g74 g75 g76 g77 g78 g79 g80 g81 g89 g90 g100 g102 => rfl)  p0 rfl (CP.rfl _) rfl (by omega)
  · refine jr.if_ne rfl rfl (by first | exact rgl rfl | omega) (fun h => absurd h (by decide)) (fun _ => ?_)
    refine jr.aload_n rfl rfl ?_
    refine jr.bipush rfl (jbp _ (nlt rfl)) ?_
    refine jr_v rfl rfl (Or.inl rfl) rfl rfl (nlt rfl) rfl ⟨rfl, Nat.le_of_ble_eq_true rfl, Nat.le_of_ble_eq_true rfl⟩ rfl (jc.deep (c_isSign hI_M (by omega) (fun t12_0 t12_1 => ?_) (fun f12_0 => ?_)) (Nat.le_of_ble_eq_true rfl))
    · refine jr.if_eq rfl rfl (by first | exact rgl rfl | omega) (fun h => absurd h (by decide)) (fun _ => ?_)
      refine jr.pick (ls := [_]) [0] rfl rfl ?_
      exact r_takeOperand_L18 q M  hI_M hH_M hS_M  (fun a i f598 f659 f660 f664 f666 f667 => rfl) (fun i g73 g74 g75 g76 g77 g78 g79 g80 g81 g89 g90 g100 g102 => rfl)  p0 rfl (CP.rfl _) rfl (by omega)
    · refine jr.if_eq rfl rfl (by first | exact rgl rfl | omega) (fun _ => ?_) (fun h => absurd (by decide) h)
      refine jr.aload_n rfl rfl ?_
      refine jr.bipush rfl (jbp _ (nlt rfl)) ?_
      refine jr_v rfl rfl (Or.inl rfl) rfl rfl (nlt rfl) rfl ⟨rfl, Nat.le_of_ble_eq_true rfl, Nat.le_of_ble_eq_true rfl⟩ rfl (jc.deep (c_isSign hI_M (by omega) (fun t59_0 t59_1 => ?_) (fun f59_0 => ?_)) (Nat.le_of_ble_eq_true rfl))
      · refine jr.if_eq rfl rfl (by first | exact rgl rfl | omega) (fun h => absurd h (by decide)) (fun _ => ?_)
        refine jr.pick (ls := [_]) [0] rfl rfl ?_
        exact r_takeOperand_L65 q M  hI_M hH_M hS_M  (fun a i f598 f659 f660 f664 f666 f667 => rfl) (fun i g73 g74 g75 g76 g77 g78 g79 g80 g81 g89 g90 g100 g102 => rfl)  p0 rfl (CP.rfl _) rfl (by omega)
      · refine jr.if_eq rfl rfl (by first | exact rgl rfl | omega) (fun _ => ?_) (fun h => absurd (by decide) h)
        refine jr.aload_n rfl rfl ?_
        obtain ⟨v1, e1⟩ : ∃ z, M 598 74 = z := ⟨_, rfl⟩
        have b1 : 0 ≤ v1 ∧ v1 ≤ 4 := by rw [← e1]; exact hI_M 598 74 (Nat.le_of_ble_eq_true rfl)
        refine jr.getf (i := 74) (x := v1) (v := .int (Int32.ofInt (v1))) rfl rfl (nlt rfl) rfl (nlt rfl) rfl rfl e1 rfl ?_
        refine jr.iconst rfl ?_
        refine jr.icmp_ne rfl rfl (by first | (refine rgb (by assumption) ?_; exact rfl) | omega) (rgl rfl) (fun h83 => ?_) (fun h83 => ?_)
        · refine jr.aload_n rfl rfl ?_
          refine jr.bipush rfl (jbp _ (nlt rfl)) ?_
          refine jr_v rfl rfl (Or.inl rfl) rfl rfl (nlt rfl) rfl ⟨rfl, Nat.le_of_ble_eq_true rfl, Nat.le_of_ble_eq_true rfl⟩ rfl (jc.deep (c_isWord hI_M (by omega) (fun t129_0 t129_1 => ?_) (fun f129_0 => ?_)) (Nat.le_of_ble_eq_true rfl))
          · refine jr.if_ne rfl rfl (by first | exact rgl rfl | omega) (fun _ => ?_) (fun h => absurd (by decide) h)
            refine jr.pick (ls := [_]) [0] rfl rfl ?_
            exact r_takeOperand_L146 q M  hI_M hH_M hS_M  (fun a i f598 f659 f660 f664 f666 f667 => rfl) (fun i g73 g74 g75 g76 g77 g78 g79 g80 g81 g89 g90 g100 g102 => rfl)  p0 rfl (CP.rfl _) rfl (by omega) (by omega)
          · refine jr.if_ne rfl rfl (by first | exact rgl rfl | omega) (fun h => absurd h (by decide)) (fun _ => ?_)
            refine jr.aload_n rfl rfl ?_
            refine jr.bipush rfl (jbp _ (nlt rfl)) ?_
            refine jr.bipush rfl (jbp _ (nlt rfl)) ?_
            refine jr_v rfl rfl (Or.inl rfl) rfl rfl (nlt rfl) rfl ⟨rfl, Nat.le_of_ble_eq_true rfl, Nat.le_of_ble_eq_true rfl⟩ rfl (jc.deep (c_isWordIn hI_M (by omega) (by omega) (fun t140_0 t140_1 t140_2 => ?_) (fun f140_0 => ?_)) (Nat.le_of_ble_eq_true rfl))
            · refine jr.if_eq rfl rfl (by first | exact rgl rfl | omega) (fun h => absurd h (by decide)) (fun _ => ?_)
              refine jr.pick (ls := [_]) [0] rfl rfl ?_
              exact r_takeOperand_L146 q M  hI_M hH_M hS_M  (fun a i f598 f659 f660 f664 f666 f667 => rfl) (fun i g73 g74 g75 g76 g77 g78 g79 g80 g81 g89 g90 g100 g102 => rfl)  p0 rfl (CP.rfl _) rfl (by omega) (by omega)
            · refine jr.if_eq rfl rfl (by first | exact rgl rfl | omega) (fun _ => ?_) (fun h => absurd (by decide) h)
              refine jr.aload_n rfl rfl ?_
              refine jr.bipush rfl (jbp _ (nlt rfl)) ?_
              refine jr_v rfl rfl (Or.inl rfl) rfl rfl (nlt rfl) rfl ⟨rfl, Nat.le_of_ble_eq_true rfl, Nat.le_of_ble_eq_true rfl⟩ rfl (jc.deep (c_isWord hI_M (by omega) (fun t172_0 t172_1 => ?_) (fun f172_0 => ?_)) (Nat.le_of_ble_eq_true rfl))
              · refine jr.if_eq rfl rfl (by first | exact rgl rfl | omega) (fun h => absurd h (by decide)) (fun _ => ?_)
                refine jr.aload_n rfl rfl ?_
                refine jr_v rfl rfl (Or.inl rfl) rfl rfl (nlt rfl) rfl ⟨rfl, Nat.le_of_ble_eq_true rfl, Nat.le_of_ble_eq_true rfl⟩ rfl (jc.deep (r_hasKind hI_M hH_M hS_M   p0 (by rw [e1]; omega) (fun M2 hI_M2 hH_M2 hS_M2  w2_0 w2_1 w2_2 w2_3 w2_4 w2_5 w2_6 w2_7 => ?_)) (Nat.le_of_ble_eq_true rfl))
                refine jr.iconst rfl ?_
                exact jr.ireturn rfl rfl rfl (q _ _ hI_M2 hH_M2 hS_M2  (by first | exact rgq rfl | omega) w2_0 w2_1 w2_2 w2_3 (CP.trans (CP.rfl _) w2_4) w2_5 (fun a i f598 f659 f660 f664 f666 f667 => ((w2_6 a i f598 f659 f660).trans rfl)) (fun i g73 g74 g75 g76 g77 g78 g79 g80 g81 g89 g90 g100 g102 => ((w2_7 i g73 g74 g75 g76 g77 g78 g79 g80 g81 g89 g90 g100).trans rfl)))
              · refine jr.if_eq rfl rfl (by first | exact rgl rfl | omega) (fun _ => ?_) (fun h => absurd (by decide) h)
                refine jr.aload_n rfl rfl ?_
                refine jr.bipush rfl (jbp _ (nlt rfl)) ?_
                refine jr.bipush rfl (jbp _ (nlt rfl)) ?_
                refine jr_v rfl rfl (Or.inl rfl) rfl rfl (nlt rfl) rfl ⟨rfl, Nat.le_of_ble_eq_true rfl, Nat.le_of_ble_eq_true rfl⟩ rfl (jc.deep (c_isWordIn hI_M (by omega) (by omega) (fun t189_0 t189_1 t189_2 => ?_) (fun f189_0 => ?_)) (Nat.le_of_ble_eq_true rfl))
                · refine jr.if_eq rfl rfl (by first | exact rgl rfl | omega) (fun h => absurd h (by decide)) (fun _ => ?_)
                  refine jr.pick (ls := [_]) [0] rfl rfl ?_
                  exact r_takeOperand_L195 q M  hI_M hH_M hS_M  (fun a i f598 f659 f660 f664 f666 f667 => rfl) (fun i g73 g74 g75 g76 g77 g78 g79 g80 g81 g89 g90 g100 g102 => rfl)  p0 rfl (CP.rfl _) rfl (by omega) (by omega)
                · refine jr.if_eq rfl rfl (by first | exact rgl rfl | omega) (fun _ => ?_) (fun h => absurd (by decide) h)
                  refine jr.aload_n rfl rfl ?_
                  refine jr.bipush rfl (jbp _ (nlt rfl)) ?_
                  refine jr.bipush rfl (jbp _ (nlt rfl)) ?_
                  refine jr_v rfl rfl (Or.inl rfl) rfl rfl (nlt rfl) rfl ⟨rfl, Nat.le_of_ble_eq_true rfl, Nat.le_of_ble_eq_true rfl⟩ rfl (jc.deep (c_isWordIn hI_M (by omega) (by omega) (fun t235_0 t235_1 t235_2 => ?_) (fun f235_0 => ?_)) (Nat.le_of_ble_eq_true rfl))
                  · refine jr.if_eq rfl rfl (by first | exact rgl rfl | omega) (fun h => absurd h (by decide)) (fun _ => ?_)
                    refine jr.aload_n rfl rfl ?_
                    obtain ⟨v4, e4⟩ : ∃ z, M 598 76 = z := ⟨_, rfl⟩
                    have b4 : (-1) ≤ v4 ∧ v4 ≤ 68 := by rw [← e4]; exact hI_M 598 76 (Nat.le_of_ble_eq_true rfl)
                    refine jr_v rfl rfl (Or.inl rfl) rfl rfl (nlt rfl) rfl ⟨rfl, Nat.le_of_ble_eq_true rfl, Nat.le_of_ble_eq_true rfl⟩ rfl (jc.deep (r_kindAndField hI_M hH_M hS_M   p0 (by rw [e1, e4]; omega) (fun M3 hI_M3 hH_M3 hS_M3  w3_0 w3_1 w3_2 w3_3 w3_4 w3_5 w3_6 w3_7 => ?_)) (Nat.le_of_ble_eq_true rfl))
                    refine jr.iconst rfl ?_
                    exact jr.ireturn rfl rfl rfl (q _ _ hI_M3 hH_M3 hS_M3  (by first | exact rgq rfl | omega) w3_0 w3_1 w3_2 w3_3 (CP.trans (CP.rfl _) w3_4) w3_5 (fun a i f598 f659 f660 f664 f666 f667 => ((w3_6 a i f598 f659 f660).trans rfl)) (fun i g73 g74 g75 g76 g77 g78 g79 g80 g81 g89 g90 g100 g102 => ((w3_7 i g73 g74 g75 g76 g77 g78 g79 g80 g81 g89 g90).trans rfl)))
                  · refine jr.if_eq rfl rfl (by first | exact rgl rfl | omega) (fun _ => ?_) (fun h => absurd (by decide) h)
                    refine jr.aload_n rfl rfl ?_
                    refine jr_v rfl rfl (Or.inl rfl) rfl rfl (nlt rfl) rfl ⟨rfl, Nat.le_of_ble_eq_true rfl, Nat.le_of_ble_eq_true rfl⟩ rfl (jc.deep (r_wrongToken hI_M hH_M hS_M    (fun M5 hI_M5 hH_M5 hS_M5  w5_0 w5_1 w5_2 => ?_)) (Nat.le_of_ble_eq_true rfl))
                    have tk5 : TK M5 = TK M := TK.fr (w5_2 73 (zne rfl) (zne rfl)) (w5_2 74 (zne rfl) (zne rfl))
                    refine jr.iconst rfl ?_
                    obtain ⟨v6, e6⟩ : ∃ z, M 598 72 = z := ⟨_, rfl⟩
                    have b6 : 0 ≤ v6 ∧ v6 ≤ 1600 := by rw [← e6]; exact hI_M 598 72 (Nat.le_of_ble_eq_true rfl)
                    have e7 : M5 598 72 = v6 := ((w5_2 72 (zne rfl) (zne rfl)).trans e6)
                    obtain ⟨v9, e9⟩ : ∃ z, M 598 73 = z := ⟨_, rfl⟩
                    have b9 : 0 ≤ v9 ∧ v9 ≤ 1600 := by rw [← e9]; exact hI_M 598 73 (Nat.le_of_ble_eq_true rfl)
                    have e10 : M5 598 73 = v9 := ((w5_2 73 (zne rfl) (zne rfl)).trans e9)
                    have e12 : M5 598 74 = v1 := ((w5_2 74 (zne rfl) (zne rfl)).trans e1)
                    obtain ⟨v14, e14⟩ : ∃ z, M 598 79 = z := ⟨_, rfl⟩
                    have b14 : 0 ≤ v14 ∧ v14 ≤ 255 := by rw [← e14]; exact hI_M 598 79 (Nat.le_of_ble_eq_true rfl)
                    have e15 : M5 598 79 = v14 := ((w5_2 79 (zne rfl) (zne rfl)).trans e14)
                    obtain ⟨v17, e17⟩ : ∃ z, M5 598 80 = z := ⟨_, rfl⟩
                    have b17 : 0 ≤ v17 ∧ v17 ≤ 7 := by rw [← e17]; exact hI_M5 598 80 (Nat.le_of_ble_eq_true rfl)
                    obtain ⟨v19, e19⟩ : ∃ z, M 598 89 = z := ⟨_, rfl⟩
                    have b19 : 0 ≤ v19 ∧ v19 ≤ 301 := by rw [← e19]; exact hI_M 598 89 (Nat.le_of_ble_eq_true rfl)
                    have e20 : M5 598 89 = v19 := ((w5_2 89 (zne rfl) (zne rfl)).trans e19)
                    obtain ⟨v22, e22⟩ : ∃ z, M 598 90 = z := ⟨_, rfl⟩
                    have b22 : 0 ≤ v22 ∧ v22 ≤ 2200 := by rw [← e22]; exact hI_M 598 90 (Nat.le_of_ble_eq_true rfl)
                    have e23 : M5 598 90 = v22 := ((w5_2 90 (zne rfl) (zne rfl)).trans e22)
                    obtain ⟨v25, e25⟩ : ∃ z, M 598 100 = z := ⟨_, rfl⟩
                    have b25 : 0 ≤ v25 ∧ v25 ≤ 13 := by rw [← e25]; exact hI_M 598 100 (Nat.le_of_ble_eq_true rfl)
                    have e26 : M5 598 100 = v25 := ((w5_2 100 (zne rfl) (zne rfl)).trans e25)
                    obtain ⟨v28, e28⟩ : ∃ z, M 598 107 = z := ⟨_, rfl⟩
                    have b28 : 0 ≤ v28 ∧ v28 ≤ 16 := by rw [← e28]; exact hI_M 598 107 (Nat.le_of_ble_eq_true rfl)
                    have e29 : M5 598 107 = v28 := ((w5_2 107 (zne rfl) (zne rfl)).trans e28)
                    exact jr.ireturn rfl rfl rfl (q _ _ hI_M5 hH_M5 hS_M5  (by omega) (by by_cases hf : v17 = 0; (first | (exfalso; omega) | (exact Or.inr ⟨⟨by omega, ES.adj hE (k' := kk) (z' := 0) (by omega) (by omega) (by omega), by omega, by omega, by omega, by omega⟩, by omega⟩)); (exact Or.inl ⟨by omega, by omega⟩)) (by omega) (by omega) (by omega) (CP.f (CP.rfl _) (fun i => w5_1 659 i (nne rfl)) (w5_2 90 (zne rfl) (zne rfl))) (by omega) (fun a i f598 f659 f660 f664 f666 f667 => ((w5_1 a i f598).trans rfl)) (fun i g73 g74 g75 g76 g77 g78 g79 g80 g81 g89 g90 g100 g102 => ((w5_2 i g80 g81).trans rfl)))
        · refine jr.pick (ls := [_]) [0] rfl rfl ?_
          exact r_takeOperand_L86 q M  hI_M hH_M hS_M  (fun a i f598 f659 f660 f664 f666 f667 => rfl) (fun i g73 g74 g75 g76 g77 g78 g79 g80 g81 g89 g90 g100 g102 => rfl)  p0 rfl (CP.rfl _) rfl (by omega)
theorem r_open {A : Nat → Option (Nat × (Nat → Int32))} {M : jm} {Q : Option Value → jm → Prop} {c n s : Int} (e_c : M 598 102 = c) (h_c : 0 ≤ c ∧ c ≤ 399) (e_n : M 598 90 = n) (h_n : 0 ≤ n ∧ n ≤ 2199) (h_s : 0 ≤ s ∧ s ≤ 255) (q : ∀ op : Int, (op = 7 ∨ op = 8) → Q none (ju (ju (ju (ju (ju (ju (ju (ju M 664 c s) 666 c (-1)) 667 c 1) 598 102 (c + 1)) 665 (c + 1 - 1) n) 659 n op) 660 n 0) 598 90 (n + 1))) : jc A 2 361 [.ref (598), .int (Int32.ofInt (s))] M Q := by
  refine jc_of (m := xm_361) rfl (Nat.le_of_ble_eq_true rfl) rfl ?_
  refine jr.aload_n rfl rfl ?_
  refine jr.iload_n rfl rfl ?_
  refine jr.iconst rfl ?_
  refine jr_v rfl rfl (Or.inl rfl) rfl rfl (nlt rfl) rfl ⟨rfl, Nat.le_of_ble_eq_true rfl, Nat.le_of_ble_eq_true rfl⟩ rfl (jc.deep (r_push e_c (by omega) (by omega) (by omega) ?_) (Nat.le_of_ble_eq_true rfl))
  refine jr.aload_n rfl rfl ?_
  refine jr.getf (i := 104) (v := .ref 665) rfl rfl (nlt rfl) rfl (nlt rfl) rfl rfl rfl rfl ?_
  refine jr.aload_n rfl rfl ?_
  refine jr.getf (i := 102) (x := (c + 1)) (v := .int (Int32.ofInt (c + 1))) rfl rfl (nlt rfl) rfl (nlt rfl) rfl rfl (ju_same _ _ _ _) rfl ?_
  refine jr.iconst rfl ?_
  refine jr.isub rfl ?_
  refine jr.aload_n rfl rfl ?_
  refine jr.getf (i := 90) (x := n) (v := .int (Int32.ofInt (n))) rfl rfl (nlt rfl) rfl (nlt rfl) rfl rfl ((ju_i _ _ (zne (by decide))).trans ((ju_c _ _ (by decide)).trans ((ju_c _ _ (by decide)).trans ((ju_c _ _ (by decide)).trans e_n)))) rfl ?_
  refine jr.iast (i := ((c + 1) - 1)) (x := n) rfl (nlt rfl) rfl (Nat.le_of_ble_eq_true rfl) (by omega) (by omega) ?_
  refine jr.aload_n rfl rfl ?_
  refine jr.iload_n rfl rfl ?_
  refine jr.bipush rfl (jbp _ (nlt rfl)) ?_
  refine jr.icmp_ne rfl rfl (by first | (refine rgb (by assumption) ?_; exact rfl) | omega) (rgl rfl) (fun h25 => ?_) (fun h25 => ?_)
  · refine jr.bipush rfl (jbp _ (nlt rfl)) ?_
    refine jr.lconst (x := 0) rfl (by decide) ?_
    refine jr_v rfl rfl (Or.inl rfl) rfl rfl (nlt rfl) rfl ⟨rfl, Nat.le_of_ble_eq_true rfl, Nat.le_of_ble_eq_true rfl⟩ rfl (jc.deep (r_emit ((ju_c _ _ (by decide)).trans ((ju_i _ _ (zne (by decide))).trans ((ju_c _ _ (by decide)).trans ((ju_c _ _ (by decide)).trans ((ju_c _ _ (by decide)).trans e_n))))) (by omega) (by omega) (by omega) ?_) (Nat.le_of_ble_eq_true rfl))
    exact jr.vreturn rfl rfl (q 8 (by decide))
  · refine jr.bipush rfl (jbp _ (nlt rfl)) ?_
    refine jr.goto rfl rfl ?_
    refine jr.lconst (x := 0) rfl (by decide) ?_
    refine jr_v rfl rfl (Or.inl rfl) rfl rfl (nlt rfl) rfl ⟨rfl, Nat.le_of_ble_eq_true rfl, Nat.le_of_ble_eq_true rfl⟩ rfl (jc.deep (r_emit ((ju_c _ _ (by decide)).trans ((ju_i _ _ (zne (by decide))).trans ((ju_c _ _ (by decide)).trans ((ju_c _ _ (by decide)).trans ((ju_c _ _ (by decide)).trans e_n))))) (by omega) (by omega) (by omega) ?_) (Nat.le_of_ble_eq_true rfl))
    exact jr.vreturn rfl rfl (q 7 (by decide))
