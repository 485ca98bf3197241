theorem r_word {A : Nat → Option (Nat × (Nat → Int32))} {Q : Option Value → jm → Prop} {M : jm} (hI_M : RI M) (hH_M : RH M) (hS_M : RF M) {w : Int} (h_w : 10 ≤ w ∧ w ≤ 30) (p0 : (25 ≤ w → argn w ≤ M 598 131)) (p1 : M 598 131 ≤ 250) (q : ∀ (M' : jm), RI M' → RH M' → RF M' → (25 ≤ w → M' 598 131 = M 598 131 + 1 - argn w) → (w < 25 → M' 598 131 = M 598 131 + 1) → (∀ (a : Nat) (i : Int), a ≠ 598 → a ≠ 603 → a ≠ 604 → a ≠ 605 → a ≠ 624 → a ≠ 686 → M' a i = M a i) → (∀ (i : Int), i ≠ 6 → i ≠ 10 → i ≠ 11 → i ≠ 12 → i ≠ 59 → i ≠ 60 → i ≠ 61 → i ≠ 62 → i ≠ 63 → i ≠ 64 → i ≠ 65 → i ≠ 66 → i ≠ 131 → i ≠ 135 → M' 598 i = M 598 i) → Q none M') : jc A 9 394 [.ref (598), .int (Int32.ofInt (w))] M Q := by
  have al := argn_le w
  refine jc_of (m := xm_394) rfl (Nat.le_of_ble_eq_true rfl) rfl ?_
  refine jr.iload_n rfl rfl ?_
  refine jr.bipush rfl (by decide) ?_
  refine jr.icmp_lt rfl rfl (by omega) (by omega) (fun h3 => ?_) (fun h3 => ?_)
  · refine jr.iconst rfl ?_
    refine jr.istore_n rfl (by decide) rfl ?_
    refine jr.aload_n rfl rfl ?_
    refine jr.dup rfl rfl ?_
    obtain ⟨v1, e1⟩ : ∃ z, M 598 131 = z := ⟨_, rfl⟩
    have b1 : 0 ≤ v1 ∧ v1 ≤ 400 := by rw [← e1]; exact hI_M 598 131 (by decide)
    refine jr.getf (i := 131) (x := v1) (v := .int (Int32.ofInt (v1))) rfl rfl (by decide) rfl (by decide) rfl rfl e1 rfl ?_
    refine jr.iload_n rfl rfl ?_
    refine jr.isub rfl ?_
    refine jr.putf (i := 131) (x := (v1 - 0)) rfl rfl (by decide) rfl (by decide) rfl rfl rfl rfl rfl ?_
    refine jr.aload_n rfl rfl ?_
    refine jr.getf (i := 130) (v := .ref 686) rfl rfl (by decide) rfl (by decide) rfl rfl rfl rfl ?_
    refine jr.aload_n rfl rfl ?_
    refine jr.getf (i := 131) (x := (v1 - 0)) (v := .int (Int32.ofInt (v1 - 0))) rfl rfl (by decide) rfl (by decide) rfl rfl (ju_same _ _ _ _) rfl ?_
    obtain ⟨v2, e2⟩ : ∃ z, M 686 (v1 - 0) = z := ⟨_, rfl⟩
    have b2 : (-9223372036854775808) ≤ v2 ∧ v2 ≤ 9223372036854775807 := by rw [← e2]; exact (by have q := hI_M 686 (v1 - 0) (by decide); rw [xri_row rfl rfl] at q; exact q)
    refine jr.lald (i := (v1 - 0)) (x := v2) rfl (by decide) rfl (by decide) (by omega) (by omega) ((ju_c _ _ (by decide)).trans e2) ?_
    refine jr.lstore_n rfl (by decide) rfl ?_
    refine jr.aload_n rfl rfl ?_
    refine jr.getf (i := 130) (v := .ref 686) rfl rfl (by decide) rfl (by decide) rfl rfl rfl rfl ?_
    refine jr.aload_n rfl rfl ?_
    refine jr.getf (i := 131) (x := (v1 - 0)) (v := .int (Int32.ofInt (v1 - 0))) rfl rfl (by decide) rfl (by decide) rfl rfl (ju_same _ _ _ _) rfl ?_
    refine jr.iconst rfl ?_
    refine jr.iadd rfl ?_
    obtain ⟨v3, e3⟩ : ∃ z, M 686 ((v1 - 0) + 1) = z := ⟨_, rfl⟩
    have b3 : (-9223372036854775808) ≤ v3 ∧ v3 ≤ 9223372036854775807 := by rw [← e3]; exact (by have q := hI_M 686 ((v1 - 0) + 1) (by decide); rw [xri_row rfl rfl] at q; exact q)
    refine jr.lald (i := ((v1 - 0) + 1)) (x := v3) rfl (by decide) rfl (by decide) (by omega) (by omega) ((ju_c _ _ (by decide)).trans e3) ?_
    refine jr.lstore rfl (by decide) rfl ?_
    refine jr.aload_n rfl rfl ?_
    refine jr.getf (i := 130) (v := .ref 686) rfl rfl (by decide) rfl (by decide) rfl rfl rfl rfl ?_
    refine jr.aload_n rfl rfl ?_
    refine jr.getf (i := 131) (x := (v1 - 0)) (v := .int (Int32.ofInt (v1 - 0))) rfl rfl (by decide) rfl (by decide) rfl rfl (ju_same _ _ _ _) rfl ?_
    refine jr.iconst rfl ?_
    refine jr.iadd rfl ?_
    obtain ⟨v4, e4⟩ : ∃ z, M 686 ((v1 - 0) + 2) = z := ⟨_, rfl⟩
    have b4 : (-9223372036854775808) ≤ v4 ∧ v4 ≤ 9223372036854775807 := by rw [← e4]; exact (by have q := hI_M 686 ((v1 - 0) + 2) (by decide); rw [xri_row rfl rfl] at q; exact q)
    refine jr.lald (i := ((v1 - 0) + 2)) (x := v4) rfl (by decide) rfl (by decide) (by omega) (by omega) ((ju_c _ _ (by decide)).trans e4) ?_
    refine jr.lstore rfl (by decide) rfl ?_
    refine jr.lconst (x := 0) rfl (by decide) ?_
    refine jr.lstore rfl (by decide) rfl ?_
    refine jr.pick [4, 3, 2, 1, 0, 6, 5] rfl rfl ?_
    exact r_word_L64 q (ju M 598 131 (v1 - 0)) 0 v2 v3 v4 0 w (RI.u hI_M (a := 598) (i := 131) (show (0 : Int) ≤ _ ∧ _ ≤ (400 : Int) from by omega)) (RH.o hH_M (by decide) (by decide) (by decide)) (RF.o hS_M (by decide) (by decide))  (fun a i f598 f603 f604 f605 f624 f686 => ((ju_c _ _ f598).trans rfl)) (fun i g6 g10 g11 g12 g59 g60 g61 g62 g63 g64 g65 g66 g131 g135 => ((ju_i _ _ g131).trans rfl)) (by omega) (by omega) (by omega) (by omega) (by omega) (by omega) (by rw [(ju_same _ _ _ _)] <;> omega) (by omega) (by omega)
  · refine jr.iload_n rfl rfl ?_
    refine jr_s rfl rfl (Or.inl rfl) ⟨Nat.le_of_ble_eq_true rfl, Nat.le_of_ble_eq_true rfl⟩ rfl rfl (jc.deep (r_argsOf hI_M hH_M hS_M (Kp.rfl _) (by omega)  (fun r5 z5 w5_0 => ?_)) (by decide))
    refine jr.goto rfl rfl ?_
    refine jr.istore_n rfl (by decide) rfl ?_
    refine jr.aload_n rfl rfl ?_
    refine jr.dup rfl rfl ?_
    obtain ⟨v6, e6⟩ : ∃ z, M 598 131 = z := ⟨_, rfl⟩
    have b6 : 0 ≤ v6 ∧ v6 ≤ 400 := by rw [← e6]; exact hI_M 598 131 (by decide)
    refine jr.getf (i := 131) (x := v6) (v := .int (Int32.ofInt (v6))) rfl rfl (by decide) rfl (by decide) rfl rfl e6 rfl ?_
    refine jr.iload_n rfl rfl ?_
    refine jr.isub rfl ?_
    refine jr.putf (i := 131) (x := (v6 - r5)) rfl rfl (by decide) rfl (by decide) rfl rfl rfl rfl rfl ?_
    refine jr.aload_n rfl rfl ?_
    refine jr.getf (i := 130) (v := .ref 686) rfl rfl (by decide) rfl (by decide) rfl rfl rfl rfl ?_
    refine jr.aload_n rfl rfl ?_
    refine jr.getf (i := 131) (x := (v6 - r5)) (v := .int (Int32.ofInt (v6 - r5))) rfl rfl (by decide) rfl (by decide) rfl rfl (ju_same _ _ _ _) rfl ?_
    obtain ⟨v7, e7⟩ : ∃ z, M 686 (v6 - r5) = z := ⟨_, rfl⟩
    have b7 : (-9223372036854775808) ≤ v7 ∧ v7 ≤ 9223372036854775807 := by rw [← e7]; exact (by have q := hI_M 686 (v6 - r5) (by decide); rw [xri_row rfl rfl] at q; exact q)
    refine jr.lald (i := (v6 - r5)) (x := v7) rfl (by decide) rfl (by decide) (by omega) (by omega) ((ju_c _ _ (by decide)).trans e7) ?_
    refine jr.lstore_n rfl (by decide) rfl ?_
    refine jr.aload_n rfl rfl ?_
    refine jr.getf (i := 130) (v := .ref 686) rfl rfl (by decide) rfl (by decide) rfl rfl rfl rfl ?_
    refine jr.aload_n rfl rfl ?_
    refine jr.getf (i := 131) (x := (v6 - r5)) (v := .int (Int32.ofInt (v6 - r5))) rfl rfl (by decide) rfl (by decide) rfl rfl (ju_same _ _ _ _) rfl ?_
    refine jr.iconst rfl ?_
    refine jr.iadd rfl ?_
    obtain ⟨v8, e8⟩ : ∃ z, M 686 ((v6 - r5) + 1) = z := ⟨_, rfl⟩
    have b8 : (-9223372036854775808) ≤ v8 ∧ v8 ≤ 9223372036854775807 := by rw [← e8]; exact (by have q := hI_M 686 ((v6 - r5) + 1) (by decide); rw [xri_row rfl rfl] at q; exact q)
    refine jr.lald (i := ((v6 - r5) + 1)) (x := v8) rfl (by decide) rfl (by decide) (by omega) (by omega) ((ju_c _ _ (by decide)).trans e8) ?_
    refine jr.lstore rfl (by decide) rfl ?_
    refine jr.aload_n rfl rfl ?_
    refine jr.getf (i := 130) (v := .ref 686) rfl rfl (by decide) rfl (by decide) rfl rfl rfl rfl ?_
    refine jr.aload_n rfl rfl ?_
    refine jr.getf (i := 131) (x := (v6 - r5)) (v := .int (Int32.ofInt (v6 - r5))) rfl rfl (by decide) rfl (by decide) rfl rfl (ju_same _ _ _ _) rfl ?_
    refine jr.iconst rfl ?_
    refine jr.iadd rfl ?_
    obtain ⟨v9, e9⟩ : ∃ z, M 686 ((v6 - r5) + 2) = z := ⟨_, rfl⟩
    have b9 : (-9223372036854775808) ≤ v9 ∧ v9 ≤ 9223372036854775807 := by rw [← e9]; exact (by have q := hI_M 686 ((v6 - r5) + 2) (by decide); rw [xri_row rfl rfl] at q; exact q)
    refine jr.lald (i := ((v6 - r5) + 2)) (x := v9) rfl (by decide) rfl (by decide) (by omega) (by omega) ((ju_c _ _ (by decide)).trans e9) ?_
    refine jr.lstore rfl (by decide) rfl ?_
    refine jr.lconst (x := 0) rfl (by decide) ?_
    refine jr.lstore rfl (by decide) rfl ?_
    refine jr.pick [4, 3, 2, 1, 0, 6, 5] rfl rfl ?_
    exact r_word_L64 q (ju M 598 131 (v6 - r5)) r5 v7 v8 v9 0 w (RI.u hI_M (a := 598) (i := 131) (show (0 : Int) ≤ _ ∧ _ ≤ (400 : Int) from by omega)) (RH.o hH_M (by decide) (by decide) (by decide)) (RF.o hS_M (by decide) (by decide))  (fun a i f598 f603 f604 f605 f624 f686 => ((ju_c _ _ f598).trans rfl)) (fun i g6 g10 g11 g12 g59 g60 g61 g62 g63 g64 g65 g66 g131 g135 => ((ju_i _ _ g131).trans rfl)) (by omega) (by omega) (by omega) (by omega) (by omega) (by omega) (by rw [(ju_same _ _ _ _)] <;> omega) (by omega) (by omega)
theorem r_bySign_L291 {A : Nat → Option (Nat × (Nat → Int32))} {Q : Option Value → jm → Prop} {M0 : jm} (q : ∀ (M' : jm), RI M' → RH M' → RF M' → M' 598 131 = M0 598 131 - 1 → (∀ (a : Nat) (i : Int), a ≠ 598 → a ≠ 686 → M' a i = M0 a i) → (∀ (i : Int), i ≠ 131 → i ≠ 135 → M' 598 i = M0 598 i) → Q none M') : ∀ (M : jm) (x : Int), RI M → RH M → RF M → (∀ (a : Nat) (i : Int), a ≠ 598 → a ≠ 686 → M a i = M0 a i) → (∀ (i : Int), i ≠ 131 → i ≠ 135 → M 598 i = M0 598 i) → (-9223372036854775808) ≤ x ∧ x ≤ 9223372036854775807 → 1 ≤ M 598 131 ∧ M 598 131 ≤ 250 ∧ M 598 131 = M0 598 131 - 1 → jr A 0 xm_382 291 [(4, .long (Int64.ofInt (x))), (0, .ref (598))] [] M Q := by
    intro M x hI_M hH_M hS_M hF_M hG_M h_x hy0
    refine jr.aload_n rfl rfl ?_
    refine jr.getf (i := 130) (v := .ref 686) rfl rfl (by decide) rfl (by decide) rfl rfl rfl rfl ?_
    refine jr.aload_n rfl rfl ?_
    obtain ⟨v1, e1⟩ : ∃ z, M 598 131 = z := ⟨_, rfl⟩
    have b1 : 0 ≤ v1 ∧ v1 ≤ 400 := by rw [← e1]; exact hI_M 598 131 (by decide)
    refine jr.getf (i := 131) (x := v1) (v := .int (Int32.ofInt (v1))) rfl rfl (by decide) rfl (by decide) rfl rfl e1 rfl ?_
    refine jr.iconst rfl ?_
    refine jr.isub rfl ?_
    refine jr.lload rfl rfl ?_
    refine jr.last (i := (v1 - 1)) (x := x) rfl (by decide) rfl (by decide) (by omega) (by omega) ?_
    have y2 : (ju M 686 (v1 - 1) x) 598 131 = v1 := ((ju_c _ _ (by decide)).trans e1)
    exact jr.vreturn rfl rfl (q _ (RI.u hI_M (a := 686) (i := (v1 - 1)) (by rw [xri_row rfl rfl]; show (-9223372036854775808 : Int) ≤ _ ∧ _ ≤ (9223372036854775807 : Int); omega)) (RH.o hH_M (by decide) (by decide) (by decide)) (RF.o hS_M (by decide) (by decide))  (by omega) (fun a i f598 f686 => ((ju_c _ _ f686).trans (hF_M a i f598 f686))) (fun i g131 g135 => ((ju_c _ _ (by decide)).trans (hG_M i g131 g135))))
