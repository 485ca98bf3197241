/-! ===== the reference: contracts, 37.mb ===== -/
theorem r_mark_335 {A : Nat → Option (Nat × (Nat → Int32))} {Q : Option Value → jm → Prop} {T : jm} {M : jm} (hI_M : RI M) (hH_M : RH M) (hS_M : RF M) (ht_M : Kp T M) {x : Int} (h_x : (-2147483648) ≤ x ∧ x ≤ 2147483647) (q : ∀ (r : Int), (-9223372036854775808) ≤ r ∧ r ≤ 9223372036854775807 → Q (some (.long (Int64.ofInt r))) M) : jc A 4 335 [.ref (598), .int (Int32.ofInt (x))] M Q := by
  refine jc_of (m := xm_335) rfl (Nat.le_of_ble_eq_true rfl) rfl ?_
  refine jr.aload_n rfl rfl ?_
  refine jr.iload_n rfl rfl ?_
  refine jr_v rfl rfl (Or.inl rfl) rfl rfl (by decide) rfl ⟨rfl, Nat.le_of_ble_eq_true rfl, Nat.le_of_ble_eq_true rfl⟩ rfl (jc.deep (c_isThere hI_M (by omega) (fun l2 u2 t2 => ?_) (fun n2 => ?_)) (by decide))
  · refine jr.if_eq rfl rfl (by omega) (fun h => absurd h (by decide)) (fun _ => ?_)
    refine jr.aload_n rfl rfl ?_
    refine jr.getf (i := 5) (v := .ref 602) rfl rfl (by decide) rfl (by decide) rfl rfl rfl rfl ?_
    refine jr.iload_n rfl rfl ?_
    obtain ⟨v1, e1⟩ : ∃ z, M 602 x = z := ⟨_, rfl⟩
    have b1 : (-9223372036854775808) ≤ v1 ∧ v1 ≤ 9223372036854775807 := by rw [← e1]; exact (by have q := hI_M 602 x (by decide); rw [xri_row rfl rfl] at q; exact q)
    refine jr.lald (i := x) (x := v1) rfl (by decide) rfl (by decide) (by omega) (by omega) e1 ?_
    refine jr.goto rfl rfl ?_
    exact jr.lreturn rfl rfl (q _ (by omega) )
  · refine jr.if_eq rfl rfl (by omega) (fun _ => ?_) (fun h => absurd (by decide) h)
    refine jr.lconst (x := 0) rfl (by decide) ?_
    exact jr.lreturn rfl rfl (q _ (by omega) )
theorem r_word_L378 {A : Nat → Option (Nat × (Nat → Int32))} {Q : Option Value → jm → Prop} {M0 : jm} {w0 : Int} (q : ∀ (M' : jm), RI M' → RH M' → RF M' → (25 ≤ w0 → M' 598 131 = M0 598 131 + 1 - argn w0) → (w0 < 25 → M' 598 131 = M0 598 131 + 1) → (∀ (a : Nat) (i : Int), a ≠ 598 → a ≠ 603 → a ≠ 604 → a ≠ 605 → a ≠ 624 → a ≠ 686 → M' a i = M0 a i) → (∀ (i : Int), i ≠ 6 → i ≠ 10 → i ≠ 11 → i ≠ 12 → i ≠ 59 → i ≠ 60 → i ≠ 61 → i ≠ 62 → i ≠ 63 → i ≠ 64 → i ≠ 65 → i ≠ 66 → i ≠ 131 → i ≠ 135 → M' 598 i = M0 598 i) → Q none M') : ∀ (M : jm) (v : Int) (w : Int), RI M → RH M → RF M → (∀ (a : Nat) (i : Int), a ≠ 598 → a ≠ 603 → a ≠ 604 → a ≠ 605 → a ≠ 624 → a ≠ 686 → M a i = M0 a i) → (∀ (i : Int), i ≠ 6 → i ≠ 10 → i ≠ 11 → i ≠ 12 → i ≠ 59 → i ≠ 60 → i ≠ 61 → i ≠ 62 → i ≠ 63 → i ≠ 64 → i ≠ 65 → i ≠ 66 → i ≠ 131 → i ≠ 135 → M 598 i = M0 598 i) → (-9223372036854775808) ≤ v ∧ v ≤ 9223372036854775807 → 10 ≤ w ∧ w ≤ 30 → 0 ≤ M 598 131 ∧ M 598 131 ≤ 250 ∧ ((25 ≤ w ∧ M 598 131 = M0 598 131 - argn w) ∨ (w < 25 ∧ M 598 131 = M0 598 131)) → w = w0 → jr A 8 xm_394 378 [(9, .long (Int64.ofInt (v))), (1, .int (Int32.ofInt (w))), (0, .ref (598))] [] M Q := by
    intro M v w hI_M hH_M hS_M hF_M hG_M h_v h_w hy0 hy1
    subst hy1
    refine jr.aload_n rfl rfl ?_
    refine jr.getf (i := 130) (v := .ref 686) rfl rfl (by decide) rfl (by decide) rfl rfl rfl rfl ?_
    refine jr.aload_n rfl rfl ?_
    obtain ⟨v1, e1⟩ : ∃ z, M 598 131 = z := ⟨_, rfl⟩
    have b1 : 0 ≤ v1 ∧ v1 ≤ 400 := by rw [← e1]; exact hI_M 598 131 (by decide)
    refine jr.getf (i := 131) (x := v1) (v := .int (Int32.ofInt (v1))) rfl rfl (by decide) rfl (by decide) rfl rfl e1 rfl ?_
    refine jr.lload rfl rfl ?_
    refine jr.last (i := v1) (x := v) rfl (by decide) rfl (by decide) (by omega) (by omega) ?_
    refine jr.aload_n rfl rfl ?_
    refine jr.dup rfl rfl ?_
    refine jr.getf (i := 131) (x := v1) (v := .int (Int32.ofInt (v1))) rfl rfl (by decide) rfl (by decide) rfl rfl ((ju_c _ _ (by decide)).trans e1) rfl ?_
    refine jr.iconst rfl ?_
    refine jr.iadd rfl ?_
    refine jr.putf (i := 131) (x := (v1 + 1)) rfl rfl (by decide) rfl (by decide) rfl rfl rfl rfl rfl ?_
    have y2 : (ju (ju M 686 v1 v) 598 131 (v1 + 1)) 598 131 = v1 + 1 := (ju_same _ _ _ _)
    exact jr.vreturn rfl rfl (q _ (RI.u (RI.u hI_M (a := 686) (i := v1) (by rw [xri_row rfl rfl]; show (-9223372036854775808 : Int) ≤ _ ∧ _ ≤ (9223372036854775807 : Int); omega)) (a := 598) (i := 131) (show (0 : Int) ≤ _ ∧ _ ≤ (400 : Int) from by omega)) (RH.o (RH.o hH_M (by decide) (by decide) (by decide)) (by decide) (by decide) (by decide)) (RF.o (RF.o hS_M (by decide) (by decide)) (by decide) (by decide))  (by omega) (by omega) (fun a i f598 f603 f604 f605 f624 f686 => ((ju_c _ _ f598).trans ((ju_c _ _ f686).trans (hF_M a i f598 f603 f604 f605 f624 f686)))) (fun i g6 g10 g11 g12 g59 g60 g61 g62 g63 g64 g65 g66 g131 g135 => ((ju_i _ _ g131).trans ((ju_c _ _ (by decide)).trans (hG_M i g6 g10 g11 g12 g59 g60 g61 g62 g63 g64 g65 g66 g131 g135)))))
