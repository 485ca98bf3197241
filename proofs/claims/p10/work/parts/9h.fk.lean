section
/-! ===== the reference: sorts of a stream, lives, forgetting, gathered ===== -/
theorem r_classOf_x {A : Nat → Option (Nat × (Nat → Int32))} {Q : Option Value → jm → Prop} {M : jm} (hI_M : RI M) (hH_M : RH M) (hS_M : RF M) {w : Int} (h_w : 0 ≤ w ∧ w ≤ 255) (q : ∀ (r : Int), 0 ≤ r ∧ r ≤ 5 → r = scf w → Q (some (.int (Int32.ofInt r))) M) : jc A 1 307 [.int (Int32.ofInt (w))] M Q := by
  refine jc_of (m := xm_307) rfl (Nat.le_of_ble_eq_true rfl) rfl ?_
  refine jr.iload_n rfl rfl ?_
  refine jr.iconst rfl ?_
  refine jr.iand rfl ?_
  have b1 : j_and w 4 = w / 4 % 2 * 4 ∧ 0 ≤ j_and w 4 ∧ j_and w 4 ≤ 16 := ⟨(jbt (by omega)).2.2.1, by rw [(jbt (by omega)).2.2.1]; omega⟩
  generalize j_and w 4 = v1 at b1 ⊢
  refine jr.if_eq rfl rfl (by omega) (fun h3 => ?_) (fun h3 => ?_)
  · refine jr.iload_n rfl rfl ?_
    refine jr.iconst rfl ?_
    refine jr.iand rfl ?_
    have b2 : j_and w 2 = w / 2 % 2 * 2 ∧ 0 ≤ j_and w 2 ∧ j_and w 2 ≤ 16 := ⟨(jbt (by omega)).2.1, by rw [(jbt (by omega)).2.1]; omega⟩
    generalize j_and w 2 = v2 at b2 ⊢
    refine jr.if_eq rfl rfl (by omega) (fun h13 => ?_) (fun h13 => ?_)
    · refine jr.iload_n rfl rfl ?_
      refine jr.iconst rfl ?_
      refine jr.iand rfl ?_
      have b3 : j_and w 1 = w % 2 ∧ 0 ≤ j_and w 1 ∧ j_and w 1 ≤ 16 := ⟨(jbt (by omega)).1, by rw [(jbt (by omega)).1]; omega⟩
      generalize j_and w 1 = v3 at b3 ⊢
      refine jr.if_eq rfl rfl (by omega) (fun h34 => ?_) (fun h34 => ?_)
      · refine jr.iload_n rfl rfl ?_
        refine jr.bipush rfl (by decide) ?_
        refine jr.iand rfl ?_
        have b4 : j_and w 16 = w / 16 % 2 * 16 ∧ 0 ≤ j_and w 16 ∧ j_and w 16 ≤ 16 := ⟨(jbt (by omega)).2.2.2, by rw [(jbt (by omega)).2.2.2]; omega⟩
        generalize j_and w 16 = v4 at b4 ⊢
        refine jr.if_eq rfl rfl (by omega) (fun h45 => ?_) (fun h45 => ?_)
        · refine jr.iconst rfl ?_
          exact jr.ireturn rfl rfl rfl (q _ (by omega) (by unfold scf; (repeat' split) <;> omega))
        · have sx45 : (1 : Int) ≤ v4 := by omega
          refine jr.iconst rfl ?_
          refine jr.goto rfl rfl ?_
          exact jr.ireturn rfl rfl rfl (q _ (by omega) (by unfold scf; (repeat' split) <;> omega))
      · have sx34 : (1 : Int) ≤ v3 := by omega
        refine jr.iconst rfl ?_
        refine jr.goto rfl rfl ?_
        exact jr.ireturn rfl rfl rfl (q _ (by omega) (by unfold scf; (repeat' split) <;> omega))
    · have sx13 : (1 : Int) ≤ v2 := by omega
      refine jr.iload_n rfl rfl ?_
      refine jr.bipush rfl (by decide) ?_
      refine jr.iand rfl ?_
      have b5 : j_and w 16 = w / 16 % 2 * 16 ∧ 0 ≤ j_and w 16 ∧ j_and w 16 ≤ 16 := ⟨(jbt (by omega)).2.2.2, by rw [(jbt (by omega)).2.2.2]; omega⟩
      generalize j_and w 16 = v5 at b5 ⊢
      refine jr.if_eq rfl rfl (by omega) (fun h20 => ?_) (fun h20 => ?_)
      · refine jr.iconst rfl ?_
        refine jr.goto rfl rfl ?_
        exact jr.ireturn rfl rfl rfl (q _ (by omega) (by unfold scf; (repeat' split) <;> omega))
      · have sx20 : (1 : Int) ≤ v5 := by omega
        refine jr.iconst rfl ?_
        refine jr.goto rfl rfl ?_
        exact jr.ireturn rfl rfl rfl (q _ (by omega) (by unfold scf; (repeat' split) <;> omega))
  · have sx3 : (1 : Int) ≤ v1 := by omega
    refine jr.iconst rfl ?_
    refine jr.goto rfl rfl ?_
    exact jr.ireturn rfl rfl rfl (q _ (by omega) (by unfold scf; (repeat' split) <;> omega))
theorem r_lives_x {A : Nat → Option (Nat × (Nat → Int32))} {Q : Option Value → jm → Prop} {M : jm} (hI_M : RI M) (hH_M : RH M) (hS_M : RF M) {w : Int} (h_w : (-2147483648) ≤ w ∧ w ≤ 2147483647) {s : Int} (h_s : (-2147483648) ≤ s ∧ s ≤ 2147483647) (p0 : (w = 1 ∨ w = 17 ∨ (1 ≤ s ∧ s ≤ 10))) (q : ∀ (r : Int), 3 ≤ r ∧ r ≤ 200 → r = lvf w s → Q (some (.int (Int32.ofInt r))) M) : jc A 1 306 [.int (Int32.ofInt (w)), .int (Int32.ofInt (s))] M Q := by
  refine jc_of (m := xm_306) rfl (Nat.le_of_ble_eq_true rfl) rfl ?_
  refine jr.iload_n rfl rfl ?_
  refine jr.iconst rfl ?_
  refine jr.icmp_ne rfl rfl (by omega) (by omega) (fun h2 => ?_) (fun h2 => ?_)
  · refine jr.iload_n rfl rfl ?_
    refine jr.bipush rfl (by decide) ?_
    refine jr.icmp_ne rfl rfl (by omega) (by omega) (fun h10 => ?_) (fun h10 => ?_)
    · refine jr.iload_n rfl rfl ?_
      rcases (show s = 1 ∨ s = 2 ∨ s = 3 ∨ s = 4 ∨ s = 5 ∨ s = 6 ∨ s = 7 ∨ s = 8 ∨ s = 9 ∨ s = 10 ∨ (s ≠ 1 ∧ s ≠ 2 ∧ s ≠ 3 ∧ s ≠ 4 ∧ s ≠ 5 ∧ s ≠ 6 ∧ s ≠ 7 ∧ s ≠ 8 ∧ s ≠ 9 ∧ s ≠ 10) by omega) with h26 | h26 | h26 | h26 | h26 | h26 | h26 | h26 | h26 | h26 | h26
      · refine jr.tsw_k 1 rfl h26 rfl ?_
        refine jr.bipush rfl (by decide) ?_
        exact jr.ireturn rfl rfl rfl (q _ (by omega) (by unfold lvf; (repeat' split) <;> omega))
      · refine jr.tsw_k 2 rfl h26 rfl ?_
        refine jr.bipush rfl (by decide) ?_
        exact jr.ireturn rfl rfl rfl (q _ (by omega) (by unfold lvf; (repeat' split) <;> omega))
      · refine jr.tsw_k 3 rfl h26 rfl ?_
        refine jr.sipush rfl (by decide) ?_
        exact jr.ireturn rfl rfl rfl (q _ (by omega) (by unfold lvf; (repeat' split) <;> omega))
      · refine jr.tsw_k 4 rfl h26 rfl ?_
        refine jr.bipush rfl (by decide) ?_
        exact jr.ireturn rfl rfl rfl (q _ (by omega) (by unfold lvf; (repeat' split) <;> omega))
      · refine jr.tsw_k 5 rfl h26 rfl ?_
        refine jr.bipush rfl (by decide) ?_
        exact jr.ireturn rfl rfl rfl (q _ (by omega) (by unfold lvf; (repeat' split) <;> omega))
      · refine jr.tsw_k 6 rfl h26 rfl ?_
        refine jr.bipush rfl (by decide) ?_
        exact jr.ireturn rfl rfl rfl (q _ (by omega) (by unfold lvf; (repeat' split) <;> omega))
      · refine jr.tsw_k 7 rfl h26 rfl ?_
        refine jr.bipush rfl (by decide) ?_
        exact jr.ireturn rfl rfl rfl (q _ (by omega) (by unfold lvf; (repeat' split) <;> omega))
      · refine jr.tsw_k 8 rfl h26 rfl ?_
        refine jr.bipush rfl (by decide) ?_
        exact jr.ireturn rfl rfl rfl (q _ (by omega) (by unfold lvf; (repeat' split) <;> omega))
      · refine jr.tsw_k 9 rfl h26 rfl ?_
        refine jr.bipush rfl (by decide) ?_
        exact jr.ireturn rfl rfl rfl (q _ (by omega) (by unfold lvf; (repeat' split) <;> omega))
      · refine jr.tsw_k 10 rfl h26 rfl ?_
        refine jr.iconst rfl ?_
        exact jr.ireturn rfl rfl rfl (q _ (by omega) (by unfold lvf; (repeat' split) <;> omega))
      · refine jr.tsw_d rfl (by omega) (by omega) rfl ?_
        refine jr.bipush rfl (by decide) ?_
        exact jr.ireturn rfl rfl rfl (q _ (by omega) (by unfold lvf; (repeat' split) <;> omega))
    · refine jr.iload_n rfl rfl ?_
      refine jr.if_ne rfl rfl (by omega) (fun h14 => ?_) (fun h14 => ?_)
      · refine jr.bipush rfl (by decide) ?_
        exact jr.ireturn rfl rfl rfl (q _ (by omega) (by unfold lvf; (repeat' split) <;> omega))
      · refine jr.bipush rfl (by decide) ?_
        refine jr.goto rfl rfl ?_
        exact jr.ireturn rfl rfl rfl (q _ (by omega) (by unfold lvf; (repeat' split) <;> omega))
  · refine jr.iconst rfl ?_
    exact jr.ireturn rfl rfl rfl (q _ (by omega) (by unfold lvf; (repeat' split) <;> omega))
theorem r_after_x {A : Nat → Option (Nat × (Nat → Int32))} {Q : Option Value → jm → Prop} {M : jm} (hI_M : RI M) (hH_M : RH M) (hS_M : RF M) {s : Int} (h_s : 1 ≤ s ∧ s ≤ 10) {b : Int} (h_b : 0 ≤ b ∧ b ≤ 1) {c : Int} (h_c : 0 ≤ c ∧ c ≤ 5) (q : ∀ (r : Int), 0 ≤ r ∧ r ≤ 10 → ((c = 5 ∧ r = 0) ∨ (c ≠ 5 ∧ r = M 647 (10 * (s - 1) + 5 * b + c))) → Q (some (.int (Int32.ofInt r))) M) : jc A 1 308 [.ref (598), .int (Int32.ofInt (s)), .int (Int32.ofInt (b)), .int (Int32.ofInt (c))] M Q := by
  refine jc_of (m := xm_308) rfl (Nat.le_of_ble_eq_true rfl) rfl ?_
  refine jr.iload_n rfl rfl ?_
  refine jr.iconst rfl ?_
  refine jr.icmp_ne rfl rfl (by omega) (by omega) (fun h2 => ?_) (fun h2 => ?_)
  · have sx2 : c ≤ (4 : Int) := by omega
    refine jr.aload_n rfl rfl ?_
    refine jr.getf (i := 67) (v := .ref 647) rfl rfl (by decide) rfl (by decide) rfl rfl rfl rfl ?_
    refine jr.bipush rfl (by decide) ?_
    refine jr.iload_n rfl rfl ?_
    refine jr.iconst rfl ?_
    refine jr.isub rfl ?_
    refine jr.imul rfl ?_
    refine jr.iconst rfl ?_
    refine jr.iload_n rfl rfl ?_
    refine jr.imul rfl ?_
    refine jr.iadd rfl ?_
    refine jr.iload_n rfl rfl ?_
    refine jr.iadd rfl ?_
    obtain ⟨v1, e1⟩ : ∃ z, M 647 (((10 * (s - 1)) + (5 * b)) + c) = z := ⟨_, rfl⟩
    have b1 : 0 ≤ v1 ∧ v1 ≤ 10 := by rw [← e1]; exact (by have q := hI_M 647 (((10 * (s - 1)) + (5 * b)) + c) (by decide); rw [xri_row rfl rfl] at q; exact q)
    refine jr.iald (i := (((10 * (s - 1)) + (5 * b)) + c)) (x := v1) rfl (by decide) rfl (by decide) (by omega) (by omega) e1 ?_
    exact jr.ireturn rfl rfl rfl (q _ (by omega) (by omega))
  · refine jr.iconst rfl ?_
    refine jr.goto rfl rfl ?_
    exact jr.ireturn rfl rfl rfl (q _ (by omega) (by omega))
theorem r_gathered_x {A : Nat → Option (Nat × (Nat → Int32))} {Q : Option Value → jm → Prop} {M : jm} (hI_M : RI M) (hH_M : RH M) (hS_M : RF M) {w : Int} (h_w : (-2147483648) ≤ w ∧ w ≤ 2147483647) (q : ∀ (r : Int) (M' : jm), RI M' → RH M' → RF M' → (-3) ≤ r ∧ r ≤ 720 → (((0 ≤ w ∧ w ≤ 4) ∧ ((M 598 34 = 0 ∧ r = -1) ∨ (M 598 34 ≠ 0 ∧ r = M 622 w))) ∨ ((w < 0 ∨ 4 < w) ∧ r = -3)) → M' = M → (∀ (a : Nat) (i : Int), a ≠ 598 → M' a i = M a i) → (∀ (i : Int), i ≠ 1 → M' 598 i = M 598 i) → Q (some (.int (Int32.ofInt r))) M') : jc A 2 297 [.ref (598), .int (Int32.ofInt (w))] M Q := by
  refine jc_of (m := xm_297) rfl (Nat.le_of_ble_eq_true rfl) rfl ?_
  refine jr.iload_n rfl rfl ?_
  refine jr.i2l rfl (by omega) ?_
  refine jr.lconst (x := 0) rfl (by decide) ?_
  refine jr.ldc2 (x := 4) rfl rfl (by decide) ?_
  refine jr_s rfl rfl (Or.inl rfl) ⟨Nat.le_of_ble_eq_true rfl, Nat.le_of_ble_eq_true rfl⟩ rfl rfl (jc.deep (c_within (by omega) (by omega) (by omega) (fun l6 u6 => ?_) (fun n6 => ?_)) (by decide))
  · refine jr.if_ne rfl rfl (by omega) (fun _ => ?_) (fun h => absurd (by decide) h)
    refine jr.aload_n rfl rfl ?_
    obtain ⟨v1, e1⟩ : ∃ z, M 598 34 = z := ⟨_, rfl⟩
    have b1 : 0 ≤ v1 ∧ v1 ≤ 1 := by rw [← e1]; exact hI_M 598 34 (by decide)
    refine jr.getf (i := 34) (x := v1) (v := .int (Int32.ofInt (v1))) rfl rfl (by decide) rfl (by decide) rfl rfl e1 rfl ?_
    refine jr.if_eq rfl rfl (by omega) (fun h19 => ?_) (fun h19 => ?_)
    · refine jr.iconst rfl ?_
      exact jr.ireturn rfl rfl rfl (q _ _ hI_M hH_M hS_M  (by omega) (by omega) rfl (fun a i f598 => rfl) (fun i g1 => rfl))
    · have sx19 : (1 : Int) ≤ v1 := by omega
      refine jr.aload_n rfl rfl ?_
      refine jr.getf (i := 33) (v := .ref 622) rfl rfl (by decide) rfl (by decide) rfl rfl rfl rfl ?_
      refine jr.iload_n rfl rfl ?_
      obtain ⟨v2, e2⟩ : ∃ z, M 622 w = z := ⟨_, rfl⟩
      have b2 : (-1) ≤ v2 ∧ v2 ≤ 720 := by rw [← e2]; exact (by have q := hI_M 622 w (by decide); rw [xri_row rfl rfl] at q; exact q)
      refine jr.iald (i := w) (x := v2) rfl (by decide) rfl (by decide) (by omega) (by omega) e2 ?_
      refine jr.goto rfl rfl ?_
      exact jr.ireturn rfl rfl rfl (q _ _ hI_M hH_M hS_M  (by omega) (by omega) rfl (fun a i f598 => rfl) (fun i g1 => rfl))
  · refine jr.if_ne rfl rfl (by omega) (fun h => absurd h (by decide)) (fun _ => ?_)
    refine jr.bipush rfl (by decide) ?_
    exact jr.ireturn rfl rfl rfl (q _ _ hI_M hH_M hS_M  (by omega) (by omega) rfl (fun a i f598 => rfl) (fun i g1 => rfl))
/-- sides below s have forgotten -/
noncomputable def FG6 (T M : jm) (f s : Int) : Prop := (∀ j : Int, 2 * f ≤ j → j < s → M 632 j = 0 ∧ M 633 j = 0 ∧ M 634 j = 0 ∧ M 635 j = 0 ∧ M 636 j = 0 ∧ M 637 j = 0) ∧ ∀ (b : Nat) (j : Int), (j < 2 * f ∨ s ≤ j) → M b j = T b j
theorem FG6.s {T M : jm} {f s : Int} (h : FG6 T M f s) (h0 : 2 * f ≤ s) : FG6 T (ju (ju (ju (ju (ju (ju M 632 s 0) 633 s 0) 634 s 0) 635 s 0) 636 s 0) 637 s 0) f (s + 1) := by
  refine ⟨fun j j0 j1 => ?_, fun b j hj => ?_⟩
  · by_cases e : j = s
    · subst e
      refine ⟨?_, ?_, ?_, ?_, ?_, ?_⟩
      · rw [ju_c _ _ (by decide), ju_c _ _ (by decide), ju_c _ _ (by decide), ju_c _ _ (by decide), ju_c _ _ (by decide), ju_same]
      · rw [ju_c _ _ (by decide), ju_c _ _ (by decide), ju_c _ _ (by decide), ju_c _ _ (by decide), ju_same]
      · rw [ju_c _ _ (by decide), ju_c _ _ (by decide), ju_c _ _ (by decide), ju_same]
      · rw [ju_c _ _ (by decide), ju_c _ _ (by decide), ju_same]
      · rw [ju_c _ _ (by decide), ju_same]
      · rw [ju_same]
    · simp only [ju_i _ _ e]
      exact h.1 j j0 (by omega)
  · have e : j ≠ s := by omega
    simp only [ju_i _ _ e]
    exact h.2 b j (by omega)
theorem r_forget_L4_x {A : Nat → Option (Nat × (Nat → Int32))} {Q : Option Value → jm → Prop} {M0 : jm} {f0 : Int} (q : ∀ (M' : jm), RI M' → RH M' → FG6 M0 M' f0 (2 * f0 + 2) → (∀ (a : Nat) (i : Int), a ≠ 632 → a ≠ 633 → a ≠ 634 → a ≠ 635 → a ≠ 636 → a ≠ 637 → M' a i = M0 a i) → Q none M') : ∀ (nM : Nat) (M : jm) (s : Int) (f : Int), RI M → RH M → (∀ (a : Nat) (i : Int), a ≠ 632 → a ≠ 633 → a ≠ 634 → a ≠ 635 → a ≠ 636 → a ≠ 637 → M a i = M0 a i) → 0 ≤ s ∧ s ≤ 48 → 0 ≤ f ∧ f ≤ 23 → 2 * f ≤ s → FG6 M0 M f s → s ≤ 2 * f + 2 → f = f0 → 48 - s ≤ nM → jr A 0 xm_309 4 [(2, .int (Int32.ofInt (s))), (1, .int (Int32.ofInt (f))), (0, .ref (598))] [] M Q := by
  intro nM
  induction nM using Nat.strongRecOn with
  | ind nM ih =>
    intro M s f hI_M hH_M hF_M h_s h_f hy0 hy1 hy2 hy3 hm
    subst hy3
    refine jr.iload_n rfl rfl ?_
    refine jr.iconst rfl ?_
    refine jr.iload_n rfl rfl ?_
    refine jr.imul rfl ?_
    refine jr.iconst rfl ?_
    refine jr.iadd rfl ?_
    refine jr.icmp_ge rfl rfl (by omega) (by omega) (fun h10 => ?_) (fun h10 => ?_)
    · exact jr.vreturn rfl rfl (q _ hI_M hH_M  (by have h9 := hy1; rw [show s = 2 * f + 2 from by omega] at h9; exact h9) (fun a i f632 f633 f634 f635 f636 f637 => (hF_M a i f632 f633 f634 f635 f636 f637)))
    · refine jr.aload_n rfl rfl ?_
      refine jr.getf (i := 44) (v := .ref 632) rfl rfl (by decide) rfl (by decide) rfl rfl rfl rfl ?_
      refine jr.iload_n rfl rfl ?_
      refine jr.iconst rfl ?_
      refine jr.zast (i := s) (x := 0) rfl (by decide) rfl (by decide) (by omega) (by omega) (j_zn (by omega)) ?_
      refine jr.aload_n rfl rfl ?_
      refine jr.getf (i := 45) (v := .ref 633) rfl rfl (by decide) rfl (by decide) rfl rfl rfl rfl ?_
      refine jr.iload_n rfl rfl ?_
      refine jr.iconst rfl ?_
      refine jr.iast (i := s) (x := 0) rfl (by decide) rfl (by decide) (by omega) (by omega) ?_
      refine jr.aload_n rfl rfl ?_
      refine jr.getf (i := 46) (v := .ref 634) rfl rfl (by decide) rfl (by decide) rfl rfl rfl rfl ?_
      refine jr.iload_n rfl rfl ?_
      refine jr.iconst rfl ?_
      refine jr.zast (i := s) (x := 0) rfl (by decide) rfl (by decide) (by omega) (by omega) (j_zn (by omega)) ?_
      refine jr.aload_n rfl rfl ?_
      refine jr.getf (i := 47) (v := .ref 635) rfl rfl (by decide) rfl (by decide) rfl rfl rfl rfl ?_
      refine jr.iload_n rfl rfl ?_
      refine jr.iconst rfl ?_
      refine jr.iast (i := s) (x := 0) rfl (by decide) rfl (by decide) (by omega) (by omega) ?_
      refine jr.aload_n rfl rfl ?_
      refine jr.getf (i := 48) (v := .ref 636) rfl rfl (by decide) rfl (by decide) rfl rfl rfl rfl ?_
      refine jr.iload_n rfl rfl ?_
      refine jr.lconst (x := 0) rfl (by decide) ?_
      refine jr.last (i := s) (x := 0) rfl (by decide) rfl (by decide) (by omega) (by omega) ?_
      refine jr.aload_n rfl rfl ?_
      refine jr.getf (i := 49) (v := .ref 637) rfl rfl (by decide) rfl (by decide) rfl rfl rfl rfl ?_
      refine jr.iload_n rfl rfl ?_
      refine jr.lconst (x := 0) rfl (by decide) ?_
      refine jr.last (i := s) (x := 0) rfl (by decide) rfl (by decide) (by omega) (by omega) ?_
      refine jr.iinc rfl rfl (by decide) rfl ?_
      refine jr.goto rfl rfl ?_
      refine jr.pick [0, 1, 2] rfl rfl ?_
      exact ih (nM - 1) (by omega) (ju (ju (ju (ju (ju (ju M 632 s 0) 633 s 0) 634 s 0) 635 s 0) 636 s 0) 637 s 0) (s + 1) f (RI.u (RI.u (RI.u (RI.u (RI.u (RI.u hI_M (a := 632) (i := s) (by rw [xri_row rfl rfl]; show (0 : Int) ≤ _ ∧ _ ≤ (1 : Int); omega)) (a := 633) (i := s) (by rw [xri_row rfl rfl]; show (-2147483648 : Int) ≤ _ ∧ _ ≤ (2147483647 : Int); omega)) (a := 634) (i := s) (by rw [xri_row rfl rfl]; show (0 : Int) ≤ _ ∧ _ ≤ (1 : Int); omega)) (a := 635) (i := s) (by rw [xri_row rfl rfl]; show (0 : Int) ≤ _ ∧ _ ≤ (65535 : Int); omega)) (a := 636) (i := s) (by rw [xri_row rfl rfl]; show (-9223372036854775808 : Int) ≤ _ ∧ _ ≤ (9223372036854775807 : Int); omega)) (a := 637) (i := s) (by rw [xri_row rfl rfl]; show (-9223372036854775808 : Int) ≤ _ ∧ _ ≤ (9223372036854775807 : Int); omega)) (RH.o (RH.o (RH.o (RH.o (RH.o (RH.o hH_M (by decide) (by decide) (by decide)) (by decide) (by decide) (by decide)) (by decide) (by decide) (by decide)) (by decide) (by decide) (by decide)) (by decide) (by decide) (by decide)) (by decide) (by decide) (by decide))  (fun a i f632 f633 f634 f635 f636 f637 => ((ju_c _ _ f637).trans ((ju_c _ _ f636).trans ((ju_c _ _ f635).trans ((ju_c _ _ f634).trans ((ju_c _ _ f633).trans ((ju_c _ _ f632).trans (hF_M a i f632 f633 f634 f635 f636 f637)))))))) (by omega) (by omega) (by omega) (FG6.s hy1 (by omega)) (by omega) (by omega) (by omega)
theorem r_forget_x {A : Nat → Option (Nat × (Nat → Int32))} {Q : Option Value → jm → Prop} {M : jm} (hI_M : RI M) (hH_M : RH M) {f : Int} (h_f : 0 ≤ f ∧ f ≤ 23) (q : ∀ (M' : jm), RI M' → RH M' → FG6 M M' f (2 * f + 2) → (∀ (a : Nat) (i : Int), a ≠ 632 → a ≠ 633 → a ≠ 634 → a ≠ 635 → a ≠ 636 → a ≠ 637 → M' a i = M a i) → Q none M') : jc A 1 309 [.ref (598), .int (Int32.ofInt (f))] M Q := by
  refine jc_of (m := xm_309) rfl (Nat.le_of_ble_eq_true rfl) rfl ?_
  refine jr.iconst rfl ?_
  refine jr.iload_n rfl rfl ?_
  refine jr.imul rfl ?_
  refine jr.istore_n rfl (by decide) rfl ?_
  refine jr.pick [0, 2, 1] rfl rfl ?_
  exact r_forget_L4_x q 48 M (2 * f) f hI_M hH_M  (fun a i f632 f633 f634 f635 f636 f637 => rfl) (by omega) (by omega) (by omega) ⟨fun j j0 j1 => absurd j1 (by omega), fun _ _ _ => rfl⟩ (by omega) (by omega) (by omega)
end
section
/-! ===== the class: spans, a flow begins ===== -/
noncomputable def ioF (M : jm) (t : Nat) (s q n : Int) : Int := if M (t + 4) s = 0 then 0 else if j_w (q - M (t + 3) s) < -66000 ∨ ((s = 1 ∨ M t 12 ≠ 0) ∧ M (t + 5) (1 - s) < j_w (j_w (q + n) - M (t + 3) s)) then 1 else 0
theorem io_0 {M : jm} {t : Nat} {s q n : Int} (h : M (t + 4) s = 0) : ioF M t s q n = 0 := by
  unfold ioF
  rw [if_pos h]
theorem io_1 {M : jm} {t : Nat} {s q n l w : Int} (h : M (t + 4) s ≠ 0) (hl : M (t + 3) s = l) (hw : M (t + 5) (1 - s) = w) (h1 : j_w (q - l) < -66000 ∨ ((s = 1 ∨ M t 12 ≠ 0) ∧ w < j_w (j_w (q + n) - l))) : ioF M t s q n = 1 := by
  unfold ioF
  rw [if_neg h, hl, hw, if_pos h1]
theorem io_2 {M : jm} {t : Nat} {s q n l w : Int} (h : M (t + 4) s ≠ 0) (hl : M (t + 3) s = l) (hw : M (t + 5) (1 - s) = w) (h1 : ¬ (j_w (q - l) < -66000 ∨ ((s = 1 ∨ M t 12 ≠ 0) ∧ w < j_w (j_w (q + n) - l)))) : ioF M t s q n = 0 := by
  unfold ioF
  rw [if_neg h, hl, hw, if_neg h1]
theorem c_Flow_isOut_x {A : Nat → Option (Nat × (Nat → Int32))} {Q : Option Value → jm → Prop} {M : jm} (hC_M : CI M) {t : Nat} (k_t : kd t = 1) {x : Int} (h_x : 0 ≤ x ∧ x ≤ 1) {y : Int} (h_y : (-2147483648) ≤ y ∧ y ≤ 2147483647) {z : Int} (h_z : (-2147483648) ≤ z ∧ z ≤ 2147483647) (q : ∀ (r : Int), 0 ≤ r ∧ r ≤ 1 → (r = ioF M t x y z) → Q (some (.int (Int32.ofInt r))) M) : jc A 1 72 [.ref (t), .int (Int32.ofInt (x)), .int (Int32.ofInt (y)), .int (Int32.ofInt (z))] M Q := by
  refine jc_of (m := xm_72) rfl (Nat.le_of_ble_eq_true rfl) rfl ?_
  refine jr.aload_n rfl rfl ?_
  have k1 := kf_1_8 k_t
  refine jr.getf (i := 8) (v := .ref (t + 4)) rfl rfl (Nat.lt_trans (kx_1 k_t).1 (by decide)) (kx_1 k_t).2 (by decide) rfl rfl rfl (jval_ref rfl k1.1) ?_
  refine jr.iload_n rfl rfl ?_
  obtain ⟨v2, e2⟩ : ∃ z_, M ((t + 4)) x = z_ := ⟨_, rfl⟩
  have b2 : 0 ≤ v2 ∧ v2 ≤ 1 := by rw [← e2]; exact (CI.r hC_M k1.2 (by decide) x)
  refine jr.zald (i := x) (x := v2) rfl (Nat.lt_trans (kx_4 k1.2).1 (by decide)) (kx_4 k1.2).2 (by decide) (by omega) (by omega) e2 ?_
  refine jr.if_ne rfl rfl (by omega) (fun h6 => ?_) (fun h6 => ?_)
  · have sx6 : (1 : Int) ≤ v2 := by omega
    refine jr.iload_n rfl rfl ?_
    refine jr.iconst rfl ?_
    refine jr.icmp_eq rfl rfl (by omega) (by omega) (fun h13 => ?_) (fun h13 => ?_)
    · refine jr.iconst rfl ?_
      refine jr.goto rfl rfl ?_
      refine jr.istore rfl (by decide) rfl ?_
      refine jr.iload_n rfl rfl ?_
      refine jr.aload_n rfl rfl ?_
      have k3 := kf_1_7 k_t
      refine jr.getf (i := 7) (v := .ref (t + 3)) rfl rfl (Nat.lt_trans (kx_1 k_t).1 (by decide)) (kx_1 k_t).2 (by decide) rfl rfl rfl (jval_ref rfl k3.1) ?_
      refine jr.iload_n rfl rfl ?_
      obtain ⟨v4, e4⟩ : ∃ z_, M ((t + 3)) x = z_ := ⟨_, rfl⟩
      have b4 : (-2147483648) ≤ v4 ∧ v4 ≤ 2147483647 := by rw [← e4]; exact (CI.r hC_M k3.2 (by decide) x)
      refine jr.iald (i := x) (x := v4) rfl (Nat.lt_trans (kx_5 k3.2).1 (by decide)) (kx_5 k3.2).2 (by decide) (by omega) (by omega) e4 ?_
      refine jr.isub rfl ?_
      refine jr.iw (j_w (y - v4)) (j_w_eq _) ?_
      have b5 : -2147483648 ≤ j_w (y - v4) ∧ j_w (y - v4) ≤ 2147483647 := jb_any _
      refine jr.ldc (x := (-66000)) rfl rfl (by decide) ?_
      refine jr.icmp_lt rfl rfl (by omega) (by omega) (fun h40 => ?_) (fun h40 => ?_)
      · refine jr.iconst rfl ?_
        refine jr.goto rfl rfl ?_
        exact jr.ireturn rfl rfl rfl (q _ (by omega) (by rw [io_1 (by omega) e4 rfl (by first | (left; omega) | (right; omega))]))
      · refine jr.iload rfl rfl ?_
        refine jr.if_eq rfl rfl (by omega) (fun h => absurd h (by decide)) (fun _ => ?_)
        refine jr.iload_n rfl rfl ?_
        refine jr.iload_n rfl rfl ?_
        refine jr.iadd rfl ?_
        refine jr.iw (j_w (y + z)) (j_w_eq _) ?_
        have b6 : -2147483648 ≤ j_w (y + z) ∧ j_w (y + z) ≤ 2147483647 := jb_any _
        refine jr.aload_n rfl rfl ?_
        have k7 := kf_1_7 k_t
        refine jr.getf (i := 7) (v := .ref (t + 3)) rfl rfl (Nat.lt_trans (kx_1 k_t).1 (by decide)) (kx_1 k_t).2 (by decide) rfl rfl rfl (jval_ref rfl k7.1) ?_
        refine jr.iload_n rfl rfl ?_
        refine jr.iald (i := x) (x := v4) rfl (Nat.lt_trans (kx_5 k7.2).1 (by decide)) (kx_5 k7.2).2 (by decide) (by omega) (by omega) e4 ?_
        refine jr.isub rfl ?_
        refine jr.iw (j_w ((j_w (y + z)) - v4)) (j_w_eq _) ?_
        have b8 : -2147483648 ≤ j_w ((j_w (y + z)) - v4) ∧ j_w ((j_w (y + z)) - v4) ≤ 2147483647 := jb_any _
        refine jr.aload_n rfl rfl ?_
        have k9 := kf_1_9 k_t
        refine jr.getf (i := 9) (v := .ref (t + 5)) rfl rfl (Nat.lt_trans (kx_1 k_t).1 (by decide)) (kx_1 k_t).2 (by decide) rfl rfl rfl (jval_ref rfl k9.1) ?_
        refine jr.iconst rfl ?_
        refine jr.iload_n rfl rfl ?_
        refine jr.isub rfl ?_
        obtain ⟨v10, e10⟩ : ∃ z_, M ((t + 5)) (1 - x) = z_ := ⟨_, rfl⟩
        have b10 : (-2147483648) ≤ v10 ∧ v10 ≤ 2147483647 := by rw [← e10]; exact (CI.r hC_M k9.2 (by decide) (1 - x))
        refine jr.iald (i := (1 - x)) (x := v10) rfl (Nat.lt_trans (kx_8 k9.2).1 (by decide)) (kx_8 k9.2).2 (by decide) (by omega) (by omega) e10 ?_
        refine jr.icmp_le rfl rfl (by omega) (by omega) (fun h66 => ?_) (fun h66 => ?_)
        · refine jr.iconst rfl ?_
          exact jr.ireturn rfl rfl rfl (q _ (by omega) (by rw [io_2 (by omega) e4 e10 (by omega)]))
        · refine jr.iconst rfl ?_
          refine jr.goto rfl rfl ?_
          exact jr.ireturn rfl rfl rfl (q _ (by omega) (by rw [io_1 (by omega) e4 e10 (by first | (left; omega) | (right; omega))]))
    · have sx13 : x ≤ (0 : Int) := by omega
      refine jr.aload_n rfl rfl ?_
      obtain ⟨v11, e11⟩ : ∃ z_, M t 12 = z_ := ⟨_, rfl⟩
      have b11 : 0 ≤ v11 ∧ v11 ≤ 1 := by rw [← e11]; exact (CI.r hC_M k_t (by decide) 12)
      refine jr.getf (i := 12) (x := v11) (v := .int (Int32.ofInt (v11))) rfl rfl (Nat.lt_trans (kx_1 k_t).1 (by decide)) (kx_1 k_t).2 (by decide) rfl rfl e11 rfl ?_
      refine jr.if_eq rfl rfl (by omega) (fun h20 => ?_) (fun h20 => ?_)
      · refine jr.iconst rfl ?_
        refine jr.istore rfl (by decide) rfl ?_
        refine jr.iload_n rfl rfl ?_
        refine jr.aload_n rfl rfl ?_
        have k12 := kf_1_7 k_t
        refine jr.getf (i := 7) (v := .ref (t + 3)) rfl rfl (Nat.lt_trans (kx_1 k_t).1 (by decide)) (kx_1 k_t).2 (by decide) rfl rfl rfl (jval_ref rfl k12.1) ?_
        refine jr.iload_n rfl rfl ?_
        obtain ⟨v13, e13⟩ : ∃ z_, M ((t + 3)) x = z_ := ⟨_, rfl⟩
        have b13 : (-2147483648) ≤ v13 ∧ v13 ≤ 2147483647 := by rw [← e13]; exact (CI.r hC_M k12.2 (by decide) x)
        refine jr.iald (i := x) (x := v13) rfl (Nat.lt_trans (kx_5 k12.2).1 (by decide)) (kx_5 k12.2).2 (by decide) (by omega) (by omega) e13 ?_
        refine jr.isub rfl ?_
        refine jr.iw (j_w (y - v13)) (j_w_eq _) ?_
        have b14 : -2147483648 ≤ j_w (y - v13) ∧ j_w (y - v13) ≤ 2147483647 := jb_any _
        refine jr.ldc (x := (-66000)) rfl rfl (by decide) ?_
        refine jr.icmp_lt rfl rfl (by omega) (by omega) (fun h40 => ?_) (fun h40 => ?_)
        · refine jr.iconst rfl ?_
          refine jr.goto rfl rfl ?_
          exact jr.ireturn rfl rfl rfl (q _ (by omega) (by rw [io_1 (by omega) e13 rfl (by first | (left; omega) | (right; omega))]))
        · refine jr.iload rfl rfl ?_
          refine jr.if_eq rfl rfl (by omega) (fun _ => ?_) (fun h => absurd (by decide) h)
          refine jr.iconst rfl ?_
          exact jr.ireturn rfl rfl rfl (q _ (by omega) (by rw [io_2 (by omega) e13 rfl (by omega)]))
      · have sx20 : (1 : Int) ≤ v11 := by omega
        refine jr.iconst rfl ?_
        refine jr.goto rfl rfl ?_
        refine jr.istore rfl (by decide) rfl ?_
        refine jr.iload_n rfl rfl ?_
        refine jr.aload_n rfl rfl ?_
        have k15 := kf_1_7 k_t
        refine jr.getf (i := 7) (v := .ref (t + 3)) rfl rfl (Nat.lt_trans (kx_1 k_t).1 (by decide)) (kx_1 k_t).2 (by decide) rfl rfl rfl (jval_ref rfl k15.1) ?_
        refine jr.iload_n rfl rfl ?_
        obtain ⟨v16, e16⟩ : ∃ z_, M ((t + 3)) x = z_ := ⟨_, rfl⟩
        have b16 : (-2147483648) ≤ v16 ∧ v16 ≤ 2147483647 := by rw [← e16]; exact (CI.r hC_M k15.2 (by decide) x)
        refine jr.iald (i := x) (x := v16) rfl (Nat.lt_trans (kx_5 k15.2).1 (by decide)) (kx_5 k15.2).2 (by decide) (by omega) (by omega) e16 ?_
        refine jr.isub rfl ?_
        refine jr.iw (j_w (y - v16)) (j_w_eq _) ?_
        have b17 : -2147483648 ≤ j_w (y - v16) ∧ j_w (y - v16) ≤ 2147483647 := jb_any _
        refine jr.ldc (x := (-66000)) rfl rfl (by decide) ?_
        refine jr.icmp_lt rfl rfl (by omega) (by omega) (fun h40 => ?_) (fun h40 => ?_)
        · refine jr.iconst rfl ?_
          refine jr.goto rfl rfl ?_
          exact jr.ireturn rfl rfl rfl (q _ (by omega) (by rw [io_1 (by omega) e16 rfl (by first | (left; omega) | (right; omega))]))
        · refine jr.iload rfl rfl ?_
          refine jr.if_eq rfl rfl (by omega) (fun h => absurd h (by decide)) (fun _ => ?_)
          refine jr.iload_n rfl rfl ?_
          refine jr.iload_n rfl rfl ?_
          refine jr.iadd rfl ?_
          refine jr.iw (j_w (y + z)) (j_w_eq _) ?_
          have b18 : -2147483648 ≤ j_w (y + z) ∧ j_w (y + z) ≤ 2147483647 := jb_any _
          refine jr.aload_n rfl rfl ?_
          have k19 := kf_1_7 k_t
          refine jr.getf (i := 7) (v := .ref (t + 3)) rfl rfl (Nat.lt_trans (kx_1 k_t).1 (by decide)) (kx_1 k_t).2 (by decide) rfl rfl rfl (jval_ref rfl k19.1) ?_
          refine jr.iload_n rfl rfl ?_
          refine jr.iald (i := x) (x := v16) rfl (Nat.lt_trans (kx_5 k19.2).1 (by decide)) (kx_5 k19.2).2 (by decide) (by omega) (by omega) e16 ?_
          refine jr.isub rfl ?_
          refine jr.iw (j_w ((j_w (y + z)) - v16)) (j_w_eq _) ?_
          have b20 : -2147483648 ≤ j_w ((j_w (y + z)) - v16) ∧ j_w ((j_w (y + z)) - v16) ≤ 2147483647 := jb_any _
          refine jr.aload_n rfl rfl ?_
          have k21 := kf_1_9 k_t
          refine jr.getf (i := 9) (v := .ref (t + 5)) rfl rfl (Nat.lt_trans (kx_1 k_t).1 (by decide)) (kx_1 k_t).2 (by decide) rfl rfl rfl (jval_ref rfl k21.1) ?_
          refine jr.iconst rfl ?_
          refine jr.iload_n rfl rfl ?_
          refine jr.isub rfl ?_
          obtain ⟨v22, e22⟩ : ∃ z_, M ((t + 5)) (1 - x) = z_ := ⟨_, rfl⟩
          have b22 : (-2147483648) ≤ v22 ∧ v22 ≤ 2147483647 := by rw [← e22]; exact (CI.r hC_M k21.2 (by decide) (1 - x))
          refine jr.iald (i := (1 - x)) (x := v22) rfl (Nat.lt_trans (kx_8 k21.2).1 (by decide)) (kx_8 k21.2).2 (by decide) (by omega) (by omega) e22 ?_
          refine jr.icmp_le rfl rfl (by omega) (by omega) (fun h66 => ?_) (fun h66 => ?_)
          · refine jr.iconst rfl ?_
            exact jr.ireturn rfl rfl rfl (q _ (by omega) (by rw [io_2 (by omega) e16 e22 (by omega)]))
          · refine jr.iconst rfl ?_
            refine jr.goto rfl rfl ?_
            exact jr.ireturn rfl rfl rfl (q _ (by omega) (by rw [io_1 (by omega) e16 e22 (by first | (left; omega) | (right; omega))]))
  · refine jr.iconst rfl ?_
    exact jr.ireturn rfl rfl rfl (q _ (by omega) (by rw [io_0 (by omega)]))
noncomputable def BGE (T M : jm) (t : Nat) (i : Int) : Prop := (M t 0 = 1 ∧ M t 1 = T 18 1 ∧ M t 2 = T 18 2) ∧ (∀ s : Int, 0 ≤ s → s < i → M (t + 1) s = T 19 s ∧ M (t + 2) s = T 20 s) ∧ (∀ k : Int, k ≠ 0 → k ≠ 1 → k ≠ 2 → M t k = T t k) ∧ ∀ (b : Nat) (k : Int), b ≠ t → b ≠ t + 1 → b ≠ t + 2 → M b k = T b k
theorem BGE.s {T M : jm} {t : Nat} {i a v : Int} (h : BGE T M t i) (h0 : 0 ≤ i) (ha : a = T 19 i) (hv : v = T 20 i) : BGE T (ju (ju M (t + 1) i a) (t + 2) i v) t (i + 1) := by
  obtain ⟨h1, h2, h3, h4⟩ := h
  refine ⟨?_, fun s s0 s1 => ?_, fun k k0 k1 k2 => ?_, fun b k b0 b1 b2 => ?_⟩
  · simp only [ju_c _ _ (show t ≠ t + 2 by omega), ju_c _ _ (show t ≠ t + 1 by omega)]; exact h1
  · by_cases e : s = i
    · subst e
      rw [ju_c _ _ (show t + 1 ≠ t + 2 by omega), ju_same, ju_same]
      exact ⟨ha, hv⟩
    · rw [ju_c _ _ (show t + 1 ≠ t + 2 by omega), ju_i _ _ e, ju_i _ _ e, ju_c _ _ (show t + 2 ≠ t + 1 by omega)]
      exact h2 s s0 (by omega)
  · rw [ju_c _ _ (show t ≠ t + 2 by omega), ju_c _ _ (show t ≠ t + 1 by omega)]; exact h3 k k0 k1 k2
  · rw [ju_c _ _ b2, ju_c _ _ b1]; exact h4 b k b0 b1 b2
/-- a flow that begins with the ends -/
noncomputable def BGN (T M : jm) (t : Nat) : Prop := (M t 0 = 1 ∧ M t 1 = T 18 1 ∧ M t 2 = T 18 2 ∧ M t 5 = (if T 18 2 = 6 then 1 else 0) ∧ M t 13 = -1 ∧ M t 15 = -1 ∧ M t 12 = 0) ∧ (∀ s : Int, 0 ≤ s → s < 2 → (M (t + 1) s = T 19 s ∧ M (t + 2) s = T 20 s) ∧ M (t + 3) s = 0 ∧ M (t + 4) s = 0 ∧ M (t + 5) s = 0 ∧ M (t + 6) s = 0 ∧ M (t + 7) s = 0) ∧ (M t 6 = T t 6 ∧ M t 14 = T t 14) ∧ ∀ (b : Nat) (k : Int), b ≠ t → b ≠ t + 1 → b ≠ t + 2 → b ≠ t + 3 → b ≠ t + 4 → b ≠ t + 5 → b ≠ t + 6 → b ≠ t + 7 → M b k = T b k
theorem BGE.e {T M M2 : jm} {t : Nat} {v : Int} (h : BGE T M t 2) (hv : v = (if M t 2 = 6 then 1 else 0)) (w : FGT (ju (ju (ju M t 5 v) t 13 (-1)) t 15 (-1)) M2 t) : BGN T M2 t := by
  obtain ⟨h1, h2, h3, h4⟩ := h
  obtain ⟨w1, w2, w3, w4⟩ := w
  refine ⟨⟨?_, ?_, ?_, ?_, ?_, ?_, w2⟩, fun s s0 s1 => ⟨?_, w1 s s0 s1⟩, ⟨?_, ?_⟩, fun b k b0 b1 b2 b3 b4 b5 b6 b7 => ?_⟩
  · rw [w3 0 (by decide), ju_i _ _ (by decide), ju_i _ _ (by decide), ju_i _ _ (by decide)]; exact h1.1
  · rw [w3 1 (by decide), ju_i _ _ (by decide), ju_i _ _ (by decide), ju_i _ _ (by decide)]; exact h1.2.1
  · rw [w3 2 (by decide), ju_i _ _ (by decide), ju_i _ _ (by decide), ju_i _ _ (by decide)]; exact h1.2.2
  · rw [w3 5 (by decide), ju_i _ _ (by decide), ju_i _ _ (by decide), ju_same, hv, h1.2.2]
  · rw [w3 13 (by decide), ju_i _ _ (by decide), ju_same]
  · rw [w3 15 (by decide), ju_same]
  · rw [w4 (t + 1) s (by omega) (by omega) (by omega) (by omega) (by omega) (by omega), w4 (t + 2) s (by omega) (by omega) (by omega) (by omega) (by omega) (by omega)]
    simp only [ju_c _ _ (show t + 1 ≠ t by omega), ju_c _ _ (show t + 2 ≠ t by omega)]
    exact h2 s s0 s1
  · rw [w3 6 (by decide), ju_i _ _ (by decide), ju_i _ _ (by decide), ju_i _ _ (by decide)]; exact h3 6 (by decide) (by decide) (by decide)
  · rw [w3 14 (by decide), ju_i _ _ (by decide), ju_i _ _ (by decide), ju_i _ _ (by decide)]; exact h3 14 (by decide) (by decide) (by decide)
  · rw [w4 b k b0 b3 b4 b5 b6 b7, ju_c _ _ b0, ju_c _ _ b0, ju_c _ _ b0]; exact h4 b k b0 b1 b2
noncomputable def W_c_Flow_beginAs_x : List (Nat × Nat) := [(1, 0), (1, 1), (1, 2), (1, 5), (1, 12), (1, 13), (1, 15), (2, 1000), (3, 1000), (4, 1000), (5, 1000), (6, 1000), (7, 1000), (8, 1000)]
theorem c_Flow_beginAs_x_L23 {A : Nat → Option (Nat × (Nat → Int32))} {Q : Option Value → jm → Prop} {T : jm} {t : Nat} (k_t : kd t = 1) (q : ∀ (M' : jm), CI M' → FR W_c_Flow_beginAs_x T M' → (BGN T M' t) → Q none M') : ∀ (nM : Nat) (M : jm) (i : Int), CI M → FR W_c_Flow_beginAs_x T M → 0 ≤ i ∧ i ≤ 2 → (BGE T M t i) → (t ≠ 18 ∧ t + 1 ≠ 20 ∧ t ≠ 19 ∧ t ≠ 20 ∧ t + 2 ≠ 19) → 2 - i ≤ nM → jr A 1 xm_58 23 [(2, .int (Int32.ofInt (i))), (0, .ref (t)), (1, .ref (18))] [] M Q := by
  intro nM
  induction nM using Nat.strongRecOn with
  | ind nM ih =>
    intro M i hC_M ht_M h_i hy0 hy1 hm
    refine jr.iload_n rfl rfl ?_
    refine jr.iconst rfl ?_
    refine jr.icmp_ge rfl rfl (by omega) (by omega) (fun h25 => ?_) (fun h25 => ?_)
    · refine jr.aload_n rfl rfl ?_
      refine jr.aload_n rfl rfl ?_
      obtain ⟨v1, e1⟩ : ∃ z_, M t 2 = z_ := ⟨_, rfl⟩
      have b1 : (-2147483648) ≤ v1 ∧ v1 ≤ 2147483647 := by rw [← e1]; exact (CI.r hC_M k_t (by decide) 2)
      refine jr.getf (i := 2) (x := v1) (v := .int (Int32.ofInt (v1))) rfl rfl (Nat.lt_trans (kx_1 k_t).1 (by decide)) (kx_1 k_t).2 (by decide) rfl rfl e1 rfl ?_
      refine jr.bipush rfl (by decide) ?_
      refine jr.icmp_ne rfl rfl (by omega) (by omega) (fun h65 => ?_) (fun h65 => ?_)
      · refine jr.iconst rfl ?_
        refine jr.putf (i := 5) (x := 0) rfl rfl (Nat.lt_trans (kx_1 k_t).1 (by decide)) (kx_1 k_t).2 (by decide) rfl rfl rfl rfl rfl ?_
        refine jr.aload_n rfl rfl ?_
        refine jr.iconst rfl ?_
        refine jr.putf (i := 13) (x := (-1)) rfl rfl (Nat.lt_trans (kx_1 k_t).1 (by decide)) (kx_1 k_t).2 (by decide) rfl rfl rfl rfl rfl ?_
        refine jr.aload_n rfl rfl ?_
        refine jr.iconst rfl ?_
        refine jr.putf (i := 15) (x := (-1)) rfl rfl (Nat.lt_trans (kx_1 k_t).1 (by decide)) (kx_1 k_t).2 (by decide) rfl rfl rfl rfl rfl ?_
        refine jr.aload_n rfl rfl ?_
        refine jr_v rfl rfl (Or.inl rfl) rfl rfl (Nat.lt_trans (kx_1 k_t).1 (by decide)) (kx_1 k_t).2 ⟨rfl, Nat.le_of_ble_eq_true rfl, Nat.le_of_ble_eq_true rfl⟩ rfl (jc.deep (c_Flow_forget_x (CI.u (CI.u (CI.u hC_M (i := 5) k_t (show (-2147483648 : Int) ≤ _ ∧ _ ≤ (2147483647 : Int) from by omega) rfl) (i := 13) k_t (show (-2147483648 : Int) ≤ _ ∧ _ ≤ (2147483647 : Int) from by omega) rfl) (i := 15) k_t (show (-2147483648 : Int) ≤ _ ∧ _ ≤ (2147483647 : Int) from by omega) rfl) (FR.rfl _ ((ju (ju (ju M t 5 0) t 13 (-1)) t 15 (-1)))) k_t rfl (fun M2 hC_M2 hf_M2 w2_0 => ?_)) (by decide))
        have ht_M2 : FR W_c_Flow_beginAs_x T M2 := FR.t (FR.o (FR.o (FR.o ht_M k_t rfl) k_t rfl) k_t rfl) hf_M2 (kw_sub rfl)
        exact jr.vreturn rfl rfl (q _ hC_M2 ht_M2  (BGE.e (by have h9 := hy0; rw [show i = 2 from by omega] at h9; exact h9) (by first | (rw [if_pos (by omega)]) | (rw [if_neg (by omega)])) w2_0))
      · refine jr.iconst rfl ?_
        refine jr.goto rfl rfl ?_
        refine jr.putf (i := 5) (x := 1) rfl rfl (Nat.lt_trans (kx_1 k_t).1 (by decide)) (kx_1 k_t).2 (by decide) rfl rfl rfl rfl rfl ?_
        refine jr.aload_n rfl rfl ?_
        refine jr.iconst rfl ?_
        refine jr.putf (i := 13) (x := (-1)) rfl rfl (Nat.lt_trans (kx_1 k_t).1 (by decide)) (kx_1 k_t).2 (by decide) rfl rfl rfl rfl rfl ?_
        refine jr.aload_n rfl rfl ?_
        refine jr.iconst rfl ?_
        refine jr.putf (i := 15) (x := (-1)) rfl rfl (Nat.lt_trans (kx_1 k_t).1 (by decide)) (kx_1 k_t).2 (by decide) rfl rfl rfl rfl rfl ?_
        refine jr.aload_n rfl rfl ?_
        refine jr_v rfl rfl (Or.inl rfl) rfl rfl (Nat.lt_trans (kx_1 k_t).1 (by decide)) (kx_1 k_t).2 ⟨rfl, Nat.le_of_ble_eq_true rfl, Nat.le_of_ble_eq_true rfl⟩ rfl (jc.deep (c_Flow_forget_x (CI.u (CI.u (CI.u hC_M (i := 5) k_t (show (-2147483648 : Int) ≤ _ ∧ _ ≤ (2147483647 : Int) from by omega) rfl) (i := 13) k_t (show (-2147483648 : Int) ≤ _ ∧ _ ≤ (2147483647 : Int) from by omega) rfl) (i := 15) k_t (show (-2147483648 : Int) ≤ _ ∧ _ ≤ (2147483647 : Int) from by omega) rfl) (FR.rfl _ ((ju (ju (ju M t 5 1) t 13 (-1)) t 15 (-1)))) k_t rfl (fun M3 hC_M3 hf_M3 w3_0 => ?_)) (by decide))
        have ht_M3 : FR W_c_Flow_beginAs_x T M3 := FR.t (FR.o (FR.o (FR.o ht_M k_t rfl) k_t rfl) k_t rfl) hf_M3 (kw_sub rfl)
        exact jr.vreturn rfl rfl (q _ hC_M3 ht_M3  (BGE.e (by have h9 := hy0; rw [show i = 2 from by omega] at h9; exact h9) (by first | (rw [if_pos (by omega)]) | (rw [if_neg (by omega)])) w3_0))
    · refine jr.aload_n rfl rfl ?_
      have k4 := kf_1_3 k_t
      refine jr.getf (i := 3) (v := .ref (t + 1)) rfl rfl (Nat.lt_trans (kx_1 k_t).1 (by decide)) (kx_1 k_t).2 (by decide) rfl rfl rfl (jval_ref rfl k4.1) ?_
      refine jr.iload_n rfl rfl ?_
      refine jr.aload_n rfl rfl ?_
      refine jr.getf (i := 3) (v := .ref 19) rfl rfl (by decide) rfl (by decide) rfl rfl rfl rfl ?_
      refine jr.iload_n rfl rfl ?_
      obtain ⟨v5, e5⟩ : ∃ z_, M 19 i = z_ := ⟨_, rfl⟩
      have b5 : (-9223372036854775808) ≤ v5 ∧ v5 ≤ 9223372036854775807 := by rw [← e5]; exact (CI.r hC_M (show kd 19 = 2 from rfl) (by decide) i)
      refine jr.lald (i := i) (x := v5) rfl (by decide) rfl (by decide) (by omega) (by omega) e5 ?_
      refine jr.last (i := i) (x := v5) rfl (Nat.lt_trans (kx_2 k4.2).1 (by decide)) (kx_2 k4.2).2 (by decide) (by omega) (by omega) ?_
      refine jr.aload_n rfl rfl ?_
      have k6 := kf_1_4 k_t
      refine jr.getf (i := 4) (v := .ref (t + 2)) rfl rfl (Nat.lt_trans (kx_1 k_t).1 (by decide)) (kx_1 k_t).2 (by decide) rfl rfl rfl (jval_ref rfl k6.1) ?_
      refine jr.iload_n rfl rfl ?_
      refine jr.aload_n rfl rfl ?_
      refine jr.getf (i := 4) (v := .ref 20) rfl rfl (by decide) rfl (by decide) rfl rfl rfl rfl ?_
      refine jr.iload_n rfl rfl ?_
      obtain ⟨v7, e7⟩ : ∃ z_, M 20 i = z_ := ⟨_, rfl⟩
      have b7 : (-2147483648) ≤ v7 ∧ v7 ≤ 2147483647 := by rw [← e7]; exact (CI.r hC_M (show kd 20 = 7 from rfl) (by decide) i)
      refine jr.iald (i := i) (x := v7) rfl (by decide) rfl (by decide) (by omega) (by omega) ((ju_c _ _ (kd_ne (by rw [(show kd 20 = 7 from rfl), k4.2]; decide))).trans e7) ?_
      refine jr.iast (i := i) (x := v7) rfl (Nat.lt_trans (kx_7 k6.2).1 (by decide)) (kx_7 k6.2).2 (by decide) (by omega) (by omega) ?_
      refine jr.iinc rfl rfl (by decide) rfl ?_
      refine jr.goto rfl rfl ?_
      refine jr.pick [0, 1, 2] rfl rfl ?_
      exact ih (nM - 1) (by omega) ((ju (ju M ((t + 1)) i v5) ((t + 2)) i v7)) (i + 1) (CI.u (CI.u hC_M (i := i) k4.2 (show (-9223372036854775808 : Int) ≤ _ ∧ _ ≤ (9223372036854775807 : Int) from by omega) rfl) (i := i) k6.2 (show (-2147483648 : Int) ≤ _ ∧ _ ≤ (2147483647 : Int) from by omega) rfl) (FR.o (FR.o ht_M k4.2 rfl) k6.2 rfl) (by omega) (BGE.s hy0 (by omega) (by rw [← hy0.2.2.2 19 i (by omega) (by omega) (by omega)]; exact (e5).symm) (by rw [← hy0.2.2.2 20 i (by omega) (by omega) (by omega)]; exact (e7).symm)) hy1 (by omega)
theorem c_Flow_beginAs_x {A : Nat → Option (Nat × (Nat → Int32))} {Q : Option Value → jm → Prop} {T : jm} {M : jm} (hC_M : CI M) (ht_M : FR W_c_Flow_beginAs_x T M) {t : Nat} (k_t : kd t = 1) (p0 : T = M) (p1 : t ≠ 18 ∧ t + 1 ≠ 20 ∧ t ≠ 19 ∧ t ≠ 20 ∧ t + 2 ≠ 19) (q : ∀ (M' : jm), CI M' → FR W_c_Flow_beginAs_x T M' → (BGN T M' t) → Q none M') : jc A 2 58 [.ref (t), .ref (18)] M Q := by
  refine jc_of (m := xm_58) rfl (Nat.le_of_ble_eq_true rfl) rfl ?_
  refine jr.aload_n rfl rfl ?_
  refine jr.iconst rfl ?_
  refine jr.putf (i := 0) (x := 1) rfl rfl (Nat.lt_trans (kx_1 k_t).1 (by decide)) (kx_1 k_t).2 (by decide) rfl rfl rfl rfl rfl ?_
  refine jr.aload_n rfl rfl ?_
  refine jr.aload_n rfl rfl ?_
  obtain ⟨v1, e1⟩ : ∃ z_, M 18 1 = z_ := ⟨_, rfl⟩
  have b1 : 0 ≤ v1 ∧ v1 ≤ 1 := by rw [← e1]; exact (CI.r hC_M (show kd 18 = 1 from rfl) (by decide) 1)
  refine jr.getf (i := 1) (x := v1) (v := .int (Int32.ofInt (v1))) rfl rfl (by decide) rfl (by decide) rfl rfl ((ju_i _ _ (by decide)).trans e1) rfl ?_
  refine jr.putf (i := 1) (x := v1) rfl rfl (Nat.lt_trans (kx_1 k_t).1 (by decide)) (kx_1 k_t).2 (by decide) rfl rfl rfl (j_zr (by omega)) (j_fz (by omega)) ?_
  refine jr.aload_n rfl rfl ?_
  refine jr.aload_n rfl rfl ?_
  obtain ⟨v2, e2⟩ : ∃ z_, M 18 2 = z_ := ⟨_, rfl⟩
  have b2 : (-2147483648) ≤ v2 ∧ v2 ≤ 2147483647 := by rw [← e2]; exact (CI.r hC_M (show kd 18 = 1 from rfl) (by decide) 2)
  refine jr.getf (i := 2) (x := v2) (v := .int (Int32.ofInt (v2))) rfl rfl (by decide) rfl (by decide) rfl rfl ((ju_i _ _ (by decide)).trans ((ju_i _ _ (by decide)).trans e2)) rfl ?_
  refine jr.putf (i := 2) (x := v2) rfl rfl (Nat.lt_trans (kx_1 k_t).1 (by decide)) (kx_1 k_t).2 (by decide) rfl rfl rfl rfl rfl ?_
  refine jr.iconst rfl ?_
  refine jr.istore_n rfl (by decide) rfl ?_
  refine jr.pick [0, 1, 2] rfl rfl ?_
  exact c_Flow_beginAs_x_L23 k_t q 2 ((ju (ju (ju M t 0 1) t 1 v1) t 2 v2)) 0 (CI.u (CI.u (CI.u hC_M (i := 0) k_t (show (0 : Int) ≤ _ ∧ _ ≤ (1 : Int) from by omega) rfl) (i := 1) k_t (show (0 : Int) ≤ _ ∧ _ ≤ (1 : Int) from by omega) rfl) (i := 2) k_t (show (-2147483648 : Int) ≤ _ ∧ _ ≤ (2147483647 : Int) from by omega) rfl) (FR.o (FR.o (FR.o ht_M k_t rfl) k_t rfl) k_t rfl) (by omega) ⟨⟨(by rw [show (ju (ju (ju M t 0 1) t 1 v1) t 2 v2) t 0 = 1 from ((ju_i _ _ (by decide)).trans ((ju_i _ _ (by decide)).trans (ju_same _ _ _ _)))]), (by rw [show (ju (ju (ju M t 0 1) t 1 v1) t 2 v2) t 1 = v1 from ((ju_i _ _ (by decide)).trans (ju_same _ _ _ _))]; rw [p0]; omega), (by rw [show (ju (ju (ju M t 0 1) t 1 v1) t 2 v2) t 2 = v2 from (ju_same _ _ _ _)]; rw [p0]; omega)⟩, fun s s0 s1 => absurd s1 (by omega), fun k k0 k1 k2 => by rw [ju_i _ _ k2, ju_i _ _ k1, ju_i _ _ k0, p0], fun b k b0 _ _ => by rw [ju_c _ _ b0, ju_c _ _ b0, ju_c _ _ b0, p0]⟩ p1 (by omega)
end
section
/-! ===== the reference: spans ===== -/
noncomputable def lg6 (M : jm) (x : Int) : Int := M 600 x - M 604 (M 598 65) - M 605 (M 598 65) + M 601 (400 * x + (M 604 (M 598 65) + 13)) / 2 % 2 + M 601 (400 * x + (M 604 (M 598 65) + 13)) % 2
noncomputable def sq6 (M : jm) (x : Int) : Int := j_w (nbs (rf M x) (M 604 (M 598 65) + 4) 4)
noncomputable def io6 (M : jm) (x f c : Int) : Int := if (c ≠ 2 ∧ c ≠ 4) ∨ M 632 (2 * f + M 598 66) = 0 then 0 else if j_w (sq6 M x - M 633 (2 * f + M 598 66)) < -66000 ∨ (M 634 (2 * f + 1 - M 598 66) ≠ 0 ∧ M 635 (2 * f + 1 - M 598 66) < j_w (j_w (sq6 M x + lg6 M x) - M 633 (2 * f + M 598 66))) then 1 else 0
theorem io6_0 {M : jm} {x f c : Int} (h : (c ≠ 2 ∧ c ≠ 4) ∨ M 632 (2 * f + M 598 66) = 0) : io6 M x f c = 0 := by
  unfold io6
  rw [if_pos h]
theorem io6_1 {M : jm} {x f c q n l : Int} (h : ¬ ((c ≠ 2 ∧ c ≠ 4) ∨ M 632 (2 * f + M 598 66) = 0)) (hq : sq6 M x = q) (hn : lg6 M x = n) (hl : M 633 (2 * f + M 598 66) = l) (h1 : j_w (q - l) < -66000 ∨ (M 634 (2 * f + 1 - M 598 66) ≠ 0 ∧ M 635 (2 * f + 1 - M 598 66) < j_w (j_w (q + n) - l))) : io6 M x f c = 1 := by
  unfold io6
  rw [if_neg h, hq, hn, hl, if_pos h1]
theorem io6_2 {M : jm} {x f c q n l : Int} (h : ¬ ((c ≠ 2 ∧ c ≠ 4) ∨ M 632 (2 * f + M 598 66) = 0)) (hq : sq6 M x = q) (hn : lg6 M x = n) (hl : M 633 (2 * f + M 598 66) = l) (h1 : ¬ (j_w (q - l) < -66000 ∨ (M 634 (2 * f + 1 - M 598 66) ≠ 0 ∧ M 635 (2 * f + 1 - M 598 66) < j_w (j_w (q + n) - l)))) : io6 M x f c = 0 := by
  unfold io6
  rw [if_neg h, hq, hn, hl, if_neg h1]
theorem r_longOf_x {A : Nat → Option (Nat × (Nat → Int32))} {Q : Option Value → jm → Prop} {M : jm} (hI_M : RI M) (hH_M : RH M) (hS_M : RF M) {x : Int} (h_x : 0 ≤ x ∧ x ≤ 23) (p0 : (0 ≤ M 598 65 ∧ M 598 65 ≤ 11)) (p1 : M 604 (M 598 65) ≤ 380) (q : ∀ (r : Int), (-2000) ≤ r ∧ r ≤ 2000 → r = lg6 M x → Q (some (.int (Int32.ofInt r))) M) : jc A 2 311 [.ref (598), .int (Int32.ofInt (x))] M Q := by
  obtain ⟨ea, hea⟩ : ∃ z, M 598 65 = z := ⟨_, rfl⟩
  rw [hea] at p0 p1
  refine jc_of (m := xm_311) rfl (Nat.le_of_ble_eq_true rfl) rfl ?_
  refine jr.aload_n rfl rfl ?_
  refine jr.getf (i := 65) (x := ea) (v := .int (Int32.ofInt (ea))) rfl rfl (by decide) rfl (by decide) rfl rfl hea rfl ?_
  refine jr.istore_n rfl (by decide) rfl ?_
  refine jr.aload_n rfl rfl ?_
  refine jr.iload_n rfl rfl ?_
  refine jr.aload_n rfl rfl ?_
  refine jr.getf (i := 8) (v := .ref 604) rfl rfl (by decide) rfl (by decide) rfl rfl rfl rfl ?_
  refine jr.iload_n rfl rfl ?_
  obtain ⟨v1, e1⟩ : ∃ z, M 604 ea = z := ⟨_, rfl⟩
  have b1 : 0 ≤ v1 ∧ v1 ≤ 400 := by rw [← e1]; exact (by have q := hI_M 604 ea (by decide); rw [xri_row rfl rfl] at q; exact q)
  refine jr.iald (i := ea) (x := v1) rfl (by decide) rfl (by decide) (by omega) (by omega) e1 ?_
  refine jr.bipush rfl (by decide) ?_
  refine jr.iadd rfl ?_
  refine jr_v rfl rfl (Or.inl rfl) rfl rfl (by decide) rfl ⟨rfl, Nat.le_of_ble_eq_true rfl, Nat.le_of_ble_eq_true rfl⟩ rfl (jc.deep (r_one hI_M hH_M hS_M (Kp.rfl _) (by omega) (by omega)  (fun r2 z2 w2_0 => ?_)) (by decide))
  refine jr.istore_n rfl (by decide) rfl ?_
  refine jr.aload_n rfl rfl ?_
  refine jr.getf (i := 3) (v := .ref 600) rfl rfl (by decide) rfl (by decide) rfl rfl rfl rfl ?_
  refine jr.iload_n rfl rfl ?_
  obtain ⟨v3, e3⟩ : ∃ z, M 600 x = z := ⟨_, rfl⟩
  have b3 : (-1) ≤ v3 ∧ v3 ≤ 400 := by rw [← e3]; exact (by have q := hI_M 600 x (by decide); rw [xri_row rfl rfl] at q; exact q)
  refine jr.iald (i := x) (x := v3) rfl (by decide) rfl (by decide) (by omega) (by omega) e3 ?_
  refine jr.aload_n rfl rfl ?_
  refine jr.getf (i := 8) (v := .ref 604) rfl rfl (by decide) rfl (by decide) rfl rfl rfl rfl ?_
  refine jr.iload_n rfl rfl ?_
  refine jr.iald (i := ea) (x := v1) rfl (by decide) rfl (by decide) (by omega) (by omega) e1 ?_
  refine jr.isub rfl ?_
  refine jr.aload_n rfl rfl ?_
  refine jr.getf (i := 9) (v := .ref 605) rfl rfl (by decide) rfl (by decide) rfl rfl rfl rfl ?_
  refine jr.iload_n rfl rfl ?_
  obtain ⟨v4, e4⟩ : ∃ z, M 605 ea = z := ⟨_, rfl⟩
  have b4 : 0 ≤ v4 ∧ v4 ≤ 400 := by rw [← e4]; exact (by have q := hI_M 605 ea (by decide); rw [xri_row rfl rfl] at q; exact q)
  refine jr.iald (i := ea) (x := v4) rfl (by decide) rfl (by decide) (by omega) (by omega) e4 ?_
  refine jr.isub rfl ?_
  refine jr.iload_n rfl rfl ?_
  refine jr.iconst rfl ?_
  refine jr.ishr rfl ?_
  have b5 : j_shr r2 1 = r2 / 2 := j_shr_ex 1 (by decide) (by omega) (by omega)
  generalize j_shr r2 1 = v5 at b5 ⊢
  refine jr.iconst rfl ?_
  refine jr.iand rfl ?_
  have b6 : j_and v5 1 = v5 % 2 := j_and_m 1 (by decide) _
  generalize j_and v5 1 = v6 at b6 ⊢
  refine jr.iadd rfl ?_
  refine jr.iload_n rfl rfl ?_
  refine jr.iconst rfl ?_
  refine jr.iand rfl ?_
  have b7 : j_and r2 1 = r2 % 2 := j_and_m 1 (by decide) _
  generalize j_and r2 1 = v7 at b7 ⊢
  refine jr.iadd rfl ?_
  exact jr.ireturn rfl rfl rfl (q _ (by omega) (by unfold lg6; rw [hea, e1, e4]; omega))
theorem r_isOut_x {A : Nat → Option (Nat × (Nat → Int32))} {Q : Option Value → jm → Prop} {M : jm} (hI_M : RI M) (hH_M : RH M) (hS_M : RF M) {x : Int} (h_x : 0 ≤ x ∧ x ≤ 23) {f : Int} (h_f : 0 ≤ f ∧ f ≤ 23) {c : Int} (h_c : 0 ≤ c ∧ c ≤ 5) (p0 : (0 ≤ M 598 65 ∧ M 598 65 ≤ 11)) (p1 : M 604 (M 598 65) ≤ 380) (p2 : 0 ≤ M 598 66) (q : ∀ (r : Int), 0 ≤ r ∧ r ≤ 1 → r = io6 M x f c → Q (some (.int (Int32.ofInt r))) M) : jc A 4 312 [.ref (598), .int (Int32.ofInt (x)), .int (Int32.ofInt (f)), .int (Int32.ofInt (c))] M Q := by
  obtain ⟨ea, hea⟩ : ∃ z, M 598 65 = z := ⟨_, rfl⟩
  rw [hea] at p0 p1
  refine jc_of (m := xm_312) rfl (Nat.le_of_ble_eq_true rfl) rfl ?_
  refine jr.iconst rfl ?_
  refine jr.iload_n rfl rfl ?_
  refine jr.imul rfl ?_
  refine jr.aload_n rfl rfl ?_
  obtain ⟨v1, e1⟩ : ∃ z, M 598 66 = z := ⟨_, rfl⟩
  have b1 : (-1) ≤ v1 ∧ v1 ≤ 1 := by rw [← e1]; exact hI_M 598 66 (by decide)
  refine jr.getf (i := 66) (x := v1) (v := .int (Int32.ofInt (v1))) rfl rfl (by decide) rfl (by decide) rfl rfl e1 rfl ?_
  refine jr.iadd rfl ?_
  refine jr.istore rfl (by decide) rfl ?_
  refine jr.iconst rfl ?_
  refine jr.iload_n rfl rfl ?_
  refine jr.imul rfl ?_
  refine jr.iconst rfl ?_
  refine jr.iadd rfl ?_
  refine jr.aload_n rfl rfl ?_
  refine jr.getf (i := 66) (x := v1) (v := .int (Int32.ofInt (v1))) rfl rfl (by decide) rfl (by decide) rfl rfl e1 rfl ?_
  refine jr.isub rfl ?_
  refine jr.istore rfl (by decide) rfl ?_
  refine jr.iload_n rfl rfl ?_
  refine jr.iconst rfl ?_
  refine jr.icmp_eq rfl rfl (by omega) (by omega) (fun h24 => ?_) (fun h24 => ?_)
  · refine jr.aload_n rfl rfl ?_
    refine jr.getf (i := 44) (v := .ref 632) rfl rfl (by decide) rfl (by decide) rfl rfl rfl rfl ?_
    refine jr.iload rfl rfl ?_
    obtain ⟨v2, e2⟩ : ∃ z, M 632 ((2 * f) + v1) = z := ⟨_, rfl⟩
    have b2 : 0 ≤ v2 ∧ v2 ≤ 1 := by rw [← e2]; exact (by have q := hI_M 632 ((2 * f) + v1) (by decide); rw [xri_row rfl rfl] at q; exact q)
    refine jr.zald (i := ((2 * f) + v1)) (x := v2) rfl (by decide) rfl (by decide) (by omega) (by omega) e2 ?_
    refine jr.if_ne rfl rfl (by omega) (fun h39 => ?_) (fun h39 => ?_)
    · have sx39 : (1 : Int) ≤ v2 := by omega
      refine jr.aload_n rfl rfl ?_
      refine jr.iload_n rfl rfl ?_
      refine jr.aload_n rfl rfl ?_
      refine jr.getf (i := 8) (v := .ref 604) rfl rfl (by decide) rfl (by decide) rfl rfl rfl rfl ?_
      refine jr.aload_n rfl rfl ?_
      refine jr.getf (i := 65) (x := ea) (v := .int (Int32.ofInt (ea))) rfl rfl (by decide) rfl (by decide) rfl rfl hea rfl ?_
      obtain ⟨v3, e3⟩ : ∃ z, M 604 ea = z := ⟨_, rfl⟩
      have b3 : 0 ≤ v3 ∧ v3 ≤ 400 := by rw [← e3]; exact (by have q := hI_M 604 ea (by decide); rw [xri_row rfl rfl] at q; exact q)
      refine jr.iald (i := ea) (x := v3) rfl (by decide) rfl (by decide) (by omega) (by omega) e3 ?_
      refine jr.iconst rfl ?_
      refine jr.iadd rfl ?_
      refine jr_v rfl rfl (Or.inl rfl) rfl rfl (by decide) rfl ⟨rfl, Nat.le_of_ble_eq_true rfl, Nat.le_of_ble_eq_true rfl⟩ rfl (jc.deep (r_four_x hI_M hH_M hS_M  (by omega) (by omega)  (fun r4 z4 w4_0 => ?_)) (by decide))
      refine jr.l2i rfl ?_
      refine jr.iw (j_w r4) (j_w_eq _) ?_
      have b5 : -2147483648 ≤ j_w r4 ∧ j_w r4 ≤ 2147483647 := jb_any _
      refine jr.istore rfl (by decide) rfl ?_
      refine jr.iload rfl rfl ?_
      refine jr.aload_n rfl rfl ?_
      refine jr.getf (i := 45) (v := .ref 633) rfl rfl (by decide) rfl (by decide) rfl rfl rfl rfl ?_
      refine jr.iload rfl rfl ?_
      obtain ⟨v6, e6⟩ : ∃ z, M 633 ((2 * f) + v1) = z := ⟨_, rfl⟩
      have b6 : (-2147483648) ≤ v6 ∧ v6 ≤ 2147483647 := by rw [← e6]; exact (by have q := hI_M 633 ((2 * f) + v1) (by decide); rw [xri_row rfl rfl] at q; exact q)
      refine jr.iald (i := ((2 * f) + v1)) (x := v6) rfl (by decide) rfl (by decide) (by omega) (by omega) e6 ?_
      refine jr.isub rfl ?_
      refine jr.iw (j_w ((j_w r4) - v6)) (j_w_eq _) ?_
      have b7 : -2147483648 ≤ j_w ((j_w r4) - v6) ∧ j_w ((j_w r4) - v6) ≤ 2147483647 := jb_any _
      refine jr.istore rfl (by decide) rfl ?_
      refine jr.iload rfl rfl ?_
      refine jr.aload_n rfl rfl ?_
      refine jr.iload_n rfl rfl ?_
      refine jr_v rfl rfl (Or.inl rfl) rfl rfl (by decide) rfl ⟨rfl, Nat.le_of_ble_eq_true rfl, Nat.le_of_ble_eq_true rfl⟩ rfl (jc.deep (r_longOf_x hI_M hH_M hS_M  (by omega) (by rw [hea]; omega) (by rw [hea, e3]; omega) (fun r8 z8 w8_0 => ?_)) (by decide))
      refine jr.iadd rfl ?_
      refine jr.iw (j_w ((j_w r4) + r8)) (j_w_eq _) ?_
      have b9 : -2147483648 ≤ j_w ((j_w r4) + r8) ∧ j_w ((j_w r4) + r8) ≤ 2147483647 := jb_any _
      refine jr.aload_n rfl rfl ?_
      refine jr.getf (i := 45) (v := .ref 633) rfl rfl (by decide) rfl (by decide) rfl rfl rfl rfl ?_
      refine jr.iload rfl rfl ?_
      refine jr.iald (i := ((2 * f) + v1)) (x := v6) rfl (by decide) rfl (by decide) (by omega) (by omega) e6 ?_
      refine jr.isub rfl ?_
      refine jr.iw (j_w ((j_w ((j_w r4) + r8)) - v6)) (j_w_eq _) ?_
      have b10 : -2147483648 ≤ j_w ((j_w ((j_w r4) + r8)) - v6) ∧ j_w ((j_w ((j_w r4) + r8)) - v6) ≤ 2147483647 := jb_any _
      refine jr.istore rfl (by decide) rfl ?_
      refine jr.iload rfl rfl ?_
      refine jr.ldcw (x := (-66000)) rfl rfl (by decide) ?_
      refine jr.icmp_lt rfl rfl (by omega) (by omega) (fun h98 => ?_) (fun h98 => ?_)
      · refine jr.iconst rfl ?_
        refine jr.goto rfl rfl ?_
        exact jr.ireturn rfl rfl rfl (q _ (by omega) (by rw [io6_1 (l := v6) (by rw [e1]; omega) (show sq6 M x = j_w r4 from by unfold sq6; rw [hea, e3, ← w4_0]) w8_0.symm (by rw [e1]; exact e6) (by rw [e1]; omega)]))
      · refine jr.aload_n rfl rfl ?_
        refine jr.getf (i := 46) (v := .ref 634) rfl rfl (by decide) rfl (by decide) rfl rfl rfl rfl ?_
        refine jr.iload rfl rfl ?_
        obtain ⟨v11, e11⟩ : ∃ z, M 634 (((2 * f) + 1) - v1) = z := ⟨_, rfl⟩
        have b11 : 0 ≤ v11 ∧ v11 ≤ 1 := by rw [← e11]; exact (by have q := hI_M 634 (((2 * f) + 1) - v1) (by decide); rw [xri_row rfl rfl] at q; exact q)
        refine jr.zald (i := (((2 * f) + 1) - v1)) (x := v11) rfl (by decide) rfl (by decide) (by omega) (by omega) e11 ?_
        refine jr.if_eq rfl rfl (by omega) (fun h108 => ?_) (fun h108 => ?_)
        · refine jr.iconst rfl ?_
          exact jr.ireturn rfl rfl rfl (q _ (by omega) (by rw [io6_2 (l := v6) (by rw [e1]; omega) (show sq6 M x = j_w r4 from by unfold sq6; rw [hea, e3, ← w4_0]) w8_0.symm (by rw [e1]; exact e6) (by rw [e1]; omega)]))
        · have sx108 : (1 : Int) ≤ v11 := by omega
          refine jr.iload rfl rfl ?_
          refine jr.aload_n rfl rfl ?_
          refine jr.getf (i := 47) (v := .ref 635) rfl rfl (by decide) rfl (by decide) rfl rfl rfl rfl ?_
          refine jr.iload rfl rfl ?_
          obtain ⟨v12, e12⟩ : ∃ z, M 635 (((2 * f) + 1) - v1) = z := ⟨_, rfl⟩
          have b12 : 0 ≤ v12 ∧ v12 ≤ 65535 := by rw [← e12]; exact (by have q := hI_M 635 (((2 * f) + 1) - v1) (by decide); rw [xri_row rfl rfl] at q; exact q)
          refine jr.iald (i := (((2 * f) + 1) - v1)) (x := v12) rfl (by decide) rfl (by decide) (by omega) (by omega) e12 ?_
          refine jr.icmp_le rfl rfl (by omega) (by omega) (fun h120 => ?_) (fun h120 => ?_)
          · refine jr.iconst rfl ?_
            exact jr.ireturn rfl rfl rfl (q _ (by omega) (by rw [io6_2 (l := v6) (by rw [e1]; omega) (show sq6 M x = j_w r4 from by unfold sq6; rw [hea, e3, ← w4_0]) w8_0.symm (by rw [e1]; exact e6) (by rw [e1]; omega)]))
          · refine jr.iconst rfl ?_
            refine jr.goto rfl rfl ?_
            exact jr.ireturn rfl rfl rfl (q _ (by omega) (by rw [io6_1 (l := v6) (by rw [e1]; omega) (show sq6 M x = j_w r4 from by unfold sq6; rw [hea, e3, ← w4_0]) w8_0.symm (by rw [e1]; exact e6) (by rw [e1]; omega)]))
    · refine jr.iconst rfl ?_
      exact jr.ireturn rfl rfl rfl (q _ (by omega) (by rw [io6_0 (by rw [e1]; omega)]))
  · refine jr.iload_n rfl rfl ?_
    refine jr.iconst rfl ?_
    refine jr.icmp_ne rfl rfl (by omega) (by omega) (fun h29 => ?_) (fun h29 => ?_)
    · refine jr.iconst rfl ?_
      exact jr.ireturn rfl rfl rfl (q _ (by omega) (by rw [io6_0 (by rw [e1]; omega)]))
    · refine jr.aload_n rfl rfl ?_
      refine jr.getf (i := 44) (v := .ref 632) rfl rfl (by decide) rfl (by decide) rfl rfl rfl rfl ?_
      refine jr.iload rfl rfl ?_
      obtain ⟨v13, e13⟩ : ∃ z, M 632 ((2 * f) + v1) = z := ⟨_, rfl⟩
      have b13 : 0 ≤ v13 ∧ v13 ≤ 1 := by rw [← e13]; exact (by have q := hI_M 632 ((2 * f) + v1) (by decide); rw [xri_row rfl rfl] at q; exact q)
      refine jr.zald (i := ((2 * f) + v1)) (x := v13) rfl (by decide) rfl (by decide) (by omega) (by omega) e13 ?_
      refine jr.if_ne rfl rfl (by omega) (fun h39 => ?_) (fun h39 => ?_)
      · have sx39 : (1 : Int) ≤ v13 := by omega
        refine jr.aload_n rfl rfl ?_
        refine jr.iload_n rfl rfl ?_
        refine jr.aload_n rfl rfl ?_
        refine jr.getf (i := 8) (v := .ref 604) rfl rfl (by decide) rfl (by decide) rfl rfl rfl rfl ?_
        refine jr.aload_n rfl rfl ?_
        refine jr.getf (i := 65) (x := ea) (v := .int (Int32.ofInt (ea))) rfl rfl (by decide) rfl (by decide) rfl rfl hea rfl ?_
        obtain ⟨v14, e14⟩ : ∃ z, M 604 ea = z := ⟨_, rfl⟩
        have b14 : 0 ≤ v14 ∧ v14 ≤ 400 := by rw [← e14]; exact (by have q := hI_M 604 ea (by decide); rw [xri_row rfl rfl] at q; exact q)
        refine jr.iald (i := ea) (x := v14) rfl (by decide) rfl (by decide) (by omega) (by omega) e14 ?_
        refine jr.iconst rfl ?_
        refine jr.iadd rfl ?_
        refine jr_v rfl rfl (Or.inl rfl) rfl rfl (by decide) rfl ⟨rfl, Nat.le_of_ble_eq_true rfl, Nat.le_of_ble_eq_true rfl⟩ rfl (jc.deep (r_four_x hI_M hH_M hS_M  (by omega) (by omega)  (fun r15 z15 w15_0 => ?_)) (by decide))
        refine jr.l2i rfl ?_
        refine jr.iw (j_w r15) (j_w_eq _) ?_
        have b16 : -2147483648 ≤ j_w r15 ∧ j_w r15 ≤ 2147483647 := jb_any _
        refine jr.istore rfl (by decide) rfl ?_
        refine jr.iload rfl rfl ?_
        refine jr.aload_n rfl rfl ?_
        refine jr.getf (i := 45) (v := .ref 633) rfl rfl (by decide) rfl (by decide) rfl rfl rfl rfl ?_
        refine jr.iload rfl rfl ?_
        obtain ⟨v17, e17⟩ : ∃ z, M 633 ((2 * f) + v1) = z := ⟨_, rfl⟩
        have b17 : (-2147483648) ≤ v17 ∧ v17 ≤ 2147483647 := by rw [← e17]; exact (by have q := hI_M 633 ((2 * f) + v1) (by decide); rw [xri_row rfl rfl] at q; exact q)
        refine jr.iald (i := ((2 * f) + v1)) (x := v17) rfl (by decide) rfl (by decide) (by omega) (by omega) e17 ?_
        refine jr.isub rfl ?_
        refine jr.iw (j_w ((j_w r15) - v17)) (j_w_eq _) ?_
        have b18 : -2147483648 ≤ j_w ((j_w r15) - v17) ∧ j_w ((j_w r15) - v17) ≤ 2147483647 := jb_any _
        refine jr.istore rfl (by decide) rfl ?_
        refine jr.iload rfl rfl ?_
        refine jr.aload_n rfl rfl ?_
        refine jr.iload_n rfl rfl ?_
        refine jr_v rfl rfl (Or.inl rfl) rfl rfl (by decide) rfl ⟨rfl, Nat.le_of_ble_eq_true rfl, Nat.le_of_ble_eq_true rfl⟩ rfl (jc.deep (r_longOf_x hI_M hH_M hS_M  (by omega) (by rw [hea]; omega) (by rw [hea, e14]; omega) (fun r19 z19 w19_0 => ?_)) (by decide))
        refine jr.iadd rfl ?_
        refine jr.iw (j_w ((j_w r15) + r19)) (j_w_eq _) ?_
        have b20 : -2147483648 ≤ j_w ((j_w r15) + r19) ∧ j_w ((j_w r15) + r19) ≤ 2147483647 := jb_any _
        refine jr.aload_n rfl rfl ?_
        refine jr.getf (i := 45) (v := .ref 633) rfl rfl (by decide) rfl (by decide) rfl rfl rfl rfl ?_
        refine jr.iload rfl rfl ?_
        refine jr.iald (i := ((2 * f) + v1)) (x := v17) rfl (by decide) rfl (by decide) (by omega) (by omega) e17 ?_
        refine jr.isub rfl ?_
        refine jr.iw (j_w ((j_w ((j_w r15) + r19)) - v17)) (j_w_eq _) ?_
        have b21 : -2147483648 ≤ j_w ((j_w ((j_w r15) + r19)) - v17) ∧ j_w ((j_w ((j_w r15) + r19)) - v17) ≤ 2147483647 := jb_any _
        refine jr.istore rfl (by decide) rfl ?_
        refine jr.iload rfl rfl ?_
        refine jr.ldcw (x := (-66000)) rfl rfl (by decide) ?_
        refine jr.icmp_lt rfl rfl (by omega) (by omega) (fun h98 => ?_) (fun h98 => ?_)
        · refine jr.iconst rfl ?_
          refine jr.goto rfl rfl ?_
          exact jr.ireturn rfl rfl rfl (q _ (by omega) (by rw [io6_1 (l := v17) (by rw [e1]; omega) (show sq6 M x = j_w r15 from by unfold sq6; rw [hea, e14, ← w15_0]) w19_0.symm (by rw [e1]; exact e17) (by rw [e1]; omega)]))
        · refine jr.aload_n rfl rfl ?_
          refine jr.getf (i := 46) (v := .ref 634) rfl rfl (by decide) rfl (by decide) rfl rfl rfl rfl ?_
          refine jr.iload rfl rfl ?_
          obtain ⟨v22, e22⟩ : ∃ z, M 634 (((2 * f) + 1) - v1) = z := ⟨_, rfl⟩
          have b22 : 0 ≤ v22 ∧ v22 ≤ 1 := by rw [← e22]; exact (by have q := hI_M 634 (((2 * f) + 1) - v1) (by decide); rw [xri_row rfl rfl] at q; exact q)
          refine jr.zald (i := (((2 * f) + 1) - v1)) (x := v22) rfl (by decide) rfl (by decide) (by omega) (by omega) e22 ?_
          refine jr.if_eq rfl rfl (by omega) (fun h108 => ?_) (fun h108 => ?_)
          · refine jr.iconst rfl ?_
            exact jr.ireturn rfl rfl rfl (q _ (by omega) (by rw [io6_2 (l := v17) (by rw [e1]; omega) (show sq6 M x = j_w r15 from by unfold sq6; rw [hea, e14, ← w15_0]) w19_0.symm (by rw [e1]; exact e17) (by rw [e1]; omega)]))
          · have sx108 : (1 : Int) ≤ v22 := by omega
            refine jr.iload rfl rfl ?_
            refine jr.aload_n rfl rfl ?_
            refine jr.getf (i := 47) (v := .ref 635) rfl rfl (by decide) rfl (by decide) rfl rfl rfl rfl ?_
            refine jr.iload rfl rfl ?_
            obtain ⟨v23, e23⟩ : ∃ z, M 635 (((2 * f) + 1) - v1) = z := ⟨_, rfl⟩
            have b23 : 0 ≤ v23 ∧ v23 ≤ 65535 := by rw [← e23]; exact (by have q := hI_M 635 (((2 * f) + 1) - v1) (by decide); rw [xri_row rfl rfl] at q; exact q)
            refine jr.iald (i := (((2 * f) + 1) - v1)) (x := v23) rfl (by decide) rfl (by decide) (by omega) (by omega) e23 ?_
            refine jr.icmp_le rfl rfl (by omega) (by omega) (fun h120 => ?_) (fun h120 => ?_)
            · refine jr.iconst rfl ?_
              exact jr.ireturn rfl rfl rfl (q _ (by omega) (by rw [io6_2 (l := v17) (by rw [e1]; omega) (show sq6 M x = j_w r15 from by unfold sq6; rw [hea, e14, ← w15_0]) w19_0.symm (by rw [e1]; exact e17) (by rw [e1]; omega)]))
            · refine jr.iconst rfl ?_
              refine jr.goto rfl rfl ?_
              exact jr.ireturn rfl rfl rfl (q _ (by omega) (by rw [io6_1 (l := v17) (by rw [e1]; omega) (show sq6 M x = j_w r15 from by unfold sq6; rw [hea, e14, ← w15_0]) w19_0.symm (by rw [e1]; exact e17) (by rw [e1]; omega)]))
      · refine jr.iconst rfl ?_
        exact jr.ireturn rfl rfl rfl (q _ (by omega) (by rw [io6_0 (by rw [e1]; omega)]))
end
section
/-! ===== the reference: a flow begins ===== -/
noncomputable def fE6 (M : jm) : Nat → Int → Int
  | 0, _ => -1
  | n + 1, i => if M 627 i = 0 then i else fE6 M n (i + 1)
theorem fE6_s {M : jm} {i : Int} (h : i < 24) : fE6 M (24 - i).toNat i = if M 627 i = 0 then i else fE6 M (24 - (i + 1)).toNat (i + 1) := by
  obtain ⟨n, hn⟩ : ∃ n : Nat, i = 23 - n := ⟨(23 - i).toNat, by omega⟩
  subst hn
  rw [show (24 - (23 - (n : Int))).toNat = n + 1 by omega, show (24 - (23 - (n : Int) + 1)).toNat = n by omega]
  rfl
noncomputable def BF6 (T M : jm) (f : Int) : Prop := (M 627 f = 1 ∧ M 628 f = T 598 59 ∧ M 629 f = T 598 60 ∧ M 630 (2 * f) = T 598 61 ∧ M 630 (2 * f + 1) = T 598 62 ∧ M 631 (2 * f) = T 598 63 ∧ M 631 (2 * f + 1) = T 598 64 ∧ M 640 f = -1) ∧ (∀ j : Int, 2 * f ≤ j → j < 2 * f + 2 → M 632 j = 0 ∧ M 633 j = 0 ∧ M 634 j = 0 ∧ M 635 j = 0 ∧ M 636 j = 0 ∧ M 637 j = 0) ∧ (∀ j : Int, j ≠ f → M 627 j = T 627 j ∧ M 628 j = T 628 j ∧ M 629 j = T 629 j ∧ M 640 j = T 640 j) ∧ ∀ j : Int, (j < 2 * f ∨ 2 * f + 2 ≤ j) → M 630 j = T 630 j ∧ M 631 j = T 631 j ∧ M 632 j = T 632 j ∧ M 633 j = T 633 j ∧ M 634 j = T 634 j ∧ M 635 j = T 635 j ∧ M 636 j = T 636 j ∧ M 637 j = T 637 j
theorem BF6.m {T M : jm} {f s n a b p q : Int} (hs : T 598 59 = s) (hn : T 598 60 = n) (ha : T 598 61 = a) (hb : T 598 62 = b) (hp : T 598 63 = p) (hq : T 598 64 = q) (w : FG6 (ju (ju (ju (ju (ju (ju (ju (ju T 627 f 1) 628 f s) 629 f n) 630 (2 * f) a) 630 (2 * f + 1) b) 631 (2 * f) p) 631 (2 * f + 1) q) 640 f (-1)) M f (2 * f + 2)) (fr : ∀ (c : Nat) (i : Int), c ≠ 632 → c ≠ 633 → c ≠ 634 → c ≠ 635 → c ≠ 636 → c ≠ 637 → M c i = ju (ju (ju (ju (ju (ju (ju (ju T 627 f 1) 628 f s) 629 f n) 630 (2 * f) a) 630 (2 * f + 1) b) 631 (2 * f) p) 631 (2 * f + 1) q) 640 f (-1) c i) : BF6 T M f := by
  have g : ∀ (c : Nat) (i : Int), c ≠ 632 → c ≠ 633 → c ≠ 634 → c ≠ 635 → c ≠ 636 → c ≠ 637 → M c i = _ := fr
  refine ⟨⟨?_, ?_, ?_, ?_, ?_, ?_, ?_, ?_⟩, w.1, fun j hj => ⟨?_, ?_, ?_, ?_⟩, fun j hj => ⟨?_, ?_, ?_, ?_, ?_, ?_, ?_, ?_⟩⟩
  · rw [fr 627 f (by decide) (by decide) (by decide) (by decide) (by decide) (by decide)]; simp [ju]
  · rw [fr 628 f (by decide) (by decide) (by decide) (by decide) (by decide) (by decide)]; simp [ju, hs]
  · rw [fr 629 f (by decide) (by decide) (by decide) (by decide) (by decide) (by decide)]; simp [ju, hn]
  · rw [fr 630 _ (by decide) (by decide) (by decide) (by decide) (by decide) (by decide), ju_c _ _ (by decide), ju_c _ _ (by decide), ju_c _ _ (by decide), ju_i _ _ (by omega), ju_same, ha]
  · rw [fr 630 _ (by decide) (by decide) (by decide) (by decide) (by decide) (by decide), ju_c _ _ (by decide), ju_c _ _ (by decide), ju_c _ _ (by decide), ju_same, hb]
  · rw [fr 631 _ (by decide) (by decide) (by decide) (by decide) (by decide) (by decide), ju_c _ _ (by decide), ju_i _ _ (by omega), ju_same, hp]
  · rw [fr 631 _ (by decide) (by decide) (by decide) (by decide) (by decide) (by decide), ju_c _ _ (by decide), ju_same, hq]
  · rw [fr 640 _ (by decide) (by decide) (by decide) (by decide) (by decide) (by decide), ju_same]
  · rw [fr 627 j (by decide) (by decide) (by decide) (by decide) (by decide) (by decide)]; simp [ju, hj]
  · rw [fr 628 j (by decide) (by decide) (by decide) (by decide) (by decide) (by decide)]; simp [ju, hj]
  · rw [fr 629 j (by decide) (by decide) (by decide) (by decide) (by decide) (by decide)]; simp [ju, hj]
  · rw [fr 640 j (by decide) (by decide) (by decide) (by decide) (by decide) (by decide)]; simp [ju, hj]
  · rw [w.2 630 j hj, ju_c _ _ (by decide), ju_c _ _ (by decide), ju_c _ _ (by decide), ju_i _ _ (by omega), ju_i _ _ (by omega), ju_c _ _ (by decide), ju_c _ _ (by decide), ju_c _ _ (by decide)]
  · rw [w.2 631 j hj, ju_c _ _ (by decide), ju_i _ _ (by omega), ju_i _ _ (by omega), ju_c _ _ (by decide), ju_c _ _ (by decide), ju_c _ _ (by decide), ju_c _ _ (by decide), ju_c _ _ (by decide)]
  · rw [w.2 632 j hj]; simp [ju]
  · rw [w.2 633 j hj]; simp [ju]
  · rw [w.2 634 j hj]; simp [ju]
  · rw [w.2 635 j hj]; simp [ju]
  · rw [w.2 636 j hj]; simp [ju]
  · rw [w.2 637 j hj]; simp [ju]
theorem r_beginFlow_L5_x {A : Nat → Option (Nat × (Nat → Int32))} {Q : Option Value → jm → Prop} {M0 : jm} (q : ∀ (r : Int) (M' : jm), RI M' → RH M' → (-1) ≤ r ∧ r ≤ 23 → RFx M' r → (r = -1 ∨ M' 629 r = M0 598 60) → (r = fE6 M0 24 0 ∧ ((r = -1 ∧ M' = M0) ∨ (r ≠ -1 ∧ BF6 M0 M' r))) → (∀ (a : Nat) (i : Int), a ≠ 627 → a ≠ 628 → a ≠ 629 → a ≠ 630 → a ≠ 631 → a ≠ 632 → a ≠ 633 → a ≠ 634 → a ≠ 635 → a ≠ 636 → a ≠ 637 → a ≠ 640 → M' a i = M0 a i) → Q (some (.int (Int32.ofInt r))) M') : ∀ (nM : Nat) (M : jm) (k : Int) (f : Int), RI M → RH M → RF M → (∀ (a : Nat) (i : Int), a ≠ 627 → a ≠ 628 → a ≠ 629 → a ≠ 630 → a ≠ 631 → a ≠ 632 → a ≠ 633 → a ≠ 634 → a ≠ 635 → a ≠ 636 → a ≠ 637 → a ≠ 640 → M a i = M0 a i) → (-1) ≤ k ∧ k ≤ 23 → (-1) ≤ f ∧ f ≤ 23 → f = fE6 M0 (24 - (k + 1)).toNat (k + 1) → M = M0 → k + 1 ≤ nM → jr A 1 xm_310 5 [(2, .int (Int32.ofInt (k))), (1, .int (Int32.ofInt (f))), (0, .ref (598))] [] M Q := by
  intro nM
  induction nM using Nat.strongRecOn with
  | ind nM ih =>
    intro M k f hI_M hH_M hS_M hF_M h_k h_f hy0 hy1 hm
    refine jr.iload_n rfl rfl ?_
    refine jr.if_lt rfl rfl (by omega) (fun h6 => ?_) (fun h6 => ?_)
    · refine jr.iload_n rfl rfl ?_
      refine jr.iconst rfl ?_
      refine jr.icmp_ne rfl rfl (by omega) (by omega) (fun h32 => ?_) (fun h32 => ?_)
      · have sx32 : (0 : Int) ≤ f := by omega
        refine jr.aload_n rfl rfl ?_
        refine jr.getf (i := 39) (v := .ref 627) rfl rfl (by decide) rfl (by decide) rfl rfl rfl rfl ?_
        refine jr.iload_n rfl rfl ?_
        refine jr.iconst rfl ?_
        refine jr.zast (i := f) (x := 1) rfl (by decide) rfl (by decide) (by omega) (by omega) (j_zn (by omega)) ?_
        refine jr.aload_n rfl rfl ?_
        refine jr.getf (i := 40) (v := .ref 628) rfl rfl (by decide) rfl (by decide) rfl rfl rfl rfl ?_
        refine jr.iload_n rfl rfl ?_
        refine jr.aload_n rfl rfl ?_
        obtain ⟨v1, e1⟩ : ∃ z, M 598 59 = z := ⟨_, rfl⟩
        have b1 : 0 ≤ v1 ∧ v1 ≤ 1 := by rw [← e1]; exact hI_M 598 59 (by decide)
        refine jr.getf (i := 59) (x := v1) (v := .int (Int32.ofInt (v1))) rfl rfl (by decide) rfl (by decide) rfl rfl ((ju_c _ _ (by decide)).trans e1) rfl ?_
        refine jr.zast (i := f) (x := v1) rfl (by decide) rfl (by decide) (by omega) (by omega) (j_zn (by omega)) ?_
        refine jr.aload_n rfl rfl ?_
        refine jr.getf (i := 41) (v := .ref 629) rfl rfl (by decide) rfl (by decide) rfl rfl rfl rfl ?_
        refine jr.iload_n rfl rfl ?_
        refine jr.aload_n rfl rfl ?_
        obtain ⟨v2, e2⟩ : ∃ z, M 598 60 = z := ⟨_, rfl⟩
        have b2 : 0 ≤ v2 ∧ v2 ≤ 255 := by rw [← e2]; exact hI_M 598 60 (by decide)
        refine jr.getf (i := 60) (x := v2) (v := .int (Int32.ofInt (v2))) rfl rfl (by decide) rfl (by decide) rfl rfl ((ju_c _ _ (by decide)).trans ((ju_c _ _ (by decide)).trans e2)) rfl ?_
        refine jr.iast (i := f) (x := v2) rfl (by decide) rfl (by decide) (by omega) (by omega) ?_
        refine jr.aload_n rfl rfl ?_
        refine jr.getf (i := 42) (v := .ref 630) rfl rfl (by decide) rfl (by decide) rfl rfl rfl rfl ?_
        refine jr.iconst rfl ?_
        refine jr.iload_n rfl rfl ?_
        refine jr.imul rfl ?_
        refine jr.aload_n rfl rfl ?_
        obtain ⟨v3, e3⟩ : ∃ z, M 598 61 = z := ⟨_, rfl⟩
        have b3 : (-9223372036854775808) ≤ v3 ∧ v3 ≤ 9223372036854775807 := by rw [← e3]; exact hI_M 598 61 (by decide)
        refine jr.getf (i := 61) (x := v3) (v := .long (Int64.ofInt (v3))) rfl rfl (by decide) rfl (by decide) rfl rfl ((ju_c _ _ (by decide)).trans ((ju_c _ _ (by decide)).trans ((ju_c _ _ (by decide)).trans e3))) rfl ?_
        refine jr.last (i := (2 * f)) (x := v3) rfl (by decide) rfl (by decide) (by omega) (by omega) ?_
        refine jr.aload_n rfl rfl ?_
        refine jr.getf (i := 42) (v := .ref 630) rfl rfl (by decide) rfl (by decide) rfl rfl rfl rfl ?_
        refine jr.iconst rfl ?_
        refine jr.iload_n rfl rfl ?_
        refine jr.imul rfl ?_
        refine jr.iconst rfl ?_
        refine jr.iadd rfl ?_
        refine jr.aload_n rfl rfl ?_
        obtain ⟨v4, e4⟩ : ∃ z, M 598 62 = z := ⟨_, rfl⟩
        have b4 : (-9223372036854775808) ≤ v4 ∧ v4 ≤ 9223372036854775807 := by rw [← e4]; exact hI_M 598 62 (by decide)
        refine jr.getf (i := 62) (x := v4) (v := .long (Int64.ofInt (v4))) rfl rfl (by decide) rfl (by decide) rfl rfl ((ju_c _ _ (by decide)).trans ((ju_c _ _ (by decide)).trans ((ju_c _ _ (by decide)).trans ((ju_c _ _ (by decide)).trans e4)))) rfl ?_
        refine jr.last (i := ((2 * f) + 1)) (x := v4) rfl (by decide) rfl (by decide) (by omega) (by omega) ?_
        refine jr.aload_n rfl rfl ?_
        refine jr.getf (i := 43) (v := .ref 631) rfl rfl (by decide) rfl (by decide) rfl rfl rfl rfl ?_
        refine jr.iconst rfl ?_
        refine jr.iload_n rfl rfl ?_
        refine jr.imul rfl ?_
        refine jr.aload_n rfl rfl ?_
        obtain ⟨v5, e5⟩ : ∃ z, M 598 63 = z := ⟨_, rfl⟩
        have b5 : 0 ≤ v5 ∧ v5 ≤ 65535 := by rw [← e5]; exact hI_M 598 63 (by decide)
        refine jr.getf (i := 63) (x := v5) (v := .int (Int32.ofInt (v5))) rfl rfl (by decide) rfl (by decide) rfl rfl ((ju_c _ _ (by decide)).trans ((ju_c _ _ (by decide)).trans ((ju_c _ _ (by decide)).trans ((ju_c _ _ (by decide)).trans ((ju_c _ _ (by decide)).trans e5))))) rfl ?_
        refine jr.iast (i := (2 * f)) (x := v5) rfl (by decide) rfl (by decide) (by omega) (by omega) ?_
        refine jr.aload_n rfl rfl ?_
        refine jr.getf (i := 43) (v := .ref 631) rfl rfl (by decide) rfl (by decide) rfl rfl rfl rfl ?_
        refine jr.iconst rfl ?_
        refine jr.iload_n rfl rfl ?_
        refine jr.imul rfl ?_
        refine jr.iconst rfl ?_
        refine jr.iadd rfl ?_
        refine jr.aload_n rfl rfl ?_
        obtain ⟨v6, e6⟩ : ∃ z, M 598 64 = z := ⟨_, rfl⟩
        have b6 : 0 ≤ v6 ∧ v6 ≤ 65535 := by rw [← e6]; exact hI_M 598 64 (by decide)
        refine jr.getf (i := 64) (x := v6) (v := .int (Int32.ofInt (v6))) rfl rfl (by decide) rfl (by decide) rfl rfl ((ju_c _ _ (by decide)).trans ((ju_c _ _ (by decide)).trans ((ju_c _ _ (by decide)).trans ((ju_c _ _ (by decide)).trans ((ju_c _ _ (by decide)).trans ((ju_c _ _ (by decide)).trans e6)))))) rfl ?_
        refine jr.iast (i := ((2 * f) + 1)) (x := v6) rfl (by decide) rfl (by decide) (by omega) (by omega) ?_
        refine jr.aload_n rfl rfl ?_
        refine jr.getf (i := 52) (v := .ref 640) rfl rfl (by decide) rfl (by decide) rfl rfl rfl rfl ?_
        refine jr.iload_n rfl rfl ?_
        refine jr.iconst rfl ?_
        refine jr.iast (i := f) (x := (-1)) rfl (by decide) rfl (by decide) (by omega) (by omega) ?_
        refine jr.aload_n rfl rfl ?_
        refine jr.iload_n rfl rfl ?_
        refine jr_v rfl rfl (Or.inl rfl) rfl rfl (by decide) rfl ⟨rfl, Nat.le_of_ble_eq_true rfl, Nat.le_of_ble_eq_true rfl⟩ rfl (jc.deep (r_forget_x (RI.u (RI.u (RI.u (RI.u (RI.u (RI.u (RI.u (RI.u hI_M (a := 627) (i := f) (by rw [xri_row rfl rfl]; show (0 : Int) ≤ _ ∧ _ ≤ (1 : Int); omega)) (a := 628) (i := f) (by rw [xri_row rfl rfl]; show (0 : Int) ≤ _ ∧ _ ≤ (1 : Int); omega)) (a := 629) (i := f) (by rw [xri_row rfl rfl]; show (0 : Int) ≤ _ ∧ _ ≤ (255 : Int); omega)) (a := 630) (i := (2 * f)) (by rw [xri_row rfl rfl]; show (-9223372036854775808 : Int) ≤ _ ∧ _ ≤ (9223372036854775807 : Int); omega)) (a := 630) (i := ((2 * f) + 1)) (by rw [xri_row rfl rfl]; show (-9223372036854775808 : Int) ≤ _ ∧ _ ≤ (9223372036854775807 : Int); omega)) (a := 631) (i := (2 * f)) (by rw [xri_row rfl rfl]; show (0 : Int) ≤ _ ∧ _ ≤ (65535 : Int); omega)) (a := 631) (i := ((2 * f) + 1)) (by rw [xri_row rfl rfl]; show (0 : Int) ≤ _ ∧ _ ≤ (65535 : Int); omega)) (a := 640) (i := f) (by rw [xri_row rfl rfl]; show (-1 : Int) ≤ _ ∧ _ ≤ (3 : Int); omega)) (RH.o (RH.o (RH.o (RH.o (RH.o (RH.o (RH.o (RH.o hH_M (by decide) (by decide) (by decide)) (by decide) (by decide) (by decide)) (by decide) (by decide) (by decide)) (by decide) (by decide) (by decide)) (by decide) (by decide) (by decide)) (by decide) (by decide) (by decide)) (by decide) (by decide) (by decide)) (by decide) (by decide) (by decide))  (by omega)  (fun M7 hI_M7 hH_M7  w7_0 w7_1 => ?_)) (by decide))
        refine jr.iload_n rfl rfl ?_
        have e8 : M7 629 f = v2 := ((w7_1 629 f (by decide) (by decide) (by decide) (by decide) (by decide) (by decide)).trans ((ju_c _ _ (by decide)).trans ((ju_c _ _ (by decide)).trans ((ju_c _ _ (by decide)).trans ((ju_c _ _ (by decide)).trans ((ju_c _ _ (by decide)).trans (ju_same _ _ _ _)))))))
        exact jr.ireturn rfl rfl rfl (q _ _ hI_M7 hH_M7  (by omega) (RFx.fr (RFx.o (RFx.o (RFx.o (RFx.o (RFx.o (RF.x (RF.o (RF.o hS_M (by decide) (by decide)) (by decide) (by decide))) (by decide) (by decide)) (by decide) (by decide)) (by decide) (by decide)) (by decide) (by decide)) (by decide) (by decide)) (fun f => w7_1 629 f (by decide) (by decide) (by decide) (by decide) (by decide) (by decide)) (fun f => w7_1 638 f (by decide) (by decide) (by decide) (by decide) (by decide) (by decide))) (Or.inr (e8.trans (by have z := hF_M 598 60 (by decide) (by decide) (by decide) (by decide) (by decide) (by decide) (by decide) (by decide) (by decide) (by decide) (by decide) (by decide); omega))) ⟨(by have h9 := hy0; rw [show (24 - (k + 1)).toNat = 24 from by omega, show k + 1 = 0 from by omega] at h9; exact h9), Or.inr ⟨by omega, (by have h8 := w7_0; have h7 := w7_1; rw [hy1] at h8 h7; exact BF6.m (by rw [← hy1]; exact e1) (by rw [← hy1]; exact e2) (by rw [← hy1]; exact e3) (by rw [← hy1]; exact e4) (by rw [← hy1]; exact e5) (by rw [← hy1]; exact e6) h8 h7)⟩⟩ (fun a i f627 f628 f629 f630 f631 f632 f633 f634 f635 f636 f637 f640 => ((w7_1 a i f632 f633 f634 f635 f636 f637).trans ((ju_c _ _ f640).trans ((ju_c _ _ f631).trans ((ju_c _ _ f631).trans ((ju_c _ _ f630).trans ((ju_c _ _ f630).trans ((ju_c _ _ f629).trans ((ju_c _ _ f628).trans ((ju_c _ _ f627).trans (hF_M a i f627 f628 f629 f630 f631 f632 f633 f634 f635 f636 f637 f640))))))))))))
      · refine jr.iconst rfl ?_
        exact jr.ireturn rfl rfl rfl (q _ _ hI_M hH_M  (by omega) (fun f _ => hS_M f) (Or.inl rfl) ⟨(by have h8 := (by have h9 := hy0; rw [show (24 - (k + 1)).toNat = 24 from by omega, show k + 1 = 0 from by omega] at h9; exact h9); omega), Or.inl ⟨rfl, hy1⟩⟩ (fun a i f627 f628 f629 f630 f631 f632 f633 f634 f635 f636 f637 f640 => (hF_M a i f627 f628 f629 f630 f631 f632 f633 f634 f635 f636 f637 f640)))
    · refine jr.aload_n rfl rfl ?_
      refine jr.getf (i := 39) (v := .ref 627) rfl rfl (by decide) rfl (by decide) rfl rfl rfl rfl ?_
      refine jr.iload_n rfl rfl ?_
      obtain ⟨v9, e9⟩ : ∃ z, M 627 k = z := ⟨_, rfl⟩
      have b9 : 0 ≤ v9 ∧ v9 ≤ 1 := by rw [← e9]; exact (by have q := hI_M 627 k (by decide); rw [xri_row rfl rfl] at q; exact q)
      refine jr.zald (i := k) (x := v9) rfl (by decide) rfl (by decide) (by omega) (by omega) e9 ?_
      refine jr.if_eq rfl rfl (by omega) (fun h15 => ?_) (fun h15 => ?_)
      · refine jr.iload_n rfl rfl ?_
        refine jr.istore_n rfl (by decide) rfl ?_
        refine jr.iinc rfl rfl (by decide) rfl ?_
        refine jr.goto rfl rfl ?_
        refine jr.pick [0, 1, 2] rfl rfl ?_
        exact ih (nM - 1) (by omega) M (k + (-1)) k hI_M hH_M hS_M  (fun a i f627 f628 f629 f630 f631 f632 f633 f634 f635 f636 f637 f640 => (hF_M a i f627 f628 f629 f630 f631 f632 f633 f634 f635 f636 f637 f640)) (by omega) (by omega) (by rw [show k + -1 + 1 = k from by omega, fE6_s (by omega), ← hy1]; first | (rw [if_pos (by omega)]; done) | (rw [if_neg (by omega), hy1]; exact hy0)) hy1 (by omega)
      · have sx15 : (1 : Int) ≤ v9 := by omega
        refine jr.iload_n rfl rfl ?_
        refine jr.goto rfl rfl ?_
        refine jr.istore_n rfl (by decide) rfl ?_
        refine jr.iinc rfl rfl (by decide) rfl ?_
        refine jr.goto rfl rfl ?_
        refine jr.pick [0, 1, 2] rfl rfl ?_
        exact ih (nM - 1) (by omega) M (k + (-1)) f hI_M hH_M hS_M  (fun a i f627 f628 f629 f630 f631 f632 f633 f634 f635 f636 f637 f640 => (hF_M a i f627 f628 f629 f630 f631 f632 f633 f634 f635 f636 f637 f640)) (by omega) (by omega) (by rw [show k + -1 + 1 = k from by omega, fE6_s (by omega), ← hy1]; first | (rw [if_pos (by omega)]; done) | (rw [if_neg (by omega), hy1]; exact hy0)) hy1 (by omega)
theorem r_beginFlow_x {A : Nat → Option (Nat × (Nat → Int32))} {Q : Option Value → jm → Prop} {M : jm} (hI_M : RI M) (hH_M : RH M) (hS_M : RF M) (q : ∀ (r : Int) (M' : jm), RI M' → RH M' → (-1) ≤ r ∧ r ≤ 23 → RFx M' r → (r = -1 ∨ M' 629 r = M 598 60) → (r = fE6 M 24 0 ∧ ((r = -1 ∧ M' = M) ∨ (r ≠ -1 ∧ BF6 M M' r))) → (∀ (a : Nat) (i : Int), a ≠ 627 → a ≠ 628 → a ≠ 629 → a ≠ 630 → a ≠ 631 → a ≠ 632 → a ≠ 633 → a ≠ 634 → a ≠ 635 → a ≠ 636 → a ≠ 637 → a ≠ 640 → M' a i = M a i) → Q (some (.int (Int32.ofInt r))) M') : jc A 2 310 [.ref (598)] M Q := by
  refine jc_of (m := xm_310) rfl (Nat.le_of_ble_eq_true rfl) rfl ?_
  refine jr.iconst rfl ?_
  refine jr.istore_n rfl (by decide) rfl ?_
  refine jr.bipush rfl (by decide) ?_
  refine jr.istore_n rfl (by decide) rfl ?_
  refine jr.pick [0, 1, 2] rfl rfl ?_
  exact r_beginFlow_L5_x q 24 M 23 (-1) hI_M hH_M hS_M  (fun a i f627 f628 f629 f630 f631 f632 f633 f634 f635 f636 f637 f640 => rfl) (by omega) (by omega) rfl rfl (by omega)
end
section
/-! ===== the reference: counts ===== -/
noncomputable def ct0 (M : jm) (x s : Int) : jm := ju (ju (ju M 636 s (jl_w (M 636 s + 1))) 637 s (jl_w (M 637 s + M 600 x))) 634 s 1
noncomputable def ctE (M : jm) (x : Int) : Int := j_w (sq6 M x + lg6 M x)
noncomputable def CT6 (M M' : jm) (x f s : Int) : Prop := (M 629 f ≠ 6 ∧ M' = ct0 M x s) ∨ (M 629 f = 6 ∧ (M 632 s ≠ 0 ∧ j_w (ctE M x - M 633 s) ≤ 0) ∧ M' = ju (ju (ct0 M x s) 632 s 1) 635 s (tw (rf M x) (M 604 (M 598 65) + 14))) ∨ (M 629 f = 6 ∧ ¬ (M 632 s ≠ 0 ∧ j_w (ctE M x - M 633 s) ≤ 0) ∧ M' = ju (ju (ju (ct0 M x s) 633 s (ctE M x)) 632 s 1) 635 s (tw (rf M x) (M 604 (M 598 65) + 14)))
theorem lg6_e {M M1 : jm} (x : Int) (h0 : ∀ i : Int, M1 600 i = M 600 i) (h1 : ∀ i : Int, M1 601 i = M 601 i) (h4 : ∀ i : Int, M1 604 i = M 604 i) (h5 : ∀ i : Int, M1 605 i = M 605 i) (h8 : ∀ i : Int, M1 598 i = M 598 i) : lg6 M1 x = lg6 M x := by
  unfold lg6
  simp only [h0, h1, h4, h5, h8]
theorem r_counts_x {A : Nat → Option (Nat × (Nat → Int32))} {Q : Option Value → jm → Prop} {M : jm} (hI_M : RI M) (hH_M : RH M) (hS_M : RF M) {x : Int} (h_x : 0 ≤ x ∧ x ≤ 23) {f : Int} (h_f : 0 ≤ f ∧ f ≤ 23) (p0 : (0 ≤ M 598 65 ∧ M 598 65 ≤ 11)) (p1 : (M 629 f = 6 → M 604 (M 598 65) ≤ 380)) (p2 : 0 ≤ M 598 66) (q : ∀ (M' : jm), RI M' → RH M' → RF M' → CT6 M M' x f (2 * f + M 598 66) → (∀ (a : Nat) (i : Int), a ≠ 632 → a ≠ 633 → a ≠ 634 → a ≠ 635 → a ≠ 636 → a ≠ 637 → M' a i = M a i) → Q none M') : jc A 4 313 [.ref (598), .int (Int32.ofInt (x)), .int (Int32.ofInt (f))] M Q := by
  obtain ⟨ea, hea⟩ : ∃ z, M 598 65 = z := ⟨_, rfl⟩
  rw [hea] at p0 p1
  refine jc_of (m := xm_313) rfl (Nat.le_of_ble_eq_true rfl) rfl ?_
  refine jr.iconst rfl ?_
  refine jr.iload_n rfl rfl ?_
  refine jr.imul rfl ?_
  refine jr.aload_n rfl rfl ?_
  obtain ⟨v1, e1⟩ : ∃ z, M 598 66 = z := ⟨_, rfl⟩
  have b1 : (-1) ≤ v1 ∧ v1 ≤ 1 := by rw [← e1]; exact hI_M 598 66 (by decide)
  refine jr.getf (i := 66) (x := v1) (v := .int (Int32.ofInt (v1))) rfl rfl (by decide) rfl (by decide) rfl rfl e1 rfl ?_
  refine jr.iadd rfl ?_
  refine jr.istore_n rfl (by decide) rfl ?_
  refine jr.aload_n rfl rfl ?_
  refine jr.getf (i := 48) (v := .ref 636) rfl rfl (by decide) rfl (by decide) rfl rfl rfl rfl ?_
  refine jr.iload_n rfl rfl ?_
  refine jr.dup2 rfl ⟨rfl, rfl⟩ ?_
  obtain ⟨v2, e2⟩ : ∃ z, M 636 ((2 * f) + v1) = z := ⟨_, rfl⟩
  have b2 : (-9223372036854775808) ≤ v2 ∧ v2 ≤ 9223372036854775807 := by rw [← e2]; exact (by have q := hI_M 636 ((2 * f) + v1) (by decide); rw [xri_row rfl rfl] at q; exact q)
  refine jr.lald (i := ((2 * f) + v1)) (x := v2) rfl (by decide) rfl (by decide) (by omega) (by omega) e2 ?_
  refine jr.lconst (x := 1) rfl (by decide) ?_
  refine jr.ladd rfl ?_
  refine jr.lw (jl_w (v2 + 1)) (jl_w_eq _) ?_
  have b3 : -9223372036854775808 ≤ jl_w (v2 + 1) ∧ jl_w (v2 + 1) ≤ 9223372036854775807 := jbl_any _
  refine jr.last (i := ((2 * f) + v1)) (x := (jl_w (v2 + 1))) rfl (by decide) rfl (by decide) (by omega) (by omega) ?_
  refine jr.aload_n rfl rfl ?_
  refine jr.getf (i := 49) (v := .ref 637) rfl rfl (by decide) rfl (by decide) rfl rfl rfl rfl ?_
  refine jr.iload_n rfl rfl ?_
  refine jr.dup2 rfl ⟨rfl, rfl⟩ ?_
  obtain ⟨v4, e4⟩ : ∃ z, M 637 ((2 * f) + v1) = z := ⟨_, rfl⟩
  have b4 : (-9223372036854775808) ≤ v4 ∧ v4 ≤ 9223372036854775807 := by rw [← e4]; exact (by have q := hI_M 637 ((2 * f) + v1) (by decide); rw [xri_row rfl rfl] at q; exact q)
  refine jr.lald (i := ((2 * f) + v1)) (x := v4) rfl (by decide) rfl (by decide) (by omega) (by omega) ((ju_c _ _ (by decide)).trans e4) ?_
  refine jr.aload_n rfl rfl ?_
  refine jr.getf (i := 3) (v := .ref 600) rfl rfl (by decide) rfl (by decide) rfl rfl rfl rfl ?_
  refine jr.iload_n rfl rfl ?_
  obtain ⟨v5, e5⟩ : ∃ z, M 600 x = z := ⟨_, rfl⟩
  have b5 : (-1) ≤ v5 ∧ v5 ≤ 400 := by rw [← e5]; exact (by have q := hI_M 600 x (by decide); rw [xri_row rfl rfl] at q; exact q)
  refine jr.iald (i := x) (x := v5) rfl (by decide) rfl (by decide) (by omega) (by omega) ((ju_c _ _ (by decide)).trans e5) ?_
  refine jr.i2l rfl (by omega) ?_
  refine jr.ladd rfl ?_
  refine jr.lw (jl_w (v4 + v5)) (jl_w_eq _) ?_
  have b6 : -9223372036854775808 ≤ jl_w (v4 + v5) ∧ jl_w (v4 + v5) ≤ 9223372036854775807 := jbl_any _
  refine jr.last (i := ((2 * f) + v1)) (x := (jl_w (v4 + v5))) rfl (by decide) rfl (by decide) (by omega) (by omega) ?_
  refine jr.aload_n rfl rfl ?_
  refine jr.getf (i := 46) (v := .ref 634) rfl rfl (by decide) rfl (by decide) rfl rfl rfl rfl ?_
  refine jr.iload_n rfl rfl ?_
  refine jr.iconst rfl ?_
  refine jr.zast (i := ((2 * f) + v1)) (x := 1) rfl (by decide) rfl (by decide) (by omega) (by omega) (j_zn (by omega)) ?_
  refine jr.aload_n rfl rfl ?_
  refine jr.getf (i := 41) (v := .ref 629) rfl rfl (by decide) rfl (by decide) rfl rfl rfl rfl ?_
  refine jr.iload_n rfl rfl ?_
  obtain ⟨v7, e7⟩ : ∃ z, M 629 f = z := ⟨_, rfl⟩
  have b7 : 0 ≤ v7 ∧ v7 ≤ 255 := by rw [← e7]; exact (by have q := hI_M 629 f (by decide); rw [xri_row rfl rfl] at q; exact q)
  refine jr.iald (i := f) (x := v7) rfl (by decide) rfl (by decide) (by omega) (by omega) ((ju_c _ _ (by decide)).trans ((ju_c _ _ (by decide)).trans ((ju_c _ _ (by decide)).trans e7))) ?_
  refine jr.bipush rfl (by decide) ?_
  refine jr.icmp_eq rfl rfl (by omega) (by omega) (fun h50 => ?_) (fun h50 => ?_)
  · refine jr.aload_n rfl rfl ?_
    refine jr.iload_n rfl rfl ?_
    refine jr.aload_n rfl rfl ?_
    refine jr.getf (i := 8) (v := .ref 604) rfl rfl (by decide) rfl (by decide) rfl rfl rfl rfl ?_
    refine jr.aload_n rfl rfl ?_
    refine jr.getf (i := 65) (x := ea) (v := .int (Int32.ofInt (ea))) rfl rfl (by decide) rfl (by decide) rfl rfl ((ju_c _ _ (by decide)).trans ((ju_c _ _ (by decide)).trans ((ju_c _ _ (by decide)).trans hea))) rfl ?_
    obtain ⟨v8, e8⟩ : ∃ z, M 604 ea = z := ⟨_, rfl⟩
    have b8 : 0 ≤ v8 ∧ v8 ≤ 400 := by rw [← e8]; exact (by have q := hI_M 604 ea (by decide); rw [xri_row rfl rfl] at q; exact q)
    refine jr.iald (i := ea) (x := v8) rfl (by decide) rfl (by decide) (by omega) (by omega) ((ju_c _ _ (by decide)).trans ((ju_c _ _ (by decide)).trans ((ju_c _ _ (by decide)).trans e8))) ?_
    refine jr.iconst rfl ?_
    refine jr.iadd rfl ?_
    refine jr_v rfl rfl (Or.inl rfl) rfl rfl (by decide) rfl ⟨rfl, Nat.le_of_ble_eq_true rfl, Nat.le_of_ble_eq_true rfl⟩ rfl (jc.deep (r_four_x (RI.u (RI.u (RI.u hI_M (a := 636) (i := ((2 * f) + v1)) (by rw [xri_row rfl rfl]; show (-9223372036854775808 : Int) ≤ _ ∧ _ ≤ (9223372036854775807 : Int); omega)) (a := 637) (i := ((2 * f) + v1)) (by rw [xri_row rfl rfl]; show (-9223372036854775808 : Int) ≤ _ ∧ _ ≤ (9223372036854775807 : Int); omega)) (a := 634) (i := ((2 * f) + v1)) (by rw [xri_row rfl rfl]; show (0 : Int) ≤ _ ∧ _ ≤ (1 : Int); omega)) (RH.o (RH.o (RH.o hH_M (by decide) (by decide) (by decide)) (by decide) (by decide) (by decide)) (by decide) (by decide) (by decide)) (RF.o (RF.o (RF.o hS_M (by decide) (by decide)) (by decide) (by decide)) (by decide) (by decide))  (by omega) (by omega)  (fun r9 z9 w9_0 => ?_)) (by decide))
    refine jr.l2i rfl ?_
    refine jr.iw (j_w r9) (j_w_eq _) ?_
    have b10 : -2147483648 ≤ j_w r9 ∧ j_w r9 ≤ 2147483647 := jb_any _
    refine jr.aload_n rfl rfl ?_
    refine jr.iload_n rfl rfl ?_
    refine jr_v rfl rfl (Or.inl rfl) rfl rfl (by decide) rfl ⟨rfl, Nat.le_of_ble_eq_true rfl, Nat.le_of_ble_eq_true rfl⟩ rfl (jc.deep (r_longOf_x (RI.u (RI.u (RI.u hI_M (a := 636) (i := ((2 * f) + v1)) (by rw [xri_row rfl rfl]; show (-9223372036854775808 : Int) ≤ _ ∧ _ ≤ (9223372036854775807 : Int); omega)) (a := 637) (i := ((2 * f) + v1)) (by rw [xri_row rfl rfl]; show (-9223372036854775808 : Int) ≤ _ ∧ _ ≤ (9223372036854775807 : Int); omega)) (a := 634) (i := ((2 * f) + v1)) (by rw [xri_row rfl rfl]; show (0 : Int) ≤ _ ∧ _ ≤ (1 : Int); omega)) (RH.o (RH.o (RH.o hH_M (by decide) (by decide) (by decide)) (by decide) (by decide) (by decide)) (by decide) (by decide) (by decide)) (RF.o (RF.o (RF.o hS_M (by decide) (by decide)) (by decide) (by decide)) (by decide) (by decide))  (by omega) (by rw [((ju_c _ _ (by decide)).trans ((ju_c _ _ (by decide)).trans ((ju_c _ _ (by decide)).trans hea)))]; omega) (by rw [((ju_c _ _ (by decide)).trans ((ju_c _ _ (by decide)).trans ((ju_c _ _ (by decide)).trans hea))), ((ju_c _ _ (by decide)).trans ((ju_c _ _ (by decide)).trans ((ju_c _ _ (by decide)).trans e8)))]; omega) (fun r11 z11 w11_0 => ?_)) (by decide))
    refine jr.iadd rfl ?_
    refine jr.iw (j_w ((j_w r9) + r11)) (j_w_eq _) ?_
    have b12 : -2147483648 ≤ j_w ((j_w r9) + r11) ∧ j_w ((j_w r9) + r11) ≤ 2147483647 := jb_any _
    refine jr.istore rfl (by decide) rfl ?_
    refine jr.aload_n rfl rfl ?_
    refine jr.getf (i := 44) (v := .ref 632) rfl rfl (by decide) rfl (by decide) rfl rfl rfl rfl ?_
    refine jr.iload_n rfl rfl ?_
    obtain ⟨v13, e13⟩ : ∃ z, M 632 ((2 * f) + v1) = z := ⟨_, rfl⟩
    have b13 : 0 ≤ v13 ∧ v13 ≤ 1 := by rw [← e13]; exact (by have q := hI_M 632 ((2 * f) + v1) (by decide); rw [xri_row rfl rfl] at q; exact q)
    refine jr.zald (i := ((2 * f) + v1)) (x := v13) rfl (by decide) rfl (by decide) (by omega) (by omega) ((ju_c _ _ (by decide)).trans ((ju_c _ _ (by decide)).trans ((ju_c _ _ (by decide)).trans e13))) ?_
    refine jr.if_eq rfl rfl (by omega) (fun h85 => ?_) (fun h85 => ?_)
    · refine jr.aload_n rfl rfl ?_
      refine jr.getf (i := 45) (v := .ref 633) rfl rfl (by decide) rfl (by decide) rfl rfl rfl rfl ?_
      refine jr.iload_n rfl rfl ?_
      refine jr.iload rfl rfl ?_
      refine jr.iast (i := ((2 * f) + v1)) (x := (j_w ((j_w r9) + r11))) rfl (by decide) rfl (by decide) (by omega) (by omega) ?_
      refine jr.aload_n rfl rfl ?_
      refine jr.getf (i := 44) (v := .ref 632) rfl rfl (by decide) rfl (by decide) rfl rfl rfl rfl ?_
      refine jr.iload_n rfl rfl ?_
      refine jr.iconst rfl ?_
      refine jr.zast (i := ((2 * f) + v1)) (x := 1) rfl (by decide) rfl (by decide) (by omega) (by omega) (j_zn (by omega)) ?_
      refine jr.aload_n rfl rfl ?_
      refine jr.getf (i := 47) (v := .ref 635) rfl rfl (by decide) rfl (by decide) rfl rfl rfl rfl ?_
      refine jr.iload_n rfl rfl ?_
      refine jr.aload_n rfl rfl ?_
      refine jr.iload_n rfl rfl ?_
      refine jr.aload_n rfl rfl ?_
      refine jr.getf (i := 8) (v := .ref 604) rfl rfl (by decide) rfl (by decide) rfl rfl rfl rfl ?_
      refine jr.aload_n rfl rfl ?_
      refine jr.getf (i := 65) (x := ea) (v := .int (Int32.ofInt (ea))) rfl rfl (by decide) rfl (by decide) rfl rfl ((ju_c _ _ (by decide)).trans ((ju_c _ _ (by decide)).trans ((ju_c _ _ (by decide)).trans ((ju_c _ _ (by decide)).trans ((ju_c _ _ (by decide)).trans hea))))) rfl ?_
      refine jr.iald (i := ea) (x := v8) rfl (by decide) rfl (by decide) (by omega) (by omega) ((ju_c _ _ (by decide)).trans ((ju_c _ _ (by decide)).trans ((ju_c _ _ (by decide)).trans ((ju_c _ _ (by decide)).trans ((ju_c _ _ (by decide)).trans e8))))) ?_
      refine jr.bipush rfl (by decide) ?_
      refine jr.iadd rfl ?_
      refine jr_v rfl rfl (Or.inl rfl) rfl rfl (by decide) rfl ⟨rfl, Nat.le_of_ble_eq_true rfl, Nat.le_of_ble_eq_true rfl⟩ rfl (jc.deep (r_two_x (RI.u (RI.u (RI.u (RI.u (RI.u hI_M (a := 636) (i := ((2 * f) + v1)) (by rw [xri_row rfl rfl]; show (-9223372036854775808 : Int) ≤ _ ∧ _ ≤ (9223372036854775807 : Int); omega)) (a := 637) (i := ((2 * f) + v1)) (by rw [xri_row rfl rfl]; show (-9223372036854775808 : Int) ≤ _ ∧ _ ≤ (9223372036854775807 : Int); omega)) (a := 634) (i := ((2 * f) + v1)) (by rw [xri_row rfl rfl]; show (0 : Int) ≤ _ ∧ _ ≤ (1 : Int); omega)) (a := 633) (i := ((2 * f) + v1)) (by rw [xri_row rfl rfl]; show (-2147483648 : Int) ≤ _ ∧ _ ≤ (2147483647 : Int); omega)) (a := 632) (i := ((2 * f) + v1)) (by rw [xri_row rfl rfl]; show (0 : Int) ≤ _ ∧ _ ≤ (1 : Int); omega)) (RH.o (RH.o (RH.o (RH.o (RH.o hH_M (by decide) (by decide) (by decide)) (by decide) (by decide) (by decide)) (by decide) (by decide) (by decide)) (by decide) (by decide) (by decide)) (by decide) (by decide) (by decide)) (RF.o (RF.o (RF.o (RF.o (RF.o hS_M (by decide) (by decide)) (by decide) (by decide)) (by decide) (by decide)) (by decide) (by decide)) (by decide) (by decide))  (by omega) (by omega)  (fun r14 z14 w14_0 => ?_)) (by decide))
      refine jr.iast (i := ((2 * f) + v1)) (x := r14) rfl (by decide) rfl (by decide) (by omega) (by omega) ?_
      exact jr.vreturn rfl rfl (q _ (RI.u (RI.u (RI.u (RI.u (RI.u (RI.u hI_M (a := 636) (i := ((2 * f) + v1)) (by rw [xri_row rfl rfl]; show (-9223372036854775808 : Int) ≤ _ ∧ _ ≤ (9223372036854775807 : Int); omega)) (a := 637) (i := ((2 * f) + v1)) (by rw [xri_row rfl rfl]; show (-9223372036854775808 : Int) ≤ _ ∧ _ ≤ (9223372036854775807 : Int); omega)) (a := 634) (i := ((2 * f) + v1)) (by rw [xri_row rfl rfl]; show (0 : Int) ≤ _ ∧ _ ≤ (1 : Int); omega)) (a := 633) (i := ((2 * f) + v1)) (by rw [xri_row rfl rfl]; show (-2147483648 : Int) ≤ _ ∧ _ ≤ (2147483647 : Int); omega)) (a := 632) (i := ((2 * f) + v1)) (by rw [xri_row rfl rfl]; show (0 : Int) ≤ _ ∧ _ ≤ (1 : Int); omega)) (a := 635) (i := ((2 * f) + v1)) (by rw [xri_row rfl rfl]; show (0 : Int) ≤ _ ∧ _ ≤ (65535 : Int); omega)) (RH.o (RH.o (RH.o (RH.o (RH.o (RH.o hH_M (by decide) (by decide) (by decide)) (by decide) (by decide) (by decide)) (by decide) (by decide) (by decide)) (by decide) (by decide) (by decide)) (by decide) (by decide) (by decide)) (by decide) (by decide) (by decide)) (RF.o (RF.o (RF.o (RF.o (RF.o (RF.o hS_M (by decide) (by decide)) (by decide) (by decide)) (by decide) (by decide)) (by decide) (by decide)) (by decide) (by decide)) (by decide) (by decide))  (by rw [e1]; have hc0 : (ju (ju (ju M 636 ((2 * f) + v1) (jl_w (v2 + 1))) 637 ((2 * f) + v1) (jl_w (v4 + v5))) 634 ((2 * f) + v1) 1) = ct0 M x (2 * f + v1) := (by unfold ct0; rw [e2, e4, e5]); have hr3 : rf ((ju (ju (ju M 636 ((2 * f) + v1) (jl_w (v2 + 1))) 637 ((2 * f) + v1) (jl_w (v4 + v5))) 634 ((2 * f) + v1) 1)) x = rf M x := rf_e (fun i => by rw [ju_c _ _ (by decide), ju_c _ _ (by decide), ju_c _ _ (by decide)]); have hE : ctE M x = j_w (j_w r9 + r11) := (by unfold ctE sq6; rw [hea, e8, ← hr3, ← w9_0, ← lg6_e (M1 := (ju (ju (ju M 636 ((2 * f) + v1) (jl_w (v2 + 1))) 637 ((2 * f) + v1) (jl_w (v4 + v5))) 634 ((2 * f) + v1) 1)) x (fun i => by rw [ju_c _ _ (by decide), ju_c _ _ (by decide), ju_c _ _ (by decide)]) (fun i => by rw [ju_c _ _ (by decide), ju_c _ _ (by decide), ju_c _ _ (by decide)]) (fun i => by rw [ju_c _ _ (by decide), ju_c _ _ (by decide), ju_c _ _ (by decide)]) (fun i => by rw [ju_c _ _ (by decide), ju_c _ _ (by decide), ju_c _ _ (by decide)]) (fun i => by rw [ju_c _ _ (by decide), ju_c _ _ (by decide), ju_c _ _ (by decide)]), ← w11_0]); have hW : tw (rf M x) (M 604 (M 598 65) + 14) = r14 := (by rw [hea, e8, ← rf_e (M := M) (M' := (ju (ju (ju (ju (ju M 636 ((2 * f) + v1) (jl_w (v2 + 1))) 637 ((2 * f) + v1) (jl_w (v4 + v5))) 634 ((2 * f) + v1) 1) 633 ((2 * f) + v1) (j_w ((j_w r9) + r11))) 632 ((2 * f) + v1) 1)) (fun i => by rw [ju_c _ _ (by decide), ju_c _ _ (by decide), ju_c _ _ (by decide), ju_c _ _ (by decide), ju_c _ _ (by decide)]), ← w14_0]); exact Or.inr (Or.inr ⟨by rw [e7]; omega, (fun u => by have u1 := u.1; have u2 := u.2; rw [e13] at u1; omega), by rw [hW, hE, hc0]⟩)) (fun a i f632 f633 f634 f635 f636 f637 => ((ju_c _ _ f635).trans ((ju_c _ _ f632).trans ((ju_c _ _ f633).trans ((ju_c _ _ f634).trans ((ju_c _ _ f637).trans ((ju_c _ _ f636).trans rfl))))))))
    · have sx85 : (1 : Int) ≤ v13 := by omega
      refine jr.iload rfl rfl ?_
      refine jr.aload_n rfl rfl ?_
      refine jr.getf (i := 45) (v := .ref 633) rfl rfl (by decide) rfl (by decide) rfl rfl rfl rfl ?_
      refine jr.iload_n rfl rfl ?_
      obtain ⟨v15, e15⟩ : ∃ z, M 633 ((2 * f) + v1) = z := ⟨_, rfl⟩
      have b15 : (-2147483648) ≤ v15 ∧ v15 ≤ 2147483647 := by rw [← e15]; exact (by have q := hI_M 633 ((2 * f) + v1) (by decide); rw [xri_row rfl rfl] at q; exact q)
      refine jr.iald (i := ((2 * f) + v1)) (x := v15) rfl (by decide) rfl (by decide) (by omega) (by omega) ((ju_c _ _ (by decide)).trans ((ju_c _ _ (by decide)).trans ((ju_c _ _ (by decide)).trans e15))) ?_
      refine jr.isub rfl ?_
      refine jr.iw (j_w ((j_w ((j_w r9) + r11)) - v15)) (j_w_eq _) ?_
      have b16 : -2147483648 ≤ j_w ((j_w ((j_w r9) + r11)) - v15) ∧ j_w ((j_w ((j_w r9) + r11)) - v15) ≤ 2147483647 := jb_any _
      refine jr.if_le rfl rfl (by omega) (fun h97 => ?_) (fun h97 => ?_)
      · refine jr.aload_n rfl rfl ?_
        refine jr.getf (i := 44) (v := .ref 632) rfl rfl (by decide) rfl (by decide) rfl rfl rfl rfl ?_
        refine jr.iload_n rfl rfl ?_
        refine jr.iconst rfl ?_
        refine jr.zast (i := ((2 * f) + v1)) (x := 1) rfl (by decide) rfl (by decide) (by omega) (by omega) (j_zn (by omega)) ?_
        refine jr.aload_n rfl rfl ?_
        refine jr.getf (i := 47) (v := .ref 635) rfl rfl (by decide) rfl (by decide) rfl rfl rfl rfl ?_
        refine jr.iload_n rfl rfl ?_
        refine jr.aload_n rfl rfl ?_
        refine jr.iload_n rfl rfl ?_
        refine jr.aload_n rfl rfl ?_
        refine jr.getf (i := 8) (v := .ref 604) rfl rfl (by decide) rfl (by decide) rfl rfl rfl rfl ?_
        refine jr.aload_n rfl rfl ?_
        refine jr.getf (i := 65) (x := ea) (v := .int (Int32.ofInt (ea))) rfl rfl (by decide) rfl (by decide) rfl rfl ((ju_c _ _ (by decide)).trans ((ju_c _ _ (by decide)).trans ((ju_c _ _ (by decide)).trans ((ju_c _ _ (by decide)).trans hea)))) rfl ?_
        refine jr.iald (i := ea) (x := v8) rfl (by decide) rfl (by decide) (by omega) (by omega) ((ju_c _ _ (by decide)).trans ((ju_c _ _ (by decide)).trans ((ju_c _ _ (by decide)).trans ((ju_c _ _ (by decide)).trans e8)))) ?_
        refine jr.bipush rfl (by decide) ?_
        refine jr.iadd rfl ?_
        refine jr_v rfl rfl (Or.inl rfl) rfl rfl (by decide) rfl ⟨rfl, Nat.le_of_ble_eq_true rfl, Nat.le_of_ble_eq_true rfl⟩ rfl (jc.deep (r_two_x (RI.u (RI.u (RI.u (RI.u hI_M (a := 636) (i := ((2 * f) + v1)) (by rw [xri_row rfl rfl]; show (-9223372036854775808 : Int) ≤ _ ∧ _ ≤ (9223372036854775807 : Int); omega)) (a := 637) (i := ((2 * f) + v1)) (by rw [xri_row rfl rfl]; show (-9223372036854775808 : Int) ≤ _ ∧ _ ≤ (9223372036854775807 : Int); omega)) (a := 634) (i := ((2 * f) + v1)) (by rw [xri_row rfl rfl]; show (0 : Int) ≤ _ ∧ _ ≤ (1 : Int); omega)) (a := 632) (i := ((2 * f) + v1)) (by rw [xri_row rfl rfl]; show (0 : Int) ≤ _ ∧ _ ≤ (1 : Int); omega)) (RH.o (RH.o (RH.o (RH.o hH_M (by decide) (by decide) (by decide)) (by decide) (by decide) (by decide)) (by decide) (by decide) (by decide)) (by decide) (by decide) (by decide)) (RF.o (RF.o (RF.o (RF.o hS_M (by decide) (by decide)) (by decide) (by decide)) (by decide) (by decide)) (by decide) (by decide))  (by omega) (by omega)  (fun r17 z17 w17_0 => ?_)) (by decide))
        refine jr.iast (i := ((2 * f) + v1)) (x := r17) rfl (by decide) rfl (by decide) (by omega) (by omega) ?_
        exact jr.vreturn rfl rfl (q _ (RI.u (RI.u (RI.u (RI.u (RI.u hI_M (a := 636) (i := ((2 * f) + v1)) (by rw [xri_row rfl rfl]; show (-9223372036854775808 : Int) ≤ _ ∧ _ ≤ (9223372036854775807 : Int); omega)) (a := 637) (i := ((2 * f) + v1)) (by rw [xri_row rfl rfl]; show (-9223372036854775808 : Int) ≤ _ ∧ _ ≤ (9223372036854775807 : Int); omega)) (a := 634) (i := ((2 * f) + v1)) (by rw [xri_row rfl rfl]; show (0 : Int) ≤ _ ∧ _ ≤ (1 : Int); omega)) (a := 632) (i := ((2 * f) + v1)) (by rw [xri_row rfl rfl]; show (0 : Int) ≤ _ ∧ _ ≤ (1 : Int); omega)) (a := 635) (i := ((2 * f) + v1)) (by rw [xri_row rfl rfl]; show (0 : Int) ≤ _ ∧ _ ≤ (65535 : Int); omega)) (RH.o (RH.o (RH.o (RH.o (RH.o hH_M (by decide) (by decide) (by decide)) (by decide) (by decide) (by decide)) (by decide) (by decide) (by decide)) (by decide) (by decide) (by decide)) (by decide) (by decide) (by decide)) (RF.o (RF.o (RF.o (RF.o (RF.o hS_M (by decide) (by decide)) (by decide) (by decide)) (by decide) (by decide)) (by decide) (by decide)) (by decide) (by decide))  (by rw [e1]; have hc0 : (ju (ju (ju M 636 ((2 * f) + v1) (jl_w (v2 + 1))) 637 ((2 * f) + v1) (jl_w (v4 + v5))) 634 ((2 * f) + v1) 1) = ct0 M x (2 * f + v1) := (by unfold ct0; rw [e2, e4, e5]); have hr3 : rf ((ju (ju (ju M 636 ((2 * f) + v1) (jl_w (v2 + 1))) 637 ((2 * f) + v1) (jl_w (v4 + v5))) 634 ((2 * f) + v1) 1)) x = rf M x := rf_e (fun i => by rw [ju_c _ _ (by decide), ju_c _ _ (by decide), ju_c _ _ (by decide)]); have hE : ctE M x = j_w (j_w r9 + r11) := (by unfold ctE sq6; rw [hea, e8, ← hr3, ← w9_0, ← lg6_e (M1 := (ju (ju (ju M 636 ((2 * f) + v1) (jl_w (v2 + 1))) 637 ((2 * f) + v1) (jl_w (v4 + v5))) 634 ((2 * f) + v1) 1)) x (fun i => by rw [ju_c _ _ (by decide), ju_c _ _ (by decide), ju_c _ _ (by decide)]) (fun i => by rw [ju_c _ _ (by decide), ju_c _ _ (by decide), ju_c _ _ (by decide)]) (fun i => by rw [ju_c _ _ (by decide), ju_c _ _ (by decide), ju_c _ _ (by decide)]) (fun i => by rw [ju_c _ _ (by decide), ju_c _ _ (by decide), ju_c _ _ (by decide)]) (fun i => by rw [ju_c _ _ (by decide), ju_c _ _ (by decide), ju_c _ _ (by decide)]), ← w11_0]); have hW : tw (rf M x) (M 604 (M 598 65) + 14) = r17 := (by rw [hea, e8, ← rf_e (M := M) (M' := (ju (ju (ju (ju M 636 ((2 * f) + v1) (jl_w (v2 + 1))) 637 ((2 * f) + v1) (jl_w (v4 + v5))) 634 ((2 * f) + v1) 1) 632 ((2 * f) + v1) 1)) (fun i => by rw [ju_c _ _ (by decide), ju_c _ _ (by decide), ju_c _ _ (by decide), ju_c _ _ (by decide)]), ← w17_0]); exact Or.inr (Or.inl ⟨by rw [e7]; omega, ⟨by rw [e13]; omega, by rw [hE, e15]; omega⟩, by rw [hW, hc0]⟩)) (fun a i f632 f633 f634 f635 f636 f637 => ((ju_c _ _ f635).trans ((ju_c _ _ f632).trans ((ju_c _ _ f634).trans ((ju_c _ _ f637).trans ((ju_c _ _ f636).trans rfl)))))))
      · refine jr.aload_n rfl rfl ?_
        refine jr.getf (i := 45) (v := .ref 633) rfl rfl (by decide) rfl (by decide) rfl rfl rfl rfl ?_
        refine jr.iload_n rfl rfl ?_
        refine jr.iload rfl rfl ?_
        refine jr.iast (i := ((2 * f) + v1)) (x := (j_w ((j_w r9) + r11))) rfl (by decide) rfl (by decide) (by omega) (by omega) ?_
        refine jr.aload_n rfl rfl ?_
        refine jr.getf (i := 44) (v := .ref 632) rfl rfl (by decide) rfl (by decide) rfl rfl rfl rfl ?_
        refine jr.iload_n rfl rfl ?_
        refine jr.iconst rfl ?_
        refine jr.zast (i := ((2 * f) + v1)) (x := 1) rfl (by decide) rfl (by decide) (by omega) (by omega) (j_zn (by omega)) ?_
        refine jr.aload_n rfl rfl ?_
        refine jr.getf (i := 47) (v := .ref 635) rfl rfl (by decide) rfl (by decide) rfl rfl rfl rfl ?_
        refine jr.iload_n rfl rfl ?_
        refine jr.aload_n rfl rfl ?_
        refine jr.iload_n rfl rfl ?_
        refine jr.aload_n rfl rfl ?_
        refine jr.getf (i := 8) (v := .ref 604) rfl rfl (by decide) rfl (by decide) rfl rfl rfl rfl ?_
        refine jr.aload_n rfl rfl ?_
        refine jr.getf (i := 65) (x := ea) (v := .int (Int32.ofInt (ea))) rfl rfl (by decide) rfl (by decide) rfl rfl ((ju_c _ _ (by decide)).trans ((ju_c _ _ (by decide)).trans ((ju_c _ _ (by decide)).trans ((ju_c _ _ (by decide)).trans ((ju_c _ _ (by decide)).trans hea))))) rfl ?_
        refine jr.iald (i := ea) (x := v8) rfl (by decide) rfl (by decide) (by omega) (by omega) ((ju_c _ _ (by decide)).trans ((ju_c _ _ (by decide)).trans ((ju_c _ _ (by decide)).trans ((ju_c _ _ (by decide)).trans ((ju_c _ _ (by decide)).trans e8))))) ?_
        refine jr.bipush rfl (by decide) ?_
        refine jr.iadd rfl ?_
        refine jr_v rfl rfl (Or.inl rfl) rfl rfl (by decide) rfl ⟨rfl, Nat.le_of_ble_eq_true rfl, Nat.le_of_ble_eq_true rfl⟩ rfl (jc.deep (r_two_x (RI.u (RI.u (RI.u (RI.u (RI.u hI_M (a := 636) (i := ((2 * f) + v1)) (by rw [xri_row rfl rfl]; show (-9223372036854775808 : Int) ≤ _ ∧ _ ≤ (9223372036854775807 : Int); omega)) (a := 637) (i := ((2 * f) + v1)) (by rw [xri_row rfl rfl]; show (-9223372036854775808 : Int) ≤ _ ∧ _ ≤ (9223372036854775807 : Int); omega)) (a := 634) (i := ((2 * f) + v1)) (by rw [xri_row rfl rfl]; show (0 : Int) ≤ _ ∧ _ ≤ (1 : Int); omega)) (a := 633) (i := ((2 * f) + v1)) (by rw [xri_row rfl rfl]; show (-2147483648 : Int) ≤ _ ∧ _ ≤ (2147483647 : Int); omega)) (a := 632) (i := ((2 * f) + v1)) (by rw [xri_row rfl rfl]; show (0 : Int) ≤ _ ∧ _ ≤ (1 : Int); omega)) (RH.o (RH.o (RH.o (RH.o (RH.o hH_M (by decide) (by decide) (by decide)) (by decide) (by decide) (by decide)) (by decide) (by decide) (by decide)) (by decide) (by decide) (by decide)) (by decide) (by decide) (by decide)) (RF.o (RF.o (RF.o (RF.o (RF.o hS_M (by decide) (by decide)) (by decide) (by decide)) (by decide) (by decide)) (by decide) (by decide)) (by decide) (by decide))  (by omega) (by omega)  (fun r18 z18 w18_0 => ?_)) (by decide))
        refine jr.iast (i := ((2 * f) + v1)) (x := r18) rfl (by decide) rfl (by decide) (by omega) (by omega) ?_
        exact jr.vreturn rfl rfl (q _ (RI.u (RI.u (RI.u (RI.u (RI.u (RI.u hI_M (a := 636) (i := ((2 * f) + v1)) (by rw [xri_row rfl rfl]; show (-9223372036854775808 : Int) ≤ _ ∧ _ ≤ (9223372036854775807 : Int); omega)) (a := 637) (i := ((2 * f) + v1)) (by rw [xri_row rfl rfl]; show (-9223372036854775808 : Int) ≤ _ ∧ _ ≤ (9223372036854775807 : Int); omega)) (a := 634) (i := ((2 * f) + v1)) (by rw [xri_row rfl rfl]; show (0 : Int) ≤ _ ∧ _ ≤ (1 : Int); omega)) (a := 633) (i := ((2 * f) + v1)) (by rw [xri_row rfl rfl]; show (-2147483648 : Int) ≤ _ ∧ _ ≤ (2147483647 : Int); omega)) (a := 632) (i := ((2 * f) + v1)) (by rw [xri_row rfl rfl]; show (0 : Int) ≤ _ ∧ _ ≤ (1 : Int); omega)) (a := 635) (i := ((2 * f) + v1)) (by rw [xri_row rfl rfl]; show (0 : Int) ≤ _ ∧ _ ≤ (65535 : Int); omega)) (RH.o (RH.o (RH.o (RH.o (RH.o (RH.o hH_M (by decide) (by decide) (by decide)) (by decide) (by decide) (by decide)) (by decide) (by decide) (by decide)) (by decide) (by decide) (by decide)) (by decide) (by decide) (by decide)) (by decide) (by decide) (by decide)) (RF.o (RF.o (RF.o (RF.o (RF.o (RF.o hS_M (by decide) (by decide)) (by decide) (by decide)) (by decide) (by decide)) (by decide) (by decide)) (by decide) (by decide)) (by decide) (by decide))  (by rw [e1]; have hc0 : (ju (ju (ju M 636 ((2 * f) + v1) (jl_w (v2 + 1))) 637 ((2 * f) + v1) (jl_w (v4 + v5))) 634 ((2 * f) + v1) 1) = ct0 M x (2 * f + v1) := (by unfold ct0; rw [e2, e4, e5]); have hr3 : rf ((ju (ju (ju M 636 ((2 * f) + v1) (jl_w (v2 + 1))) 637 ((2 * f) + v1) (jl_w (v4 + v5))) 634 ((2 * f) + v1) 1)) x = rf M x := rf_e (fun i => by rw [ju_c _ _ (by decide), ju_c _ _ (by decide), ju_c _ _ (by decide)]); have hE : ctE M x = j_w (j_w r9 + r11) := (by unfold ctE sq6; rw [hea, e8, ← hr3, ← w9_0, ← lg6_e (M1 := (ju (ju (ju M 636 ((2 * f) + v1) (jl_w (v2 + 1))) 637 ((2 * f) + v1) (jl_w (v4 + v5))) 634 ((2 * f) + v1) 1)) x (fun i => by rw [ju_c _ _ (by decide), ju_c _ _ (by decide), ju_c _ _ (by decide)]) (fun i => by rw [ju_c _ _ (by decide), ju_c _ _ (by decide), ju_c _ _ (by decide)]) (fun i => by rw [ju_c _ _ (by decide), ju_c _ _ (by decide), ju_c _ _ (by decide)]) (fun i => by rw [ju_c _ _ (by decide), ju_c _ _ (by decide), ju_c _ _ (by decide)]) (fun i => by rw [ju_c _ _ (by decide), ju_c _ _ (by decide), ju_c _ _ (by decide)]), ← w11_0]); have hW : tw (rf M x) (M 604 (M 598 65) + 14) = r18 := (by rw [hea, e8, ← rf_e (M := M) (M' := (ju (ju (ju (ju (ju M 636 ((2 * f) + v1) (jl_w (v2 + 1))) 637 ((2 * f) + v1) (jl_w (v4 + v5))) 634 ((2 * f) + v1) 1) 633 ((2 * f) + v1) (j_w ((j_w r9) + r11))) 632 ((2 * f) + v1) 1)) (fun i => by rw [ju_c _ _ (by decide), ju_c _ _ (by decide), ju_c _ _ (by decide), ju_c _ _ (by decide), ju_c _ _ (by decide)]), ← w18_0]); exact Or.inr (Or.inr ⟨by rw [e7]; omega, (fun u => by have u1 := u.1; have u2 := u.2; rw [e13] at u1; (rw [hE, e15] at u2; omega)), by rw [hW, hE, hc0]⟩)) (fun a i f632 f633 f634 f635 f636 f637 => ((ju_c _ _ f635).trans ((ju_c _ _ f632).trans ((ju_c _ _ f633).trans ((ju_c _ _ f634).trans ((ju_c _ _ f637).trans ((ju_c _ _ f636).trans rfl))))))))
  · exact jr.vreturn rfl rfl (q _ (RI.u (RI.u (RI.u hI_M (a := 636) (i := ((2 * f) + v1)) (by rw [xri_row rfl rfl]; show (-9223372036854775808 : Int) ≤ _ ∧ _ ≤ (9223372036854775807 : Int); omega)) (a := 637) (i := ((2 * f) + v1)) (by rw [xri_row rfl rfl]; show (-9223372036854775808 : Int) ≤ _ ∧ _ ≤ (9223372036854775807 : Int); omega)) (a := 634) (i := ((2 * f) + v1)) (by rw [xri_row rfl rfl]; show (0 : Int) ≤ _ ∧ _ ≤ (1 : Int); omega)) (RH.o (RH.o (RH.o hH_M (by decide) (by decide) (by decide)) (by decide) (by decide) (by decide)) (by decide) (by decide) (by decide)) (RF.o (RF.o (RF.o hS_M (by decide) (by decide)) (by decide) (by decide)) (by decide) (by decide))  (by rw [e1]; have hc0 : (ju (ju (ju M 636 ((2 * f) + v1) (jl_w (v2 + 1))) 637 ((2 * f) + v1) (jl_w (v4 + v5))) 634 ((2 * f) + v1) 1) = ct0 M x (2 * f + v1) := (by unfold ct0; rw [e2, e4, e5]); exact Or.inl ⟨by rw [e7]; omega, hc0⟩) (fun a i f632 f633 f634 f635 f636 f637 => ((ju_c _ _ f634).trans ((ju_c _ _ f637).trans ((ju_c _ _ f636).trans rfl)))))
end
section
/-! ===== the reference: isRelated ===== -/
theorem v7_0 {M : jm} {f : Int → Int} {N C e a r x : Int} (h : HT M f N C) (hx : rf M x = f) (he : 0 ≤ e ∧ e < C) (hk : M 603 e = 7) (ha : M 604 e = a) (hr : r = M 601 (400 * x + a)) (h0 : 0 ≤ r ∧ r ≤ 255) : vA f N C e 0 = r := by
  have hh := HT.f h he
  rw [vA_k he (show hX f N e = 7 by omega) (by decide +kernel), vof_7_0, nbs_1, Int.add_zero, ← hh.2.1, ha, ← hx, rf_a, ← hr]
  omega
theorem qf_n {M : jm} {f : Int → Int} {N C e : Int} (h : HT M f N C) (he : 0 ≤ e ∧ e < C) (hn : M 603 e ≠ 7 ∨ (vA f N C e 0 ≠ 3 ∧ vA f N C e 0 ≠ 11) ∨ C ≤ e + 2 ∨ (M 603 (e + 1) ≠ 2 ∧ M 603 (e + 1) ≠ 3) ∨ (M 603 (e + 2) < 7 ∨ 9 < M 603 (e + 2))) : ¬ qfF f N C e := by
  intro q
  obtain ⟨q1, q2, q3, q4⟩ := q
  have hh := HT.f h he
  rw [kA_i he] at q1
  have z2 := kA_in (f := f) (N := N) (C := C) (x := e + 2) (by omega)
  have z1 : 0 ≤ e + 1 ∧ e + 1 < C := by omega
  have h1 := HT.f h z1
  have h2 := HT.f h z2
  rw [kA_i z1] at q3
  rw [kA_i z2] at q4
  omega
theorem qf_y {M : jm} {f : Int → Int} {N C e : Int} (h : HT M f N C) (he : 0 ≤ e ∧ e + 2 < C) (h1 : M 603 e = 7) (h2 : vA f N C e 0 = 3 ∨ vA f N C e 0 = 11) (h3 : M 603 (e + 1) = 2 ∨ M 603 (e + 1) = 3) (h4 : 7 ≤ M 603 (e + 2) ∧ M 603 (e + 2) ≤ 9) : qfF f N C e := by
  have a0 := HT.f h (show 0 ≤ e ∧ e < C by omega)
  have a1 := HT.f h (show 0 ≤ e + 1 ∧ e + 1 < C by omega)
  have a2 := HT.f h (show 0 ≤ e + 2 ∧ e + 2 < C by omega)
  refine ⟨?_, h2, ?_, ?_⟩
  · rw [kA_i (show 0 ≤ e ∧ e < C by omega)]; omega
  · rw [kA_i (show 0 ≤ e + 1 ∧ e + 1 < C by omega)]; omega
  · rw [kA_i (show 0 ≤ e + 2 ∧ e + 2 < C by omega)]; omega
theorem r_isRelated_x {A : Nat → Option (Nat × (Nat → Int32))} {Q : Option Value → jm → Prop} {f : Int → Int} {N C : Int} {M : jm} (hI_M : RI M) (hH_M : RH M) (hS_M : RF M) {x : Int} (h_x : 0 ≤ x ∧ x ≤ 23) (p0 : RE M) (p1 : HT M f N C) (p2 : rf M x = f) (q : ∀ (r : Int) (M' : jm), RI M' → RH M' → RF M' → 0 ≤ r ∧ r ≤ 1 → RE M' → ((r = 0 ∧ ¬ qfF f N C (M 598 65) ∧ M' = M) ∨ (r = 1 ∧ qfF f N C (M 598 65) ∧ EN6 M' f N C (M 598 65 + 1) (M 598 65 + 2))) → (∀ (a : Nat) (i : Int), a ≠ 598 → M' a i = M a i) → (∀ (i : Int), i ≠ 59 → i ≠ 60 → i ≠ 61 → i ≠ 62 → i ≠ 63 → i ≠ 64 → i ≠ 65 → M' 598 i = M 598 i) → Q (some (.int (Int32.ofInt r))) M') : jc A 7 305 [.ref (598), .int (Int32.ofInt (x))] M Q := by
  have p0' := p0
  obtain ⟨re1, re2, re3, re4, re5, tt, rt0, rt1, rt2⟩ := p0
  obtain ⟨ea, hea⟩ : ∃ z, M 598 65 = z := ⟨_, rfl⟩
  rw [hea] at re1 re2 re3 re4
  have rc := RH.car hH_M ea
  have b65 : M 598 6 ≤ 12 := (hI_M 598 6 (by decide)).2
  have rt := RH.two hH_M (ea + 1)
  have rd := RH.car hH_M (ea + 2)
  have hC6 := p1.1
  refine jc_of (m := xm_305) rfl (Nat.le_of_ble_eq_true rfl) rfl ?_
  refine jr.aload_n rfl rfl ?_
  refine jr.getf (i := 65) (x := ea) (v := .int (Int32.ofInt (ea))) rfl rfl (by decide) rfl (by decide) rfl rfl hea rfl ?_
  refine jr.istore_n rfl (by decide) rfl ?_
  refine jr.aload_n rfl rfl ?_
  refine jr.getf (i := 7) (v := .ref 603) rfl rfl (by decide) rfl (by decide) rfl rfl rfl rfl ?_
  refine jr.iload_n rfl rfl ?_
  obtain ⟨v1, e1⟩ : ∃ z, M 603 ea = z := ⟨_, rfl⟩
  have b1 : 0 ≤ v1 ∧ v1 ≤ 11 := by rw [← e1]; exact (by have q := hI_M 603 ea (by decide); rw [xri_row rfl rfl] at q; exact q)
  refine jr.iald (i := ea) (x := v1) rfl (by decide) rfl (by decide) (by omega) (by omega) e1 ?_
  refine jr.bipush rfl (by decide) ?_
  refine jr.icmp_ne rfl rfl (by omega) (by omega) (fun h13 => ?_) (fun h13 => ?_)
  · refine jr.iconst rfl ?_
    exact jr.ireturn rfl rfl rfl (q _ _ hI_M hH_M hS_M  (by omega) p0' (Or.inl ⟨rfl, (by rw [hea]; have h6 := p1.1; first | (exact qf_n p1 (by omega) (Or.inl (by omega))) | (exact qf_n p1 (by omega) (by omega))), rfl⟩) (fun a i f598 => rfl) (fun i g59 g60 g61 g62 g63 g64 g65 => rfl))
  · refine jr.aload_n rfl rfl ?_
    refine jr.iload_n rfl rfl ?_
    refine jr.aload_n rfl rfl ?_
    refine jr.getf (i := 8) (v := .ref 604) rfl rfl (by decide) rfl (by decide) rfl rfl rfl rfl ?_
    refine jr.iload_n rfl rfl ?_
    obtain ⟨v2, e2⟩ : ∃ z, M 604 ea = z := ⟨_, rfl⟩
    have b2 : 0 ≤ v2 ∧ v2 ≤ 400 := by rw [← e2]; exact (by have q := hI_M 604 ea (by decide); rw [xri_row rfl rfl] at q; exact q)
    refine jr.iald (i := ea) (x := v2) rfl (by decide) rfl (by decide) (by omega) (by omega) e2 ?_
    refine jr_v rfl rfl (Or.inl rfl) rfl rfl (by decide) rfl ⟨rfl, Nat.le_of_ble_eq_true rfl, Nat.le_of_ble_eq_true rfl⟩ rfl (jc.deep (r_one hI_M hH_M hS_M (Kp.rfl _) (by omega) (by omega)  (fun r3 z3 w3_0 => ?_)) (by decide))
    refine jr.iconst rfl ?_
    refine jr.icmp_eq rfl rfl (by omega) (by omega) (fun h28 => ?_) (fun h28 => ?_)
    · refine jr.iload_n rfl rfl ?_
      refine jr.iconst rfl ?_
      refine jr.iadd rfl ?_
      refine jr.aload_n rfl rfl ?_
      obtain ⟨v4, e4⟩ : ∃ z, M 598 6 = z := ⟨_, rfl⟩
      have b4 : 0 ≤ v4 ∧ v4 ≤ 12 := by rw [← e4]; exact hI_M 598 6 (by decide)
      refine jr.getf (i := 6) (x := v4) (v := .int (Int32.ofInt (v4))) rfl rfl (by decide) rfl (by decide) rfl rfl e4 rfl ?_
      refine jr.icmp_ge rfl rfl (by omega) (by omega) (fun h56 => ?_) (fun h56 => ?_)
      · refine jr.iconst rfl ?_
        refine jr.istore_n rfl (by decide) rfl ?_
        refine jr.iload_n rfl rfl ?_
        refine jr.if_eq rfl rfl (by omega) (fun _ => ?_) (fun h => absurd (by decide) h)
        refine jr.iload_n rfl rfl ?_
        exact jr.ireturn rfl rfl rfl (q _ _ hI_M hH_M hS_M  (by omega) p0' (Or.inl ⟨rfl, (by rw [hea]; have h6 := p1.1; first | (exact qf_n p1 (by omega) (Or.inl (by omega))) | (have vv := v7_0 p1 p2 (e := ea) (by omega) (by omega) e2 w3_0 (by omega); exact qf_n p1 (by omega) (by omega)) | (exact qf_n p1 (by omega) (by omega))), rfl⟩) (fun a i f598 => rfl) (fun i g59 g60 g61 g62 g63 g64 g65 => rfl))
      · refine jr.aload_n rfl rfl ?_
        refine jr.getf (i := 7) (v := .ref 603) rfl rfl (by decide) rfl (by decide) rfl rfl rfl rfl ?_
        refine jr.iload_n rfl rfl ?_
        refine jr.iconst rfl ?_
        refine jr.iadd rfl ?_
        obtain ⟨v5, e5⟩ : ∃ z, M 603 (ea + 1) = z := ⟨_, rfl⟩
        have b5 : 0 ≤ v5 ∧ v5 ≤ 11 := by rw [← e5]; exact (by have q := hI_M 603 (ea + 1) (by decide); rw [xri_row rfl rfl] at q; exact q)
        refine jr.iald (i := (ea + 1)) (x := v5) rfl (by decide) rfl (by decide) (by omega) (by omega) e5 ?_
        refine jr.iconst rfl ?_
        refine jr.icmp_eq rfl rfl (by omega) (by omega) (fun h68 => ?_) (fun h68 => ?_)
        · refine jr.aload_n rfl rfl ?_
          refine jr.getf (i := 7) (v := .ref 603) rfl rfl (by decide) rfl (by decide) rfl rfl rfl rfl ?_
          refine jr.iload_n rfl rfl ?_
          refine jr.iconst rfl ?_
          refine jr.iadd rfl ?_
          obtain ⟨v6, e6⟩ : ∃ z, M 603 (ea + 2) = z := ⟨_, rfl⟩
          have b6 : 0 ≤ v6 ∧ v6 ≤ 11 := by rw [← e6]; exact (by have q := hI_M 603 (ea + 2) (by decide); rw [xri_row rfl rfl] at q; exact q)
          refine jr.iald (i := (ea + 2)) (x := v6) rfl (by decide) rfl (by decide) (by omega) (by omega) e6 ?_
          refine jr_s rfl rfl (Or.inl rfl) ⟨Nat.le_of_ble_eq_true rfl, Nat.le_of_ble_eq_true rfl⟩ rfl rfl (jc.deep (c_isCarried (by omega) (fun c91 => ?_) (fun c91 => ?_)) (by decide))
          · refine jr.if_eq rfl rfl (by omega) (fun h => absurd h (by decide)) (fun _ => ?_)
            refine jr.iconst rfl ?_
            refine jr.goto rfl rfl ?_
            refine jr.istore_n rfl (by decide) rfl ?_
            refine jr.iload_n rfl rfl ?_
            refine jr.if_eq rfl rfl (by omega) (fun h => absurd h (by decide)) (fun _ => ?_)
            refine jr.aload_n rfl rfl ?_
            refine jr.iload_n rfl rfl ?_
            refine jr.iload_n rfl rfl ?_
            refine jr.iconst rfl ?_
            refine jr.iadd rfl ?_
            refine jr.iload_n rfl rfl ?_
            refine jr.iconst rfl ?_
            refine jr.iadd rfl ?_
            obtain ⟨v8, e8⟩ : ∃ z, M 604 (ea + 1) = z := ⟨_, rfl⟩
            have b8 : 0 ≤ v8 ∧ v8 ≤ 400 := by rw [← e8]; exact (by have q := hI_M 604 (ea + 1) (by decide); rw [xri_row rfl rfl] at q; exact q)
            obtain ⟨v9, e9⟩ : ∃ z, M 604 (ea + 2) = z := ⟨_, rfl⟩
            have b9 : 0 ≤ v9 ∧ v9 ≤ 400 := by rw [← e9]; exact (by have q := hI_M 604 (ea + 2) (by decide); rw [xri_row rfl rfl] at q; exact q)
            refine jr_v rfl rfl (Or.inl rfl) rfl rfl (by decide) rfl ⟨rfl, Nat.le_of_ble_eq_true rfl, Nat.le_of_ble_eq_true rfl⟩ rfl (jc.deep (r_takeEnds_x hI_M hH_M hS_M  (by omega) (by omega) (by omega) (by rw [e5, e8]; omega) (by rw [e6]; omega) (by rw [e9]; omega) p1 p2 ⟨⟨by omega, by omega⟩, ⟨by omega, by omega⟩⟩ (fun M7 hI_M7 hH_M7 hS_M7  w7_0 w7_1 w7_2 w7_3 w7_4 w7_5 => ?_)) (by decide))
            refine jr.iload_n rfl rfl ?_
            have e10 : M7 598 6 = v4 := ((w7_5 6 (by decide) (by decide) (by decide) (by decide) (by decide) (by decide) (by decide)).trans e4)
            have e11 : M7 603 (ea + 2) = v6 := ((w7_4 603 (ea + 2) (by decide)).trans e6)
            obtain ⟨v12, e12⟩ : ∃ z, M 603 tt = z := ⟨_, rfl⟩
            have b12 : 0 ≤ v12 ∧ v12 ≤ 11 := by rw [← e12]; exact (by have q := hI_M 603 tt (by decide); rw [xri_row rfl rfl] at q; exact q)
            have e13 : M7 603 tt = v12 := ((w7_4 603 tt (by decide)).trans e12)
            exact jr.ireturn rfl rfl rfl (q _ _ hI_M7 hH_M7 hS_M7  (by omega) (RE.mk' w7_0 (by omega) (by rw [e10]; omega) (by rw [e11]; omega) (fun q => by rw [e11]; have z := w7_1 q; omega) w7_2 (t := tt) (by omega) (by rw [e10]; omega) (by rw [e13]; omega)) (Or.inr ⟨rfl, (by rw [hea]; have h6 := p1.1; have vv := v7_0 p1 p2 (e := ea) (by omega) (by omega) e2 w3_0 (by omega); exact qf_y p1 (by omega) (by omega) (by omega) (by omega) (by omega)), (by rw [hea]; have h6 := p1.1; exact EN6.m p1 (by omega) (by omega) w7_3 w7_0)⟩) (fun a i f598 => ((w7_4 a i f598).trans rfl)) (fun i g59 g60 g61 g62 g63 g64 g65 => ((w7_5 i g59 g60 g61 g62 g63 g64 g65).trans rfl)))
          · refine jr.if_eq rfl rfl (by omega) (fun _ => ?_) (fun h => absurd (by decide) h)
            refine jr.iconst rfl ?_
            refine jr.istore_n rfl (by decide) rfl ?_
            refine jr.iload_n rfl rfl ?_
            refine jr.if_eq rfl rfl (by omega) (fun _ => ?_) (fun h => absurd (by decide) h)
            refine jr.iload_n rfl rfl ?_
            exact jr.ireturn rfl rfl rfl (q _ _ hI_M hH_M hS_M  (by omega) p0' (Or.inl ⟨rfl, (by rw [hea]; have h6 := p1.1; first | (exact qf_n p1 (by omega) (Or.inl (by omega))) | (have vv := v7_0 p1 p2 (e := ea) (by omega) (by omega) e2 w3_0 (by omega); exact qf_n p1 (by omega) (by omega)) | (exact qf_n p1 (by omega) (by omega))), rfl⟩) (fun a i f598 => rfl) (fun i g59 g60 g61 g62 g63 g64 g65 => rfl))
        · refine jr.aload_n rfl rfl ?_
          refine jr.getf (i := 7) (v := .ref 603) rfl rfl (by decide) rfl (by decide) rfl rfl rfl rfl ?_
          refine jr.iload_n rfl rfl ?_
          refine jr.iconst rfl ?_
          refine jr.iadd rfl ?_
          refine jr.iald (i := (ea + 1)) (x := v5) rfl (by decide) rfl (by decide) (by omega) (by omega) e5 ?_
          refine jr.iconst rfl ?_
          refine jr.icmp_ne rfl rfl (by omega) (by omega) (fun h80 => ?_) (fun h80 => ?_)
          · refine jr.iconst rfl ?_
            refine jr.istore_n rfl (by decide) rfl ?_
            refine jr.iload_n rfl rfl ?_
            refine jr.if_eq rfl rfl (by omega) (fun _ => ?_) (fun h => absurd (by decide) h)
            refine jr.iload_n rfl rfl ?_
            exact jr.ireturn rfl rfl rfl (q _ _ hI_M hH_M hS_M  (by omega) p0' (Or.inl ⟨rfl, (by rw [hea]; have h6 := p1.1; first | (exact qf_n p1 (by omega) (Or.inl (by omega))) | (have vv := v7_0 p1 p2 (e := ea) (by omega) (by omega) e2 w3_0 (by omega); exact qf_n p1 (by omega) (by omega)) | (exact qf_n p1 (by omega) (by omega))), rfl⟩) (fun a i f598 => rfl) (fun i g59 g60 g61 g62 g63 g64 g65 => rfl))
          · refine jr.aload_n rfl rfl ?_
            refine jr.getf (i := 7) (v := .ref 603) rfl rfl (by decide) rfl (by decide) rfl rfl rfl rfl ?_
            refine jr.iload_n rfl rfl ?_
            refine jr.iconst rfl ?_
            refine jr.iadd rfl ?_
            obtain ⟨v14, e14⟩ : ∃ z, M 603 (ea + 2) = z := ⟨_, rfl⟩
            have b14 : 0 ≤ v14 ∧ v14 ≤ 11 := by rw [← e14]; exact (by have q := hI_M 603 (ea + 2) (by decide); rw [xri_row rfl rfl] at q; exact q)
            refine jr.iald (i := (ea + 2)) (x := v14) rfl (by decide) rfl (by decide) (by omega) (by omega) e14 ?_
            refine jr_s rfl rfl (Or.inl rfl) ⟨Nat.le_of_ble_eq_true rfl, Nat.le_of_ble_eq_true rfl⟩ rfl rfl (jc.deep (c_isCarried (by omega) (fun c91 => ?_) (fun c91 => ?_)) (by decide))
            · refine jr.if_eq rfl rfl (by omega) (fun h => absurd h (by decide)) (fun _ => ?_)
              refine jr.iconst rfl ?_
              refine jr.goto rfl rfl ?_
              refine jr.istore_n rfl (by decide) rfl ?_
              refine jr.iload_n rfl rfl ?_
              refine jr.if_eq rfl rfl (by omega) (fun h => absurd h (by decide)) (fun _ => ?_)
              refine jr.aload_n rfl rfl ?_
              refine jr.iload_n rfl rfl ?_
              refine jr.iload_n rfl rfl ?_
              refine jr.iconst rfl ?_
              refine jr.iadd rfl ?_
              refine jr.iload_n rfl rfl ?_
              refine jr.iconst rfl ?_
              refine jr.iadd rfl ?_
              obtain ⟨v16, e16⟩ : ∃ z, M 604 (ea + 1) = z := ⟨_, rfl⟩
              have b16 : 0 ≤ v16 ∧ v16 ≤ 400 := by rw [← e16]; exact (by have q := hI_M 604 (ea + 1) (by decide); rw [xri_row rfl rfl] at q; exact q)
              obtain ⟨v17, e17⟩ : ∃ z, M 604 (ea + 2) = z := ⟨_, rfl⟩
              have b17 : 0 ≤ v17 ∧ v17 ≤ 400 := by rw [← e17]; exact (by have q := hI_M 604 (ea + 2) (by decide); rw [xri_row rfl rfl] at q; exact q)
              refine jr_v rfl rfl (Or.inl rfl) rfl rfl (by decide) rfl ⟨rfl, Nat.le_of_ble_eq_true rfl, Nat.le_of_ble_eq_true rfl⟩ rfl (jc.deep (r_takeEnds_x hI_M hH_M hS_M  (by omega) (by omega) (by omega) (by rw [e5, e16]; omega) (by rw [e14]; omega) (by rw [e17]; omega) p1 p2 ⟨⟨by omega, by omega⟩, ⟨by omega, by omega⟩⟩ (fun M15 hI_M15 hH_M15 hS_M15  w15_0 w15_1 w15_2 w15_3 w15_4 w15_5 => ?_)) (by decide))
              refine jr.iload_n rfl rfl ?_
              have e18 : M15 598 6 = v4 := ((w15_5 6 (by decide) (by decide) (by decide) (by decide) (by decide) (by decide) (by decide)).trans e4)
              have e19 : M15 603 (ea + 2) = v14 := ((w15_4 603 (ea + 2) (by decide)).trans e14)
              obtain ⟨v20, e20⟩ : ∃ z, M 603 tt = z := ⟨_, rfl⟩
              have b20 : 0 ≤ v20 ∧ v20 ≤ 11 := by rw [← e20]; exact (by have q := hI_M 603 tt (by decide); rw [xri_row rfl rfl] at q; exact q)
              have e21 : M15 603 tt = v20 := ((w15_4 603 tt (by decide)).trans e20)
              exact jr.ireturn rfl rfl rfl (q _ _ hI_M15 hH_M15 hS_M15  (by omega) (RE.mk' w15_0 (by omega) (by rw [e18]; omega) (by rw [e19]; omega) (fun q => by rw [e19]; have z := w15_1 q; omega) w15_2 (t := tt) (by omega) (by rw [e18]; omega) (by rw [e21]; omega)) (Or.inr ⟨rfl, (by rw [hea]; have h6 := p1.1; have vv := v7_0 p1 p2 (e := ea) (by omega) (by omega) e2 w3_0 (by omega); exact qf_y p1 (by omega) (by omega) (by omega) (by omega) (by omega)), (by rw [hea]; have h6 := p1.1; exact EN6.m p1 (by omega) (by omega) w15_3 w15_0)⟩) (fun a i f598 => ((w15_4 a i f598).trans rfl)) (fun i g59 g60 g61 g62 g63 g64 g65 => ((w15_5 i g59 g60 g61 g62 g63 g64 g65).trans rfl)))
            · refine jr.if_eq rfl rfl (by omega) (fun _ => ?_) (fun h => absurd (by decide) h)
              refine jr.iconst rfl ?_
              refine jr.istore_n rfl (by decide) rfl ?_
              refine jr.iload_n rfl rfl ?_
              refine jr.if_eq rfl rfl (by omega) (fun _ => ?_) (fun h => absurd (by decide) h)
              refine jr.iload_n rfl rfl ?_
              exact jr.ireturn rfl rfl rfl (q _ _ hI_M hH_M hS_M  (by omega) p0' (Or.inl ⟨rfl, (by rw [hea]; have h6 := p1.1; first | (exact qf_n p1 (by omega) (Or.inl (by omega))) | (have vv := v7_0 p1 p2 (e := ea) (by omega) (by omega) e2 w3_0 (by omega); exact qf_n p1 (by omega) (by omega)) | (exact qf_n p1 (by omega) (by omega))), rfl⟩) (fun a i f598 => rfl) (fun i g59 g60 g61 g62 g63 g64 g65 => rfl))
    · refine jr.aload_n rfl rfl ?_
      refine jr.iload_n rfl rfl ?_
      refine jr.aload_n rfl rfl ?_
      refine jr.getf (i := 8) (v := .ref 604) rfl rfl (by decide) rfl (by decide) rfl rfl rfl rfl ?_
      refine jr.iload_n rfl rfl ?_
      refine jr.iald (i := ea) (x := v2) rfl (by decide) rfl (by decide) (by omega) (by omega) e2 ?_
      refine jr_v rfl rfl (Or.inl rfl) rfl rfl (by decide) rfl ⟨rfl, Nat.le_of_ble_eq_true rfl, Nat.le_of_ble_eq_true rfl⟩ rfl (jc.deep (r_one hI_M hH_M hS_M (Kp.rfl _) (by omega) (by omega)  (fun r22 z22 w22_0 => ?_)) (by decide))
      refine jr.bipush rfl (by decide) ?_
      refine jr.icmp_eq rfl rfl (by omega) (by omega) (fun h44 => ?_) (fun h44 => ?_)
      · refine jr.iload_n rfl rfl ?_
        refine jr.iconst rfl ?_
        refine jr.iadd rfl ?_
        refine jr.aload_n rfl rfl ?_
        obtain ⟨v23, e23⟩ : ∃ z, M 598 6 = z := ⟨_, rfl⟩
        have b23 : 0 ≤ v23 ∧ v23 ≤ 12 := by rw [← e23]; exact hI_M 598 6 (by decide)
        refine jr.getf (i := 6) (x := v23) (v := .int (Int32.ofInt (v23))) rfl rfl (by decide) rfl (by decide) rfl rfl e23 rfl ?_
        refine jr.icmp_ge rfl rfl (by omega) (by omega) (fun h56 => ?_) (fun h56 => ?_)
        · refine jr.iconst rfl ?_
          refine jr.istore_n rfl (by decide) rfl ?_
          refine jr.iload_n rfl rfl ?_
          refine jr.if_eq rfl rfl (by omega) (fun _ => ?_) (fun h => absurd (by decide) h)
          refine jr.iload_n rfl rfl ?_
          exact jr.ireturn rfl rfl rfl (q _ _ hI_M hH_M hS_M  (by omega) p0' (Or.inl ⟨rfl, (by rw [hea]; have h6 := p1.1; first | (exact qf_n p1 (by omega) (Or.inl (by omega))) | (have vv := v7_0 p1 p2 (e := ea) (by omega) (by omega) e2 w22_0 (by omega); exact qf_n p1 (by omega) (by omega)) | (exact qf_n p1 (by omega) (by omega))), rfl⟩) (fun a i f598 => rfl) (fun i g59 g60 g61 g62 g63 g64 g65 => rfl))
        · refine jr.aload_n rfl rfl ?_
          refine jr.getf (i := 7) (v := .ref 603) rfl rfl (by decide) rfl (by decide) rfl rfl rfl rfl ?_
          refine jr.iload_n rfl rfl ?_
          refine jr.iconst rfl ?_
          refine jr.iadd rfl ?_
          obtain ⟨v24, e24⟩ : ∃ z, M 603 (ea + 1) = z := ⟨_, rfl⟩
          have b24 : 0 ≤ v24 ∧ v24 ≤ 11 := by rw [← e24]; exact (by have q := hI_M 603 (ea + 1) (by decide); rw [xri_row rfl rfl] at q; exact q)
          refine jr.iald (i := (ea + 1)) (x := v24) rfl (by decide) rfl (by decide) (by omega) (by omega) e24 ?_
          refine jr.iconst rfl ?_
          refine jr.icmp_eq rfl rfl (by omega) (by omega) (fun h68 => ?_) (fun h68 => ?_)
          · refine jr.aload_n rfl rfl ?_
            refine jr.getf (i := 7) (v := .ref 603) rfl rfl (by decide) rfl (by decide) rfl rfl rfl rfl ?_
            refine jr.iload_n rfl rfl ?_
            refine jr.iconst rfl ?_
            refine jr.iadd rfl ?_
            obtain ⟨v25, e25⟩ : ∃ z, M 603 (ea + 2) = z := ⟨_, rfl⟩
            have b25 : 0 ≤ v25 ∧ v25 ≤ 11 := by rw [← e25]; exact (by have q := hI_M 603 (ea + 2) (by decide); rw [xri_row rfl rfl] at q; exact q)
            refine jr.iald (i := (ea + 2)) (x := v25) rfl (by decide) rfl (by decide) (by omega) (by omega) e25 ?_
            refine jr_s rfl rfl (Or.inl rfl) ⟨Nat.le_of_ble_eq_true rfl, Nat.le_of_ble_eq_true rfl⟩ rfl rfl (jc.deep (c_isCarried (by omega) (fun c91 => ?_) (fun c91 => ?_)) (by decide))
            · refine jr.if_eq rfl rfl (by omega) (fun h => absurd h (by decide)) (fun _ => ?_)
              refine jr.iconst rfl ?_
              refine jr.goto rfl rfl ?_
              refine jr.istore_n rfl (by decide) rfl ?_
              refine jr.iload_n rfl rfl ?_
              refine jr.if_eq rfl rfl (by omega) (fun h => absurd h (by decide)) (fun _ => ?_)
              refine jr.aload_n rfl rfl ?_
              refine jr.iload_n rfl rfl ?_
              refine jr.iload_n rfl rfl ?_
              refine jr.iconst rfl ?_
              refine jr.iadd rfl ?_
              refine jr.iload_n rfl rfl ?_
              refine jr.iconst rfl ?_
              refine jr.iadd rfl ?_
              obtain ⟨v27, e27⟩ : ∃ z, M 604 (ea + 1) = z := ⟨_, rfl⟩
              have b27 : 0 ≤ v27 ∧ v27 ≤ 400 := by rw [← e27]; exact (by have q := hI_M 604 (ea + 1) (by decide); rw [xri_row rfl rfl] at q; exact q)
              obtain ⟨v28, e28⟩ : ∃ z, M 604 (ea + 2) = z := ⟨_, rfl⟩
              have b28 : 0 ≤ v28 ∧ v28 ≤ 400 := by rw [← e28]; exact (by have q := hI_M 604 (ea + 2) (by decide); rw [xri_row rfl rfl] at q; exact q)
              refine jr_v rfl rfl (Or.inl rfl) rfl rfl (by decide) rfl ⟨rfl, Nat.le_of_ble_eq_true rfl, Nat.le_of_ble_eq_true rfl⟩ rfl (jc.deep (r_takeEnds_x hI_M hH_M hS_M  (by omega) (by omega) (by omega) (by rw [e24, e27]; omega) (by rw [e25]; omega) (by rw [e28]; omega) p1 p2 ⟨⟨by omega, by omega⟩, ⟨by omega, by omega⟩⟩ (fun M26 hI_M26 hH_M26 hS_M26  w26_0 w26_1 w26_2 w26_3 w26_4 w26_5 => ?_)) (by decide))
              refine jr.iload_n rfl rfl ?_
              have e29 : M26 598 6 = v23 := ((w26_5 6 (by decide) (by decide) (by decide) (by decide) (by decide) (by decide) (by decide)).trans e23)
              have e30 : M26 603 (ea + 2) = v25 := ((w26_4 603 (ea + 2) (by decide)).trans e25)
              obtain ⟨v31, e31⟩ : ∃ z, M 603 tt = z := ⟨_, rfl⟩
              have b31 : 0 ≤ v31 ∧ v31 ≤ 11 := by rw [← e31]; exact (by have q := hI_M 603 tt (by decide); rw [xri_row rfl rfl] at q; exact q)
              have e32 : M26 603 tt = v31 := ((w26_4 603 tt (by decide)).trans e31)
              exact jr.ireturn rfl rfl rfl (q _ _ hI_M26 hH_M26 hS_M26  (by omega) (RE.mk' w26_0 (by omega) (by rw [e29]; omega) (by rw [e30]; omega) (fun q => by rw [e30]; have z := w26_1 q; omega) w26_2 (t := tt) (by omega) (by rw [e29]; omega) (by rw [e32]; omega)) (Or.inr ⟨rfl, (by rw [hea]; have h6 := p1.1; have vv := v7_0 p1 p2 (e := ea) (by omega) (by omega) e2 w22_0 (by omega); exact qf_y p1 (by omega) (by omega) (by omega) (by omega) (by omega)), (by rw [hea]; have h6 := p1.1; exact EN6.m p1 (by omega) (by omega) w26_3 w26_0)⟩) (fun a i f598 => ((w26_4 a i f598).trans rfl)) (fun i g59 g60 g61 g62 g63 g64 g65 => ((w26_5 i g59 g60 g61 g62 g63 g64 g65).trans rfl)))
            · refine jr.if_eq rfl rfl (by omega) (fun _ => ?_) (fun h => absurd (by decide) h)
              refine jr.iconst rfl ?_
              refine jr.istore_n rfl (by decide) rfl ?_
              refine jr.iload_n rfl rfl ?_
              refine jr.if_eq rfl rfl (by omega) (fun _ => ?_) (fun h => absurd (by decide) h)
              refine jr.iload_n rfl rfl ?_
              exact jr.ireturn rfl rfl rfl (q _ _ hI_M hH_M hS_M  (by omega) p0' (Or.inl ⟨rfl, (by rw [hea]; have h6 := p1.1; first | (exact qf_n p1 (by omega) (Or.inl (by omega))) | (have vv := v7_0 p1 p2 (e := ea) (by omega) (by omega) e2 w22_0 (by omega); exact qf_n p1 (by omega) (by omega)) | (exact qf_n p1 (by omega) (by omega))), rfl⟩) (fun a i f598 => rfl) (fun i g59 g60 g61 g62 g63 g64 g65 => rfl))
          · refine jr.aload_n rfl rfl ?_
            refine jr.getf (i := 7) (v := .ref 603) rfl rfl (by decide) rfl (by decide) rfl rfl rfl rfl ?_
            refine jr.iload_n rfl rfl ?_
            refine jr.iconst rfl ?_
            refine jr.iadd rfl ?_
            refine jr.iald (i := (ea + 1)) (x := v24) rfl (by decide) rfl (by decide) (by omega) (by omega) e24 ?_
            refine jr.iconst rfl ?_
            refine jr.icmp_ne rfl rfl (by omega) (by omega) (fun h80 => ?_) (fun h80 => ?_)
            · refine jr.iconst rfl ?_
              refine jr.istore_n rfl (by decide) rfl ?_
              refine jr.iload_n rfl rfl ?_
              refine jr.if_eq rfl rfl (by omega) (fun _ => ?_) (fun h => absurd (by decide) h)
              refine jr.iload_n rfl rfl ?_
              exact jr.ireturn rfl rfl rfl (q _ _ hI_M hH_M hS_M  (by omega) p0' (Or.inl ⟨rfl, (by rw [hea]; have h6 := p1.1; first | (exact qf_n p1 (by omega) (Or.inl (by omega))) | (have vv := v7_0 p1 p2 (e := ea) (by omega) (by omega) e2 w22_0 (by omega); exact qf_n p1 (by omega) (by omega)) | (exact qf_n p1 (by omega) (by omega))), rfl⟩) (fun a i f598 => rfl) (fun i g59 g60 g61 g62 g63 g64 g65 => rfl))
            · refine jr.aload_n rfl rfl ?_
              refine jr.getf (i := 7) (v := .ref 603) rfl rfl (by decide) rfl (by decide) rfl rfl rfl rfl ?_
              refine jr.iload_n rfl rfl ?_
              refine jr.iconst rfl ?_
              refine jr.iadd rfl ?_
              obtain ⟨v33, e33⟩ : ∃ z, M 603 (ea + 2) = z := ⟨_, rfl⟩
              have b33 : 0 ≤ v33 ∧ v33 ≤ 11 := by rw [← e33]; exact (by have q := hI_M 603 (ea + 2) (by decide); rw [xri_row rfl rfl] at q; exact q)
              refine jr.iald (i := (ea + 2)) (x := v33) rfl (by decide) rfl (by decide) (by omega) (by omega) e33 ?_
              refine jr_s rfl rfl (Or.inl rfl) ⟨Nat.le_of_ble_eq_true rfl, Nat.le_of_ble_eq_true rfl⟩ rfl rfl (jc.deep (c_isCarried (by omega) (fun c91 => ?_) (fun c91 => ?_)) (by decide))
              · refine jr.if_eq rfl rfl (by omega) (fun h => absurd h (by decide)) (fun _ => ?_)
                refine jr.iconst rfl ?_
                refine jr.goto rfl rfl ?_
                refine jr.istore_n rfl (by decide) rfl ?_
                refine jr.iload_n rfl rfl ?_
                refine jr.if_eq rfl rfl (by omega) (fun h => absurd h (by decide)) (fun _ => ?_)
                refine jr.aload_n rfl rfl ?_
                refine jr.iload_n rfl rfl ?_
                refine jr.iload_n rfl rfl ?_
                refine jr.iconst rfl ?_
                refine jr.iadd rfl ?_
                refine jr.iload_n rfl rfl ?_
                refine jr.iconst rfl ?_
                refine jr.iadd rfl ?_
                obtain ⟨v35, e35⟩ : ∃ z, M 604 (ea + 1) = z := ⟨_, rfl⟩
                have b35 : 0 ≤ v35 ∧ v35 ≤ 400 := by rw [← e35]; exact (by have q := hI_M 604 (ea + 1) (by decide); rw [xri_row rfl rfl] at q; exact q)
                obtain ⟨v36, e36⟩ : ∃ z, M 604 (ea + 2) = z := ⟨_, rfl⟩
                have b36 : 0 ≤ v36 ∧ v36 ≤ 400 := by rw [← e36]; exact (by have q := hI_M 604 (ea + 2) (by decide); rw [xri_row rfl rfl] at q; exact q)
                refine jr_v rfl rfl (Or.inl rfl) rfl rfl (by decide) rfl ⟨rfl, Nat.le_of_ble_eq_true rfl, Nat.le_of_ble_eq_true rfl⟩ rfl (jc.deep (r_takeEnds_x hI_M hH_M hS_M  (by omega) (by omega) (by omega) (by rw [e24, e35]; omega) (by rw [e33]; omega) (by rw [e36]; omega) p1 p2 ⟨⟨by omega, by omega⟩, ⟨by omega, by omega⟩⟩ (fun M34 hI_M34 hH_M34 hS_M34  w34_0 w34_1 w34_2 w34_3 w34_4 w34_5 => ?_)) (by decide))
                refine jr.iload_n rfl rfl ?_
                have e37 : M34 598 6 = v23 := ((w34_5 6 (by decide) (by decide) (by decide) (by decide) (by decide) (by decide) (by decide)).trans e23)
                have e38 : M34 603 (ea + 2) = v33 := ((w34_4 603 (ea + 2) (by decide)).trans e33)
                obtain ⟨v39, e39⟩ : ∃ z, M 603 tt = z := ⟨_, rfl⟩
                have b39 : 0 ≤ v39 ∧ v39 ≤ 11 := by rw [← e39]; exact (by have q := hI_M 603 tt (by decide); rw [xri_row rfl rfl] at q; exact q)
                have e40 : M34 603 tt = v39 := ((w34_4 603 tt (by decide)).trans e39)
                exact jr.ireturn rfl rfl rfl (q _ _ hI_M34 hH_M34 hS_M34  (by omega) (RE.mk' w34_0 (by omega) (by rw [e37]; omega) (by rw [e38]; omega) (fun q => by rw [e38]; have z := w34_1 q; omega) w34_2 (t := tt) (by omega) (by rw [e37]; omega) (by rw [e40]; omega)) (Or.inr ⟨rfl, (by rw [hea]; have h6 := p1.1; have vv := v7_0 p1 p2 (e := ea) (by omega) (by omega) e2 w22_0 (by omega); exact qf_y p1 (by omega) (by omega) (by omega) (by omega) (by omega)), (by rw [hea]; have h6 := p1.1; exact EN6.m p1 (by omega) (by omega) w34_3 w34_0)⟩) (fun a i f598 => ((w34_4 a i f598).trans rfl)) (fun i g59 g60 g61 g62 g63 g64 g65 => ((w34_5 i g59 g60 g61 g62 g63 g64 g65).trans rfl)))
              · refine jr.if_eq rfl rfl (by omega) (fun _ => ?_) (fun h => absurd (by decide) h)
                refine jr.iconst rfl ?_
                refine jr.istore_n rfl (by decide) rfl ?_
                refine jr.iload_n rfl rfl ?_
                refine jr.if_eq rfl rfl (by omega) (fun _ => ?_) (fun h => absurd (by decide) h)
                refine jr.iload_n rfl rfl ?_
                exact jr.ireturn rfl rfl rfl (q _ _ hI_M hH_M hS_M  (by omega) p0' (Or.inl ⟨rfl, (by rw [hea]; have h6 := p1.1; first | (exact qf_n p1 (by omega) (Or.inl (by omega))) | (have vv := v7_0 p1 p2 (e := ea) (by omega) (by omega) e2 w22_0 (by omega); exact qf_n p1 (by omega) (by omega)) | (exact qf_n p1 (by omega) (by omega))), rfl⟩) (fun a i f598 => rfl) (fun i g59 g60 g61 g62 g63 g64 g65 => rfl))
      · refine jr.iconst rfl ?_
        exact jr.ireturn rfl rfl rfl (q _ _ hI_M hH_M hS_M  (by omega) p0' (Or.inl ⟨rfl, (by rw [hea]; have h6 := p1.1; first | (exact qf_n p1 (by omega) (Or.inl (by omega))) | (have vv := v7_0 p1 p2 (e := ea) (by omega) (by omega) e2 w22_0 (by omega); exact qf_n p1 (by omega) (by omega)) | (exact qf_n p1 (by omega) (by omega))), rfl⟩) (fun a i f598 => rfl) (fun i g59 g60 g61 g62 g63 g64 g65 => rfl))
end
section
/-! ===== the reference: numbers on the tape ===== -/
theorem lay2t {M : jm} {i w a b : Int} (ha : a = bt w 1) (hb : b = bt w 0) : ju (ju M 599 i a) 599 (i + 1) b 599 = ptn (M 599) i 2 w := by
  funext k
  unfold ptn
  by_cases q : k = i + 1
  · subst q
    rw [ju_same, if_pos (by omega), show i + 2 - 1 - (i + 1) = 0 by omega, hb]
  · rw [ju_i _ _ q]
    by_cases q2 : k = i
    · subst q2
      rw [ju_same, if_pos (by omega), show k + 2 - 1 - k = 1 by omega, ha]
    · rw [ju_i _ _ q2, if_neg (by omega)]
theorem r_takenTwo_x {A : Nat → Option (Nat × (Nat → Int32))} {Q : Option Value → jm → Prop} {M : jm} (hI_M : RI M) (hH_M : RH M) (hS_M : RF M) {i : Int} (h_i : 0 ≤ i ∧ i ≤ 1598) (q : ∀ (r : Int), 0 ≤ r ∧ r ≤ 65535 → r = tw (M 599) i → Q (some (.int (Int32.ofInt r))) M) : jc A 1 327 [.ref (598), .int (Int32.ofInt (i))] M Q := by
  refine jc_of (m := xm_327) rfl (Nat.le_of_ble_eq_true rfl) rfl ?_
  refine jr.aload_n rfl rfl ?_
  refine jr.getf (i := 0) (v := .ref 599) rfl rfl (by decide) rfl (by decide) rfl rfl rfl rfl ?_
  refine jr.iload_n rfl rfl ?_
  obtain ⟨v1, e1⟩ : ∃ z, M 599 i = z := ⟨_, rfl⟩
  have b1 : 0 ≤ v1 ∧ v1 ≤ 255 := by rw [← e1]; exact (by have q := hI_M 599 i (by decide); rw [xri_row rfl rfl] at q; exact q)
  refine jr.iald (i := i) (x := v1) rfl (by decide) rfl (by decide) (by omega) (by omega) e1 ?_
  refine jr.bipush rfl (by decide) ?_
  refine jr.ishl rfl ?_
  refine jr.aload_n rfl rfl ?_
  refine jr.getf (i := 0) (v := .ref 599) rfl rfl (by decide) rfl (by decide) rfl rfl rfl rfl ?_
  refine jr.iload_n rfl rfl ?_
  refine jr.iconst rfl ?_
  refine jr.iadd rfl ?_
  obtain ⟨v2, e2⟩ : ∃ z, M 599 (i + 1) = z := ⟨_, rfl⟩
  have b2 : 0 ≤ v2 ∧ v2 ≤ 255 := by rw [← e2]; exact (by have q := hI_M 599 (i + 1) (by decide); rw [xri_row rfl rfl] at q; exact q)
  refine jr.iald (i := (i + 1)) (x := v2) rfl (by decide) rfl (by decide) (by omega) (by omega) e2 ?_
  refine jr.ior rfl ?_
  have b3 : j_or (j_shl v1 8) v2 = v1 * 256 + v2 := j_sho (by omega) (by omega)
  generalize j_or (j_shl v1 8) v2 = v3 at b3 ⊢
  exact jr.ireturn rfl rfl rfl (q _ (by omega) (by unfold tw; omega))
theorem r_takenFour_x {A : Nat → Option (Nat × (Nat → Int32))} {Q : Option Value → jm → Prop} {M : jm} (hI_M : RI M) (hH_M : RH M) (hS_M : RF M) {i : Int} (h_i : 0 ≤ i ∧ i ≤ 1596) (q : ∀ (r : Int), 0 ≤ r ∧ r ≤ 4294967295 → r = nbs (M 599) i 4 → Q (some (.long (Int64.ofInt r))) M) : jc A 2 328 [.ref (598), .int (Int32.ofInt (i))] M Q := by
  refine jc_of (m := xm_328) rfl (Nat.le_of_ble_eq_true rfl) rfl ?_
  refine jr.aload_n rfl rfl ?_
  refine jr.iload_n rfl rfl ?_
  refine jr_v rfl rfl (Or.inl rfl) rfl rfl (by decide) rfl ⟨rfl, Nat.le_of_ble_eq_true rfl, Nat.le_of_ble_eq_true rfl⟩ rfl (jc.deep (r_takenTwo_x hI_M hH_M hS_M  (by omega)  (fun r1 z1 w1_0 => ?_)) (by decide))
  refine jr.i2l rfl (by omega) ?_
  refine jr.bipush rfl (by decide) ?_
  refine jr.lshl rfl ?_
  refine jr.aload_n rfl rfl ?_
  refine jr.iload_n rfl rfl ?_
  refine jr.iconst rfl ?_
  refine jr.iadd rfl ?_
  refine jr_v rfl rfl (Or.inl rfl) rfl rfl (by decide) rfl ⟨rfl, Nat.le_of_ble_eq_true rfl, Nat.le_of_ble_eq_true rfl⟩ rfl (jc.deep (r_takenTwo_x hI_M hH_M hS_M  (by omega)  (fun r2 z2 w2_0 => ?_)) (by decide))
  refine jr.i2l rfl (by omega) ?_
  refine jr.lor rfl ?_
  have b3 : jl_or (jl_shl r1 16) r2 = r1 * 65536 + r2 := jl_sho16 (by omega) (by omega)
  generalize jl_or (jl_shl r1 16) r2 = v3 at b3 ⊢
  exact jr.lreturn rfl rfl (q _ (by omega) (by rw [nbs_4t]; omega))
theorem r_takenEight_x {A : Nat → Option (Nat × (Nat → Int32))} {Q : Option Value → jm → Prop} {M : jm} (hI_M : RI M) (hH_M : RH M) (hS_M : RF M) {i : Int} (h_i : 0 ≤ i ∧ i ≤ 1592) (q : ∀ (r : Int), (-9223372036854775808) ≤ r ∧ r ≤ 9223372036854775807 → r = jl_w (nbs (M 599) i 8) → Q (some (.long (Int64.ofInt r))) M) : jc A 3 329 [.ref (598), .int (Int32.ofInt (i))] M Q := by
  refine jc_of (m := xm_329) rfl (Nat.le_of_ble_eq_true rfl) rfl ?_
  refine jr.aload_n rfl rfl ?_
  refine jr.iload_n rfl rfl ?_
  refine jr_v rfl rfl (Or.inl rfl) rfl rfl (by decide) rfl ⟨rfl, Nat.le_of_ble_eq_true rfl, Nat.le_of_ble_eq_true rfl⟩ rfl (jc.deep (r_takenFour_x hI_M hH_M hS_M  (by omega)  (fun r1 z1 w1_0 => ?_)) (by decide))
  refine jr.bipush rfl (by decide) ?_
  refine jr.lshl rfl ?_
  refine jr.aload_n rfl rfl ?_
  refine jr.iload_n rfl rfl ?_
  refine jr.iconst rfl ?_
  refine jr.iadd rfl ?_
  refine jr_v rfl rfl (Or.inl rfl) rfl rfl (by decide) rfl ⟨rfl, Nat.le_of_ble_eq_true rfl, Nat.le_of_ble_eq_true rfl⟩ rfl (jc.deep (r_takenFour_x hI_M hH_M hS_M  (by omega)  (fun r2 z2 w2_0 => ?_)) (by decide))
  refine jr.lor rfl ?_
  have b3 : jl_or (jl_shl r1 32) r2 = jl_w (r1 * 4294967296 + r2) ∧ -9223372036854775808 ≤ jl_or (jl_shl r1 32) r2 ∧ jl_or (jl_shl r1 32) r2 ≤ 9223372036854775807 := ⟨jl_sho32 (by omega), jbl_any _⟩
  generalize jl_or (jl_shl r1 32) r2 = v3 at b3 ⊢
  exact jr.lreturn rfl rfl (q _ (by omega) (by rw [nbs_8, ← w1_0, ← w2_0]; omega))
theorem r_tapeTwo_x {A : Nat → Option (Nat × (Nat → Int32))} {Q : Option Value → jm → Prop} {M : jm} (hI_M : RI M) (hH_M : RH M) (hS_M : RF M) {i : Int} (h_i : 0 ≤ i ∧ i ≤ 1598) {w : Int} (h_w : (-2147483648) ≤ w ∧ w ≤ 2147483647) (q : ∀ (M' : jm), RI M' → RH M' → RF M' → M' 599 = ptn (M 599) i 2 w → (∀ (a : Nat) (i : Int), a ≠ 599 → M' a i = M a i) → Q none M') : jc A 1 324 [.ref (598), .int (Int32.ofInt (i)), .int (Int32.ofInt (w))] M Q := by
  refine jc_of (m := xm_324) rfl (Nat.le_of_ble_eq_true rfl) rfl ?_
  refine jr.aload_n rfl rfl ?_
  refine jr.getf (i := 0) (v := .ref 599) rfl rfl (by decide) rfl (by decide) rfl rfl rfl rfl ?_
  refine jr.iload_n rfl rfl ?_
  refine jr.iload_n rfl rfl ?_
  refine jr.bipush rfl (by decide) ?_
  refine jr.ishr rfl ?_
  have b1 : j_shr w 8 = w / 256 := j_shr_ex 8 (by decide) (by omega) (by omega)
  generalize j_shr w 8 = v1 at b1 ⊢
  refine jr.sipush rfl (by decide) ?_
  refine jr.iand rfl ?_
  have b2 : j_and v1 255 = v1 % 256 := j_and_m 8 (by decide) _
  generalize j_and v1 255 = v2 at b2 ⊢
  refine jr.iast (i := i) (x := v2) rfl (by decide) rfl (by decide) (by omega) (by omega) ?_
  refine jr.aload_n rfl rfl ?_
  refine jr.getf (i := 0) (v := .ref 599) rfl rfl (by decide) rfl (by decide) rfl rfl rfl rfl ?_
  refine jr.iload_n rfl rfl ?_
  refine jr.iconst rfl ?_
  refine jr.iadd rfl ?_
  refine jr.iload_n rfl rfl ?_
  refine jr.sipush rfl (by decide) ?_
  refine jr.iand rfl ?_
  have b3 : j_and w 255 = w % 256 := j_and_m 8 (by decide) _
  generalize j_and w 255 = v3 at b3 ⊢
  refine jr.iast (i := (i + 1)) (x := v3) rfl (by decide) rfl (by decide) (by omega) (by omega) ?_
  exact jr.vreturn rfl rfl (q _ (RI.u (RI.u hI_M (a := 599) (i := i) (by rw [xri_row rfl rfl]; show (0 : Int) ≤ _ ∧ _ ≤ (255 : Int); omega)) (a := 599) (i := (i + 1)) (by rw [xri_row rfl rfl]; show (0 : Int) ≤ _ ∧ _ ≤ (255 : Int); omega)) (RH.o (RH.o hH_M (by decide) (by decide) (by decide)) (by decide) (by decide) (by decide)) (RF.o (RF.o hS_M (by decide) (by decide)) (by decide) (by decide))  (by exact lay2t (by show _ = w / 256 % 256; omega) (by show _ = w % 256; omega)) (fun a i f599 => ((ju_c _ _ f599).trans ((ju_c _ _ f599).trans rfl))))
end
section
/-! ===== the reference: track ===== -/
noncomputable def heG (f : Int → Int) (N C : Int) : Prop := hX f N C = -1 ∧ heF f N C 0
theorem heG_i {f : Int → Int} {N C F : Int} (h : F = 0 ↔ hX f N C = -1) : heF f N C F ↔ heG f N C := by
  unfold heG heF
  constructor
  · intro u; exact ⟨h.1 u.1, rfl, u.2⟩
  · intro u; exact ⟨h.2 u.1, u.2.2⟩
noncomputable def SFl (T M : jm) : Prop := ∀ (b : Nat) (i : Int), 627 ≤ b → b ≤ 642 → M b i = T b i
theorem sd6_f {M M1 : jm} {g : Int} (h : ∀ (b : Nat) (i : Int), 627 ≤ b → b ≤ 642 → M1 b i = M b i) (h9 : M1 598 59 = M 598 59) (h0 : M1 598 60 = M 598 60) (h1 : M1 598 61 = M 598 61) (h2 : M1 598 62 = M 598 62) (h3 : M1 598 63 = M 598 63) (h4 : M1 598 64 = M 598 64) : sd6 M1 g = sd6 M g := by
  unfold sd6
  simp only [h9, h0, h1, h2, h3, h4, h 627 _ (by decide) (by decide), h 628 _ (by decide) (by decide), h 629 _ (by decide) (by decide), h 630 _ (by decide) (by decide), h 631 _ (by decide) (by decide), h 640 _ (by decide) (by decide), h 641 _ (by decide) (by decide), h 642 _ (by decide) (by decide)]
theorem fe6_e {M M1 : jm} (h : ∀ g : Int, sd6 M1 g = sd6 M g) : ∀ (n : Nat) (i : Int), fe6 M1 n i = fe6 M n i := by
  intro n
  induction n with
  | zero => intro i; rfl
  | succ n ih => intro i; unfold fe6; rw [h, ih]
noncomputable def OBF (E B : jm) : Prop := ∀ (a : Nat) (i : Int), a ≠ 627 → a ≠ 628 → a ≠ 629 → a ≠ 630 → a ≠ 631 → a ≠ 632 → a ≠ 633 → a ≠ 634 → a ≠ 635 → a ≠ 636 → a ≠ 637 → a ≠ 640 → B a i = E a i
noncomputable def OFG (E B : jm) : Prop := ∀ (a : Nat) (i : Int), a ≠ 632 → a ≠ 633 → a ≠ 634 → a ≠ 635 → a ≠ 636 → a ≠ 637 → B a i = E a i
noncomputable def clE (E : jm) (x : Int) : Int := scf (E 601 (400 * x + (E 604 (E 598 65) + 13)))
noncomputable def mayE (E : jm) (x : Int) : Prop := (E 598 60 = 6 ∧ clE E x = 0) ∨ (E 598 60 ≠ 6 ∧ (E 598 60 = 17 ∨ E 601 (400 * x + E 604 (E 598 65)) = 8))
noncomputable def afE (E : jm) (x g : Int) : Int := if clE E x = 5 then 0 else E 647 (10 * (E 638 g - 1) + 5 * E 598 66 + clE E x)
noncomputable def u7E (E : jm) (g : Int) : Int := if E 598 60 = 17 ∧ (E 598 66 = 1 ∨ E 638 g = 1) then 1 else 0
noncomputable def K6 (B : jm) (g n t st : Int) : jm := ju (ju B 638 g st) 639 g (t + lvf n st)
/-- a packet that isn't related, behind the search for its flow -/
noncomputable def TRN (E M' : jm) (x r : Int) : Prop := (fe6 E 24 0 = -1 ∧ ((¬ mayE E x ∧ r = -6 ∧ M' = E) ∨ (mayE E x ∧ fE6 E 24 0 = -1 ∧ r = -5 ∧ M' = E) ∨ (mayE E x ∧ fE6 E 24 0 ≠ -1 ∧ r = fE6 E 24 0 ∧ ∃ B : jm, BF6 E B r ∧ OBF E B ∧ CT6 (K6 (ju B 598 66 0) r (E 598 60) (E 598 2) (if E 598 60 = 6 then 1 else 0)) M' x r (2 * r + 0)))) ∨ (fe6 E 24 0 ≠ -1 ∧ ((E 598 60 = 6 ∧ afE E x (fe6 E 24 0) = 0 ∧ r = -7 ∧ M' = E) ∨ (E 598 60 = 6 ∧ afE E x (fe6 E 24 0) ≠ 0 ∧ io6 E x (fe6 E 24 0) (clE E x) = 1 ∧ r = -8 ∧ M' = E) ∨ (E 598 60 = 6 ∧ afE E x (fe6 E 24 0) ≠ 0 ∧ io6 E x (fe6 E 24 0) (clE E x) ≠ 1 ∧ r = fe6 E 24 0 ∧ ∃ B : jm, (((9 ≤ E 638 r ∧ E 598 66 = 0 ∧ clE E x = 0) ∧ FG6 E B r (2 * r + 2) ∧ OFG E B) ∨ (¬ (9 ≤ E 638 r ∧ E 598 66 = 0 ∧ clE E x = 0) ∧ B = E)) ∧ CT6 (K6 B r (E 598 60) (E 598 2) (afE E x r)) M' x r (2 * r + E 598 66)) ∨ (E 598 60 ≠ 6 ∧ r = fe6 E 24 0 ∧ CT6 (K6 E r (E 598 60) (E 598 2) (u7E E r)) M' x r (2 * r + E 598 66))))
noncomputable def TRE (T E : jm) (f : Int → Int) (N C x : Int) : Prop := SFl T E ∧ E 598 2 = T 598 2 ∧ HT E f N C ∧ rf E x = f ∧ E 600 x = N ∧ (∀ i : Int, E 647 i = T 647 i)
noncomputable def TR7 (T M' : jm) (f : Int → Int) (N C x r : Int) : Prop := (¬ heG f N C ∧ r = -4 ∧ SFl T M') ∨ (heG f N C ∧ qfF f N C (inf f N C (ntf f N C)) ∧ ∃ E : jm, TRE T E f N C x ∧ EN6 E f N C (inf f N C (ntf f N C) + 1) (inf f N C (ntf f N C) + 2) ∧ SFl T M' ∧ r = (if fe6 E 24 0 = -1 then -6 else fe6 E 24 0)) ∨ (heG f N C ∧ ¬ qfF f N C (inf f N C (ntf f N C)) ∧ ∃ E : jm, TRE T E f N C x ∧ EN6 E f N C (ntf f N C) (inf f N C (ntf f N C)) ∧ (fe6 E 24 0 = -1 ∨ E 598 66 = sd6 E (fe6 E 24 0)) ∧ TRN E M' x r)
noncomputable def TR6 (T M' : jm) (x r : Int) : Prop := ((x < 0 ∨ 23 < x ∨ T 600 x = -1) ∧ r = -2 ∧ M' = T) ∨ (((0 ≤ x ∧ x ≤ 23) ∧ T 600 x ≠ -1) ∧ ∃ C : Int, HE (rf T x) (T 600 x) C ∧ TR7 T M' (rf T x) (T 600 x) C x r)
theorem TR6.h0 {T H : jm} {x z : Int} (hx : (0 ≤ x ∧ x ≤ 23) ∧ T 600 x ≠ -1) (hz : z = 0) (hn : HN6 T H x z) (fH : ∀ (a : Nat) (i : Int), a ≠ 598 → a ≠ 603 → a ≠ 604 → a ≠ 605 → H a i = T a i) : TR6 T H x (-4) := by
  obtain ⟨h1, ⟨h2, h3⟩, h4⟩ := hn
  refine Or.inr ⟨hx, _, h2, Or.inl ⟨?_, rfl, fun b i b1 b2 => fH b i (by omega) (by omega) (by omega) (by omega)⟩⟩
  rw [← heG_i h3]
  rcases h4 with h4 | h4
  · exact h4.1
  · omega
theorem TRE.m {T H R E : jm} {x z : Int} (hn : HN6 T H x z) (fH : ∀ (a : Nat) (i : Int), a ≠ 598 → a ≠ 603 → a ≠ 604 → a ≠ 605 → H a i = T a i) (f2 : H 598 2 = T 598 2) (fR : ∀ (a : Nat) (i : Int), a ≠ 598 → R a i = H a i) (gR : ∀ (i : Int), i ≠ 59 → i ≠ 60 → i ≠ 61 → i ≠ 62 → i ≠ 63 → i ≠ 64 → i ≠ 65 → R 598 i = H 598 i) (fE : ∀ (a : Nat) (i : Int), a ≠ 598 → E a i = R a i) (gE : ∀ (i : Int), i ≠ 66 → E 598 i = R 598 i) : TRE T E (rf T x) (T 600 x) (H 598 6) x := by
  have fA : ∀ (a : Nat) (i : Int), a ≠ 598 → a ≠ 603 → a ≠ 604 → a ≠ 605 → E a i = T a i := fun a i a1 a2 a3 a4 => (fE a i a1).trans ((fR a i a1).trans (fH a i a1 a2 a3 a4))
  refine ⟨fun b i b1 b2 => fA b i (by omega) (by omega) (by omega) (by omega), ?_, ?_, rf_e (fun i => fA 601 i (by decide) (by decide) (by decide) (by decide)), fA 600 x (by decide) (by decide) (by decide) (by decide), fun i => fA 647 i (by decide) (by decide) (by decide) (by decide)⟩
  · rw [gE 2 (by decide), gR 2 (by decide) (by decide) (by decide) (by decide) (by decide) (by decide) (by decide), f2]
  · exact hn.1.q (fun b i hb => (fE b i hb).trans (fR b i hb)) ((gE 6 (by decide)).trans (gR 6 (by decide) (by decide) (by decide) (by decide) (by decide) (by decide) (by decide)))
theorem fe6_b {R E : jm} (fE : ∀ (a : Nat) (i : Int), a ≠ 598 → E a i = R a i) (gE : ∀ (i : Int), i ≠ 66 → E 598 i = R 598 i) : (∀ g : Int, sd6 E g = sd6 R g) ∧ ∀ (n : Nat) (i : Int), fe6 E n i = fe6 R n i := by
  have hs : ∀ g : Int, sd6 E g = sd6 R g := fun g => sd6_f (fun b i b1 b2 => fE b i (by omega)) (gE 59 (by decide)) (gE 60 (by decide)) (gE 61 (by decide)) (gE 62 (by decide)) (gE 63 (by decide)) (gE 64 (by decide))
  exact ⟨hs, fe6_e hs⟩
theorem EN6.e {M M1 : jm} {f : Int → Int} {N C t h : Int} (e : EN6 M f N C t h) (gE : ∀ (i : Int), i ≠ 66 → M1 598 i = M 598 i) : EN6 M1 f N C t h := by
  unfold EN6
  rw [gE 59 (by decide), gE 60 (by decide), gE 61 (by decide), gE 62 (by decide), gE 63 (by decide), gE 64 (by decide), gE 65 (by decide)]
  exact e
theorem TR6.r {T H R E : jm} {x z y g r : Int} (hx : (0 ≤ x ∧ x ≤ 23) ∧ T 600 x ≠ -1) (hz : z ≠ 0) (hn : HN6 T H x z) (fH : ∀ (a : Nat) (i : Int), a ≠ 598 → a ≠ 603 → a ≠ 604 → a ≠ 605 → H a i = T a i) (f2 : H 598 2 = T 598 2) (hy : y ≠ 0) (hr : (y = 0 ∧ ¬ qfF (rf T x) (T 600 x) (H 598 6) (H 598 65) ∧ R = H) ∨ (y = 1 ∧ qfF (rf T x) (T 600 x) (H 598 6) (H 598 65) ∧ EN6 R (rf T x) (T 600 x) (H 598 6) (H 598 65 + 1) (H 598 65 + 2))) (fR : ∀ (a : Nat) (i : Int), a ≠ 598 → R a i = H a i) (gR : ∀ (i : Int), i ≠ 59 → i ≠ 60 → i ≠ 61 → i ≠ 62 → i ≠ 63 → i ≠ 64 → i ≠ 65 → R 598 i = H 598 i) (hb : g = fe6 R 24 0) (fE : ∀ (a : Nat) (i : Int), a ≠ 598 → E a i = R a i) (gE : ∀ (i : Int), i ≠ 66 → E 598 i = R 598 i) (h : r = if g = -1 then -6 else g) : TR6 T E x r := by
  have te := TRE.m hn fH f2 fR gR fE gE
  obtain ⟨h1, ⟨h2, h3⟩, h4⟩ := hn
  rcases h4 with h4 | h4
  · exact absurd h4.2 hz
  rcases hr with hr | hr
  · exact absurd hr.1 hy
  have e5 := h4.2.2.2
  rw [e5] at hr
  refine Or.inr ⟨hx, _, h2, Or.inr (Or.inl ⟨(heG_i h3).1 h4.1, hr.2.1, E, te, hr.2.2.e gE, te.1, ?_⟩)⟩
  rw [(fe6_b fE gE).2, ← hb]
  exact h
theorem TR6.n {T H R E M' : jm} {x z y g r : Int} (hx : (0 ≤ x ∧ x ≤ 23) ∧ T 600 x ≠ -1) (hz : z ≠ 0) (hn : HN6 T H x z) (fH : ∀ (a : Nat) (i : Int), a ≠ 598 → a ≠ 603 → a ≠ 604 → a ≠ 605 → H a i = T a i) (f2 : H 598 2 = T 598 2) (hy : y = 0) (hr : (y = 0 ∧ ¬ qfF (rf T x) (T 600 x) (H 598 6) (H 598 65) ∧ R = H) ∨ (y = 1 ∧ qfF (rf T x) (T 600 x) (H 598 6) (H 598 65) ∧ EN6 R (rf T x) (T 600 x) (H 598 6) (H 598 65 + 1) (H 598 65 + 2))) (hb : g = fe6 R 24 0 ∧ (g = -1 ∨ E 598 66 = sd6 R g)) (fE : ∀ (a : Nat) (i : Int), a ≠ 598 → E a i = R a i) (gE : ∀ (i : Int), i ≠ 66 → E 598 i = R 598 i) (h : TRN E M' x r) : TR6 T M' x r := by
  rcases hr with hr | hr
  · obtain ⟨-, hq, hR⟩ := hr
    subst hR
    have te := TRE.m hn fH f2 (fun _ _ _ => rfl) (fun _ _ _ _ _ _ _ _ => rfl) fE gE
    obtain ⟨h1, ⟨h2, h3⟩, h4⟩ := hn
    rcases h4 with h4 | h4
    · exact absurd h4.2 hz
    have e5 := h4.2.2.2
    rw [e5] at hq
    refine Or.inr ⟨hx, _, h2, Or.inr (Or.inr ⟨(heG_i h3).1 h4.1, hq, E, te, h4.2.2.e gE, ?_, h⟩)⟩
    rw [(fe6_b fE gE).2, (fe6_b fE gE).1, ← hb.1]
    exact hb.2
  · omega
theorem r_track_x {A : Nat → Option (Nat × (Nat → Int32))} {Q : Option Value → jm → Prop} {M : jm} (hI_M : RI M) (hH_M : RH M) (hS_M : RF M) {x : Int} (h_x : (-2147483648) ≤ x ∧ x ≤ 2147483647) (q : ∀ (r : Int) (M' : jm), RI M' → RH M' → RF M' → (-8) ≤ r ∧ r ≤ 23 → TR6 M M' x r → (∀ (a : Nat) (i : Int), a ≠ 598 → a ≠ 603 → a ≠ 604 → a ≠ 605 → a ≠ 627 → a ≠ 628 → a ≠ 629 → a ≠ 630 → a ≠ 631 → a ≠ 632 → a ≠ 633 → a ≠ 634 → a ≠ 635 → a ≠ 636 → a ≠ 637 → a ≠ 638 → a ≠ 639 → a ≠ 640 → M' a i = M a i) → (∀ (i : Int), i ≠ 6 → i ≠ 10 → i ≠ 11 → i ≠ 12 → i ≠ 59 → i ≠ 60 → i ≠ 61 → i ≠ 62 → i ≠ 63 → i ≠ 64 → i ≠ 65 → i ≠ 66 → M' 598 i = M 598 i) → Q (some (.int (Int32.ofInt r))) M') : jc A 8 314 [.ref (598), .int (Int32.ofInt (x))] M Q := by
  refine jc_of (m := xm_314) rfl (Nat.le_of_ble_eq_true rfl) rfl ?_
  refine jr.aload_n rfl rfl ?_
  refine jr.iload_n rfl rfl ?_
  refine jr_v rfl rfl (Or.inl rfl) rfl rfl (by decide) rfl ⟨rfl, Nat.le_of_ble_eq_true rfl, Nat.le_of_ble_eq_true rfl⟩ rfl (jc.deep (c_isThere hI_M (by omega) (fun l2 u2 t2 => ?_) (fun n2 => ?_)) (by decide))
  · refine jr.if_ne rfl rfl (by omega) (fun _ => ?_) (fun h => absurd (by decide) h)
    refine jr.aload_n rfl rfl ?_
    refine jr.iload_n rfl rfl ?_
    obtain ⟨v2, e2⟩ : ∃ z, M 600 x = z := ⟨_, rfl⟩
    have b2 : (-1) ≤ v2 ∧ v2 ≤ 400 := by rw [← e2]; exact (by have q := hI_M 600 x (by decide); rw [xri_row rfl rfl] at q; exact q)
    refine jr_v rfl rfl (Or.inl rfl) rfl rfl (by decide) rfl ⟨rfl, Nat.le_of_ble_eq_true rfl, Nat.le_of_ble_eq_true rfl⟩ rfl (jc.deep (r_hasEnds_x hI_M hH_M hS_M  (by omega) (by rw [e2]; omega) (fun r1 M1 hI_M1 hH_M1 hS_M1  z1 w1_0 w1_1 w1_2 w1_3 => ?_)) (by decide))
    refine jr.if_ne rfl rfl (by omega) (fun h16 => ?_) (fun h16 => ?_)
    · have sx16 : (1 : Int) ≤ r1 := by omega
      refine jr.aload_n rfl rfl ?_
      refine jr.iload_n rfl rfl ?_
      refine jr_v rfl rfl (Or.inl rfl) rfl rfl (by decide) rfl ⟨rfl, Nat.le_of_ble_eq_true rfl, Nat.le_of_ble_eq_true rfl⟩ rfl (jc.deep (r_isRelated_x hI_M1 hH_M1 hS_M1  (by omega) (w1_0.resolve_left (by omega)) w1_1.1 (rf_e (fun i => w1_2 601 i (by decide) (by decide) (by decide) (by decide))) (fun r3 M3 hI_M3 hH_M3 hS_M3  z3 w3_0 w3_1 w3_2 w3_3 => ?_)) (by decide))
      have q3 := w3_0
      obtain ⟨re1, re2, re3, re4, re5, tt, rt0, rt1, rt2⟩ := q3
      obtain ⟨ea, hea⟩ : ∃ z, M3 598 65 = z := ⟨_, rfl⟩
      rw [hea] at re1 re2 re3 re4
      have rc := RH.car hH_M3 ea
      have b65 : M3 598 6 ≤ 12 := (hI_M3 598 6 (by decide)).2
      refine jr.if_eq rfl rfl (by omega) (fun h27 => ?_) (fun h27 => ?_)
      · refine jr.aload_n rfl rfl ?_
        refine jr_v rfl rfl (Or.inl rfl) rfl rfl (by decide) rfl ⟨rfl, Nat.le_of_ble_eq_true rfl, Nat.le_of_ble_eq_true rfl⟩ rfl (jc.deep (r_flowByEnds_x hI_M3 hH_M3 hS_M3    (fun r4 M4 hI_M4 hH_M4 hS_M4  z4 w4_0 w4_1 w4_2 w4_3 => ?_)) (by decide))
        have rf := hS_M4 r4
        have g60 := w4_3 60 (by decide)
        have g629 := (w4_2 629 r4 (by decide)).trans ((w3_2 629 r4 (by decide)).trans (w1_2 629 r4 (by decide) (by decide) (by decide) (by decide)))
        have g638 := (w4_2 638 r4 (by decide)).trans ((w3_2 638 r4 (by decide)).trans (w1_2 638 r4 (by decide) (by decide) (by decide) (by decide)))
        refine jr.istore_n rfl (by decide) rfl ?_
        refine jr.aload_n rfl rfl ?_
        obtain ⟨v5, e5⟩ : ∃ z, M3 598 60 = z := ⟨_, rfl⟩
        have b5 : 0 ≤ v5 ∧ v5 ≤ 255 := by rw [← e5]; exact hI_M3 598 60 (by decide)
        have e6 : M4 598 60 = v5 := ((w4_3 60 (by decide)).trans e5)
        refine jr.getf (i := 60) (x := v5) (v := .int (Int32.ofInt (v5))) rfl rfl (by decide) rfl (by decide) rfl rfl e6 rfl ?_
        refine jr.bipush rfl (by decide) ?_
        refine jr.icmp_ne rfl rfl (by omega) (by omega) (fun h58 => ?_) (fun h58 => ?_)
        · refine jr.iconst rfl ?_
          refine jr.istore_n rfl (by decide) rfl ?_
          refine jr.iconst rfl ?_
          refine jr.istore rfl (by decide) rfl ?_
          refine jr.iload_n rfl rfl ?_
          refine jr.iconst rfl ?_
          refine jr.icmp_ne rfl rfl (by omega) (by omega) (fun h91 => ?_) (fun h91 => ?_)
          · have sx91 : (0 : Int) ≤ r4 := by omega
            refine jr.aload_n rfl rfl ?_
            refine jr.getf (i := 60) (x := v5) (v := .int (Int32.ofInt (v5))) rfl rfl (by decide) rfl (by decide) rfl rfl e6 rfl ?_
            refine jr.bipush rfl (by decide) ?_
            refine jr.icmp_ne rfl rfl (by omega) (by omega) (fun h201 => ?_) (fun h201 => ?_)
            · refine jr.aload_n rfl rfl ?_
              refine jr.getf (i := 60) (x := v5) (v := .int (Int32.ofInt (v5))) rfl rfl (by decide) rfl (by decide) rfl rfl e6 rfl ?_
              refine jr.bipush rfl (by decide) ?_
              refine jr.icmp_ne rfl rfl (by omega) (by omega) (fun h278 => ?_) (fun h278 => ?_)
              · refine jr.aload_n rfl rfl ?_
                refine jr.getf (i := 50) (v := .ref 638) rfl rfl (by decide) rfl (by decide) rfl rfl rfl rfl ?_
                refine jr.iload_n rfl rfl ?_
                refine jr.iload rfl rfl ?_
                refine jr.iast (i := r4) (x := 0) rfl (by decide) rfl (by decide) (by omega) (by omega) ?_
                refine jr.aload_n rfl rfl ?_
                refine jr.getf (i := 51) (v := .ref 639) rfl rfl (by decide) rfl (by decide) rfl rfl rfl rfl ?_
                refine jr.iload_n rfl rfl ?_
                refine jr.aload_n rfl rfl ?_
                obtain ⟨v7, e7⟩ : ∃ z, M 598 2 = z := ⟨_, rfl⟩
                have b7 : 0 ≤ v7 ∧ v7 ≤ 2000000 := by rw [← e7]; exact hI_M 598 2 (by decide)
                have e8 : M1 598 2 = v7 := ((w1_3 2 (by decide) (by decide) (by decide) (by decide) (by decide) (by decide) (by decide) (by decide) (by decide) (by decide) (by decide)).trans e7)
                have e9 : M3 598 2 = v7 := ((w3_3 2 (by decide) (by decide) (by decide) (by decide) (by decide) (by decide) (by decide)).trans e8)
                have e10 : M4 598 2 = v7 := ((w4_3 2 (by decide)).trans e9)
                refine jr.getf (i := 2) (x := v7) (v := .int (Int32.ofInt (v7))) rfl rfl (by decide) rfl (by decide) rfl rfl ((ju_c _ _ (by decide)).trans e10) rfl ?_
                refine jr.aload_n rfl rfl ?_
                refine jr.getf (i := 41) (v := .ref 629) rfl rfl (by decide) rfl (by decide) rfl rfl rfl rfl ?_
                refine jr.iload_n rfl rfl ?_
                obtain ⟨v11, e11⟩ : ∃ z, M 629 r4 = z := ⟨_, rfl⟩
                have b11 : 0 ≤ v11 ∧ v11 ≤ 255 := by rw [← e11]; exact (by have q := hI_M 629 r4 (by decide); rw [xri_row rfl rfl] at q; exact q)
                have e12 : M1 629 r4 = v11 := ((w1_2 629 r4 (by decide) (by decide) (by decide) (by decide)).trans e11)
                have e13 : M3 629 r4 = v11 := ((w3_2 629 r4 (by decide)).trans e12)
                have e14 : M4 629 r4 = v11 := ((w4_2 629 r4 (by decide)).trans e13)
                refine jr.iald (i := r4) (x := v11) rfl (by decide) rfl (by decide) (by omega) (by omega) ((ju_c _ _ (by decide)).trans e14) ?_
                refine jr.iload rfl rfl ?_
                refine jr_s rfl rfl (Or.inl rfl) ⟨Nat.le_of_ble_eq_true rfl, Nat.le_of_ble_eq_true rfl⟩ rfl rfl (jc.deep (r_lives_x (RI.u hI_M4 (a := 638) (i := r4) (by rw [xri_row rfl rfl]; show (0 : Int) ≤ _ ∧ _ ≤ (15 : Int); omega)) (RH.o hH_M4 (by decide) (by decide) (by decide)) (RF.w hS_M4 (fun q => by rw [e14] at q; omega))  (by omega) (by omega) (by omega) (fun r15 z15 w15_0 => ?_)) (by decide))
                refine jr.iadd rfl ?_
                refine jr.iast (i := r4) (x := (v7 + r15)) rfl (by decide) rfl (by decide) (by omega) (by omega) ?_
                refine jr.aload_n rfl rfl ?_
                refine jr.iload_n rfl rfl ?_
                refine jr.iload_n rfl rfl ?_
                have e17 : M4 598 65 = ea := ((w4_3 65 (by decide)).trans hea)
                obtain ⟨v18, e18⟩ : ∃ z, M1 604 ea = z := ⟨_, rfl⟩
                have b18 : 0 ≤ v18 ∧ v18 ≤ 400 := by rw [← e18]; exact (by have q := hI_M1 604 ea (by decide); rw [xri_row rfl rfl] at q; exact q)
                have e19 : M3 604 ea = v18 := ((w3_2 604 ea (by decide)).trans e18)
                have e20 : M4 604 ea = v18 := ((w4_2 604 ea (by decide)).trans e19)
                obtain ⟨v21, e21⟩ : ∃ z, M4 598 66 = z := ⟨_, rfl⟩
                have b21 : (-1) ≤ v21 ∧ v21 ≤ 1 := by rw [← e21]; exact hI_M4 598 66 (by decide)
                refine jr_v rfl rfl (Or.inl rfl) rfl rfl (by decide) rfl ⟨rfl, Nat.le_of_ble_eq_true rfl, Nat.le_of_ble_eq_true rfl⟩ rfl (jc.deep (r_counts_x (RI.u (RI.u hI_M4 (a := 638) (i := r4) (by rw [xri_row rfl rfl]; show (0 : Int) ≤ _ ∧ _ ≤ (15 : Int); omega)) (a := 639) (i := r4) (by rw [xri_row rfl rfl]; show (-2147483648 : Int) ≤ _ ∧ _ ≤ (2147483647 : Int); omega)) (RH.o (RH.o hH_M4 (by decide) (by decide) (by decide)) (by decide) (by decide) (by decide)) (RF.o (RF.w hS_M4 (fun q => by rw [e14] at q; omega)) (by decide) (by decide))  (by omega) (by omega) (by rw [((ju_c _ _ (by decide)).trans ((ju_c _ _ (by decide)).trans e17))]; omega) (by rw [((ju_c _ _ (by decide)).trans ((ju_c _ _ (by decide)).trans e14)), ((ju_c _ _ (by decide)).trans ((ju_c _ _ (by decide)).trans e17)), ((ju_c _ _ (by decide)).trans ((ju_c _ _ (by decide)).trans e20))]; intro q; omega) (by rw [((ju_c _ _ (by decide)).trans ((ju_c _ _ (by decide)).trans e21))]; omega) (fun M16 hI_M16 hH_M16 hS_M16  w16_0 w16_1 => ?_)) (by decide))
                refine jr.iload_n rfl rfl ?_
                obtain ⟨v22, e22⟩ : ∃ z, M 638 r4 = z := ⟨_, rfl⟩
                have b22 : 0 ≤ v22 ∧ v22 ≤ 15 := by rw [← e22]; exact (by have q := hI_M 638 r4 (by decide); rw [xri_row rfl rfl] at q; exact q)
                have e23 : M1 638 r4 = v22 := ((w1_2 638 r4 (by decide) (by decide) (by decide) (by decide)).trans e22)
                have e24 : M3 638 r4 = v22 := ((w3_2 638 r4 (by decide)).trans e23)
                have e25 : M4 638 r4 = v22 := ((w4_2 638 r4 (by decide)).trans e24)
                exact jr.ireturn rfl rfl rfl (q _ _ hI_M16 hH_M16 hS_M16  (by omega) (TR6.n ⟨⟨by omega, by omega⟩, by omega⟩ (by omega) w1_1 w1_2 (w1_3 2 (by decide) (by decide) (by decide) (by decide) (by decide) (by decide) (by decide) (by decide) (by decide) (by decide) (by decide)) (by omega) w3_1 w4_1 w4_2 w4_3 (by have hg : fe6 M4 24 0 = r4 := (by rw [(fe6_b w4_2 w4_3).2, ← w4_1.1]); have hu7 : u7E M4 r4 = 0 := (by unfold u7E; rw [e6, e21, e25]; first | rw [if_pos (by omega)] | rw [if_neg (by omega)]); have hK : K6 M4 r4 (M4 598 60) (M4 598 2) (u7E M4 r4) = (ju (ju M4 638 r4 0) 639 r4 (v7 + r15)) := (by unfold K6; rw [hu7, e6, e10, w15_0]; first | rfl | (rw [show v11 = v5 from by omega])); have hs : (ju (ju M4 638 r4 0) 639 r4 (v7 + r15)) 598 66 = M4 598 66 := (by rw [e21]; exact ((ju_c _ _ (by decide)).trans ((ju_c _ _ (by decide)).trans e21))); have h9 := w16_0; rw [hs, ← hK] at h9; exact Or.inr ⟨by rw [hg]; omega, Or.inr (Or.inr (Or.inr ⟨by rw [e6]; omega, hg.symm, h9⟩))⟩)) (fun a i f598 f603 f604 f605 f627 f628 f629 f630 f631 f632 f633 f634 f635 f636 f637 f638 f639 f640 => ((w16_1 a i f632 f633 f634 f635 f636 f637).trans ((ju_c _ _ f639).trans ((ju_c _ _ f638).trans ((w4_2 a i f598).trans ((w3_2 a i f598).trans ((w1_2 a i f598 f603 f604 f605).trans rfl))))))) (fun i g6 g10 g11 g12 g59 g60 g61 g62 g63 g64 g65 g66 => ((w16_1 598 i (by decide) (by decide) (by decide) (by decide) (by decide) (by decide)).trans ((ju_c _ _ (by decide)).trans ((ju_c _ _ (by decide)).trans ((w4_3 i g66).trans ((w3_3 i g59 g60 g61 g62 g63 g64 g65).trans ((w1_3 i g6 g10 g11 g12 g59 g60 g61 g62 g63 g64 g65).trans rfl))))))))
              · refine jr.aload_n rfl rfl ?_
                obtain ⟨v26, e26⟩ : ∃ z, M4 598 66 = z := ⟨_, rfl⟩
                have b26 : (-1) ≤ v26 ∧ v26 ≤ 1 := by rw [← e26]; exact hI_M4 598 66 (by decide)
                refine jr.getf (i := 66) (x := v26) (v := .int (Int32.ofInt (v26))) rfl rfl (by decide) rfl (by decide) rfl rfl e26 rfl ?_
                refine jr.iconst rfl ?_
                refine jr.icmp_eq rfl rfl (by omega) (by omega) (fun h286 => ?_) (fun h286 => ?_)
                · refine jr.iconst rfl ?_
                  refine jr.goto rfl rfl ?_
                  refine jr.istore rfl (by decide) rfl ?_
                  refine jr.aload_n rfl rfl ?_
                  refine jr.getf (i := 50) (v := .ref 638) rfl rfl (by decide) rfl (by decide) rfl rfl rfl rfl ?_
                  refine jr.iload_n rfl rfl ?_
                  refine jr.iload rfl rfl ?_
                  refine jr.iast (i := r4) (x := 1) rfl (by decide) rfl (by decide) (by omega) (by omega) ?_
                  refine jr.aload_n rfl rfl ?_
                  refine jr.getf (i := 51) (v := .ref 639) rfl rfl (by decide) rfl (by decide) rfl rfl rfl rfl ?_
                  refine jr.iload_n rfl rfl ?_
                  refine jr.aload_n rfl rfl ?_
                  obtain ⟨v27, e27⟩ : ∃ z, M 598 2 = z := ⟨_, rfl⟩
                  have b27 : 0 ≤ v27 ∧ v27 ≤ 2000000 := by rw [← e27]; exact hI_M 598 2 (by decide)
                  have e28 : M1 598 2 = v27 := ((w1_3 2 (by decide) (by decide) (by decide) (by decide) (by decide) (by decide) (by decide) (by decide) (by decide) (by decide) (by decide)).trans e27)
                  have e29 : M3 598 2 = v27 := ((w3_3 2 (by decide) (by decide) (by decide) (by decide) (by decide) (by decide) (by decide)).trans e28)
                  have e30 : M4 598 2 = v27 := ((w4_3 2 (by decide)).trans e29)
                  refine jr.getf (i := 2) (x := v27) (v := .int (Int32.ofInt (v27))) rfl rfl (by decide) rfl (by decide) rfl rfl ((ju_c _ _ (by decide)).trans e30) rfl ?_
                  refine jr.aload_n rfl rfl ?_
                  refine jr.getf (i := 41) (v := .ref 629) rfl rfl (by decide) rfl (by decide) rfl rfl rfl rfl ?_
                  refine jr.iload_n rfl rfl ?_
                  obtain ⟨v31, e31⟩ : ∃ z, M 629 r4 = z := ⟨_, rfl⟩
                  have b31 : 0 ≤ v31 ∧ v31 ≤ 255 := by rw [← e31]; exact (by have q := hI_M 629 r4 (by decide); rw [xri_row rfl rfl] at q; exact q)
                  have e32 : M1 629 r4 = v31 := ((w1_2 629 r4 (by decide) (by decide) (by decide) (by decide)).trans e31)
                  have e33 : M3 629 r4 = v31 := ((w3_2 629 r4 (by decide)).trans e32)
                  have e34 : M4 629 r4 = v31 := ((w4_2 629 r4 (by decide)).trans e33)
                  refine jr.iald (i := r4) (x := v31) rfl (by decide) rfl (by decide) (by omega) (by omega) ((ju_c _ _ (by decide)).trans e34) ?_
                  refine jr.iload rfl rfl ?_
                  refine jr_s rfl rfl (Or.inl rfl) ⟨Nat.le_of_ble_eq_true rfl, Nat.le_of_ble_eq_true rfl⟩ rfl rfl (jc.deep (r_lives_x (RI.u hI_M4 (a := 638) (i := r4) (by rw [xri_row rfl rfl]; show (0 : Int) ≤ _ ∧ _ ≤ (15 : Int); omega)) (RH.o hH_M4 (by decide) (by decide) (by decide)) (RF.w hS_M4 (fun q => by rw [e34] at q; omega))  (by omega) (by omega) (by omega) (fun r35 z35 w35_0 => ?_)) (by decide))
                  refine jr.iadd rfl ?_
                  refine jr.iast (i := r4) (x := (v27 + r35)) rfl (by decide) rfl (by decide) (by omega) (by omega) ?_
                  refine jr.aload_n rfl rfl ?_
                  refine jr.iload_n rfl rfl ?_
                  refine jr.iload_n rfl rfl ?_
                  have e37 : M4 598 65 = ea := ((w4_3 65 (by decide)).trans hea)
                  obtain ⟨v38, e38⟩ : ∃ z, M1 604 ea = z := ⟨_, rfl⟩
                  have b38 : 0 ≤ v38 ∧ v38 ≤ 400 := by rw [← e38]; exact (by have q := hI_M1 604 ea (by decide); rw [xri_row rfl rfl] at q; exact q)
                  have e39 : M3 604 ea = v38 := ((w3_2 604 ea (by decide)).trans e38)
                  have e40 : M4 604 ea = v38 := ((w4_2 604 ea (by decide)).trans e39)
                  refine jr_v rfl rfl (Or.inl rfl) rfl rfl (by decide) rfl ⟨rfl, Nat.le_of_ble_eq_true rfl, Nat.le_of_ble_eq_true rfl⟩ rfl (jc.deep (r_counts_x (RI.u (RI.u hI_M4 (a := 638) (i := r4) (by rw [xri_row rfl rfl]; show (0 : Int) ≤ _ ∧ _ ≤ (15 : Int); omega)) (a := 639) (i := r4) (by rw [xri_row rfl rfl]; show (-2147483648 : Int) ≤ _ ∧ _ ≤ (2147483647 : Int); omega)) (RH.o (RH.o hH_M4 (by decide) (by decide) (by decide)) (by decide) (by decide) (by decide)) (RF.o (RF.w hS_M4 (fun q => by rw [e34] at q; omega)) (by decide) (by decide))  (by omega) (by omega) (by rw [((ju_c _ _ (by decide)).trans ((ju_c _ _ (by decide)).trans e37))]; omega) (by rw [((ju_c _ _ (by decide)).trans ((ju_c _ _ (by decide)).trans e34)), ((ju_c _ _ (by decide)).trans ((ju_c _ _ (by decide)).trans e37)), ((ju_c _ _ (by decide)).trans ((ju_c _ _ (by decide)).trans e40))]; intro q; omega) (by rw [((ju_c _ _ (by decide)).trans ((ju_c _ _ (by decide)).trans e26))]; omega) (fun M36 hI_M36 hH_M36 hS_M36  w36_0 w36_1 => ?_)) (by decide))
                  refine jr.iload_n rfl rfl ?_
                  obtain ⟨v41, e41⟩ : ∃ z, M 638 r4 = z := ⟨_, rfl⟩
                  have b41 : 0 ≤ v41 ∧ v41 ≤ 15 := by rw [← e41]; exact (by have q := hI_M 638 r4 (by decide); rw [xri_row rfl rfl] at q; exact q)
                  have e42 : M1 638 r4 = v41 := ((w1_2 638 r4 (by decide) (by decide) (by decide) (by decide)).trans e41)
                  have e43 : M3 638 r4 = v41 := ((w3_2 638 r4 (by decide)).trans e42)
                  have e44 : M4 638 r4 = v41 := ((w4_2 638 r4 (by decide)).trans e43)
                  exact jr.ireturn rfl rfl rfl (q _ _ hI_M36 hH_M36 hS_M36  (by omega) (TR6.n ⟨⟨by omega, by omega⟩, by omega⟩ (by omega) w1_1 w1_2 (w1_3 2 (by decide) (by decide) (by decide) (by decide) (by decide) (by decide) (by decide) (by decide) (by decide) (by decide) (by decide)) (by omega) w3_1 w4_1 w4_2 w4_3 (by have hg : fe6 M4 24 0 = r4 := (by rw [(fe6_b w4_2 w4_3).2, ← w4_1.1]); have hu7 : u7E M4 r4 = 1 := (by unfold u7E; rw [e6, e26, e44]; first | rw [if_pos (by omega)] | rw [if_neg (by omega)]); have hK : K6 M4 r4 (M4 598 60) (M4 598 2) (u7E M4 r4) = (ju (ju M4 638 r4 1) 639 r4 (v27 + r35)) := (by unfold K6; rw [hu7, e6, e30, w35_0]; first | rfl | (rw [show v31 = v5 from by omega])); have hs : (ju (ju M4 638 r4 1) 639 r4 (v27 + r35)) 598 66 = M4 598 66 := (by rw [e26]; exact ((ju_c _ _ (by decide)).trans ((ju_c _ _ (by decide)).trans e26))); have h9 := w36_0; rw [hs, ← hK] at h9; exact Or.inr ⟨by rw [hg]; omega, Or.inr (Or.inr (Or.inr ⟨by rw [e6]; omega, hg.symm, h9⟩))⟩)) (fun a i f598 f603 f604 f605 f627 f628 f629 f630 f631 f632 f633 f634 f635 f636 f637 f638 f639 f640 => ((w36_1 a i f632 f633 f634 f635 f636 f637).trans ((ju_c _ _ f639).trans ((ju_c _ _ f638).trans ((w4_2 a i f598).trans ((w3_2 a i f598).trans ((w1_2 a i f598 f603 f604 f605).trans rfl))))))) (fun i g6 g10 g11 g12 g59 g60 g61 g62 g63 g64 g65 g66 => ((w36_1 598 i (by decide) (by decide) (by decide) (by decide) (by decide) (by decide)).trans ((ju_c _ _ (by decide)).trans ((ju_c _ _ (by decide)).trans ((w4_3 i g66).trans ((w3_3 i g59 g60 g61 g62 g63 g64 g65).trans ((w1_3 i g6 g10 g11 g12 g59 g60 g61 g62 g63 g64 g65).trans rfl))))))))
                · have sx286 : v26 ≤ (0 : Int) := by omega
                  refine jr.aload_n rfl rfl ?_
                  refine jr.getf (i := 50) (v := .ref 638) rfl rfl (by decide) rfl (by decide) rfl rfl rfl rfl ?_
                  refine jr.iload_n rfl rfl ?_
                  obtain ⟨v45, e45⟩ : ∃ z, M 638 r4 = z := ⟨_, rfl⟩
                  have b45 : 0 ≤ v45 ∧ v45 ≤ 15 := by rw [← e45]; exact (by have q := hI_M 638 r4 (by decide); rw [xri_row rfl rfl] at q; exact q)
                  have e46 : M1 638 r4 = v45 := ((w1_2 638 r4 (by decide) (by decide) (by decide) (by decide)).trans e45)
                  have e47 : M3 638 r4 = v45 := ((w3_2 638 r4 (by decide)).trans e46)
                  have e48 : M4 638 r4 = v45 := ((w4_2 638 r4 (by decide)).trans e47)
                  refine jr.iald (i := r4) (x := v45) rfl (by decide) rfl (by decide) (by omega) (by omega) e48 ?_
                  refine jr.iconst rfl ?_
                  refine jr.icmp_ne rfl rfl (by omega) (by omega) (fun h296 => ?_) (fun h296 => ?_)
                  · refine jr.iconst rfl ?_
                    refine jr.istore rfl (by decide) rfl ?_
                    refine jr.aload_n rfl rfl ?_
                    refine jr.getf (i := 50) (v := .ref 638) rfl rfl (by decide) rfl (by decide) rfl rfl rfl rfl ?_
                    refine jr.iload_n rfl rfl ?_
                    refine jr.iload rfl rfl ?_
                    refine jr.iast (i := r4) (x := 0) rfl (by decide) rfl (by decide) (by omega) (by omega) ?_
                    refine jr.aload_n rfl rfl ?_
                    refine jr.getf (i := 51) (v := .ref 639) rfl rfl (by decide) rfl (by decide) rfl rfl rfl rfl ?_
                    refine jr.iload_n rfl rfl ?_
                    refine jr.aload_n rfl rfl ?_
                    obtain ⟨v49, e49⟩ : ∃ z, M 598 2 = z := ⟨_, rfl⟩
                    have b49 : 0 ≤ v49 ∧ v49 ≤ 2000000 := by rw [← e49]; exact hI_M 598 2 (by decide)
                    have e50 : M1 598 2 = v49 := ((w1_3 2 (by decide) (by decide) (by decide) (by decide) (by decide) (by decide) (by decide) (by decide) (by decide) (by decide) (by decide)).trans e49)
                    have e51 : M3 598 2 = v49 := ((w3_3 2 (by decide) (by decide) (by decide) (by decide) (by decide) (by decide) (by decide)).trans e50)
                    have e52 : M4 598 2 = v49 := ((w4_3 2 (by decide)).trans e51)
                    refine jr.getf (i := 2) (x := v49) (v := .int (Int32.ofInt (v49))) rfl rfl (by decide) rfl (by decide) rfl rfl ((ju_c _ _ (by decide)).trans e52) rfl ?_
                    refine jr.aload_n rfl rfl ?_
                    refine jr.getf (i := 41) (v := .ref 629) rfl rfl (by decide) rfl (by decide) rfl rfl rfl rfl ?_
                    refine jr.iload_n rfl rfl ?_
                    obtain ⟨v53, e53⟩ : ∃ z, M 629 r4 = z := ⟨_, rfl⟩
                    have b53 : 0 ≤ v53 ∧ v53 ≤ 255 := by rw [← e53]; exact (by have q := hI_M 629 r4 (by decide); rw [xri_row rfl rfl] at q; exact q)
                    have e54 : M1 629 r4 = v53 := ((w1_2 629 r4 (by decide) (by decide) (by decide) (by decide)).trans e53)
                    have e55 : M3 629 r4 = v53 := ((w3_2 629 r4 (by decide)).trans e54)
                    have e56 : M4 629 r4 = v53 := ((w4_2 629 r4 (by decide)).trans e55)
                    refine jr.iald (i := r4) (x := v53) rfl (by decide) rfl (by decide) (by omega) (by omega) ((ju_c _ _ (by decide)).trans e56) ?_
                    refine jr.iload rfl rfl ?_
                    refine jr_s rfl rfl (Or.inl rfl) ⟨Nat.le_of_ble_eq_true rfl, Nat.le_of_ble_eq_true rfl⟩ rfl rfl (jc.deep (r_lives_x (RI.u hI_M4 (a := 638) (i := r4) (by rw [xri_row rfl rfl]; show (0 : Int) ≤ _ ∧ _ ≤ (15 : Int); omega)) (RH.o hH_M4 (by decide) (by decide) (by decide)) (RF.w hS_M4 (fun q => by rw [e56] at q; omega))  (by omega) (by omega) (by omega) (fun r57 z57 w57_0 => ?_)) (by decide))
                    refine jr.iadd rfl ?_
                    refine jr.iast (i := r4) (x := (v49 + r57)) rfl (by decide) rfl (by decide) (by omega) (by omega) ?_
                    refine jr.aload_n rfl rfl ?_
                    refine jr.iload_n rfl rfl ?_
                    refine jr.iload_n rfl rfl ?_
                    have e59 : M4 598 65 = ea := ((w4_3 65 (by decide)).trans hea)
                    obtain ⟨v60, e60⟩ : ∃ z, M1 604 ea = z := ⟨_, rfl⟩
                    have b60 : 0 ≤ v60 ∧ v60 ≤ 400 := by rw [← e60]; exact (by have q := hI_M1 604 ea (by decide); rw [xri_row rfl rfl] at q; exact q)
                    have e61 : M3 604 ea = v60 := ((w3_2 604 ea (by decide)).trans e60)
                    have e62 : M4 604 ea = v60 := ((w4_2 604 ea (by decide)).trans e61)
                    refine jr_v rfl rfl (Or.inl rfl) rfl rfl (by decide) rfl ⟨rfl, Nat.le_of_ble_eq_true rfl, Nat.le_of_ble_eq_true rfl⟩ rfl (jc.deep (r_counts_x (RI.u (RI.u hI_M4 (a := 638) (i := r4) (by rw [xri_row rfl rfl]; show (0 : Int) ≤ _ ∧ _ ≤ (15 : Int); omega)) (a := 639) (i := r4) (by rw [xri_row rfl rfl]; show (-2147483648 : Int) ≤ _ ∧ _ ≤ (2147483647 : Int); omega)) (RH.o (RH.o hH_M4 (by decide) (by decide) (by decide)) (by decide) (by decide) (by decide)) (RF.o (RF.w hS_M4 (fun q => by rw [e56] at q; omega)) (by decide) (by decide))  (by omega) (by omega) (by rw [((ju_c _ _ (by decide)).trans ((ju_c _ _ (by decide)).trans e59))]; omega) (by rw [((ju_c _ _ (by decide)).trans ((ju_c _ _ (by decide)).trans e56)), ((ju_c _ _ (by decide)).trans ((ju_c _ _ (by decide)).trans e59)), ((ju_c _ _ (by decide)).trans ((ju_c _ _ (by decide)).trans e62))]; intro q; omega) (by rw [((ju_c _ _ (by decide)).trans ((ju_c _ _ (by decide)).trans e26))]; omega) (fun M58 hI_M58 hH_M58 hS_M58  w58_0 w58_1 => ?_)) (by decide))
                    refine jr.iload_n rfl rfl ?_
                    exact jr.ireturn rfl rfl rfl (q _ _ hI_M58 hH_M58 hS_M58  (by omega) (TR6.n ⟨⟨by omega, by omega⟩, by omega⟩ (by omega) w1_1 w1_2 (w1_3 2 (by decide) (by decide) (by decide) (by decide) (by decide) (by decide) (by decide) (by decide) (by decide) (by decide) (by decide)) (by omega) w3_1 w4_1 w4_2 w4_3 (by have hg : fe6 M4 24 0 = r4 := (by rw [(fe6_b w4_2 w4_3).2, ← w4_1.1]); have hu7 : u7E M4 r4 = 0 := (by unfold u7E; rw [e6, e26, e48]; first | rw [if_pos (by omega)] | rw [if_neg (by omega)]); have hK : K6 M4 r4 (M4 598 60) (M4 598 2) (u7E M4 r4) = (ju (ju M4 638 r4 0) 639 r4 (v49 + r57)) := (by unfold K6; rw [hu7, e6, e52, w57_0]; first | rfl | (rw [show v53 = v5 from by omega])); have hs : (ju (ju M4 638 r4 0) 639 r4 (v49 + r57)) 598 66 = M4 598 66 := (by rw [e26]; exact ((ju_c _ _ (by decide)).trans ((ju_c _ _ (by decide)).trans e26))); have h9 := w58_0; rw [hs, ← hK] at h9; exact Or.inr ⟨by rw [hg]; omega, Or.inr (Or.inr (Or.inr ⟨by rw [e6]; omega, hg.symm, h9⟩))⟩)) (fun a i f598 f603 f604 f605 f627 f628 f629 f630 f631 f632 f633 f634 f635 f636 f637 f638 f639 f640 => ((w58_1 a i f632 f633 f634 f635 f636 f637).trans ((ju_c _ _ f639).trans ((ju_c _ _ f638).trans ((w4_2 a i f598).trans ((w3_2 a i f598).trans ((w1_2 a i f598 f603 f604 f605).trans rfl))))))) (fun i g6 g10 g11 g12 g59 g60 g61 g62 g63 g64 g65 g66 => ((w58_1 598 i (by decide) (by decide) (by decide) (by decide) (by decide) (by decide)).trans ((ju_c _ _ (by decide)).trans ((ju_c _ _ (by decide)).trans ((w4_3 i g66).trans ((w3_3 i g59 g60 g61 g62 g63 g64 g65).trans ((w1_3 i g6 g10 g11 g12 g59 g60 g61 g62 g63 g64 g65).trans rfl))))))))
                  · refine jr.iconst rfl ?_
                    refine jr.goto rfl rfl ?_
                    refine jr.istore rfl (by decide) rfl ?_
                    refine jr.aload_n rfl rfl ?_
                    refine jr.getf (i := 50) (v := .ref 638) rfl rfl (by decide) rfl (by decide) rfl rfl rfl rfl ?_
                    refine jr.iload_n rfl rfl ?_
                    refine jr.iload rfl rfl ?_
                    refine jr.iast (i := r4) (x := 1) rfl (by decide) rfl (by decide) (by omega) (by omega) ?_
                    refine jr.aload_n rfl rfl ?_
                    refine jr.getf (i := 51) (v := .ref 639) rfl rfl (by decide) rfl (by decide) rfl rfl rfl rfl ?_
                    refine jr.iload_n rfl rfl ?_
                    refine jr.aload_n rfl rfl ?_
                    obtain ⟨v63, e63⟩ : ∃ z, M 598 2 = z := ⟨_, rfl⟩
                    have b63 : 0 ≤ v63 ∧ v63 ≤ 2000000 := by rw [← e63]; exact hI_M 598 2 (by decide)
                    have e64 : M1 598 2 = v63 := ((w1_3 2 (by decide) (by decide) (by decide) (by decide) (by decide) (by decide) (by decide) (by decide) (by decide) (by decide) (by decide)).trans e63)
                    have e65 : M3 598 2 = v63 := ((w3_3 2 (by decide) (by decide) (by decide) (by decide) (by decide) (by decide) (by decide)).trans e64)
                    have e66 : M4 598 2 = v63 := ((w4_3 2 (by decide)).trans e65)
                    refine jr.getf (i := 2) (x := v63) (v := .int (Int32.ofInt (v63))) rfl rfl (by decide) rfl (by decide) rfl rfl ((ju_c _ _ (by decide)).trans e66) rfl ?_
                    refine jr.aload_n rfl rfl ?_
                    refine jr.getf (i := 41) (v := .ref 629) rfl rfl (by decide) rfl (by decide) rfl rfl rfl rfl ?_
                    refine jr.iload_n rfl rfl ?_
                    obtain ⟨v67, e67⟩ : ∃ z, M 629 r4 = z := ⟨_, rfl⟩
                    have b67 : 0 ≤ v67 ∧ v67 ≤ 255 := by rw [← e67]; exact (by have q := hI_M 629 r4 (by decide); rw [xri_row rfl rfl] at q; exact q)
                    have e68 : M1 629 r4 = v67 := ((w1_2 629 r4 (by decide) (by decide) (by decide) (by decide)).trans e67)
                    have e69 : M3 629 r4 = v67 := ((w3_2 629 r4 (by decide)).trans e68)
                    have e70 : M4 629 r4 = v67 := ((w4_2 629 r4 (by decide)).trans e69)
                    refine jr.iald (i := r4) (x := v67) rfl (by decide) rfl (by decide) (by omega) (by omega) ((ju_c _ _ (by decide)).trans e70) ?_
                    refine jr.iload rfl rfl ?_
                    refine jr_s rfl rfl (Or.inl rfl) ⟨Nat.le_of_ble_eq_true rfl, Nat.le_of_ble_eq_true rfl⟩ rfl rfl (jc.deep (r_lives_x (RI.u hI_M4 (a := 638) (i := r4) (by rw [xri_row rfl rfl]; show (0 : Int) ≤ _ ∧ _ ≤ (15 : Int); omega)) (RH.o hH_M4 (by decide) (by decide) (by decide)) (RF.w hS_M4 (fun q => by rw [e70] at q; omega))  (by omega) (by omega) (by omega) (fun r71 z71 w71_0 => ?_)) (by decide))
                    refine jr.iadd rfl ?_
                    refine jr.iast (i := r4) (x := (v63 + r71)) rfl (by decide) rfl (by decide) (by omega) (by omega) ?_
                    refine jr.aload_n rfl rfl ?_
                    refine jr.iload_n rfl rfl ?_
                    refine jr.iload_n rfl rfl ?_
                    have e73 : M4 598 65 = ea := ((w4_3 65 (by decide)).trans hea)
                    obtain ⟨v74, e74⟩ : ∃ z, M1 604 ea = z := ⟨_, rfl⟩
                    have b74 : 0 ≤ v74 ∧ v74 ≤ 400 := by rw [← e74]; exact (by have q := hI_M1 604 ea (by decide); rw [xri_row rfl rfl] at q; exact q)
                    have e75 : M3 604 ea = v74 := ((w3_2 604 ea (by decide)).trans e74)
                    have e76 : M4 604 ea = v74 := ((w4_2 604 ea (by decide)).trans e75)
                    refine jr_v rfl rfl (Or.inl rfl) rfl rfl (by decide) rfl ⟨rfl, Nat.le_of_ble_eq_true rfl, Nat.le_of_ble_eq_true rfl⟩ rfl (jc.deep (r_counts_x (RI.u (RI.u hI_M4 (a := 638) (i := r4) (by rw [xri_row rfl rfl]; show (0 : Int) ≤ _ ∧ _ ≤ (15 : Int); omega)) (a := 639) (i := r4) (by rw [xri_row rfl rfl]; show (-2147483648 : Int) ≤ _ ∧ _ ≤ (2147483647 : Int); omega)) (RH.o (RH.o hH_M4 (by decide) (by decide) (by decide)) (by decide) (by decide) (by decide)) (RF.o (RF.w hS_M4 (fun q => by rw [e70] at q; omega)) (by decide) (by decide))  (by omega) (by omega) (by rw [((ju_c _ _ (by decide)).trans ((ju_c _ _ (by decide)).trans e73))]; omega) (by rw [((ju_c _ _ (by decide)).trans ((ju_c _ _ (by decide)).trans e70)), ((ju_c _ _ (by decide)).trans ((ju_c _ _ (by decide)).trans e73)), ((ju_c _ _ (by decide)).trans ((ju_c _ _ (by decide)).trans e76))]; intro q; omega) (by rw [((ju_c _ _ (by decide)).trans ((ju_c _ _ (by decide)).trans e26))]; omega) (fun M72 hI_M72 hH_M72 hS_M72  w72_0 w72_1 => ?_)) (by decide))
                    refine jr.iload_n rfl rfl ?_
                    exact jr.ireturn rfl rfl rfl (q _ _ hI_M72 hH_M72 hS_M72  (by omega) (TR6.n ⟨⟨by omega, by omega⟩, by omega⟩ (by omega) w1_1 w1_2 (w1_3 2 (by decide) (by decide) (by decide) (by decide) (by decide) (by decide) (by decide) (by decide) (by decide) (by decide) (by decide)) (by omega) w3_1 w4_1 w4_2 w4_3 (by have hg : fe6 M4 24 0 = r4 := (by rw [(fe6_b w4_2 w4_3).2, ← w4_1.1]); have hu7 : u7E M4 r4 = 1 := (by unfold u7E; rw [e6, e26, e48]; first | rw [if_pos (by omega)] | rw [if_neg (by omega)]); have hK : K6 M4 r4 (M4 598 60) (M4 598 2) (u7E M4 r4) = (ju (ju M4 638 r4 1) 639 r4 (v63 + r71)) := (by unfold K6; rw [hu7, e6, e66, w71_0]; first | rfl | (rw [show v67 = v5 from by omega])); have hs : (ju (ju M4 638 r4 1) 639 r4 (v63 + r71)) 598 66 = M4 598 66 := (by rw [e26]; exact ((ju_c _ _ (by decide)).trans ((ju_c _ _ (by decide)).trans e26))); have h9 := w72_0; rw [hs, ← hK] at h9; exact Or.inr ⟨by rw [hg]; omega, Or.inr (Or.inr (Or.inr ⟨by rw [e6]; omega, hg.symm, h9⟩))⟩)) (fun a i f598 f603 f604 f605 f627 f628 f629 f630 f631 f632 f633 f634 f635 f636 f637 f638 f639 f640 => ((w72_1 a i f632 f633 f634 f635 f636 f637).trans ((ju_c _ _ f639).trans ((ju_c _ _ f638).trans ((w4_2 a i f598).trans ((w3_2 a i f598).trans ((w1_2 a i f598 f603 f604 f605).trans rfl))))))) (fun i g6 g10 g11 g12 g59 g60 g61 g62 g63 g64 g65 g66 => ((w72_1 598 i (by decide) (by decide) (by decide) (by decide) (by decide) (by decide)).trans ((ju_c _ _ (by decide)).trans ((ju_c _ _ (by decide)).trans ((w4_3 i g66).trans ((w3_3 i g59 g60 g61 g62 g63 g64 g65).trans ((w1_3 i g6 g10 g11 g12 g59 g60 g61 g62 g63 g64 g65).trans rfl))))))))
            · exact absurd h58 h201
          · refine jr.aload_n rfl rfl ?_
            refine jr.getf (i := 60) (x := v5) (v := .int (Int32.ofInt (v5))) rfl rfl (by decide) rfl (by decide) rfl rfl e6 rfl ?_
            refine jr.bipush rfl (by decide) ?_
            refine jr.icmp_ne rfl rfl (by omega) (by omega) (fun h100 => ?_) (fun h100 => ?_)
            · refine jr.aload_n rfl rfl ?_
              refine jr.getf (i := 60) (x := v5) (v := .int (Int32.ofInt (v5))) rfl rfl (by decide) rfl (by decide) rfl rfl e6 rfl ?_
              refine jr.bipush rfl (by decide) ?_
              refine jr.icmp_eq rfl rfl (by omega) (by omega) (fun h121 => ?_) (fun h121 => ?_)
              · refine jr.iconst rfl ?_
                refine jr.goto rfl rfl ?_
                refine jr.istore rfl (by decide) rfl ?_
                refine jr.iload rfl rfl ?_
                refine jr.if_ne rfl rfl (by omega) (fun _ => ?_) (fun h => absurd (by decide) h)
                refine jr.aload_n rfl rfl ?_
                refine jr_v rfl rfl (Or.inl rfl) rfl rfl (by decide) rfl ⟨rfl, Nat.le_of_ble_eq_true rfl, Nat.le_of_ble_eq_true rfl⟩ rfl (jc.deep (r_beginFlow_x hI_M4 hH_M4 hS_M4    (fun r122 M122 hI_M122 hH_M122  z122 w122_0 w122_1 w122_2 w122_3 => ?_)) (by decide))
                refine jr.istore_n rfl (by decide) rfl ?_
                refine jr.iload_n rfl rfl ?_
                refine jr.iconst rfl ?_
                refine jr.icmp_ne rfl rfl (by omega) (by omega) (fun h165 => ?_) (fun h165 => ?_)
                · have sx165 : (0 : Int) ≤ r122 := by omega
                  refine jr.aload_n rfl rfl ?_
                  refine jr.iconst rfl ?_
                  refine jr.putf (i := 66) (x := 0) rfl rfl (by decide) rfl (by decide) rfl rfl rfl rfl rfl ?_
                  refine jr.aload_n rfl rfl ?_
                  have e123 : M122 598 60 = v5 := ((w122_3 598 60 (by decide) (by decide) (by decide) (by decide) (by decide) (by decide) (by decide) (by decide) (by decide) (by decide) (by decide) (by decide)).trans e6)
                  refine jr.getf (i := 60) (x := v5) (v := .int (Int32.ofInt (v5))) rfl rfl (by decide) rfl (by decide) rfl rfl ((ju_i _ _ (by decide)).trans e123) rfl ?_
                  refine jr.bipush rfl (by decide) ?_
                  refine jr.icmp_ne rfl rfl (by omega) (by omega) (fun h182 => ?_) (fun h182 => ?_)
                  · refine jr.iconst rfl ?_
                    refine jr.istore rfl (by decide) rfl ?_
                    refine jr.goto rfl rfl ?_
                    refine jr.aload_n rfl rfl ?_
                    refine jr.getf (i := 50) (v := .ref 638) rfl rfl (by decide) rfl (by decide) rfl rfl rfl rfl ?_
                    refine jr.iload_n rfl rfl ?_
                    refine jr.iload rfl rfl ?_
                    refine jr.iast (i := r122) (x := 0) rfl (by decide) rfl (by decide) (by omega) (by omega) ?_
                    refine jr.aload_n rfl rfl ?_
                    refine jr.getf (i := 51) (v := .ref 639) rfl rfl (by decide) rfl (by decide) rfl rfl rfl rfl ?_
                    refine jr.iload_n rfl rfl ?_
                    refine jr.aload_n rfl rfl ?_
                    obtain ⟨v124, e124⟩ : ∃ z, M 598 2 = z := ⟨_, rfl⟩
                    have b124 : 0 ≤ v124 ∧ v124 ≤ 2000000 := by rw [← e124]; exact hI_M 598 2 (by decide)
                    have e125 : M1 598 2 = v124 := ((w1_3 2 (by decide) (by decide) (by decide) (by decide) (by decide) (by decide) (by decide) (by decide) (by decide) (by decide) (by decide)).trans e124)
                    have e126 : M3 598 2 = v124 := ((w3_3 2 (by decide) (by decide) (by decide) (by decide) (by decide) (by decide) (by decide)).trans e125)
                    have e127 : M4 598 2 = v124 := ((w4_3 2 (by decide)).trans e126)
                    have e128 : M122 598 2 = v124 := ((w122_3 598 2 (by decide) (by decide) (by decide) (by decide) (by decide) (by decide) (by decide) (by decide) (by decide) (by decide) (by decide) (by decide)).trans e127)
                    refine jr.getf (i := 2) (x := v124) (v := .int (Int32.ofInt (v124))) rfl rfl (by decide) rfl (by decide) rfl rfl ((ju_c _ _ (by decide)).trans ((ju_i _ _ (by decide)).trans e128)) rfl ?_
                    refine jr.aload_n rfl rfl ?_
                    refine jr.getf (i := 41) (v := .ref 629) rfl rfl (by decide) rfl (by decide) rfl rfl rfl rfl ?_
                    refine jr.iload_n rfl rfl ?_
                    obtain ⟨v129, e129⟩ : ∃ z, M122 629 r122 = z := ⟨_, rfl⟩
                    have b129 : 0 ≤ v129 ∧ v129 ≤ 255 := by rw [← e129]; exact (by have q := hI_M122 629 r122 (by decide); rw [xri_row rfl rfl] at q; exact q)
                    refine jr.iald (i := r122) (x := v129) rfl (by decide) rfl (by decide) (by omega) (by omega) ((ju_c _ _ (by decide)).trans ((ju_c _ _ (by decide)).trans e129)) ?_
                    refine jr.iload rfl rfl ?_
                    refine jr_s rfl rfl (Or.inl rfl) ⟨Nat.le_of_ble_eq_true rfl, Nat.le_of_ble_eq_true rfl⟩ rfl rfl (jc.deep (r_lives_x (RI.u (RI.u hI_M122 (a := 598) (i := 66) (show (-1 : Int) ≤ _ ∧ _ ≤ (1 : Int) from by omega)) (a := 638) (i := r122) (by rw [xri_row rfl rfl]; show (0 : Int) ≤ _ ∧ _ ≤ (15 : Int); omega)) (RH.o (RH.o hH_M122 (by decide) (by decide) (by decide)) (by decide) (by decide) (by decide)) (RFx.w (RFx.o w122_0 (by decide) (by decide)) (fun q => by rw [((ju_c _ _ (by decide)).trans e129)] at q; omega))  (by omega) (by omega) (by omega) (fun r130 z130 w130_0 => ?_)) (by decide))
                    refine jr.iadd rfl ?_
                    refine jr.iast (i := r122) (x := (v124 + r130)) rfl (by decide) rfl (by decide) (by omega) (by omega) ?_
                    refine jr.aload_n rfl rfl ?_
                    refine jr.iload_n rfl rfl ?_
                    refine jr.iload_n rfl rfl ?_
                    have e132 : M4 598 65 = ea := ((w4_3 65 (by decide)).trans hea)
                    have e133 : M122 598 65 = ea := ((w122_3 598 65 (by decide) (by decide) (by decide) (by decide) (by decide) (by decide) (by decide) (by decide) (by decide) (by decide) (by decide) (by decide)).trans e132)
                    obtain ⟨v134, e134⟩ : ∃ z, M1 604 ea = z := ⟨_, rfl⟩
                    have b134 : 0 ≤ v134 ∧ v134 ≤ 400 := by rw [← e134]; exact (by have q := hI_M1 604 ea (by decide); rw [xri_row rfl rfl] at q; exact q)
                    have e135 : M3 604 ea = v134 := ((w3_2 604 ea (by decide)).trans e134)
                    have e136 : M4 604 ea = v134 := ((w4_2 604 ea (by decide)).trans e135)
                    have e137 : M122 604 ea = v134 := ((w122_3 604 ea (by decide) (by decide) (by decide) (by decide) (by decide) (by decide) (by decide) (by decide) (by decide) (by decide) (by decide) (by decide)).trans e136)
                    refine jr_v rfl rfl (Or.inl rfl) rfl rfl (by decide) rfl ⟨rfl, Nat.le_of_ble_eq_true rfl, Nat.le_of_ble_eq_true rfl⟩ rfl (jc.deep (r_counts_x (RI.u (RI.u (RI.u hI_M122 (a := 598) (i := 66) (show (-1 : Int) ≤ _ ∧ _ ≤ (1 : Int) from by omega)) (a := 638) (i := r122) (by rw [xri_row rfl rfl]; show (0 : Int) ≤ _ ∧ _ ≤ (15 : Int); omega)) (a := 639) (i := r122) (by rw [xri_row rfl rfl]; show (-2147483648 : Int) ≤ _ ∧ _ ≤ (2147483647 : Int); omega)) (RH.o (RH.o (RH.o hH_M122 (by decide) (by decide) (by decide)) (by decide) (by decide) (by decide)) (by decide) (by decide) (by decide)) (RF.o (RFx.w (RFx.o w122_0 (by decide) (by decide)) (fun q => by rw [((ju_c _ _ (by decide)).trans e129)] at q; omega)) (by decide) (by decide))  (by omega) (by omega) (by rw [((ju_c _ _ (by decide)).trans ((ju_c _ _ (by decide)).trans ((ju_i _ _ (by decide)).trans e133)))]; omega) (by rw [((ju_c _ _ (by decide)).trans ((ju_c _ _ (by decide)).trans ((ju_c _ _ (by decide)).trans e129))), ((ju_c _ _ (by decide)).trans ((ju_c _ _ (by decide)).trans ((ju_i _ _ (by decide)).trans e133))), ((ju_c _ _ (by decide)).trans ((ju_c _ _ (by decide)).trans ((ju_c _ _ (by decide)).trans e137)))]; intro q; omega) (by rw [((ju_c _ _ (by decide)).trans ((ju_c _ _ (by decide)).trans (ju_same _ _ _ _)))]; omega) (fun M131 hI_M131 hH_M131 hS_M131  w131_0 w131_1 => ?_)) (by decide))
                    refine jr.iload_n rfl rfl ?_
                    exact jr.ireturn rfl rfl rfl (q _ _ hI_M131 hH_M131 hS_M131  (by omega) (TR6.n ⟨⟨by omega, by omega⟩, by omega⟩ (by omega) w1_1 w1_2 (w1_3 2 (by decide) (by decide) (by decide) (by decide) (by decide) (by decide) (by decide) (by decide) (by decide) (by decide) (by decide)) (by omega) w3_1 w4_1 w4_2 w4_3 (by have hg : fe6 M4 24 0 = r4 := (by rw [(fe6_b w4_2 w4_3).2, ← w4_1.1]); have hK : K6 (ju M122 598 66 0) r122 (M4 598 60) (M4 598 2) (if M4 598 60 = 6 then 1 else 0) = (ju (ju (ju M122 598 66 0) 638 r122 0) 639 r122 (v124 + r130)) := (by unfold K6; rw [e6, e127, if_neg (by omega), w130_0]; first | rfl | (rw [show v129 = v5 from by omega])); have h9 := w131_0; have hs : (ju (ju (ju M122 598 66 0) 638 r122 0) 639 r122 (v124 + r130)) 598 66 = 0 := ((ju_c _ _ (by decide)).trans ((ju_c _ _ (by decide)).trans (ju_same _ _ _ _))); rw [hs] at h9; rw [← hK] at h9; exact Or.inl ⟨by rw [hg]; omega, Or.inr (Or.inr ⟨(by unfold mayE; rw [e6]; first | omega), by rw [← w122_2.1]; omega, w122_2.1, M122, (by rcases w122_2.2 with h8 | h8; (exact absurd h8.1 (by omega)); (exact h8.2)), w122_3, h9⟩)⟩)) (fun a i f598 f603 f604 f605 f627 f628 f629 f630 f631 f632 f633 f634 f635 f636 f637 f638 f639 f640 => ((w131_1 a i f632 f633 f634 f635 f636 f637).trans ((ju_c _ _ f639).trans ((ju_c _ _ f638).trans ((ju_c _ _ f598).trans ((w122_3 a i f627 f628 f629 f630 f631 f632 f633 f634 f635 f636 f637 f640).trans ((w4_2 a i f598).trans ((w3_2 a i f598).trans ((w1_2 a i f598 f603 f604 f605).trans rfl))))))))) (fun i g6 g10 g11 g12 g59 g60 g61 g62 g63 g64 g65 g66 => ((w131_1 598 i (by decide) (by decide) (by decide) (by decide) (by decide) (by decide)).trans ((ju_c _ _ (by decide)).trans ((ju_c _ _ (by decide)).trans ((ju_i _ _ g66).trans ((w122_3 598 i (by decide) (by decide) (by decide) (by decide) (by decide) (by decide) (by decide) (by decide) (by decide) (by decide) (by decide) (by decide)).trans ((w4_3 i g66).trans ((w3_3 i g59 g60 g61 g62 g63 g64 g65).trans ((w1_3 i g6 g10 g11 g12 g59 g60 g61 g62 g63 g64 g65).trans rfl))))))))))
                  · exact absurd (by omega) h182
                · refine jr.bipush rfl (by decide) ?_
                  have e138 : M4 598 65 = ea := ((w4_3 65 (by decide)).trans hea)
                  obtain ⟨v139, e139⟩ : ∃ z, M1 604 ea = z := ⟨_, rfl⟩
                  have b139 : 0 ≤ v139 ∧ v139 ≤ 400 := by rw [← e139]; exact (by have q := hI_M1 604 ea (by decide); rw [xri_row rfl rfl] at q; exact q)
                  have e140 : M3 604 ea = v139 := ((w3_2 604 ea (by decide)).trans e139)
                  have e141 : M4 604 ea = v139 := ((w4_2 604 ea (by decide)).trans e140)
                  exact jr.ireturn rfl rfl rfl (q _ _ hI_M122 hH_M122 (RFx.none w122_0 (by omega))  (by omega) (TR6.n ⟨⟨by omega, by omega⟩, by omega⟩ (by omega) w1_1 w1_2 (w1_3 2 (by decide) (by decide) (by decide) (by decide) (by decide) (by decide) (by decide) (by decide) (by decide) (by decide) (by decide)) (by omega) w3_1 w4_1 w4_2 w4_3 (by have hg : fe6 M4 24 0 = r4 := (by rw [(fe6_b w4_2 w4_3).2, ← w4_1.1]); exact Or.inl ⟨by rw [hg]; omega, Or.inr (Or.inl ⟨(by unfold mayE; rw [e6]; first | omega), by rw [← w122_2.1]; omega, rfl, by rcases w122_2.2 with h9 | h9; (exact h9.2); (exact absurd (by omega) h9.1)⟩)⟩)) (fun a i f598 f603 f604 f605 f627 f628 f629 f630 f631 f632 f633 f634 f635 f636 f637 f638 f639 f640 => ((w122_3 a i f627 f628 f629 f630 f631 f632 f633 f634 f635 f636 f637 f640).trans ((w4_2 a i f598).trans ((w3_2 a i f598).trans ((w1_2 a i f598 f603 f604 f605).trans rfl))))) (fun i g6 g10 g11 g12 g59 g60 g61 g62 g63 g64 g65 g66 => ((w122_3 598 i (by decide) (by decide) (by decide) (by decide) (by decide) (by decide) (by decide) (by decide) (by decide) (by decide) (by decide) (by decide)).trans ((w4_3 i g66).trans ((w3_3 i g59 g60 g61 g62 g63 g64 g65).trans ((w1_3 i g6 g10 g11 g12 g59 g60 g61 g62 g63 g64 g65).trans rfl))))))
              · refine jr.aload_n rfl rfl ?_
                refine jr.iload_n rfl rfl ?_
                refine jr.aload_n rfl rfl ?_
                refine jr.getf (i := 8) (v := .ref 604) rfl rfl (by decide) rfl (by decide) rfl rfl rfl rfl ?_
                refine jr.aload_n rfl rfl ?_
                have e142 : M4 598 65 = ea := ((w4_3 65 (by decide)).trans hea)
                refine jr.getf (i := 65) (x := ea) (v := .int (Int32.ofInt (ea))) rfl rfl (by decide) rfl (by decide) rfl rfl e142 rfl ?_
                obtain ⟨v143, e143⟩ : ∃ z, M1 604 ea = z := ⟨_, rfl⟩
                have b143 : 0 ≤ v143 ∧ v143 ≤ 400 := by rw [← e143]; exact (by have q := hI_M1 604 ea (by decide); rw [xri_row rfl rfl] at q; exact q)
                have e144 : M3 604 ea = v143 := ((w3_2 604 ea (by decide)).trans e143)
                have e145 : M4 604 ea = v143 := ((w4_2 604 ea (by decide)).trans e144)
                refine jr.iald (i := ea) (x := v143) rfl (by decide) rfl (by decide) (by omega) (by omega) e145 ?_
                refine jr_v rfl rfl (Or.inl rfl) rfl rfl (by decide) rfl ⟨rfl, Nat.le_of_ble_eq_true rfl, Nat.le_of_ble_eq_true rfl⟩ rfl (jc.deep (r_one hI_M4 hH_M4 hS_M4 (Kp.rfl _) (by omega) (by omega)  (fun r146 z146 w146_0 => ?_)) (by decide))
                refine jr.bipush rfl (by decide) ?_
                refine jr.icmp_ne rfl rfl (by omega) (by omega) (fun h140 => ?_) (fun h140 => ?_)
                · refine jr.iconst rfl ?_
                  refine jr.istore rfl (by decide) rfl ?_
                  refine jr.iload rfl rfl ?_
                  refine jr.if_ne rfl rfl (by omega) (fun h => absurd h (by decide)) (fun _ => ?_)
                  refine jr.bipush rfl (by decide) ?_
                  exact jr.ireturn rfl rfl rfl (q _ _ hI_M4 hH_M4 hS_M4  (by omega) (TR6.n ⟨⟨by omega, by omega⟩, by omega⟩ (by omega) w1_1 w1_2 (w1_3 2 (by decide) (by decide) (by decide) (by decide) (by decide) (by decide) (by decide) (by decide) (by decide) (by decide) (by decide)) (by omega) w3_1 w4_1 w4_2 w4_3 (by have hg : fe6 M4 24 0 = r4 := (by rw [(fe6_b w4_2 w4_3).2, ← w4_1.1]); exact Or.inl ⟨by rw [hg]; omega, Or.inl ⟨(by unfold mayE; rw [e6]; first | omega | (have hty : M4 601 (400 * x + M4 604 (M4 598 65)) = r146 := (by rw [e142, e145, ← w146_0]); rw [hty]; omega)), rfl, rfl⟩⟩)) (fun a i f598 f603 f604 f605 f627 f628 f629 f630 f631 f632 f633 f634 f635 f636 f637 f638 f639 f640 => ((w4_2 a i f598).trans ((w3_2 a i f598).trans ((w1_2 a i f598 f603 f604 f605).trans rfl)))) (fun i g6 g10 g11 g12 g59 g60 g61 g62 g63 g64 g65 g66 => ((w4_3 i g66).trans ((w3_3 i g59 g60 g61 g62 g63 g64 g65).trans ((w1_3 i g6 g10 g11 g12 g59 g60 g61 g62 g63 g64 g65).trans rfl)))))
                · refine jr.iconst rfl ?_
                  refine jr.goto rfl rfl ?_
                  refine jr.istore rfl (by decide) rfl ?_
                  refine jr.iload rfl rfl ?_
                  refine jr.if_ne rfl rfl (by omega) (fun _ => ?_) (fun h => absurd (by decide) h)
                  refine jr.aload_n rfl rfl ?_
                  refine jr_v rfl rfl (Or.inl rfl) rfl rfl (by decide) rfl ⟨rfl, Nat.le_of_ble_eq_true rfl, Nat.le_of_ble_eq_true rfl⟩ rfl (jc.deep (r_beginFlow_x hI_M4 hH_M4 hS_M4    (fun r147 M147 hI_M147 hH_M147  z147 w147_0 w147_1 w147_2 w147_3 => ?_)) (by decide))
                  refine jr.istore_n rfl (by decide) rfl ?_
                  refine jr.iload_n rfl rfl ?_
                  refine jr.iconst rfl ?_
                  refine jr.icmp_ne rfl rfl (by omega) (by omega) (fun h165 => ?_) (fun h165 => ?_)
                  · have sx165 : (0 : Int) ≤ r147 := by omega
                    refine jr.aload_n rfl rfl ?_
                    refine jr.iconst rfl ?_
                    refine jr.putf (i := 66) (x := 0) rfl rfl (by decide) rfl (by decide) rfl rfl rfl rfl rfl ?_
                    refine jr.aload_n rfl rfl ?_
                    have e148 : M147 598 60 = v5 := ((w147_3 598 60 (by decide) (by decide) (by decide) (by decide) (by decide) (by decide) (by decide) (by decide) (by decide) (by decide) (by decide) (by decide)).trans e6)
                    refine jr.getf (i := 60) (x := v5) (v := .int (Int32.ofInt (v5))) rfl rfl (by decide) rfl (by decide) rfl rfl ((ju_i _ _ (by decide)).trans e148) rfl ?_
                    refine jr.bipush rfl (by decide) ?_
                    refine jr.icmp_ne rfl rfl (by omega) (by omega) (fun h182 => ?_) (fun h182 => ?_)
                    · refine jr.iconst rfl ?_
                      refine jr.istore rfl (by decide) rfl ?_
                      refine jr.goto rfl rfl ?_
                      refine jr.aload_n rfl rfl ?_
                      refine jr.getf (i := 50) (v := .ref 638) rfl rfl (by decide) rfl (by decide) rfl rfl rfl rfl ?_
                      refine jr.iload_n rfl rfl ?_
                      refine jr.iload rfl rfl ?_
                      refine jr.iast (i := r147) (x := 0) rfl (by decide) rfl (by decide) (by omega) (by omega) ?_
                      refine jr.aload_n rfl rfl ?_
                      refine jr.getf (i := 51) (v := .ref 639) rfl rfl (by decide) rfl (by decide) rfl rfl rfl rfl ?_
                      refine jr.iload_n rfl rfl ?_
                      refine jr.aload_n rfl rfl ?_
                      obtain ⟨v149, e149⟩ : ∃ z, M 598 2 = z := ⟨_, rfl⟩
                      have b149 : 0 ≤ v149 ∧ v149 ≤ 2000000 := by rw [← e149]; exact hI_M 598 2 (by decide)
                      have e150 : M1 598 2 = v149 := ((w1_3 2 (by decide) (by decide) (by decide) (by decide) (by decide) (by decide) (by decide) (by decide) (by decide) (by decide) (by decide)).trans e149)
                      have e151 : M3 598 2 = v149 := ((w3_3 2 (by decide) (by decide) (by decide) (by decide) (by decide) (by decide) (by decide)).trans e150)
                      have e152 : M4 598 2 = v149 := ((w4_3 2 (by decide)).trans e151)
                      have e153 : M147 598 2 = v149 := ((w147_3 598 2 (by decide) (by decide) (by decide) (by decide) (by decide) (by decide) (by decide) (by decide) (by decide) (by decide) (by decide) (by decide)).trans e152)
                      refine jr.getf (i := 2) (x := v149) (v := .int (Int32.ofInt (v149))) rfl rfl (by decide) rfl (by decide) rfl rfl ((ju_c _ _ (by decide)).trans ((ju_i _ _ (by decide)).trans e153)) rfl ?_
                      refine jr.aload_n rfl rfl ?_
                      refine jr.getf (i := 41) (v := .ref 629) rfl rfl (by decide) rfl (by decide) rfl rfl rfl rfl ?_
                      refine jr.iload_n rfl rfl ?_
                      obtain ⟨v154, e154⟩ : ∃ z, M147 629 r147 = z := ⟨_, rfl⟩
                      have b154 : 0 ≤ v154 ∧ v154 ≤ 255 := by rw [← e154]; exact (by have q := hI_M147 629 r147 (by decide); rw [xri_row rfl rfl] at q; exact q)
                      refine jr.iald (i := r147) (x := v154) rfl (by decide) rfl (by decide) (by omega) (by omega) ((ju_c _ _ (by decide)).trans ((ju_c _ _ (by decide)).trans e154)) ?_
                      refine jr.iload rfl rfl ?_
                      refine jr_s rfl rfl (Or.inl rfl) ⟨Nat.le_of_ble_eq_true rfl, Nat.le_of_ble_eq_true rfl⟩ rfl rfl (jc.deep (r_lives_x (RI.u (RI.u hI_M147 (a := 598) (i := 66) (show (-1 : Int) ≤ _ ∧ _ ≤ (1 : Int) from by omega)) (a := 638) (i := r147) (by rw [xri_row rfl rfl]; show (0 : Int) ≤ _ ∧ _ ≤ (15 : Int); omega)) (RH.o (RH.o hH_M147 (by decide) (by decide) (by decide)) (by decide) (by decide) (by decide)) (RFx.w (RFx.o w147_0 (by decide) (by decide)) (fun q => by rw [((ju_c _ _ (by decide)).trans e154)] at q; omega))  (by omega) (by omega) (by omega) (fun r155 z155 w155_0 => ?_)) (by decide))
                      refine jr.iadd rfl ?_
                      refine jr.iast (i := r147) (x := (v149 + r155)) rfl (by decide) rfl (by decide) (by omega) (by omega) ?_
                      refine jr.aload_n rfl rfl ?_
                      refine jr.iload_n rfl rfl ?_
                      refine jr.iload_n rfl rfl ?_
                      have e157 : M147 598 65 = ea := ((w147_3 598 65 (by decide) (by decide) (by decide) (by decide) (by decide) (by decide) (by decide) (by decide) (by decide) (by decide) (by decide) (by decide)).trans e142)
                      have e158 : M147 604 ea = v143 := ((w147_3 604 ea (by decide) (by decide) (by decide) (by decide) (by decide) (by decide) (by decide) (by decide) (by decide) (by decide) (by decide) (by decide)).trans e145)
                      refine jr_v rfl rfl (Or.inl rfl) rfl rfl (by decide) rfl ⟨rfl, Nat.le_of_ble_eq_true rfl, Nat.le_of_ble_eq_true rfl⟩ rfl (jc.deep (r_counts_x (RI.u (RI.u (RI.u hI_M147 (a := 598) (i := 66) (show (-1 : Int) ≤ _ ∧ _ ≤ (1 : Int) from by omega)) (a := 638) (i := r147) (by rw [xri_row rfl rfl]; show (0 : Int) ≤ _ ∧ _ ≤ (15 : Int); omega)) (a := 639) (i := r147) (by rw [xri_row rfl rfl]; show (-2147483648 : Int) ≤ _ ∧ _ ≤ (2147483647 : Int); omega)) (RH.o (RH.o (RH.o hH_M147 (by decide) (by decide) (by decide)) (by decide) (by decide) (by decide)) (by decide) (by decide) (by decide)) (RF.o (RFx.w (RFx.o w147_0 (by decide) (by decide)) (fun q => by rw [((ju_c _ _ (by decide)).trans e154)] at q; omega)) (by decide) (by decide))  (by omega) (by omega) (by rw [((ju_c _ _ (by decide)).trans ((ju_c _ _ (by decide)).trans ((ju_i _ _ (by decide)).trans e157)))]; omega) (by rw [((ju_c _ _ (by decide)).trans ((ju_c _ _ (by decide)).trans ((ju_c _ _ (by decide)).trans e154))), ((ju_c _ _ (by decide)).trans ((ju_c _ _ (by decide)).trans ((ju_i _ _ (by decide)).trans e157))), ((ju_c _ _ (by decide)).trans ((ju_c _ _ (by decide)).trans ((ju_c _ _ (by decide)).trans e158)))]; intro q; omega) (by rw [((ju_c _ _ (by decide)).trans ((ju_c _ _ (by decide)).trans (ju_same _ _ _ _)))]; omega) (fun M156 hI_M156 hH_M156 hS_M156  w156_0 w156_1 => ?_)) (by decide))
                      refine jr.iload_n rfl rfl ?_
                      exact jr.ireturn rfl rfl rfl (q _ _ hI_M156 hH_M156 hS_M156  (by omega) (TR6.n ⟨⟨by omega, by omega⟩, by omega⟩ (by omega) w1_1 w1_2 (w1_3 2 (by decide) (by decide) (by decide) (by decide) (by decide) (by decide) (by decide) (by decide) (by decide) (by decide) (by decide)) (by omega) w3_1 w4_1 w4_2 w4_3 (by have hg : fe6 M4 24 0 = r4 := (by rw [(fe6_b w4_2 w4_3).2, ← w4_1.1]); have hK : K6 (ju M147 598 66 0) r147 (M4 598 60) (M4 598 2) (if M4 598 60 = 6 then 1 else 0) = (ju (ju (ju M147 598 66 0) 638 r147 0) 639 r147 (v149 + r155)) := (by unfold K6; rw [e6, e152, if_neg (by omega), w155_0]; first | rfl | (rw [show v154 = v5 from by omega])); have h9 := w156_0; have hs : (ju (ju (ju M147 598 66 0) 638 r147 0) 639 r147 (v149 + r155)) 598 66 = 0 := ((ju_c _ _ (by decide)).trans ((ju_c _ _ (by decide)).trans (ju_same _ _ _ _))); rw [hs] at h9; rw [← hK] at h9; exact Or.inl ⟨by rw [hg]; omega, Or.inr (Or.inr ⟨(by unfold mayE; rw [e6]; first | omega | (have hty : M4 601 (400 * x + M4 604 (M4 598 65)) = r146 := (by rw [e142, e145, ← w146_0]); rw [hty]; omega)), by rw [← w147_2.1]; omega, w147_2.1, M147, (by rcases w147_2.2 with h8 | h8; (exact absurd h8.1 (by omega)); (exact h8.2)), w147_3, h9⟩)⟩)) (fun a i f598 f603 f604 f605 f627 f628 f629 f630 f631 f632 f633 f634 f635 f636 f637 f638 f639 f640 => ((w156_1 a i f632 f633 f634 f635 f636 f637).trans ((ju_c _ _ f639).trans ((ju_c _ _ f638).trans ((ju_c _ _ f598).trans ((w147_3 a i f627 f628 f629 f630 f631 f632 f633 f634 f635 f636 f637 f640).trans ((w4_2 a i f598).trans ((w3_2 a i f598).trans ((w1_2 a i f598 f603 f604 f605).trans rfl))))))))) (fun i g6 g10 g11 g12 g59 g60 g61 g62 g63 g64 g65 g66 => ((w156_1 598 i (by decide) (by decide) (by decide) (by decide) (by decide) (by decide)).trans ((ju_c _ _ (by decide)).trans ((ju_c _ _ (by decide)).trans ((ju_i _ _ g66).trans ((w147_3 598 i (by decide) (by decide) (by decide) (by decide) (by decide) (by decide) (by decide) (by decide) (by decide) (by decide) (by decide) (by decide)).trans ((w4_3 i g66).trans ((w3_3 i g59 g60 g61 g62 g63 g64 g65).trans ((w1_3 i g6 g10 g11 g12 g59 g60 g61 g62 g63 g64 g65).trans rfl))))))))))
                    · exact absurd h100 h182
                  · refine jr.bipush rfl (by decide) ?_
                    exact jr.ireturn rfl rfl rfl (q _ _ hI_M147 hH_M147 (RFx.none w147_0 (by omega))  (by omega) (TR6.n ⟨⟨by omega, by omega⟩, by omega⟩ (by omega) w1_1 w1_2 (w1_3 2 (by decide) (by decide) (by decide) (by decide) (by decide) (by decide) (by decide) (by decide) (by decide) (by decide) (by decide)) (by omega) w3_1 w4_1 w4_2 w4_3 (by have hg : fe6 M4 24 0 = r4 := (by rw [(fe6_b w4_2 w4_3).2, ← w4_1.1]); exact Or.inl ⟨by rw [hg]; omega, Or.inr (Or.inl ⟨(by unfold mayE; rw [e6]; first | omega | (have hty : M4 601 (400 * x + M4 604 (M4 598 65)) = r146 := (by rw [e142, e145, ← w146_0]); rw [hty]; omega)), by rw [← w147_2.1]; omega, rfl, by rcases w147_2.2 with h9 | h9; (exact h9.2); (exact absurd (by omega) h9.1)⟩)⟩)) (fun a i f598 f603 f604 f605 f627 f628 f629 f630 f631 f632 f633 f634 f635 f636 f637 f638 f639 f640 => ((w147_3 a i f627 f628 f629 f630 f631 f632 f633 f634 f635 f636 f637 f640).trans ((w4_2 a i f598).trans ((w3_2 a i f598).trans ((w1_2 a i f598 f603 f604 f605).trans rfl))))) (fun i g6 g10 g11 g12 g59 g60 g61 g62 g63 g64 g65 g66 => ((w147_3 598 i (by decide) (by decide) (by decide) (by decide) (by decide) (by decide) (by decide) (by decide) (by decide) (by decide) (by decide) (by decide)).trans ((w4_3 i g66).trans ((w3_3 i g59 g60 g61 g62 g63 g64 g65).trans ((w1_3 i g6 g10 g11 g12 g59 g60 g61 g62 g63 g64 g65).trans rfl))))))
            · exact absurd h58 h100
        · refine jr.aload_n rfl rfl ?_
          refine jr.iload_n rfl rfl ?_
          refine jr.aload_n rfl rfl ?_
          refine jr.getf (i := 8) (v := .ref 604) rfl rfl (by decide) rfl (by decide) rfl rfl rfl rfl ?_
          refine jr.aload_n rfl rfl ?_
          have e173 : M4 598 65 = ea := ((w4_3 65 (by decide)).trans hea)
          refine jr.getf (i := 65) (x := ea) (v := .int (Int32.ofInt (ea))) rfl rfl (by decide) rfl (by decide) rfl rfl e173 rfl ?_
          obtain ⟨v174, e174⟩ : ∃ z, M1 604 ea = z := ⟨_, rfl⟩
          have b174 : 0 ≤ v174 ∧ v174 ≤ 400 := by rw [← e174]; exact (by have q := hI_M1 604 ea (by decide); rw [xri_row rfl rfl] at q; exact q)
          have e175 : M3 604 ea = v174 := ((w3_2 604 ea (by decide)).trans e174)
          have e176 : M4 604 ea = v174 := ((w4_2 604 ea (by decide)).trans e175)
          refine jr.iald (i := ea) (x := v174) rfl (by decide) rfl (by decide) (by omega) (by omega) e176 ?_
          refine jr.bipush rfl (by decide) ?_
          refine jr.iadd rfl ?_
          refine jr_v rfl rfl (Or.inl rfl) rfl rfl (by decide) rfl ⟨rfl, Nat.le_of_ble_eq_true rfl, Nat.le_of_ble_eq_true rfl⟩ rfl (jc.deep (r_one hI_M4 hH_M4 hS_M4 (Kp.rfl _) (by omega) (by omega)  (fun r177 z177 w177_0 => ?_)) (by decide))
          refine jr_s rfl rfl (Or.inl rfl) ⟨Nat.le_of_ble_eq_true rfl, Nat.le_of_ble_eq_true rfl⟩ rfl rfl (jc.deep (r_classOf_x hI_M4 hH_M4 hS_M4  (by omega)  (fun r178 z178 w178_0 => ?_)) (by decide))
          refine jr.goto rfl rfl ?_
          refine jr.istore_n rfl (by decide) rfl ?_
          refine jr.iconst rfl ?_
          refine jr.istore rfl (by decide) rfl ?_
          refine jr.iload_n rfl rfl ?_
          refine jr.iconst rfl ?_
          refine jr.icmp_ne rfl rfl (by omega) (by omega) (fun h91 => ?_) (fun h91 => ?_)
          · have sx91 : (0 : Int) ≤ r4 := by omega
            refine jr.aload_n rfl rfl ?_
            refine jr.getf (i := 60) (x := v5) (v := .int (Int32.ofInt (v5))) rfl rfl (by decide) rfl (by decide) rfl rfl e6 rfl ?_
            refine jr.bipush rfl (by decide) ?_
            refine jr.icmp_ne rfl rfl (by omega) (by omega) (fun h201 => ?_) (fun h201 => ?_)
            · exact absurd h201 (by omega)
            · refine jr.aload_n rfl rfl ?_
              refine jr.aload_n rfl rfl ?_
              refine jr.getf (i := 50) (v := .ref 638) rfl rfl (by decide) rfl (by decide) rfl rfl rfl rfl ?_
              refine jr.iload_n rfl rfl ?_
              obtain ⟨v179, e179⟩ : ∃ z, M 638 r4 = z := ⟨_, rfl⟩
              have b179 : 0 ≤ v179 ∧ v179 ≤ 15 := by rw [← e179]; exact (by have q := hI_M 638 r4 (by decide); rw [xri_row rfl rfl] at q; exact q)
              have e180 : M1 638 r4 = v179 := ((w1_2 638 r4 (by decide) (by decide) (by decide) (by decide)).trans e179)
              have e181 : M3 638 r4 = v179 := ((w3_2 638 r4 (by decide)).trans e180)
              have e182 : M4 638 r4 = v179 := ((w4_2 638 r4 (by decide)).trans e181)
              refine jr.iald (i := r4) (x := v179) rfl (by decide) rfl (by decide) (by omega) (by omega) e182 ?_
              refine jr.aload_n rfl rfl ?_
              obtain ⟨v183, e183⟩ : ∃ z, M4 598 66 = z := ⟨_, rfl⟩
              have b183 : (-1) ≤ v183 ∧ v183 ≤ 1 := by rw [← e183]; exact hI_M4 598 66 (by decide)
              refine jr.getf (i := 66) (x := v183) (v := .int (Int32.ofInt (v183))) rfl rfl (by decide) rfl (by decide) rfl rfl e183 rfl ?_
              refine jr.iload_n rfl rfl ?_
              refine jr_v rfl rfl (Or.inl rfl) rfl rfl (by decide) rfl ⟨rfl, Nat.le_of_ble_eq_true rfl, Nat.le_of_ble_eq_true rfl⟩ rfl (jc.deep (r_after_x hI_M4 hH_M4 hS_M4  (by omega) (by omega) (by omega)  (fun r184 z184 w184_0 => ?_)) (by decide))
              refine jr.istore rfl (by decide) rfl ?_
              refine jr.iload rfl rfl ?_
              refine jr.if_ne rfl rfl (by omega) (fun h223 => ?_) (fun h223 => ?_)
              · have sx223 : (1 : Int) ≤ r184 := by omega
                refine jr.aload_n rfl rfl ?_
                refine jr.iload_n rfl rfl ?_
                refine jr.iload_n rfl rfl ?_
                refine jr.iload_n rfl rfl ?_
                refine jr_v rfl rfl (Or.inl rfl) rfl rfl (by decide) rfl ⟨rfl, Nat.le_of_ble_eq_true rfl, Nat.le_of_ble_eq_true rfl⟩ rfl (jc.deep (r_isOut_x hI_M4 hH_M4 hS_M4  (by omega) (by omega) (by omega) (by rw [e173]; omega) (by rw [e173, e176]; omega) (by rw [e183]; omega) (fun r185 z185 w185_0 => ?_)) (by decide))
                refine jr.if_eq rfl rfl (by omega) (fun h236 => ?_) (fun h236 => ?_)
                · refine jr.aload_n rfl rfl ?_
                  refine jr.getf (i := 50) (v := .ref 638) rfl rfl (by decide) rfl (by decide) rfl rfl rfl rfl ?_
                  refine jr.iload_n rfl rfl ?_
                  refine jr.iald (i := r4) (x := v179) rfl (by decide) rfl (by decide) (by omega) (by omega) e182 ?_
                  refine jr.bipush rfl (by decide) ?_
                  refine jr.icmp_lt rfl rfl (by omega) (by omega) (fun h250 => ?_) (fun h250 => ?_)
                  · refine jr.aload_n rfl rfl ?_
                    refine jr.getf (i := 50) (v := .ref 638) rfl rfl (by decide) rfl (by decide) rfl rfl rfl rfl ?_
                    refine jr.iload_n rfl rfl ?_
                    refine jr.iload rfl rfl ?_
                    refine jr.iast (i := r4) (x := r184) rfl (by decide) rfl (by decide) (by omega) (by omega) ?_
                    refine jr.aload_n rfl rfl ?_
                    refine jr.getf (i := 51) (v := .ref 639) rfl rfl (by decide) rfl (by decide) rfl rfl rfl rfl ?_
                    refine jr.iload_n rfl rfl ?_
                    refine jr.aload_n rfl rfl ?_
                    obtain ⟨v186, e186⟩ : ∃ z, M 598 2 = z := ⟨_, rfl⟩
                    have b186 : 0 ≤ v186 ∧ v186 ≤ 2000000 := by rw [← e186]; exact hI_M 598 2 (by decide)
                    have e187 : M1 598 2 = v186 := ((w1_3 2 (by decide) (by decide) (by decide) (by decide) (by decide) (by decide) (by decide) (by decide) (by decide) (by decide) (by decide)).trans e186)
                    have e188 : M3 598 2 = v186 := ((w3_3 2 (by decide) (by decide) (by decide) (by decide) (by decide) (by decide) (by decide)).trans e187)
                    have e189 : M4 598 2 = v186 := ((w4_3 2 (by decide)).trans e188)
                    refine jr.getf (i := 2) (x := v186) (v := .int (Int32.ofInt (v186))) rfl rfl (by decide) rfl (by decide) rfl rfl ((ju_c _ _ (by decide)).trans e189) rfl ?_
                    refine jr.aload_n rfl rfl ?_
                    refine jr.getf (i := 41) (v := .ref 629) rfl rfl (by decide) rfl (by decide) rfl rfl rfl rfl ?_
                    refine jr.iload_n rfl rfl ?_
                    obtain ⟨v190, e190⟩ : ∃ z, M 629 r4 = z := ⟨_, rfl⟩
                    have b190 : 0 ≤ v190 ∧ v190 ≤ 255 := by rw [← e190]; exact (by have q := hI_M 629 r4 (by decide); rw [xri_row rfl rfl] at q; exact q)
                    have e191 : M1 629 r4 = v190 := ((w1_2 629 r4 (by decide) (by decide) (by decide) (by decide)).trans e190)
                    have e192 : M3 629 r4 = v190 := ((w3_2 629 r4 (by decide)).trans e191)
                    have e193 : M4 629 r4 = v190 := ((w4_2 629 r4 (by decide)).trans e192)
                    refine jr.iald (i := r4) (x := v190) rfl (by decide) rfl (by decide) (by omega) (by omega) ((ju_c _ _ (by decide)).trans e193) ?_
                    refine jr.iload rfl rfl ?_
                    refine jr_s rfl rfl (Or.inl rfl) ⟨Nat.le_of_ble_eq_true rfl, Nat.le_of_ble_eq_true rfl⟩ rfl rfl (jc.deep (r_lives_x (RI.u hI_M4 (a := 638) (i := r4) (by rw [xri_row rfl rfl]; show (0 : Int) ≤ _ ∧ _ ≤ (15 : Int); omega)) (RH.o hH_M4 (by decide) (by decide) (by decide)) (RF.w hS_M4 (fun q => by rw [e193] at q; omega))  (by omega) (by omega) (by omega) (fun r194 z194 w194_0 => ?_)) (by decide))
                    refine jr.iadd rfl ?_
                    refine jr.iast (i := r4) (x := (v186 + r194)) rfl (by decide) rfl (by decide) (by omega) (by omega) ?_
                    refine jr.aload_n rfl rfl ?_
                    refine jr.iload_n rfl rfl ?_
                    refine jr.iload_n rfl rfl ?_
                    refine jr_v rfl rfl (Or.inl rfl) rfl rfl (by decide) rfl ⟨rfl, Nat.le_of_ble_eq_true rfl, Nat.le_of_ble_eq_true rfl⟩ rfl (jc.deep (r_counts_x (RI.u (RI.u hI_M4 (a := 638) (i := r4) (by rw [xri_row rfl rfl]; show (0 : Int) ≤ _ ∧ _ ≤ (15 : Int); omega)) (a := 639) (i := r4) (by rw [xri_row rfl rfl]; show (-2147483648 : Int) ≤ _ ∧ _ ≤ (2147483647 : Int); omega)) (RH.o (RH.o hH_M4 (by decide) (by decide) (by decide)) (by decide) (by decide) (by decide)) (RF.o (RF.w hS_M4 (fun q => by rw [e193] at q; omega)) (by decide) (by decide))  (by omega) (by omega) (by rw [((ju_c _ _ (by decide)).trans ((ju_c _ _ (by decide)).trans e173))]; omega) (by rw [((ju_c _ _ (by decide)).trans ((ju_c _ _ (by decide)).trans e193)), ((ju_c _ _ (by decide)).trans ((ju_c _ _ (by decide)).trans e173)), ((ju_c _ _ (by decide)).trans ((ju_c _ _ (by decide)).trans e176))]; intro q; omega) (by rw [((ju_c _ _ (by decide)).trans ((ju_c _ _ (by decide)).trans e183))]; omega) (fun M195 hI_M195 hH_M195 hS_M195  w195_0 w195_1 => ?_)) (by decide))
                    refine jr.iload_n rfl rfl ?_
                    exact jr.ireturn rfl rfl rfl (q _ _ hI_M195 hH_M195 hS_M195  (by omega) (TR6.n ⟨⟨by omega, by omega⟩, by omega⟩ (by omega) w1_1 w1_2 (w1_3 2 (by decide) (by decide) (by decide) (by decide) (by decide) (by decide) (by decide) (by decide) (by decide) (by decide) (by decide)) (by omega) w3_1 w4_1 w4_2 w4_3 (by have hg : fe6 M4 24 0 = r4 := (by rw [(fe6_b w4_2 w4_3).2, ← w4_1.1]); have hcl : clE M4 x = r178 := (by unfold clE; rw [e173, e176, ← w177_0, ← w178_0]); have haf : afE M4 x r4 = r184 := (by unfold afE; rw [hcl, e182, e183]; have h9 := w184_0; rcases h9 with h9 | h9; (rw [if_pos h9.1, h9.2]); (rw [if_neg h9.1, h9.2])); have hK : K6 M4 r4 (M4 598 60) (M4 598 2) (afE M4 x r4) = (ju (ju M4 638 r4 r184) 639 r4 (v186 + r194)) := (by unfold K6; rw [haf, e6, e189, w194_0]; first | rfl | (rw [show v190 = v5 from by omega])); have hs : (ju (ju M4 638 r4 r184) 639 r4 (v186 + r194)) 598 66 = M4 598 66 := (by rw [e183]; exact ((ju_c _ _ (by decide)).trans ((ju_c _ _ (by decide)).trans e183))); have h9 := w195_0; rw [hs, ← hK] at h9; exact Or.inr ⟨by rw [hg]; omega, Or.inr (Or.inr (Or.inl ⟨by rw [e6]; omega, by rw [hg, haf]; omega, by rw [hg, hcl, ← w185_0]; omega, hg.symm, M4, Or.inr ⟨(fun u => by rw [e182, e183, hcl] at u; omega), rfl⟩, h9⟩))⟩)) (fun a i f598 f603 f604 f605 f627 f628 f629 f630 f631 f632 f633 f634 f635 f636 f637 f638 f639 f640 => ((w195_1 a i f632 f633 f634 f635 f636 f637).trans ((ju_c _ _ f639).trans ((ju_c _ _ f638).trans ((w4_2 a i f598).trans ((w3_2 a i f598).trans ((w1_2 a i f598 f603 f604 f605).trans rfl))))))) (fun i g6 g10 g11 g12 g59 g60 g61 g62 g63 g64 g65 g66 => ((w195_1 598 i (by decide) (by decide) (by decide) (by decide) (by decide) (by decide)).trans ((ju_c _ _ (by decide)).trans ((ju_c _ _ (by decide)).trans ((w4_3 i g66).trans ((w3_3 i g59 g60 g61 g62 g63 g64 g65).trans ((w1_3 i g6 g10 g11 g12 g59 g60 g61 g62 g63 g64 g65).trans rfl))))))))
                  · refine jr.aload_n rfl rfl ?_
                    refine jr.getf (i := 66) (x := v183) (v := .int (Int32.ofInt (v183))) rfl rfl (by decide) rfl (by decide) rfl rfl e183 rfl ?_
                    refine jr.if_ne rfl rfl (by omega) (fun h257 => ?_) (fun h257 => ?_)
                    · refine jr.aload_n rfl rfl ?_
                      refine jr.getf (i := 50) (v := .ref 638) rfl rfl (by decide) rfl (by decide) rfl rfl rfl rfl ?_
                      refine jr.iload_n rfl rfl ?_
                      refine jr.iload rfl rfl ?_
                      refine jr.iast (i := r4) (x := r184) rfl (by decide) rfl (by decide) (by omega) (by omega) ?_
                      refine jr.aload_n rfl rfl ?_
                      refine jr.getf (i := 51) (v := .ref 639) rfl rfl (by decide) rfl (by decide) rfl rfl rfl rfl ?_
                      refine jr.iload_n rfl rfl ?_
                      refine jr.aload_n rfl rfl ?_
                      obtain ⟨v196, e196⟩ : ∃ z, M 598 2 = z := ⟨_, rfl⟩
                      have b196 : 0 ≤ v196 ∧ v196 ≤ 2000000 := by rw [← e196]; exact hI_M 598 2 (by decide)
                      have e197 : M1 598 2 = v196 := ((w1_3 2 (by decide) (by decide) (by decide) (by decide) (by decide) (by decide) (by decide) (by decide) (by decide) (by decide) (by decide)).trans e196)
                      have e198 : M3 598 2 = v196 := ((w3_3 2 (by decide) (by decide) (by decide) (by decide) (by decide) (by decide) (by decide)).trans e197)
                      have e199 : M4 598 2 = v196 := ((w4_3 2 (by decide)).trans e198)
                      refine jr.getf (i := 2) (x := v196) (v := .int (Int32.ofInt (v196))) rfl rfl (by decide) rfl (by decide) rfl rfl ((ju_c _ _ (by decide)).trans e199) rfl ?_
                      refine jr.aload_n rfl rfl ?_
                      refine jr.getf (i := 41) (v := .ref 629) rfl rfl (by decide) rfl (by decide) rfl rfl rfl rfl ?_
                      refine jr.iload_n rfl rfl ?_
                      obtain ⟨v200, e200⟩ : ∃ z, M 629 r4 = z := ⟨_, rfl⟩
                      have b200 : 0 ≤ v200 ∧ v200 ≤ 255 := by rw [← e200]; exact (by have q := hI_M 629 r4 (by decide); rw [xri_row rfl rfl] at q; exact q)
                      have e201 : M1 629 r4 = v200 := ((w1_2 629 r4 (by decide) (by decide) (by decide) (by decide)).trans e200)
                      have e202 : M3 629 r4 = v200 := ((w3_2 629 r4 (by decide)).trans e201)
                      have e203 : M4 629 r4 = v200 := ((w4_2 629 r4 (by decide)).trans e202)
                      refine jr.iald (i := r4) (x := v200) rfl (by decide) rfl (by decide) (by omega) (by omega) ((ju_c _ _ (by decide)).trans e203) ?_
                      refine jr.iload rfl rfl ?_
                      refine jr_s rfl rfl (Or.inl rfl) ⟨Nat.le_of_ble_eq_true rfl, Nat.le_of_ble_eq_true rfl⟩ rfl rfl (jc.deep (r_lives_x (RI.u hI_M4 (a := 638) (i := r4) (by rw [xri_row rfl rfl]; show (0 : Int) ≤ _ ∧ _ ≤ (15 : Int); omega)) (RH.o hH_M4 (by decide) (by decide) (by decide)) (RF.w hS_M4 (fun q => by rw [e203] at q; omega))  (by omega) (by omega) (by omega) (fun r204 z204 w204_0 => ?_)) (by decide))
                      refine jr.iadd rfl ?_
                      refine jr.iast (i := r4) (x := (v196 + r204)) rfl (by decide) rfl (by decide) (by omega) (by omega) ?_
                      refine jr.aload_n rfl rfl ?_
                      refine jr.iload_n rfl rfl ?_
                      refine jr.iload_n rfl rfl ?_
                      refine jr_v rfl rfl (Or.inl rfl) rfl rfl (by decide) rfl ⟨rfl, Nat.le_of_ble_eq_true rfl, Nat.le_of_ble_eq_true rfl⟩ rfl (jc.deep (r_counts_x (RI.u (RI.u hI_M4 (a := 638) (i := r4) (by rw [xri_row rfl rfl]; show (0 : Int) ≤ _ ∧ _ ≤ (15 : Int); omega)) (a := 639) (i := r4) (by rw [xri_row rfl rfl]; show (-2147483648 : Int) ≤ _ ∧ _ ≤ (2147483647 : Int); omega)) (RH.o (RH.o hH_M4 (by decide) (by decide) (by decide)) (by decide) (by decide) (by decide)) (RF.o (RF.w hS_M4 (fun q => by rw [e203] at q; omega)) (by decide) (by decide))  (by omega) (by omega) (by rw [((ju_c _ _ (by decide)).trans ((ju_c _ _ (by decide)).trans e173))]; omega) (by rw [((ju_c _ _ (by decide)).trans ((ju_c _ _ (by decide)).trans e203)), ((ju_c _ _ (by decide)).trans ((ju_c _ _ (by decide)).trans e173)), ((ju_c _ _ (by decide)).trans ((ju_c _ _ (by decide)).trans e176))]; intro q; omega) (by rw [((ju_c _ _ (by decide)).trans ((ju_c _ _ (by decide)).trans e183))]; omega) (fun M205 hI_M205 hH_M205 hS_M205  w205_0 w205_1 => ?_)) (by decide))
                      refine jr.iload_n rfl rfl ?_
                      exact jr.ireturn rfl rfl rfl (q _ _ hI_M205 hH_M205 hS_M205  (by omega) (TR6.n ⟨⟨by omega, by omega⟩, by omega⟩ (by omega) w1_1 w1_2 (w1_3 2 (by decide) (by decide) (by decide) (by decide) (by decide) (by decide) (by decide) (by decide) (by decide) (by decide) (by decide)) (by omega) w3_1 w4_1 w4_2 w4_3 (by have hg : fe6 M4 24 0 = r4 := (by rw [(fe6_b w4_2 w4_3).2, ← w4_1.1]); have hcl : clE M4 x = r178 := (by unfold clE; rw [e173, e176, ← w177_0, ← w178_0]); have haf : afE M4 x r4 = r184 := (by unfold afE; rw [hcl, e182, e183]; have h9 := w184_0; rcases h9 with h9 | h9; (rw [if_pos h9.1, h9.2]); (rw [if_neg h9.1, h9.2])); have hK : K6 M4 r4 (M4 598 60) (M4 598 2) (afE M4 x r4) = (ju (ju M4 638 r4 r184) 639 r4 (v196 + r204)) := (by unfold K6; rw [haf, e6, e199, w204_0]; first | rfl | (rw [show v200 = v5 from by omega])); have hs : (ju (ju M4 638 r4 r184) 639 r4 (v196 + r204)) 598 66 = M4 598 66 := (by rw [e183]; exact ((ju_c _ _ (by decide)).trans ((ju_c _ _ (by decide)).trans e183))); have h9 := w205_0; rw [hs, ← hK] at h9; exact Or.inr ⟨by rw [hg]; omega, Or.inr (Or.inr (Or.inl ⟨by rw [e6]; omega, by rw [hg, haf]; omega, by rw [hg, hcl, ← w185_0]; omega, hg.symm, M4, Or.inr ⟨(fun u => by rw [e182, e183, hcl] at u; omega), rfl⟩, h9⟩))⟩)) (fun a i f598 f603 f604 f605 f627 f628 f629 f630 f631 f632 f633 f634 f635 f636 f637 f638 f639 f640 => ((w205_1 a i f632 f633 f634 f635 f636 f637).trans ((ju_c _ _ f639).trans ((ju_c _ _ f638).trans ((w4_2 a i f598).trans ((w3_2 a i f598).trans ((w1_2 a i f598 f603 f604 f605).trans rfl))))))) (fun i g6 g10 g11 g12 g59 g60 g61 g62 g63 g64 g65 g66 => ((w205_1 598 i (by decide) (by decide) (by decide) (by decide) (by decide) (by decide)).trans ((ju_c _ _ (by decide)).trans ((ju_c _ _ (by decide)).trans ((w4_3 i g66).trans ((w3_3 i g59 g60 g61 g62 g63 g64 g65).trans ((w1_3 i g6 g10 g11 g12 g59 g60 g61 g62 g63 g64 g65).trans rfl))))))))
                    · refine jr.iload_n rfl rfl ?_
                      refine jr.if_ne rfl rfl (by omega) (fun h261 => ?_) (fun h261 => ?_)
                      · have sx261 : (1 : Int) ≤ r178 := by omega
                        refine jr.aload_n rfl rfl ?_
                        refine jr.getf (i := 50) (v := .ref 638) rfl rfl (by decide) rfl (by decide) rfl rfl rfl rfl ?_
                        refine jr.iload_n rfl rfl ?_
                        refine jr.iload rfl rfl ?_
                        refine jr.iast (i := r4) (x := r184) rfl (by decide) rfl (by decide) (by omega) (by omega) ?_
                        refine jr.aload_n rfl rfl ?_
                        refine jr.getf (i := 51) (v := .ref 639) rfl rfl (by decide) rfl (by decide) rfl rfl rfl rfl ?_
                        refine jr.iload_n rfl rfl ?_
                        refine jr.aload_n rfl rfl ?_
                        obtain ⟨v206, e206⟩ : ∃ z, M 598 2 = z := ⟨_, rfl⟩
                        have b206 : 0 ≤ v206 ∧ v206 ≤ 2000000 := by rw [← e206]; exact hI_M 598 2 (by decide)
                        have e207 : M1 598 2 = v206 := ((w1_3 2 (by decide) (by decide) (by decide) (by decide) (by decide) (by decide) (by decide) (by decide) (by decide) (by decide) (by decide)).trans e206)
                        have e208 : M3 598 2 = v206 := ((w3_3 2 (by decide) (by decide) (by decide) (by decide) (by decide) (by decide) (by decide)).trans e207)
                        have e209 : M4 598 2 = v206 := ((w4_3 2 (by decide)).trans e208)
                        refine jr.getf (i := 2) (x := v206) (v := .int (Int32.ofInt (v206))) rfl rfl (by decide) rfl (by decide) rfl rfl ((ju_c _ _ (by decide)).trans e209) rfl ?_
                        refine jr.aload_n rfl rfl ?_
                        refine jr.getf (i := 41) (v := .ref 629) rfl rfl (by decide) rfl (by decide) rfl rfl rfl rfl ?_
                        refine jr.iload_n rfl rfl ?_
                        obtain ⟨v210, e210⟩ : ∃ z, M 629 r4 = z := ⟨_, rfl⟩
                        have b210 : 0 ≤ v210 ∧ v210 ≤ 255 := by rw [← e210]; exact (by have q := hI_M 629 r4 (by decide); rw [xri_row rfl rfl] at q; exact q)
                        have e211 : M1 629 r4 = v210 := ((w1_2 629 r4 (by decide) (by decide) (by decide) (by decide)).trans e210)
                        have e212 : M3 629 r4 = v210 := ((w3_2 629 r4 (by decide)).trans e211)
                        have e213 : M4 629 r4 = v210 := ((w4_2 629 r4 (by decide)).trans e212)
                        refine jr.iald (i := r4) (x := v210) rfl (by decide) rfl (by decide) (by omega) (by omega) ((ju_c _ _ (by decide)).trans e213) ?_
                        refine jr.iload rfl rfl ?_
                        refine jr_s rfl rfl (Or.inl rfl) ⟨Nat.le_of_ble_eq_true rfl, Nat.le_of_ble_eq_true rfl⟩ rfl rfl (jc.deep (r_lives_x (RI.u hI_M4 (a := 638) (i := r4) (by rw [xri_row rfl rfl]; show (0 : Int) ≤ _ ∧ _ ≤ (15 : Int); omega)) (RH.o hH_M4 (by decide) (by decide) (by decide)) (RF.w hS_M4 (fun q => by rw [e213] at q; omega))  (by omega) (by omega) (by omega) (fun r214 z214 w214_0 => ?_)) (by decide))
                        refine jr.iadd rfl ?_
                        refine jr.iast (i := r4) (x := (v206 + r214)) rfl (by decide) rfl (by decide) (by omega) (by omega) ?_
                        refine jr.aload_n rfl rfl ?_
                        refine jr.iload_n rfl rfl ?_
                        refine jr.iload_n rfl rfl ?_
                        refine jr_v rfl rfl (Or.inl rfl) rfl rfl (by decide) rfl ⟨rfl, Nat.le_of_ble_eq_true rfl, Nat.le_of_ble_eq_true rfl⟩ rfl (jc.deep (r_counts_x (RI.u (RI.u hI_M4 (a := 638) (i := r4) (by rw [xri_row rfl rfl]; show (0 : Int) ≤ _ ∧ _ ≤ (15 : Int); omega)) (a := 639) (i := r4) (by rw [xri_row rfl rfl]; show (-2147483648 : Int) ≤ _ ∧ _ ≤ (2147483647 : Int); omega)) (RH.o (RH.o hH_M4 (by decide) (by decide) (by decide)) (by decide) (by decide) (by decide)) (RF.o (RF.w hS_M4 (fun q => by rw [e213] at q; omega)) (by decide) (by decide))  (by omega) (by omega) (by rw [((ju_c _ _ (by decide)).trans ((ju_c _ _ (by decide)).trans e173))]; omega) (by rw [((ju_c _ _ (by decide)).trans ((ju_c _ _ (by decide)).trans e213)), ((ju_c _ _ (by decide)).trans ((ju_c _ _ (by decide)).trans e173)), ((ju_c _ _ (by decide)).trans ((ju_c _ _ (by decide)).trans e176))]; intro q; omega) (by rw [((ju_c _ _ (by decide)).trans ((ju_c _ _ (by decide)).trans e183))]; omega) (fun M215 hI_M215 hH_M215 hS_M215  w215_0 w215_1 => ?_)) (by decide))
                        refine jr.iload_n rfl rfl ?_
                        exact jr.ireturn rfl rfl rfl (q _ _ hI_M215 hH_M215 hS_M215  (by omega) (TR6.n ⟨⟨by omega, by omega⟩, by omega⟩ (by omega) w1_1 w1_2 (w1_3 2 (by decide) (by decide) (by decide) (by decide) (by decide) (by decide) (by decide) (by decide) (by decide) (by decide) (by decide)) (by omega) w3_1 w4_1 w4_2 w4_3 (by have hg : fe6 M4 24 0 = r4 := (by rw [(fe6_b w4_2 w4_3).2, ← w4_1.1]); have hcl : clE M4 x = r178 := (by unfold clE; rw [e173, e176, ← w177_0, ← w178_0]); have haf : afE M4 x r4 = r184 := (by unfold afE; rw [hcl, e182, e183]; have h9 := w184_0; rcases h9 with h9 | h9; (rw [if_pos h9.1, h9.2]); (rw [if_neg h9.1, h9.2])); have hK : K6 M4 r4 (M4 598 60) (M4 598 2) (afE M4 x r4) = (ju (ju M4 638 r4 r184) 639 r4 (v206 + r214)) := (by unfold K6; rw [haf, e6, e209, w214_0]; first | rfl | (rw [show v210 = v5 from by omega])); have hs : (ju (ju M4 638 r4 r184) 639 r4 (v206 + r214)) 598 66 = M4 598 66 := (by rw [e183]; exact ((ju_c _ _ (by decide)).trans ((ju_c _ _ (by decide)).trans e183))); have h9 := w215_0; rw [hs, ← hK] at h9; exact Or.inr ⟨by rw [hg]; omega, Or.inr (Or.inr (Or.inl ⟨by rw [e6]; omega, by rw [hg, haf]; omega, by rw [hg, hcl, ← w185_0]; omega, hg.symm, M4, Or.inr ⟨(fun u => by rw [e182, e183, hcl] at u; omega), rfl⟩, h9⟩))⟩)) (fun a i f598 f603 f604 f605 f627 f628 f629 f630 f631 f632 f633 f634 f635 f636 f637 f638 f639 f640 => ((w215_1 a i f632 f633 f634 f635 f636 f637).trans ((ju_c _ _ f639).trans ((ju_c _ _ f638).trans ((w4_2 a i f598).trans ((w3_2 a i f598).trans ((w1_2 a i f598 f603 f604 f605).trans rfl))))))) (fun i g6 g10 g11 g12 g59 g60 g61 g62 g63 g64 g65 g66 => ((w215_1 598 i (by decide) (by decide) (by decide) (by decide) (by decide) (by decide)).trans ((ju_c _ _ (by decide)).trans ((ju_c _ _ (by decide)).trans ((w4_3 i g66).trans ((w3_3 i g59 g60 g61 g62 g63 g64 g65).trans ((w1_3 i g6 g10 g11 g12 g59 g60 g61 g62 g63 g64 g65).trans rfl))))))))
                      · refine jr.aload_n rfl rfl ?_
                        refine jr.iload_n rfl rfl ?_
                        refine jr_v rfl rfl (Or.inl rfl) rfl rfl (by decide) rfl ⟨rfl, Nat.le_of_ble_eq_true rfl, Nat.le_of_ble_eq_true rfl⟩ rfl (jc.deep (r_forget_x hI_M4 hH_M4  (by omega)  (fun M216 hI_M216 hH_M216  w216_0 w216_1 => ?_)) (by decide))
                        refine jr.goto rfl rfl ?_
                        refine jr.aload_n rfl rfl ?_
                        refine jr.getf (i := 50) (v := .ref 638) rfl rfl (by decide) rfl (by decide) rfl rfl rfl rfl ?_
                        refine jr.iload_n rfl rfl ?_
                        refine jr.iload rfl rfl ?_
                        refine jr.iast (i := r4) (x := r184) rfl (by decide) rfl (by decide) (by omega) (by omega) ?_
                        refine jr.aload_n rfl rfl ?_
                        refine jr.getf (i := 51) (v := .ref 639) rfl rfl (by decide) rfl (by decide) rfl rfl rfl rfl ?_
                        refine jr.iload_n rfl rfl ?_
                        refine jr.aload_n rfl rfl ?_
                        obtain ⟨v217, e217⟩ : ∃ z, M 598 2 = z := ⟨_, rfl⟩
                        have b217 : 0 ≤ v217 ∧ v217 ≤ 2000000 := by rw [← e217]; exact hI_M 598 2 (by decide)
                        have e218 : M1 598 2 = v217 := ((w1_3 2 (by decide) (by decide) (by decide) (by decide) (by decide) (by decide) (by decide) (by decide) (by decide) (by decide) (by decide)).trans e217)
                        have e219 : M3 598 2 = v217 := ((w3_3 2 (by decide) (by decide) (by decide) (by decide) (by decide) (by decide) (by decide)).trans e218)
                        have e220 : M4 598 2 = v217 := ((w4_3 2 (by decide)).trans e219)
                        have e221 : M216 598 2 = v217 := ((w216_1 598 2 (by decide) (by decide) (by decide) (by decide) (by decide) (by decide)).trans e220)
                        refine jr.getf (i := 2) (x := v217) (v := .int (Int32.ofInt (v217))) rfl rfl (by decide) rfl (by decide) rfl rfl ((ju_c _ _ (by decide)).trans e221) rfl ?_
                        refine jr.aload_n rfl rfl ?_
                        refine jr.getf (i := 41) (v := .ref 629) rfl rfl (by decide) rfl (by decide) rfl rfl rfl rfl ?_
                        refine jr.iload_n rfl rfl ?_
                        obtain ⟨v222, e222⟩ : ∃ z, M 629 r4 = z := ⟨_, rfl⟩
                        have b222 : 0 ≤ v222 ∧ v222 ≤ 255 := by rw [← e222]; exact (by have q := hI_M 629 r4 (by decide); rw [xri_row rfl rfl] at q; exact q)
                        have e223 : M1 629 r4 = v222 := ((w1_2 629 r4 (by decide) (by decide) (by decide) (by decide)).trans e222)
                        have e224 : M3 629 r4 = v222 := ((w3_2 629 r4 (by decide)).trans e223)
                        have e225 : M4 629 r4 = v222 := ((w4_2 629 r4 (by decide)).trans e224)
                        have e226 : M216 629 r4 = v222 := ((w216_1 629 r4 (by decide) (by decide) (by decide) (by decide) (by decide) (by decide)).trans e225)
                        refine jr.iald (i := r4) (x := v222) rfl (by decide) rfl (by decide) (by omega) (by omega) ((ju_c _ _ (by decide)).trans e226) ?_
                        refine jr.iload rfl rfl ?_
                        refine jr_s rfl rfl (Or.inl rfl) ⟨Nat.le_of_ble_eq_true rfl, Nat.le_of_ble_eq_true rfl⟩ rfl rfl (jc.deep (r_lives_x (RI.u hI_M216 (a := 638) (i := r4) (by rw [xri_row rfl rfl]; show (0 : Int) ≤ _ ∧ _ ≤ (15 : Int); omega)) (RH.o hH_M216 (by decide) (by decide) (by decide)) (RF.w (RF.fr hS_M4 (fun f => w216_1 629 f (by decide) (by decide) (by decide) (by decide) (by decide) (by decide)) (fun f => w216_1 638 f (by decide) (by decide) (by decide) (by decide) (by decide) (by decide))) (fun q => by rw [e226] at q; omega))  (by omega) (by omega) (by omega) (fun r227 z227 w227_0 => ?_)) (by decide))
                        refine jr.iadd rfl ?_
                        refine jr.iast (i := r4) (x := (v217 + r227)) rfl (by decide) rfl (by decide) (by omega) (by omega) ?_
                        refine jr.aload_n rfl rfl ?_
                        refine jr.iload_n rfl rfl ?_
                        refine jr.iload_n rfl rfl ?_
                        have e229 : M216 598 65 = ea := ((w216_1 598 65 (by decide) (by decide) (by decide) (by decide) (by decide) (by decide)).trans e173)
                        have e230 : M216 604 ea = v174 := ((w216_1 604 ea (by decide) (by decide) (by decide) (by decide) (by decide) (by decide)).trans e176)
                        have e231 : M216 598 66 = v183 := ((w216_1 598 66 (by decide) (by decide) (by decide) (by decide) (by decide) (by decide)).trans e183)
                        refine jr_v rfl rfl (Or.inl rfl) rfl rfl (by decide) rfl ⟨rfl, Nat.le_of_ble_eq_true rfl, Nat.le_of_ble_eq_true rfl⟩ rfl (jc.deep (r_counts_x (RI.u (RI.u hI_M216 (a := 638) (i := r4) (by rw [xri_row rfl rfl]; show (0 : Int) ≤ _ ∧ _ ≤ (15 : Int); omega)) (a := 639) (i := r4) (by rw [xri_row rfl rfl]; show (-2147483648 : Int) ≤ _ ∧ _ ≤ (2147483647 : Int); omega)) (RH.o (RH.o hH_M216 (by decide) (by decide) (by decide)) (by decide) (by decide) (by decide)) (RF.o (RF.w (RF.fr hS_M4 (fun f => w216_1 629 f (by decide) (by decide) (by decide) (by decide) (by decide) (by decide)) (fun f => w216_1 638 f (by decide) (by decide) (by decide) (by decide) (by decide) (by decide))) (fun q => by rw [e226] at q; omega)) (by decide) (by decide))  (by omega) (by omega) (by rw [((ju_c _ _ (by decide)).trans ((ju_c _ _ (by decide)).trans e229))]; omega) (by rw [((ju_c _ _ (by decide)).trans ((ju_c _ _ (by decide)).trans e226)), ((ju_c _ _ (by decide)).trans ((ju_c _ _ (by decide)).trans e229)), ((ju_c _ _ (by decide)).trans ((ju_c _ _ (by decide)).trans e230))]; intro q; omega) (by rw [((ju_c _ _ (by decide)).trans ((ju_c _ _ (by decide)).trans e231))]; omega) (fun M228 hI_M228 hH_M228 hS_M228  w228_0 w228_1 => ?_)) (by decide))
                        refine jr.iload_n rfl rfl ?_
                        exact jr.ireturn rfl rfl rfl (q _ _ hI_M228 hH_M228 hS_M228  (by omega) (TR6.n ⟨⟨by omega, by omega⟩, by omega⟩ (by omega) w1_1 w1_2 (w1_3 2 (by decide) (by decide) (by decide) (by decide) (by decide) (by decide) (by decide) (by decide) (by decide) (by decide) (by decide)) (by omega) w3_1 w4_1 w4_2 w4_3 (by have hg : fe6 M4 24 0 = r4 := (by rw [(fe6_b w4_2 w4_3).2, ← w4_1.1]); have hcl : clE M4 x = r178 := (by unfold clE; rw [e173, e176, ← w177_0, ← w178_0]); have haf : afE M4 x r4 = r184 := (by unfold afE; rw [hcl, e182, e183]; have h9 := w184_0; rcases h9 with h9 | h9; (rw [if_pos h9.1, h9.2]); (rw [if_neg h9.1, h9.2])); have hK : K6 M216 r4 (M4 598 60) (M4 598 2) (afE M4 x r4) = (ju (ju M216 638 r4 r184) 639 r4 (v217 + r227)) := (by unfold K6; rw [haf, e6, e220, w227_0]; first | rfl | (rw [show v222 = v5 from by omega])); have hs : (ju (ju M216 638 r4 r184) 639 r4 (v217 + r227)) 598 66 = M4 598 66 := (by rw [e183]; exact ((ju_c _ _ (by decide)).trans ((ju_c _ _ (by decide)).trans e231))); have h9 := w228_0; rw [hs, ← hK] at h9; exact Or.inr ⟨by rw [hg]; omega, Or.inr (Or.inr (Or.inl ⟨by rw [e6]; omega, by rw [hg, haf]; omega, by rw [hg, hcl, ← w185_0]; omega, hg.symm, M216, Or.inl ⟨⟨by rw [e182]; omega, by rw [e183]; omega, by rw [hcl]; omega⟩, w216_0, w216_1⟩, h9⟩))⟩)) (fun a i f598 f603 f604 f605 f627 f628 f629 f630 f631 f632 f633 f634 f635 f636 f637 f638 f639 f640 => ((w228_1 a i f632 f633 f634 f635 f636 f637).trans ((ju_c _ _ f639).trans ((ju_c _ _ f638).trans ((w216_1 a i f632 f633 f634 f635 f636 f637).trans ((w4_2 a i f598).trans ((w3_2 a i f598).trans ((w1_2 a i f598 f603 f604 f605).trans rfl)))))))) (fun i g6 g10 g11 g12 g59 g60 g61 g62 g63 g64 g65 g66 => ((w228_1 598 i (by decide) (by decide) (by decide) (by decide) (by decide) (by decide)).trans ((ju_c _ _ (by decide)).trans ((ju_c _ _ (by decide)).trans ((w216_1 598 i (by decide) (by decide) (by decide) (by decide) (by decide) (by decide)).trans ((w4_3 i g66).trans ((w3_3 i g59 g60 g61 g62 g63 g64 g65).trans ((w1_3 i g6 g10 g11 g12 g59 g60 g61 g62 g63 g64 g65).trans rfl)))))))))
                · have sx236 : (1 : Int) ≤ r185 := by omega
                  refine jr.bipush rfl (by decide) ?_
                  exact jr.ireturn rfl rfl rfl (q _ _ hI_M4 hH_M4 hS_M4  (by omega) (TR6.n ⟨⟨by omega, by omega⟩, by omega⟩ (by omega) w1_1 w1_2 (w1_3 2 (by decide) (by decide) (by decide) (by decide) (by decide) (by decide) (by decide) (by decide) (by decide) (by decide) (by decide)) (by omega) w3_1 w4_1 w4_2 w4_3 (by have hg : fe6 M4 24 0 = r4 := (by rw [(fe6_b w4_2 w4_3).2, ← w4_1.1]); have hcl : clE M4 x = r178 := (by unfold clE; rw [e173, e176, ← w177_0, ← w178_0]); have haf : afE M4 x r4 = r184 := (by unfold afE; rw [hcl, e182, e183]; have h9 := w184_0; rcases h9 with h9 | h9; (rw [if_pos h9.1, h9.2]); (rw [if_neg h9.1, h9.2])); exact Or.inr ⟨by rw [hg]; omega, Or.inr (Or.inl ⟨by rw [e6]; omega, by rw [hg, haf]; omega, by rw [hg, hcl, ← w185_0]; omega, rfl, rfl⟩)⟩)) (fun a i f598 f603 f604 f605 f627 f628 f629 f630 f631 f632 f633 f634 f635 f636 f637 f638 f639 f640 => ((w4_2 a i f598).trans ((w3_2 a i f598).trans ((w1_2 a i f598 f603 f604 f605).trans rfl)))) (fun i g6 g10 g11 g12 g59 g60 g61 g62 g63 g64 g65 g66 => ((w4_3 i g66).trans ((w3_3 i g59 g60 g61 g62 g63 g64 g65).trans ((w1_3 i g6 g10 g11 g12 g59 g60 g61 g62 g63 g64 g65).trans rfl)))))
              · refine jr.bipush rfl (by decide) ?_
                exact jr.ireturn rfl rfl rfl (q _ _ hI_M4 hH_M4 hS_M4  (by omega) (TR6.n ⟨⟨by omega, by omega⟩, by omega⟩ (by omega) w1_1 w1_2 (w1_3 2 (by decide) (by decide) (by decide) (by decide) (by decide) (by decide) (by decide) (by decide) (by decide) (by decide) (by decide)) (by omega) w3_1 w4_1 w4_2 w4_3 (by have hg : fe6 M4 24 0 = r4 := (by rw [(fe6_b w4_2 w4_3).2, ← w4_1.1]); have hcl : clE M4 x = r178 := (by unfold clE; rw [e173, e176, ← w177_0, ← w178_0]); have haf : afE M4 x r4 = r184 := (by unfold afE; rw [hcl, e182, e183]; have h9 := w184_0; rcases h9 with h9 | h9; (rw [if_pos h9.1, h9.2]); (rw [if_neg h9.1, h9.2])); exact Or.inr ⟨by rw [hg]; omega, Or.inl ⟨by rw [e6]; omega, by rw [hg, haf]; omega, rfl, rfl⟩⟩)) (fun a i f598 f603 f604 f605 f627 f628 f629 f630 f631 f632 f633 f634 f635 f636 f637 f638 f639 f640 => ((w4_2 a i f598).trans ((w3_2 a i f598).trans ((w1_2 a i f598 f603 f604 f605).trans rfl)))) (fun i g6 g10 g11 g12 g59 g60 g61 g62 g63 g64 g65 g66 => ((w4_3 i g66).trans ((w3_3 i g59 g60 g61 g62 g63 g64 g65).trans ((w1_3 i g6 g10 g11 g12 g59 g60 g61 g62 g63 g64 g65).trans rfl)))))
          · refine jr.aload_n rfl rfl ?_
            refine jr.getf (i := 60) (x := v5) (v := .int (Int32.ofInt (v5))) rfl rfl (by decide) rfl (by decide) rfl rfl e6 rfl ?_
            refine jr.bipush rfl (by decide) ?_
            refine jr.icmp_ne rfl rfl (by omega) (by omega) (fun h100 => ?_) (fun h100 => ?_)
            · exact absurd h100 (by omega)
            · refine jr.iload_n rfl rfl ?_
              refine jr.if_ne rfl rfl (by omega) (fun h104 => ?_) (fun h104 => ?_)
              · have sx104 : (1 : Int) ≤ r178 := by omega
                refine jr.iconst rfl ?_
                refine jr.goto rfl rfl ?_
                refine jr.istore rfl (by decide) rfl ?_
                refine jr.iload rfl rfl ?_
                refine jr.if_ne rfl rfl (by omega) (fun h => absurd h (by decide)) (fun _ => ?_)
                refine jr.bipush rfl (by decide) ?_
                exact jr.ireturn rfl rfl rfl (q _ _ hI_M4 hH_M4 hS_M4  (by omega) (TR6.n ⟨⟨by omega, by omega⟩, by omega⟩ (by omega) w1_1 w1_2 (w1_3 2 (by decide) (by decide) (by decide) (by decide) (by decide) (by decide) (by decide) (by decide) (by decide) (by decide) (by decide)) (by omega) w3_1 w4_1 w4_2 w4_3 (by have hg : fe6 M4 24 0 = r4 := (by rw [(fe6_b w4_2 w4_3).2, ← w4_1.1]); have hcl : clE M4 x = r178 := (by unfold clE; rw [e173, e176, ← w177_0, ← w178_0]); exact Or.inl ⟨by rw [hg]; omega, Or.inl ⟨(by unfold mayE; rw [e6]; rw [hcl]; first | omega), rfl, rfl⟩⟩)) (fun a i f598 f603 f604 f605 f627 f628 f629 f630 f631 f632 f633 f634 f635 f636 f637 f638 f639 f640 => ((w4_2 a i f598).trans ((w3_2 a i f598).trans ((w1_2 a i f598 f603 f604 f605).trans rfl)))) (fun i g6 g10 g11 g12 g59 g60 g61 g62 g63 g64 g65 g66 => ((w4_3 i g66).trans ((w3_3 i g59 g60 g61 g62 g63 g64 g65).trans ((w1_3 i g6 g10 g11 g12 g59 g60 g61 g62 g63 g64 g65).trans rfl)))))
              · refine jr.iconst rfl ?_
                refine jr.goto rfl rfl ?_
                refine jr.istore rfl (by decide) rfl ?_
                refine jr.iload rfl rfl ?_
                refine jr.if_ne rfl rfl (by omega) (fun _ => ?_) (fun h => absurd (by decide) h)
                refine jr.aload_n rfl rfl ?_
                refine jr_v rfl rfl (Or.inl rfl) rfl rfl (by decide) rfl ⟨rfl, Nat.le_of_ble_eq_true rfl, Nat.le_of_ble_eq_true rfl⟩ rfl (jc.deep (r_beginFlow_x hI_M4 hH_M4 hS_M4    (fun r232 M232 hI_M232 hH_M232  z232 w232_0 w232_1 w232_2 w232_3 => ?_)) (by decide))
                refine jr.istore_n rfl (by decide) rfl ?_
                refine jr.iload_n rfl rfl ?_
                refine jr.iconst rfl ?_
                refine jr.icmp_ne rfl rfl (by omega) (by omega) (fun h165 => ?_) (fun h165 => ?_)
                · have sx165 : (0 : Int) ≤ r232 := by omega
                  refine jr.aload_n rfl rfl ?_
                  refine jr.iconst rfl ?_
                  refine jr.putf (i := 66) (x := 0) rfl rfl (by decide) rfl (by decide) rfl rfl rfl rfl rfl ?_
                  refine jr.aload_n rfl rfl ?_
                  have e233 : M232 598 60 = v5 := ((w232_3 598 60 (by decide) (by decide) (by decide) (by decide) (by decide) (by decide) (by decide) (by decide) (by decide) (by decide) (by decide) (by decide)).trans e6)
                  refine jr.getf (i := 60) (x := v5) (v := .int (Int32.ofInt (v5))) rfl rfl (by decide) rfl (by decide) rfl rfl ((ju_i _ _ (by decide)).trans e233) rfl ?_
                  refine jr.bipush rfl (by decide) ?_
                  refine jr.icmp_ne rfl rfl (by omega) (by omega) (fun h182 => ?_) (fun h182 => ?_)
                  · exact absurd h182 (by omega)
                  · refine jr.iconst rfl ?_
                    refine jr.goto rfl rfl ?_
                    refine jr.istore rfl (by decide) rfl ?_
                    refine jr.goto rfl rfl ?_
                    refine jr.aload_n rfl rfl ?_
                    refine jr.getf (i := 50) (v := .ref 638) rfl rfl (by decide) rfl (by decide) rfl rfl rfl rfl ?_
                    refine jr.iload_n rfl rfl ?_
                    refine jr.iload rfl rfl ?_
                    refine jr.iast (i := r232) (x := 1) rfl (by decide) rfl (by decide) (by omega) (by omega) ?_
                    refine jr.aload_n rfl rfl ?_
                    refine jr.getf (i := 51) (v := .ref 639) rfl rfl (by decide) rfl (by decide) rfl rfl rfl rfl ?_
                    refine jr.iload_n rfl rfl ?_
                    refine jr.aload_n rfl rfl ?_
                    obtain ⟨v234, e234⟩ : ∃ z, M 598 2 = z := ⟨_, rfl⟩
                    have b234 : 0 ≤ v234 ∧ v234 ≤ 2000000 := by rw [← e234]; exact hI_M 598 2 (by decide)
                    have e235 : M1 598 2 = v234 := ((w1_3 2 (by decide) (by decide) (by decide) (by decide) (by decide) (by decide) (by decide) (by decide) (by decide) (by decide) (by decide)).trans e234)
                    have e236 : M3 598 2 = v234 := ((w3_3 2 (by decide) (by decide) (by decide) (by decide) (by decide) (by decide) (by decide)).trans e235)
                    have e237 : M4 598 2 = v234 := ((w4_3 2 (by decide)).trans e236)
                    have e238 : M232 598 2 = v234 := ((w232_3 598 2 (by decide) (by decide) (by decide) (by decide) (by decide) (by decide) (by decide) (by decide) (by decide) (by decide) (by decide) (by decide)).trans e237)
                    refine jr.getf (i := 2) (x := v234) (v := .int (Int32.ofInt (v234))) rfl rfl (by decide) rfl (by decide) rfl rfl ((ju_c _ _ (by decide)).trans ((ju_i _ _ (by decide)).trans e238)) rfl ?_
                    refine jr.aload_n rfl rfl ?_
                    refine jr.getf (i := 41) (v := .ref 629) rfl rfl (by decide) rfl (by decide) rfl rfl rfl rfl ?_
                    refine jr.iload_n rfl rfl ?_
                    obtain ⟨v239, e239⟩ : ∃ z, M232 629 r232 = z := ⟨_, rfl⟩
                    have b239 : 0 ≤ v239 ∧ v239 ≤ 255 := by rw [← e239]; exact (by have q := hI_M232 629 r232 (by decide); rw [xri_row rfl rfl] at q; exact q)
                    refine jr.iald (i := r232) (x := v239) rfl (by decide) rfl (by decide) (by omega) (by omega) ((ju_c _ _ (by decide)).trans ((ju_c _ _ (by decide)).trans e239)) ?_
                    refine jr.iload rfl rfl ?_
                    refine jr_s rfl rfl (Or.inl rfl) ⟨Nat.le_of_ble_eq_true rfl, Nat.le_of_ble_eq_true rfl⟩ rfl rfl (jc.deep (r_lives_x (RI.u (RI.u hI_M232 (a := 598) (i := 66) (show (-1 : Int) ≤ _ ∧ _ ≤ (1 : Int) from by omega)) (a := 638) (i := r232) (by rw [xri_row rfl rfl]; show (0 : Int) ≤ _ ∧ _ ≤ (15 : Int); omega)) (RH.o (RH.o hH_M232 (by decide) (by decide) (by decide)) (by decide) (by decide) (by decide)) (RFx.w (RFx.o w232_0 (by decide) (by decide)) (fun q => by rw [((ju_c _ _ (by decide)).trans e239)] at q; omega))  (by omega) (by omega) (by omega) (fun r240 z240 w240_0 => ?_)) (by decide))
                    refine jr.iadd rfl ?_
                    refine jr.iast (i := r232) (x := (v234 + r240)) rfl (by decide) rfl (by decide) (by omega) (by omega) ?_
                    refine jr.aload_n rfl rfl ?_
                    refine jr.iload_n rfl rfl ?_
                    refine jr.iload_n rfl rfl ?_
                    have e242 : M232 598 65 = ea := ((w232_3 598 65 (by decide) (by decide) (by decide) (by decide) (by decide) (by decide) (by decide) (by decide) (by decide) (by decide) (by decide) (by decide)).trans e173)
                    have e243 : M232 604 ea = v174 := ((w232_3 604 ea (by decide) (by decide) (by decide) (by decide) (by decide) (by decide) (by decide) (by decide) (by decide) (by decide) (by decide) (by decide)).trans e176)
                    refine jr_v rfl rfl (Or.inl rfl) rfl rfl (by decide) rfl ⟨rfl, Nat.le_of_ble_eq_true rfl, Nat.le_of_ble_eq_true rfl⟩ rfl (jc.deep (r_counts_x (RI.u (RI.u (RI.u hI_M232 (a := 598) (i := 66) (show (-1 : Int) ≤ _ ∧ _ ≤ (1 : Int) from by omega)) (a := 638) (i := r232) (by rw [xri_row rfl rfl]; show (0 : Int) ≤ _ ∧ _ ≤ (15 : Int); omega)) (a := 639) (i := r232) (by rw [xri_row rfl rfl]; show (-2147483648 : Int) ≤ _ ∧ _ ≤ (2147483647 : Int); omega)) (RH.o (RH.o (RH.o hH_M232 (by decide) (by decide) (by decide)) (by decide) (by decide) (by decide)) (by decide) (by decide) (by decide)) (RF.o (RFx.w (RFx.o w232_0 (by decide) (by decide)) (fun q => by rw [((ju_c _ _ (by decide)).trans e239)] at q; omega)) (by decide) (by decide))  (by omega) (by omega) (by rw [((ju_c _ _ (by decide)).trans ((ju_c _ _ (by decide)).trans ((ju_i _ _ (by decide)).trans e242)))]; omega) (by rw [((ju_c _ _ (by decide)).trans ((ju_c _ _ (by decide)).trans ((ju_c _ _ (by decide)).trans e239))), ((ju_c _ _ (by decide)).trans ((ju_c _ _ (by decide)).trans ((ju_i _ _ (by decide)).trans e242))), ((ju_c _ _ (by decide)).trans ((ju_c _ _ (by decide)).trans ((ju_c _ _ (by decide)).trans e243)))]; intro q; omega) (by rw [((ju_c _ _ (by decide)).trans ((ju_c _ _ (by decide)).trans (ju_same _ _ _ _)))]; omega) (fun M241 hI_M241 hH_M241 hS_M241  w241_0 w241_1 => ?_)) (by decide))
                    refine jr.iload_n rfl rfl ?_
                    exact jr.ireturn rfl rfl rfl (q _ _ hI_M241 hH_M241 hS_M241  (by omega) (TR6.n ⟨⟨by omega, by omega⟩, by omega⟩ (by omega) w1_1 w1_2 (w1_3 2 (by decide) (by decide) (by decide) (by decide) (by decide) (by decide) (by decide) (by decide) (by decide) (by decide) (by decide)) (by omega) w3_1 w4_1 w4_2 w4_3 (by have hg : fe6 M4 24 0 = r4 := (by rw [(fe6_b w4_2 w4_3).2, ← w4_1.1]); have hcl : clE M4 x = r178 := (by unfold clE; rw [e173, e176, ← w177_0, ← w178_0]); have hK : K6 (ju M232 598 66 0) r232 (M4 598 60) (M4 598 2) (if M4 598 60 = 6 then 1 else 0) = (ju (ju (ju M232 598 66 0) 638 r232 1) 639 r232 (v234 + r240)) := (by unfold K6; rw [e6, e237, if_pos (by omega), w240_0]; first | rfl | (rw [show v239 = v5 from by omega])); have h9 := w241_0; have hs : (ju (ju (ju M232 598 66 0) 638 r232 1) 639 r232 (v234 + r240)) 598 66 = 0 := ((ju_c _ _ (by decide)).trans ((ju_c _ _ (by decide)).trans (ju_same _ _ _ _))); rw [hs] at h9; rw [← hK] at h9; exact Or.inl ⟨by rw [hg]; omega, Or.inr (Or.inr ⟨(by unfold mayE; rw [e6]; rw [hcl]; first | omega), by rw [← w232_2.1]; omega, w232_2.1, M232, (by rcases w232_2.2 with h8 | h8; (exact absurd h8.1 (by omega)); (exact h8.2)), w232_3, h9⟩)⟩)) (fun a i f598 f603 f604 f605 f627 f628 f629 f630 f631 f632 f633 f634 f635 f636 f637 f638 f639 f640 => ((w241_1 a i f632 f633 f634 f635 f636 f637).trans ((ju_c _ _ f639).trans ((ju_c _ _ f638).trans ((ju_c _ _ f598).trans ((w232_3 a i f627 f628 f629 f630 f631 f632 f633 f634 f635 f636 f637 f640).trans ((w4_2 a i f598).trans ((w3_2 a i f598).trans ((w1_2 a i f598 f603 f604 f605).trans rfl))))))))) (fun i g6 g10 g11 g12 g59 g60 g61 g62 g63 g64 g65 g66 => ((w241_1 598 i (by decide) (by decide) (by decide) (by decide) (by decide) (by decide)).trans ((ju_c _ _ (by decide)).trans ((ju_c _ _ (by decide)).trans ((ju_i _ _ g66).trans ((w232_3 598 i (by decide) (by decide) (by decide) (by decide) (by decide) (by decide) (by decide) (by decide) (by decide) (by decide) (by decide) (by decide)).trans ((w4_3 i g66).trans ((w3_3 i g59 g60 g61 g62 g63 g64 g65).trans ((w1_3 i g6 g10 g11 g12 g59 g60 g61 g62 g63 g64 g65).trans rfl))))))))))
                · refine jr.bipush rfl (by decide) ?_
                  exact jr.ireturn rfl rfl rfl (q _ _ hI_M232 hH_M232 (RFx.none w232_0 (by omega))  (by omega) (TR6.n ⟨⟨by omega, by omega⟩, by omega⟩ (by omega) w1_1 w1_2 (w1_3 2 (by decide) (by decide) (by decide) (by decide) (by decide) (by decide) (by decide) (by decide) (by decide) (by decide) (by decide)) (by omega) w3_1 w4_1 w4_2 w4_3 (by have hg : fe6 M4 24 0 = r4 := (by rw [(fe6_b w4_2 w4_3).2, ← w4_1.1]); have hcl : clE M4 x = r178 := (by unfold clE; rw [e173, e176, ← w177_0, ← w178_0]); exact Or.inl ⟨by rw [hg]; omega, Or.inr (Or.inl ⟨(by unfold mayE; rw [e6]; rw [hcl]; first | omega), by rw [← w232_2.1]; omega, rfl, by rcases w232_2.2 with h9 | h9; (exact h9.2); (exact absurd (by omega) h9.1)⟩)⟩)) (fun a i f598 f603 f604 f605 f627 f628 f629 f630 f631 f632 f633 f634 f635 f636 f637 f638 f639 f640 => ((w232_3 a i f627 f628 f629 f630 f631 f632 f633 f634 f635 f636 f637 f640).trans ((w4_2 a i f598).trans ((w3_2 a i f598).trans ((w1_2 a i f598 f603 f604 f605).trans rfl))))) (fun i g6 g10 g11 g12 g59 g60 g61 g62 g63 g64 g65 g66 => ((w232_3 598 i (by decide) (by decide) (by decide) (by decide) (by decide) (by decide) (by decide) (by decide) (by decide) (by decide) (by decide) (by decide)).trans ((w4_3 i g66).trans ((w3_3 i g59 g60 g61 g62 g63 g64 g65).trans ((w1_3 i g6 g10 g11 g12 g59 g60 g61 g62 g63 g64 g65).trans rfl))))))
      · have sx27 : (1 : Int) ≤ r3 := by omega
        refine jr.aload_n rfl rfl ?_
        refine jr_v rfl rfl (Or.inl rfl) rfl rfl (by decide) rfl ⟨rfl, Nat.le_of_ble_eq_true rfl, Nat.le_of_ble_eq_true rfl⟩ rfl (jc.deep (r_flowByEnds_x hI_M3 hH_M3 hS_M3    (fun r244 M244 hI_M244 hH_M244 hS_M244  z244 w244_0 w244_1 w244_2 w244_3 => ?_)) (by decide))
        refine jr.istore_n rfl (by decide) rfl ?_
        refine jr.iload_n rfl rfl ?_
        refine jr.iconst rfl ?_
        refine jr.icmp_ne rfl rfl (by omega) (by omega) (fun h37 => ?_) (fun h37 => ?_)
        · have sx37 : (0 : Int) ≤ r244 := by omega
          refine jr.iload_n rfl rfl ?_
          exact jr.ireturn rfl rfl rfl (q _ _ hI_M244 hH_M244 hS_M244  (by omega) (TR6.r ⟨⟨by omega, by omega⟩, by omega⟩ (by omega) w1_1 w1_2 (w1_3 2 (by decide) (by decide) (by decide) (by decide) (by decide) (by decide) (by decide) (by decide) (by decide) (by decide) (by decide)) (by omega) w3_1 w3_2 w3_3 w244_1.1 w244_2 w244_3 (by first | rw [if_pos (by omega)] | rw [if_neg (by omega)])) (fun a i f598 f603 f604 f605 f627 f628 f629 f630 f631 f632 f633 f634 f635 f636 f637 f638 f639 f640 => ((w244_2 a i f598).trans ((w3_2 a i f598).trans ((w1_2 a i f598 f603 f604 f605).trans rfl)))) (fun i g6 g10 g11 g12 g59 g60 g61 g62 g63 g64 g65 g66 => ((w244_3 i g66).trans ((w3_3 i g59 g60 g61 g62 g63 g64 g65).trans ((w1_3 i g6 g10 g11 g12 g59 g60 g61 g62 g63 g64 g65).trans rfl)))))
        · refine jr.bipush rfl (by decide) ?_
          refine jr.goto rfl rfl ?_
          exact jr.ireturn rfl rfl rfl (q _ _ hI_M244 hH_M244 hS_M244  (by omega) (TR6.r ⟨⟨by omega, by omega⟩, by omega⟩ (by omega) w1_1 w1_2 (w1_3 2 (by decide) (by decide) (by decide) (by decide) (by decide) (by decide) (by decide) (by decide) (by decide) (by decide) (by decide)) (by omega) w3_1 w3_2 w3_3 w244_1.1 w244_2 w244_3 (by first | rw [if_pos (by omega)] | rw [if_neg (by omega)])) (fun a i f598 f603 f604 f605 f627 f628 f629 f630 f631 f632 f633 f634 f635 f636 f637 f638 f639 f640 => ((w244_2 a i f598).trans ((w3_2 a i f598).trans ((w1_2 a i f598 f603 f604 f605).trans rfl)))) (fun i g6 g10 g11 g12 g59 g60 g61 g62 g63 g64 g65 g66 => ((w244_3 i g66).trans ((w3_3 i g59 g60 g61 g62 g63 g64 g65).trans ((w1_3 i g6 g10 g11 g12 g59 g60 g61 g62 g63 g64 g65).trans rfl)))))
    · refine jr.bipush rfl (by decide) ?_
      exact jr.ireturn rfl rfl rfl (q _ _ hI_M1 hH_M1 hS_M1  (by omega) (TR6.h0 ⟨⟨by omega, by omega⟩, by omega⟩ (by omega) w1_1 w1_2) (fun a i f598 f603 f604 f605 f627 f628 f629 f630 f631 f632 f633 f634 f635 f636 f637 f638 f639 f640 => ((w1_2 a i f598 f603 f604 f605).trans rfl)) (fun i g6 g10 g11 g12 g59 g60 g61 g62 g63 g64 g65 g66 => ((w1_3 i g6 g10 g11 g12 g59 g60 g61 g62 g63 g64 g65).trans rfl)))
  · refine jr.if_ne rfl rfl (by omega) (fun h => absurd h (by decide)) (fun _ => ?_)
    refine jr.bipush rfl (by decide) ?_
    exact jr.ireturn rfl rfl rfl (q _ _ hI_M hH_M hS_M  (by omega) (Or.inl ⟨by omega, rfl, rfl⟩) (fun a i f598 f603 f604 f605 f627 f628 f629 f630 f631 f632 f633 f634 f635 f636 f637 f638 f639 f640 => rfl) (fun i g6 g10 g11 g12 g59 g60 g61 g62 g63 g64 g65 g66 => rfl))
end
