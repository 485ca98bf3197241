section
theorem r_lives_x {A : Nat → Option (Nat × (Nat → Int32))} {Q : Option Value → jm → Prop} {M : jm} (hI_M : RI M) (hH_M : RH M) (hS_M : RF M) {w : Int} (h_w : (-2147483648) ≤ w ∧ w ≤ 2147483647) {s : Int} (h_s : (-2147483648) ≤ s ∧ s ≤ 2147483647) (p0 : (w = 1 ∨ w = 17 ∨ (1 ≤ s ∧ s ≤ 10))) (q : ∀ (r : Int), 3 ≤ r ∧ r ≤ 200 → r = lvf w s → Q (some (.int (Int32.ofInt r))) M) : jc A 1 306 [.int (Int32.ofInt (w)), .int (Int32.ofInt (s))] M Q := by
  refine jc_of (m := xm_306) rfl (Nat.le_of_ble_eq_true rfl) rfl ?_
  refine jr.iload_n rfl rfl ?_
  refine jr.iconst rfl ?_
  refine jr.icmp_ne rfl rfl (by omega) (by omega) (fun h2 => ?_) (fun h2 => ?_)
  · refine jr.iload_n rfl rfl ?_
    refine jr.bipush rfl (by decide) ?_
    refine jr.icmp_ne rfl rfl (by omega) (by omega) (fun h10 => ?_) (fun h10 => ?_)
    · refine jr.iload_n rfl rfl ?_
      rcases (show s = 1 ∨ s = 2 ∨ s = 3 ∨ s = 4 ∨ s = 5 ∨ s = 6 ∨ s = 7 ∨ s = 8 ∨ s = 9 ∨ s = 10 ∨ (s ≠ 1 ∧ s ≠ 2 ∧ s ≠ 3 ∧ s ≠ 4 ∧ s ≠ 5 ∧ s ≠ 6 ∧ s ≠ 7 ∧ s ≠ 8 ∧ s ≠ 9 ∧ s ≠ 10) by omega) with h26 | h26 | h26 | h26 | h26 | h26 | h26 | h26 | h26 | h26 | h26
      · refine jr.tsw_k 1 rfl h26 rfl ?_
        refine jr.bipush rfl (by decide) ?_
        exact jr.ireturn rfl rfl rfl (q _ (by omega) (by rw [lvf_o h2 h10, h26]; rfl))
      · refine jr.tsw_k 2 rfl h26 rfl ?_
        refine jr.bipush rfl (by decide) ?_
        exact jr.ireturn rfl rfl rfl (q _ (by omega) (by rw [lvf_o h2 h10, h26]; rfl))
      · refine jr.tsw_k 3 rfl h26 rfl ?_
        refine jr.sipush rfl (by decide) ?_
        exact jr.ireturn rfl rfl rfl (q _ (by omega) (by rw [lvf_o h2 h10, h26]; rfl))
      · refine jr.tsw_k 4 rfl h26 rfl ?_
        refine jr.bipush rfl (by decide) ?_
        exact jr.ireturn rfl rfl rfl (q _ (by omega) (by rw [lvf_o h2 h10, h26]; rfl))
      · refine jr.tsw_k 5 rfl h26 rfl ?_
        refine jr.bipush rfl (by decide) ?_
        exact jr.ireturn rfl rfl rfl (q _ (by omega) (by rw [lvf_o h2 h10, h26]; rfl))
      · refine jr.tsw_k 6 rfl h26 rfl ?_
        refine jr.bipush rfl (by decide) ?_
        exact jr.ireturn rfl rfl rfl (q _ (by omega) (by rw [lvf_o h2 h10, h26]; rfl))
      · refine jr.tsw_k 7 rfl h26 rfl ?_
        refine jr.bipush rfl (by decide) ?_
        exact jr.ireturn rfl rfl rfl (q _ (by omega) (by rw [lvf_o h2 h10, h26]; rfl))
      · refine jr.tsw_k 8 rfl h26 rfl ?_
        refine jr.bipush rfl (by decide) ?_
        exact jr.ireturn rfl rfl rfl (q _ (by omega) (by rw [lvf_o h2 h10, h26]; rfl))
      · refine jr.tsw_k 9 rfl h26 rfl ?_
        refine jr.bipush rfl (by decide) ?_
        exact jr.ireturn rfl rfl rfl (q _ (by omega) (by rw [lvf_o h2 h10, h26]; rfl))
      · refine jr.tsw_k 10 rfl h26 rfl ?_
        refine jr.iconst rfl ?_
        exact jr.ireturn rfl rfl rfl (q _ (by omega) (by rw [lvf_o h2 h10, h26]; rfl))
      · refine jr.tsw_d rfl (by omega) (by omega) rfl ?_
        refine jr.bipush rfl (by decide) ?_
        exact jr.ireturn rfl rfl rfl (q _ (by omega) (by unfold lvf; (repeat' split) <;> omega))
    · refine jr.iload_n rfl rfl ?_
      refine jr.if_ne rfl rfl (by omega) (fun h14 => ?_) (fun h14 => ?_)
      · refine jr.bipush rfl (by decide) ?_
        exact jr.ireturn rfl rfl rfl (q _ (by omega) (by unfold lvf; (repeat' split) <;> omega))
      · refine jr.bipush rfl (by decide) ?_
        refine jr.goto rfl rfl ?_
        exact jr.ireturn rfl rfl rfl (q _ (by omega) (by unfold lvf; (repeat' split) <;> omega))
  · refine jr.iconst rfl ?_
    exact jr.ireturn rfl rfl rfl (q _ (by omega) (by unfold lvf; (repeat' split) <;> omega))
theorem r_after_x {A : Nat → Option (Nat × (Nat → Int32))} {Q : Option Value → jm → Prop} {M : jm} (hI_M : RI M) (hH_M : RH M) (hS_M : RF M) {s : Int} (h_s : 1 ≤ s ∧ s ≤ 10) {b : Int} (h_b : 0 ≤ b ∧ b ≤ 1) {c : Int} (h_c : 0 ≤ c ∧ c ≤ 5) (q : ∀ (r : Int), 0 ≤ r ∧ r ≤ 10 → ((c = 5 ∧ r = 0) ∨ (c ≠ 5 ∧ r = M 647 (10 * (s - 1) + 5 * b + c))) → Q (some (.int (Int32.ofInt r))) M) : jc A 1 308 [.ref (598), .int (Int32.ofInt (s)), .int (Int32.ofInt (b)), .int (Int32.ofInt (c))] M Q := by
  refine jc_of (m := xm_308) rfl (Nat.le_of_ble_eq_true rfl) rfl ?_
  refine jr.iload_n rfl rfl ?_
  refine jr.iconst rfl ?_
  refine jr.icmp_ne rfl rfl (by omega) (by omega) (fun h2 => ?_) (fun h2 => ?_)
  · have sx2 : c ≤ (4 : Int) := by omega
    clear h2
    refine jr.aload_n rfl rfl ?_
    refine jr.getf (i := 67) (v := .ref 647) rfl rfl (by decide) rfl (by decide) rfl rfl rfl rfl ?_
    refine jr.bipush rfl (by decide) ?_
    refine jr.iload_n rfl rfl ?_
    refine jr.iconst rfl ?_
    refine jr.isub rfl ?_
    refine jr.imul rfl ?_
    refine jr.iconst rfl ?_
    refine jr.iload_n rfl rfl ?_
    refine jr.imul rfl ?_
    refine jr.iadd rfl ?_
    refine jr.iload_n rfl rfl ?_
    refine jr.iadd rfl ?_
    obtain ⟨v1, e1⟩ : ∃ z, M 647 (((10 * (s - 1)) + (5 * b)) + c) = z := ⟨_, rfl⟩
    have b1 : 0 ≤ v1 ∧ v1 ≤ 10 := by rw [← e1]; exact (by have q := hI_M 647 (((10 * (s - 1)) + (5 * b)) + c) (by decide); rw [xri_row rfl rfl] at q; exact q)
    refine jr.iald (i := (((10 * (s - 1)) + (5 * b)) + c)) (x := v1) rfl (by decide) rfl (by decide) (by omega) (by omega) e1 ?_
    exact jr.ireturn rfl rfl rfl (q _ (by omega) (by omega))
  · refine jr.iconst rfl ?_
    refine jr.goto rfl rfl ?_
    exact jr.ireturn rfl rfl rfl (q _ (by omega) (by omega))
theorem r_gathered_x {A : Nat → Option (Nat × (Nat → Int32))} {Q : Option Value → jm → Prop} {M : jm} (hI_M : RI M) (hH_M : RH M) (hS_M : RF M) {w : Int} (h_w : (-2147483648) ≤ w ∧ w ≤ 2147483647) (q : ∀ (r : Int) (M' : jm), RI M' → RH M' → RF M' → (-3) ≤ r ∧ r ≤ 720 → (((0 ≤ w ∧ w ≤ 4) ∧ ((M 598 34 = 0 ∧ r = -1) ∨ (M 598 34 ≠ 0 ∧ r = M 622 w))) ∨ ((w < 0 ∨ 4 < w) ∧ r = -3)) → M' = M → (∀ (a : Nat) (i : Int), a ≠ 598 → M' a i = M a i) → (∀ (i : Int), i ≠ 1 → M' 598 i = M 598 i) → Q (some (.int (Int32.ofInt r))) M') : jc A 2 297 [.ref (598), .int (Int32.ofInt (w))] M Q := by
  refine jc_of (m := xm_297) rfl (Nat.le_of_ble_eq_true rfl) rfl ?_
  refine jr.iload_n rfl rfl ?_
  refine jr.i2l rfl (by omega) ?_
  refine jr.lconst (x := 0) rfl (by decide) ?_
  refine jr.ldc2 (x := 4) rfl rfl (by decide) ?_
  refine jr_s rfl rfl (Or.inl rfl) ⟨Nat.le_of_ble_eq_true rfl, Nat.le_of_ble_eq_true rfl⟩ rfl rfl (jc.deep (c_within (by omega) (by omega) (by omega) (fun l6 u6 => ?_) (fun n6 => ?_)) (by decide))
  · refine jr.if_ne rfl rfl (by omega) (fun _ => ?_) (fun h => absurd (by decide) h)
    refine jr.aload_n rfl rfl ?_
    obtain ⟨v1, e1⟩ : ∃ z, M 598 34 = z := ⟨_, rfl⟩
    have b1 : 0 ≤ v1 ∧ v1 ≤ 1 := by rw [← e1]; exact hI_M 598 34 (by decide)
    refine jr.getf (i := 34) (x := v1) (v := .int (Int32.ofInt (v1))) rfl rfl (by decide) rfl (by decide) rfl rfl e1 rfl ?_
    refine jr.if_eq rfl rfl (by omega) (fun h19 => ?_) (fun h19 => ?_)
    · refine jr.iconst rfl ?_
      exact jr.ireturn rfl rfl rfl (q _ _ hI_M hH_M hS_M  (by omega) (by omega) rfl (fun a i f598 => rfl) (fun i g1 => rfl))
    · have sx19 : (1 : Int) ≤ v1 := by omega
      clear h19
      refine jr.aload_n rfl rfl ?_
      refine jr.getf (i := 33) (v := .ref 622) rfl rfl (by decide) rfl (by decide) rfl rfl rfl rfl ?_
      refine jr.iload_n rfl rfl ?_
      obtain ⟨v2, e2⟩ : ∃ z, M 622 w = z := ⟨_, rfl⟩
      have b2 : (-1) ≤ v2 ∧ v2 ≤ 720 := by rw [← e2]; exact (by have q := hI_M 622 w (by decide); rw [xri_row rfl rfl] at q; exact q)
      refine jr.iald (i := w) (x := v2) rfl (by decide) rfl (by decide) (by omega) (by omega) e2 ?_
      refine jr.goto rfl rfl ?_
      exact jr.ireturn rfl rfl rfl (q _ _ hI_M hH_M hS_M  (by omega) (by omega) rfl (fun a i f598 => rfl) (fun i g1 => rfl))
  · refine jr.if_ne rfl rfl (by omega) (fun h => absurd h (by decide)) (fun _ => ?_)
    refine jr.bipush rfl (by decide) ?_
    exact jr.ireturn rfl rfl rfl (q _ _ hI_M hH_M hS_M  (by omega) (by omega) rfl (fun a i f598 => rfl) (fun i g1 => rfl))
/-- sides below s have forgotten -/
noncomputable def FG6 (T M : jm) (f s : Int) : Prop := (∀ j : Int, 2 * f ≤ j → j < s → M 632 j = 0 ∧ M 633 j = 0 ∧ M 634 j = 0 ∧ M 635 j = 0 ∧ M 636 j = 0 ∧ M 637 j = 0) ∧ ∀ (b : Nat) (j : Int), (j < 2 * f ∨ s ≤ j) → M b j = T b j
theorem FG6.s {T M : jm} {f s : Int} (h : FG6 T M f s) (h0 : 2 * f ≤ s) : FG6 T (ju (ju (ju (ju (ju (ju M 632 s 0) 633 s 0) 634 s 0) 635 s 0) 636 s 0) 637 s 0) f (s + 1) := by
  refine ⟨fun j j0 j1 => ?_, fun b j hj => ?_⟩
  · by_cases e : j = s
    · subst e
      refine ⟨?_, ?_, ?_, ?_, ?_, ?_⟩
      · rw [ju_c _ _ (by decide), ju_c _ _ (by decide), ju_c _ _ (by decide), ju_c _ _ (by decide), ju_c _ _ (by decide), ju_same]
      · rw [ju_c _ _ (by decide), ju_c _ _ (by decide), ju_c _ _ (by decide), ju_c _ _ (by decide), ju_same]
      · rw [ju_c _ _ (by decide), ju_c _ _ (by decide), ju_c _ _ (by decide), ju_same]
      · rw [ju_c _ _ (by decide), ju_c _ _ (by decide), ju_same]
      · rw [ju_c _ _ (by decide), ju_same]
      · rw [ju_same]
    · simp only [ju_i _ _ e]
      exact h.1 j j0 (by omega)
  · have e : j ≠ s := by omega
    simp only [ju_i _ _ e]
    exact h.2 b j (by omega)
end
