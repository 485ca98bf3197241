section
theorem r_gathered_x {A : Nat → Option (Nat × (Nat → Int32))} {Q : Option Value → jm → Prop} {M : jm} (hI_M : RI M) (hH_M : RH M) (hS_M : RF M) {w : Int} (h_w : (-2147483648) ≤ w ∧ w ≤ 2147483647) (q : ∀ (r : Int) (M' : jm), RI M' → RH M' → RF M' → (-3) ≤ r ∧ r ≤ 720 → (((0 ≤ w ∧ w ≤ 4) ∧ ((M 598 34 = 0 ∧ r = -1) ∨ (M 598 34 ≠ 0 ∧ r = M 622 w))) ∨ ((w < 0 ∨ 4 < w) ∧ r = -3)) → M' = M → (∀ (a : Nat) (i : Int), a ≠ 598 → M' a i = M a i) → (∀ (i : Int), i ≠ 1 → M' 598 i = M 598 i) → Q (some (.int (Int32.ofInt r))) M') : jc A 2 297 [.ref (598), .int (Int32.ofInt (w))] M Q := by
  refine jc_of (m := xm_297) rfl (Nat.le_of_ble_eq_true rfl) rfl ?_
  refine jr.iload_n rfl rfl ?_
  refine jr.i2l rfl (by omega) ?_
  refine jr.lconst (x := 0) rfl (by decide) ?_
  refine jr.ldc2 (x := 4) rfl rfl (by decide) ?_
  refine jr_s rfl rfl (Or.inl rfl) ⟨Nat.le_of_ble_eq_true rfl, Nat.le_of_ble_eq_true rfl⟩ rfl rfl (jc.deep (c_within (by omega) (by omega) (by omega) (fun l6 u6 => ?_) (fun n6 => ?_)) (by decide))
  · refine jr.if_ne rfl rfl (by omega) (fun _ => ?_) (fun h => absurd (by decide) h)
    refine jr.aload_n rfl rfl ?_
    obtain ⟨v1, e1⟩ : ∃ z, M 598 34 = z := ⟨_, rfl⟩
    have b1 : 0 ≤ v1 ∧ v1 ≤ 1 := by rw [← e1]; exact hI_M 598 34 (by decide)
    refine jr.getf (i := 34) (x := v1) (v := .int (Int32.ofInt (v1))) rfl rfl (by decide) rfl (by decide) rfl rfl e1 rfl ?_
    refine jr.if_eq rfl rfl (by omega) (fun h19 => ?_) (fun h19 => ?_)
    · refine jr.iconst rfl ?_
      exact jr.ireturn rfl rfl rfl (q _ _ hI_M hH_M hS_M  (by omega) (by omega) rfl (fun a i f598 => rfl) (fun i g1 => rfl))
    · refine jr.aload_n rfl rfl ?_
      refine jr.getf (i := 33) (v := .ref 622) rfl rfl (by decide) rfl (by decide) rfl rfl rfl rfl ?_
      refine jr.iload_n rfl rfl ?_
      obtain ⟨v2, e2⟩ : ∃ z, M 622 w = z := ⟨_, rfl⟩
      have b2 : (-1) ≤ v2 ∧ v2 ≤ 720 := by rw [← e2]; exact (by have q := hI_M 622 w (by decide); rw [xri_row rfl rfl] at q; exact q)
      refine jr.iald (i := w) (x := v2) rfl (by decide) rfl (by decide) (by omega) (by omega) e2 ?_
      refine jr.goto rfl rfl ?_
      exact jr.ireturn rfl rfl rfl (q _ _ hI_M hH_M hS_M  (by omega) (by omega) rfl (fun a i f598 => rfl) (fun i g1 => rfl))
  · refine jr.if_ne rfl rfl (by omega) (fun h => absurd h (by decide)) (fun _ => ?_)
    refine jr.bipush rfl (by decide) ?_
    exact jr.ireturn rfl rfl rfl (q _ _ hI_M hH_M hS_M  (by omega) (by omega) rfl (fun a i f598 => rfl) (fun i g1 => rfl))
/-- sides below s have forgotten -/
noncomputable def FG6 (T M : jm) (f s : Int) : Prop := (∀ j : Int, 2 * f ≤ j → j < s → M 632 j = 0 ∧ M 633 j = 0 ∧ M 634 j = 0 ∧ M 635 j = 0 ∧ M 636 j = 0 ∧ M 637 j = 0) ∧ ∀ (b : Nat) (j : Int), (j < 2 * f ∨ s ≤ j) → M b j = T b j
theorem FG6.s {T M : jm} {f s : Int} (h : FG6 T M f s) (h0 : 2 * f ≤ s) : FG6 T (ju (ju (ju (ju (ju (ju M 632 s 0) 633 s 0) 634 s 0) 635 s 0) 636 s 0) 637 s 0) f (s + 1) := by
  refine ⟨fun j j0 j1 => ?_, fun b j hj => ?_⟩
  · by_cases e : j = s
    · subst e
      refine ⟨?_, ?_, ?_, ?_, ?_, ?_⟩
      · rw [ju_c _ _ (by decide), ju_c _ _ (by decide), ju_c _ _ (by decide), ju_c _ _ (by decide), ju_c _ _ (by decide), ju_same]
      · rw [ju_c _ _ (by decide), ju_c _ _ (by decide), ju_c _ _ (by decide), ju_c _ _ (by decide), ju_same]
      · rw [ju_c _ _ (by decide), ju_c _ _ (by decide), ju_c _ _ (by decide), ju_same]
      · rw [ju_c _ _ (by decide), ju_c _ _ (by decide), ju_same]
      · rw [ju_c _ _ (by decide), ju_same]
      · rw [ju_same]
    · simp only [ju_i _ _ e]
      exact h.1 j j0 (by omega)
  · have e : j ≠ s := by omega
    simp only [ju_i _ _ e]
    exact h.2 b j (by omega)
theorem r_forget_L4_x {A : Nat → Option (Nat × (Nat → Int32))} {Q : Option Value → jm → Prop} {M0 : jm} {f0 : Int} (q : ∀ (M' : jm), RI M' → RH M' → FG6 M0 M' f0 (2 * f0 + 2) → (∀ (a : Nat) (i : Int), a ≠ 632 → a ≠ 633 → a ≠ 634 → a ≠ 635 → a ≠ 636 → a ≠ 637 → M' a i = M0 a i) → Q none M') : ∀ (nM : Nat) (M : jm) (s : Int) (f : Int), RI M → RH M → (∀ (a : Nat) (i : Int), a ≠ 632 → a ≠ 633 → a ≠ 634 → a ≠ 635 → a ≠ 636 → a ≠ 637 → M a i = M0 a i) → 0 ≤ s ∧ s ≤ 48 → 0 ≤ f ∧ f ≤ 23 → 2 * f ≤ s → FG6 M0 M f s → s ≤ 2 * f + 2 → f = f0 → 48 - s ≤ nM → jr A 0 xm_309 4 [(2, .int (Int32.ofInt (s))), (1, .int (Int32.ofInt (f))), (0, .ref (598))] [] M Q := by
  intro nM
  induction nM using Nat.strongRecOn with
  | ind nM ih =>
    intro M s f hI_M hH_M hF_M h_s h_f hy0 hy1 hy2 hy3 hm
    subst hy3
    refine jr.iload_n rfl rfl ?_
    refine jr.iconst rfl ?_
    refine jr.iload_n rfl rfl ?_
    refine jr.imul rfl ?_
    refine jr.iconst rfl ?_
    refine jr.iadd rfl ?_
    refine jr.icmp_ge rfl rfl (by omega) (by omega) (fun h10 => ?_) (fun h10 => ?_)
    · exact jr.vreturn rfl rfl (q _ hI_M hH_M  (by have h9 := hy1; rw [show s = 2 * f + 2 from by omega] at h9; exact h9) (fun a i f632 f633 f634 f635 f636 f637 => (hF_M a i f632 f633 f634 f635 f636 f637)))
    · refine jr.aload_n rfl rfl ?_
      refine jr.getf (i := 44) (v := .ref 632) rfl rfl (by decide) rfl (by decide) rfl rfl rfl rfl ?_
      refine jr.iload_n rfl rfl ?_
      refine jr.iconst rfl ?_
      refine jr.zast (i := s) (x := 0) rfl (by decide) rfl (by decide) (by omega) (by omega) (j_zn (by omega)) ?_
      refine jr.aload_n rfl rfl ?_
      refine jr.getf (i := 45) (v := .ref 633) rfl rfl (by decide) rfl (by decide) rfl rfl rfl rfl ?_
      refine jr.iload_n rfl rfl ?_
      refine jr.iconst rfl ?_
      refine jr.iast (i := s) (x := 0) rfl (by decide) rfl (by decide) (by omega) (by omega) ?_
      refine jr.aload_n rfl rfl ?_
      refine jr.getf (i := 46) (v := .ref 634) rfl rfl (by decide) rfl (by decide) rfl rfl rfl rfl ?_
      refine jr.iload_n rfl rfl ?_
      refine jr.iconst rfl ?_
      refine jr.zast (i := s) (x := 0) rfl (by decide) rfl (by decide) (by omega) (by omega) (j_zn (by omega)) ?_
      refine jr.aload_n rfl rfl ?_
      refine jr.getf (i := 47) (v := .ref 635) rfl rfl (by decide) rfl (by decide) rfl rfl rfl rfl ?_
      refine jr.iload_n rfl rfl ?_
      refine jr.iconst rfl ?_
      refine jr.iast (i := s) (x := 0) rfl (by decide) rfl (by decide) (by omega) (by omega) ?_
      refine jr.aload_n rfl rfl ?_
      refine jr.getf (i := 48) (v := .ref 636) rfl rfl (by decide) rfl (by decide) rfl rfl rfl rfl ?_
      refine jr.iload_n rfl rfl ?_
      refine jr.lconst (x := 0) rfl (by decide) ?_
      refine jr.last (i := s) (x := 0) rfl (by decide) rfl (by decide) (by omega) (by omega) ?_
      refine jr.aload_n rfl rfl ?_
      refine jr.getf (i := 49) (v := .ref 637) rfl rfl (by decide) rfl (by decide) rfl rfl rfl rfl ?_
      refine jr.iload_n rfl rfl ?_
      refine jr.lconst (x := 0) rfl (by decide) ?_
      refine jr.last (i := s) (x := 0) rfl (by decide) rfl (by decide) (by omega) (by omega) ?_
      refine jr.iinc rfl rfl (by decide) rfl ?_
      refine jr.goto rfl rfl ?_
      refine jr.pick [0, 1, 2] rfl rfl ?_
      exact ih (nM - 1) (by omega) (ju (ju (ju (ju (ju (ju M 632 s 0) 633 s 0) 634 s 0) 635 s 0) 636 s 0) 637 s 0) (s + 1) f (RI.u (RI.u (RI.u (RI.u (RI.u (RI.u hI_M (a := 632) (i := s) (by rw [xri_row rfl rfl]; show (0 : Int) ≤ _ ∧ _ ≤ (1 : Int); omega)) (a := 633) (i := s) (by rw [xri_row rfl rfl]; show (-2147483648 : Int) ≤ _ ∧ _ ≤ (2147483647 : Int); omega)) (a := 634) (i := s) (by rw [xri_row rfl rfl]; show (0 : Int) ≤ _ ∧ _ ≤ (1 : Int); omega)) (a := 635) (i := s) (by rw [xri_row rfl rfl]; show (0 : Int) ≤ _ ∧ _ ≤ (65535 : Int); omega)) (a := 636) (i := s) (by rw [xri_row rfl rfl]; show (-9223372036854775808 : Int) ≤ _ ∧ _ ≤ (9223372036854775807 : Int); omega)) (a := 637) (i := s) (by rw [xri_row rfl rfl]; show (-9223372036854775808 : Int) ≤ _ ∧ _ ≤ (9223372036854775807 : Int); omega)) (RH.o (RH.o (RH.o (RH.o (RH.o (RH.o hH_M (by decide) (by decide) (by decide)) (by decide) (by decide) (by decide)) (by decide) (by decide) (by decide)) (by decide) (by decide) (by decide)) (by decide) (by decide) (by decide)) (by decide) (by decide) (by decide))  (fun a i f632 f633 f634 f635 f636 f637 => ((ju_c _ _ f637).trans ((ju_c _ _ f636).trans ((ju_c _ _ f635).trans ((ju_c _ _ f634).trans ((ju_c _ _ f633).trans ((ju_c _ _ f632).trans (hF_M a i f632 f633 f634 f635 f636 f637)))))))) (by omega) (by omega) (by omega) (FG6.s hy1 (by omega)) (by omega) (by omega) (by omega)
theorem r_forget_x {A : Nat → Option (Nat × (Nat → Int32))} {Q : Option Value → jm → Prop} {M : jm} (hI_M : RI M) (hH_M : RH M) {f : Int} (h_f : 0 ≤ f ∧ f ≤ 23) (q : ∀ (M' : jm), RI M' → RH M' → FG6 M M' f (2 * f + 2) → (∀ (a : Nat) (i : Int), a ≠ 632 → a ≠ 633 → a ≠ 634 → a ≠ 635 → a ≠ 636 → a ≠ 637 → M' a i = M a i) → Q none M') : jc A 1 309 [.ref (598), .int (Int32.ofInt (f))] M Q := by
  refine jc_of (m := xm_309) rfl (Nat.le_of_ble_eq_true rfl) rfl ?_
  refine jr.iconst rfl ?_
  refine jr.iload_n rfl rfl ?_
  refine jr.imul rfl ?_
  refine jr.istore_n rfl (by decide) rfl ?_
  refine jr.pick [0, 2, 1] rfl rfl ?_
  exact r_forget_L4_x q 48 M (2 * f) f hI_M hH_M  (fun a i f632 f633 f634 f635 f636 f637 => rfl) (by omega) (by omega) (by omega) ⟨fun j j0 j1 => absurd j1 (by omega), fun _ _ _ => rfl⟩ (by omega) (by omega) (by omega)
end
section
/-! ===== the class: spans, a flow begins ===== -/
noncomputable def ioF (M : jm) (t : Nat) (s q n : Int) : Int := if M (t + 4) s = 0 then 0 else if j_w (q - M (t + 3) s) < -66000 ∨ ((s = 1 ∨ M t 12 ≠ 0) ∧ M (t + 5) (1 - s) < j_w (j_w (q + n) - M (t + 3) s)) then 1 else 0
theorem io_0 {M : jm} {t : Nat} {s q n : Int} (h : M (t + 4) s = 0) : ioF M t s q n = 0 := by
  unfold ioF
  rw [if_pos h]
theorem io_1 {M : jm} {t : Nat} {s q n l w : Int} (h : M (t + 4) s ≠ 0) (hl : M (t + 3) s = l) (hw : M (t + 5) (1 - s) = w) (h1 : j_w (q - l) < -66000 ∨ ((s = 1 ∨ M t 12 ≠ 0) ∧ w < j_w (j_w (q + n) - l))) : ioF M t s q n = 1 := by
  unfold ioF
  rw [if_neg h, hl, hw, if_pos h1]
theorem io_2 {M : jm} {t : Nat} {s q n l w : Int} (h : M (t + 4) s ≠ 0) (hl : M (t + 3) s = l) (hw : M (t + 5) (1 - s) = w) (h1 : ¬ (j_w (q - l) < -66000 ∨ ((s = 1 ∨ M t 12 ≠ 0) ∧ w < j_w (j_w (q + n) - l)))) : ioF M t s q n = 0 := by
  unfold ioF
  rw [if_neg h, hl, hw, if_neg h1]
theorem c_Flow_isOut_x {A : Nat → Option (Nat × (Nat → Int32))} {Q : Option Value → jm → Prop} {M : jm} (hC_M : CI M) {t : Nat} (k_t : kd t = 1) {x : Int} (h_x : 0 ≤ x ∧ x ≤ 1) {y : Int} (h_y : (-2147483648) ≤ y ∧ y ≤ 2147483647) {z : Int} (h_z : (-2147483648) ≤ z ∧ z ≤ 2147483647) (q : ∀ (r : Int), 0 ≤ r ∧ r ≤ 1 → (r = ioF M t x y z) → Q (some (.int (Int32.ofInt r))) M) : jc A 1 72 [.ref (t), .int (Int32.ofInt (x)), .int (Int32.ofInt (y)), .int (Int32.ofInt (z))] M Q := by
  refine jc_of (m := xm_72) rfl (Nat.le_of_ble_eq_true rfl) rfl ?_
  refine jr.aload_n rfl rfl ?_
  have k1 := kf_1_8 k_t
  refine jr.getf (i := 8) (v := .ref (t + 4)) rfl rfl (Nat.lt_trans (kx_1 k_t).1 (by decide)) (kx_1 k_t).2 (by decide) rfl rfl rfl (jval_ref rfl k1.1) ?_
  refine jr.iload_n rfl rfl ?_
  obtain ⟨v2, e2⟩ : ∃ z_, M ((t + 4)) x = z_ := ⟨_, rfl⟩
  have b2 : 0 ≤ v2 ∧ v2 ≤ 1 := by rw [← e2]; exact (CI.r hC_M k1.2 (by decide) x)
  refine jr.zald (i := x) (x := v2) rfl (Nat.lt_trans (kx_4 k1.2).1 (by decide)) (kx_4 k1.2).2 (by decide) (by omega) (by omega) e2 ?_
  refine jr.if_ne rfl rfl (by omega) (fun h6 => ?_) (fun h6 => ?_)
  · refine jr.iload_n rfl rfl ?_
    refine jr.iconst rfl ?_
    refine jr.icmp_eq rfl rfl (by omega) (by omega) (fun h13 => ?_) (fun h13 => ?_)
    · refine jr.iconst rfl ?_
      refine jr.goto rfl rfl ?_
      refine jr.istore rfl (by decide) rfl ?_
      refine jr.iload_n rfl rfl ?_
      refine jr.aload_n rfl rfl ?_
      have k3 := kf_1_7 k_t
      refine jr.getf (i := 7) (v := .ref (t + 3)) rfl rfl (Nat.lt_trans (kx_1 k_t).1 (by decide)) (kx_1 k_t).2 (by decide) rfl rfl rfl (jval_ref rfl k3.1) ?_
      refine jr.iload_n rfl rfl ?_
      obtain ⟨v4, e4⟩ : ∃ z_, M ((t + 3)) x = z_ := ⟨_, rfl⟩
      have b4 : (-2147483648) ≤ v4 ∧ v4 ≤ 2147483647 := by rw [← e4]; exact (CI.r hC_M k3.2 (by decide) x)
      refine jr.iald (i := x) (x := v4) rfl (Nat.lt_trans (kx_5 k3.2).1 (by decide)) (kx_5 k3.2).2 (by decide) (by omega) (by omega) e4 ?_
      refine jr.isub rfl ?_
      refine jr.iw (j_w (y - v4)) (j_w_eq _) ?_
      have b5 : -2147483648 ≤ j_w (y - v4) ∧ j_w (y - v4) ≤ 2147483647 := jb_any _
      refine jr.ldc (x := (-66000)) rfl rfl (by decide) ?_
      refine jr.icmp_lt rfl rfl (by omega) (by omega) (fun h40 => ?_) (fun h40 => ?_)
      · refine jr.iconst rfl ?_
        refine jr.goto rfl rfl ?_
        exact jr.ireturn rfl rfl rfl (q _ (by omega) (by rw [io_1 (by omega) e4 rfl (by first | (left; omega) | (right; omega))]))
      · refine jr.iload rfl rfl ?_
        refine jr.if_eq rfl rfl (by omega) (fun h => absurd h (by decide)) (fun _ => ?_)
        refine jr.iload_n rfl rfl ?_
        refine jr.iload_n rfl rfl ?_
        refine jr.iadd rfl ?_
        refine jr.iw (j_w (y + z)) (j_w_eq _) ?_
        have b6 : -2147483648 ≤ j_w (y + z) ∧ j_w (y + z) ≤ 2147483647 := jb_any _
        refine jr.aload_n rfl rfl ?_
        have k7 := kf_1_7 k_t
        refine jr.getf (i := 7) (v := .ref (t + 3)) rfl rfl (Nat.lt_trans (kx_1 k_t).1 (by decide)) (kx_1 k_t).2 (by decide) rfl rfl rfl (jval_ref rfl k7.1) ?_
        refine jr.iload_n rfl rfl ?_
        refine jr.iald (i := x) (x := v4) rfl (Nat.lt_trans (kx_5 k7.2).1 (by decide)) (kx_5 k7.2).2 (by decide) (by omega) (by omega) e4 ?_
        refine jr.isub rfl ?_
        refine jr.iw (j_w ((j_w (y + z)) - v4)) (j_w_eq _) ?_
        have b8 : -2147483648 ≤ j_w ((j_w (y + z)) - v4) ∧ j_w ((j_w (y + z)) - v4) ≤ 2147483647 := jb_any _
        refine jr.aload_n rfl rfl ?_
        have k9 := kf_1_9 k_t
        refine jr.getf (i := 9) (v := .ref (t + 5)) rfl rfl (Nat.lt_trans (kx_1 k_t).1 (by decide)) (kx_1 k_t).2 (by decide) rfl rfl rfl (jval_ref rfl k9.1) ?_
        refine jr.iconst rfl ?_
        refine jr.iload_n rfl rfl ?_
        refine jr.isub rfl ?_
        obtain ⟨v10, e10⟩ : ∃ z_, M ((t + 5)) (1 - x) = z_ := ⟨_, rfl⟩
        have b10 : (-2147483648) ≤ v10 ∧ v10 ≤ 2147483647 := by rw [← e10]; exact (CI.r hC_M k9.2 (by decide) (1 - x))
        refine jr.iald (i := (1 - x)) (x := v10) rfl (Nat.lt_trans (kx_8 k9.2).1 (by decide)) (kx_8 k9.2).2 (by decide) (by omega) (by omega) e10 ?_
        refine jr.icmp_le rfl rfl (by omega) (by omega) (fun h66 => ?_) (fun h66 => ?_)
        · refine jr.iconst rfl ?_
          exact jr.ireturn rfl rfl rfl (q _ (by omega) (by rw [io_2 (by omega) e4 e10 (by omega)]))
        · refine jr.iconst rfl ?_
          refine jr.goto rfl rfl ?_
          exact jr.ireturn rfl rfl rfl (q _ (by omega) (by rw [io_1 (by omega) e4 e10 (by first | (left; omega) | (right; omega))]))
    · refine jr.aload_n rfl rfl ?_
      obtain ⟨v11, e11⟩ : ∃ z_, M t 12 = z_ := ⟨_, rfl⟩
      have b11 : 0 ≤ v11 ∧ v11 ≤ 1 := by rw [← e11]; exact (CI.r hC_M k_t (by decide) 12)
      refine jr.getf (i := 12) (x := v11) (v := .int (Int32.ofInt (v11))) rfl rfl (Nat.lt_trans (kx_1 k_t).1 (by decide)) (kx_1 k_t).2 (by decide) rfl rfl e11 rfl ?_
      refine jr.if_eq rfl rfl (by omega) (fun h20 => ?_) (fun h20 => ?_)
      · refine jr.iconst rfl ?_
        refine jr.istore rfl (by decide) rfl ?_
        refine jr.iload_n rfl rfl ?_
        refine jr.aload_n rfl rfl ?_
        have k12 := kf_1_7 k_t
        refine jr.getf (i := 7) (v := .ref (t + 3)) rfl rfl (Nat.lt_trans (kx_1 k_t).1 (by decide)) (kx_1 k_t).2 (by decide) rfl rfl rfl (jval_ref rfl k12.1) ?_
        refine jr.iload_n rfl rfl ?_
        obtain ⟨v13, e13⟩ : ∃ z_, M ((t + 3)) x = z_ := ⟨_, rfl⟩
        have b13 : (-2147483648) ≤ v13 ∧ v13 ≤ 2147483647 := by rw [← e13]; exact (CI.r hC_M k12.2 (by decide) x)
        refine jr.iald (i := x) (x := v13) rfl (Nat.lt_trans (kx_5 k12.2).1 (by decide)) (kx_5 k12.2).2 (by decide) (by omega) (by omega) e13 ?_
        refine jr.isub rfl ?_
        refine jr.iw (j_w (y - v13)) (j_w_eq _) ?_
        have b14 : -2147483648 ≤ j_w (y - v13) ∧ j_w (y - v13) ≤ 2147483647 := jb_any _
        refine jr.ldc (x := (-66000)) rfl rfl (by decide) ?_
        refine jr.icmp_lt rfl rfl (by omega) (by omega) (fun h40 => ?_) (fun h40 => ?_)
        · refine jr.iconst rfl ?_
          refine jr.goto rfl rfl ?_
          exact jr.ireturn rfl rfl rfl (q _ (by omega) (by rw [io_1 (by omega) e13 rfl (by first | (left; omega) | (right; omega))]))
        · refine jr.iload rfl rfl ?_
          refine jr.if_eq rfl rfl (by omega) (fun _ => ?_) (fun h => absurd (by decide) h)
          refine jr.iconst rfl ?_
          exact jr.ireturn rfl rfl rfl (q _ (by omega) (by rw [io_2 (by omega) e13 rfl (by omega)]))
      · refine jr.iconst rfl ?_
        refine jr.goto rfl rfl ?_
        refine jr.istore rfl (by decide) rfl ?_
        refine jr.iload_n rfl rfl ?_
        refine jr.aload_n rfl rfl ?_
        have k15 := kf_1_7 k_t
        refine jr.getf (i := 7) (v := .ref (t + 3)) rfl rfl (Nat.lt_trans (kx_1 k_t).1 (by decide)) (kx_1 k_t).2 (by decide) rfl rfl rfl (jval_ref rfl k15.1) ?_
        refine jr.iload_n rfl rfl ?_
        obtain ⟨v16, e16⟩ : ∃ z_, M ((t + 3)) x = z_ := ⟨_, rfl⟩
        have b16 : (-2147483648) ≤ v16 ∧ v16 ≤ 2147483647 := by rw [← e16]; exact (CI.r hC_M k15.2 (by decide) x)
        refine jr.iald (i := x) (x := v16) rfl (Nat.lt_trans (kx_5 k15.2).1 (by decide)) (kx_5 k15.2).2 (by decide) (by omega) (by omega) e16 ?_
        refine jr.isub rfl ?_
        refine jr.iw (j_w (y - v16)) (j_w_eq _) ?_
        have b17 : -2147483648 ≤ j_w (y - v16) ∧ j_w (y - v16) ≤ 2147483647 := jb_any _
        refine jr.ldc (x := (-66000)) rfl rfl (by decide) ?_
        refine jr.icmp_lt rfl rfl (by omega) (by omega) (fun h40 => ?_) (fun h40 => ?_)
        · refine jr.iconst rfl ?_
          refine jr.goto rfl rfl ?_
          exact jr.ireturn rfl rfl rfl (q _ (by omega) (by rw [io_1 (by omega) e16 rfl (by first | (left; omega) | (right; omega))]))
        · refine jr.iload rfl rfl ?_
          refine jr.if_eq rfl rfl (by omega) (fun h => absurd h (by decide)) (fun _ => ?_)
          refine jr.iload_n rfl rfl ?_
          refine jr.iload_n rfl rfl ?_
          refine jr.iadd rfl ?_
          refine jr.iw (j_w (y + z)) (j_w_eq _) ?_
          have b18 : -2147483648 ≤ j_w (y + z) ∧ j_w (y + z) ≤ 2147483647 := jb_any _
          refine jr.aload_n rfl rfl ?_
          have k19 := kf_1_7 k_t
          refine jr.getf (i := 7) (v := .ref (t + 3)) rfl rfl (Nat.lt_trans (kx_1 k_t).1 (by decide)) (kx_1 k_t).2 (by decide) rfl rfl rfl (jval_ref rfl k19.1) ?_
          refine jr.iload_n rfl rfl ?_
          refine jr.iald (i := x) (x := v16) rfl (Nat.lt_trans (kx_5 k19.2).1 (by decide)) (kx_5 k19.2).2 (by decide) (by omega) (by omega) e16 ?_
          refine jr.isub rfl ?_
          refine jr.iw (j_w ((j_w (y + z)) - v16)) (j_w_eq _) ?_
          have b20 : -2147483648 ≤ j_w ((j_w (y + z)) - v16) ∧ j_w ((j_w (y + z)) - v16) ≤ 2147483647 := jb_any _
          refine jr.aload_n rfl rfl ?_
          have k21 := kf_1_9 k_t
          refine jr.getf (i := 9) (v := .ref (t + 5)) rfl rfl (Nat.lt_trans (kx_1 k_t).1 (by decide)) (kx_1 k_t).2 (by decide) rfl rfl rfl (jval_ref rfl k21.1) ?_
          refine jr.iconst rfl ?_
          refine jr.iload_n rfl rfl ?_
          refine jr.isub rfl ?_
          obtain ⟨v22, e22⟩ : ∃ z_, M ((t + 5)) (1 - x) = z_ := ⟨_, rfl⟩
          have b22 : (-2147483648) ≤ v22 ∧ v22 ≤ 2147483647 := by rw [← e22]; exact (CI.r hC_M k21.2 (by decide) (1 - x))
          refine jr.iald (i := (1 - x)) (x := v22) rfl (Nat.lt_trans (kx_8 k21.2).1 (by decide)) (kx_8 k21.2).2 (by decide) (by omega) (by omega) e22 ?_
          refine jr.icmp_le rfl rfl (by omega) (by omega) (fun h66 => ?_) (fun h66 => ?_)
          · refine jr.iconst rfl ?_
            exact jr.ireturn rfl rfl rfl (q _ (by omega) (by rw [io_2 (by omega) e16 e22 (by omega)]))
          · refine jr.iconst rfl ?_
            refine jr.goto rfl rfl ?_
            exact jr.ireturn rfl rfl rfl (q _ (by omega) (by rw [io_1 (by omega) e16 e22 (by first | (left; omega) | (right; omega))]))
  · refine jr.iconst rfl ?_
    exact jr.ireturn rfl rfl rfl (q _ (by omega) (by rw [io_0 (by omega)]))
noncomputable def BGE (T M : jm) (t : Nat) (i : Int) : Prop := (M t 0 = 1 ∧ M t 1 = T 18 1 ∧ M t 2 = T 18 2) ∧ (∀ s : Int, 0 ≤ s → s < i → M (t + 1) s = T 19 s ∧ M (t + 2) s = T 20 s) ∧ (∀ k : Int, k ≠ 0 → k ≠ 1 → k ≠ 2 → M t k = T t k) ∧ ∀ (b : Nat) (k : Int), b ≠ t → b ≠ t + 1 → b ≠ t + 2 → M b k = T b k
theorem BGE.s {T M : jm} {t : Nat} {i a v : Int} (h : BGE T M t i) (h0 : 0 ≤ i) (ha : a = T 19 i) (hv : v = T 20 i) : BGE T (ju (ju M (t + 1) i a) (t + 2) i v) t (i + 1) := by
  obtain ⟨h1, h2, h3, h4⟩ := h
  refine ⟨?_, fun s s0 s1 => ?_, fun k k0 k1 k2 => ?_, fun b k b0 b1 b2 => ?_⟩
  · simp only [ju_c _ _ (show t ≠ t + 2 by omega), ju_c _ _ (show t ≠ t + 1 by omega)]; exact h1
  · by_cases e : s = i
    · subst e
      rw [ju_c _ _ (show t + 1 ≠ t + 2 by omega), ju_same, ju_same]
      exact ⟨ha, hv⟩
    · rw [ju_c _ _ (show t + 1 ≠ t + 2 by omega), ju_i _ _ e, ju_i _ _ e, ju_c _ _ (show t + 2 ≠ t + 1 by omega)]
      exact h2 s s0 (by omega)
  · rw [ju_c _ _ (show t ≠ t + 2 by omega), ju_c _ _ (show t ≠ t + 1 by omega)]; exact h3 k k0 k1 k2
  · rw [ju_c _ _ b2, ju_c _ _ b1]; exact h4 b k b0 b1 b2
/-- a flow that begins with the ends -/
noncomputable def BGN (T M : jm) (t : Nat) : Prop := (M t 0 = 1 ∧ M t 1 = T 18 1 ∧ M t 2 = T 18 2 ∧ M t 5 = (if T 18 2 = 6 then 1 else 0) ∧ M t 13 = -1 ∧ M t 15 = -1 ∧ M t 12 = 0) ∧ (∀ s : Int, 0 ≤ s → s < 2 → (M (t + 1) s = T 19 s ∧ M (t + 2) s = T 20 s) ∧ M (t + 3) s = 0 ∧ M (t + 4) s = 0 ∧ M (t + 5) s = 0 ∧ M (t + 6) s = 0 ∧ M (t + 7) s = 0) ∧ (M t 6 = T t 6 ∧ M t 14 = T t 14) ∧ ∀ (b : Nat) (k : Int), b ≠ t → b ≠ t + 1 → b ≠ t + 2 → b ≠ t + 3 → b ≠ t + 4 → b ≠ t + 5 → b ≠ t + 6 → b ≠ t + 7 → M b k = T b k
theorem BGE.e {T M M2 : jm} {t : Nat} {v : Int} (h : BGE T M t 2) (hv : v = (if M t 2 = 6 then 1 else 0)) (w : FGT (ju (ju (ju M t 5 v) t 13 (-1)) t 15 (-1)) M2 t) : BGN T M2 t := by
  obtain ⟨h1, h2, h3, h4⟩ := h
  obtain ⟨w1, w2, w3, w4⟩ := w
  refine ⟨⟨?_, ?_, ?_, ?_, ?_, ?_, w2⟩, fun s s0 s1 => ⟨?_, w1 s s0 s1⟩, ⟨?_, ?_⟩, fun b k b0 b1 b2 b3 b4 b5 b6 b7 => ?_⟩
  · rw [w3 0 (by decide), ju_i _ _ (by decide), ju_i _ _ (by decide), ju_i _ _ (by decide)]; exact h1.1
  · rw [w3 1 (by decide), ju_i _ _ (by decide), ju_i _ _ (by decide), ju_i _ _ (by decide)]; exact h1.2.1
  · rw [w3 2 (by decide), ju_i _ _ (by decide), ju_i _ _ (by decide), ju_i _ _ (by decide)]; exact h1.2.2
  · rw [w3 5 (by decide), ju_i _ _ (by decide), ju_i _ _ (by decide), ju_same, hv, h1.2.2]
  · rw [w3 13 (by decide), ju_i _ _ (by decide), ju_same]
  · rw [w3 15 (by decide), ju_same]
  · rw [w4 (t + 1) s (by omega) (by omega) (by omega) (by omega) (by omega) (by omega), w4 (t + 2) s (by omega) (by omega) (by omega) (by omega) (by omega) (by omega)]
    simp only [ju_c _ _ (show t + 1 ≠ t by omega), ju_c _ _ (show t + 2 ≠ t by omega)]
    exact h2 s s0 s1
  · rw [w3 6 (by decide), ju_i _ _ (by decide), ju_i _ _ (by decide), ju_i _ _ (by decide)]; exact h3 6 (by decide) (by decide) (by decide)
  · rw [w3 14 (by decide), ju_i _ _ (by decide), ju_i _ _ (by decide), ju_i _ _ (by decide)]; exact h3 14 (by decide) (by decide) (by decide)
  · rw [w4 b k b0 b3 b4 b5 b6 b7, ju_c _ _ b0, ju_c _ _ b0, ju_c _ _ b0]; exact h4 b k b0 b1 b2
noncomputable def W_c_Flow_beginAs_x : List (Nat × Nat) := [(1, 0), (1, 1), (1, 2), (1, 5), (1, 12), (1, 13), (1, 15), (2, 1000), (3, 1000), (4, 1000), (5, 1000), (6, 1000), (7, 1000), (8, 1000)]
end
