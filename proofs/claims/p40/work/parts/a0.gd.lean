section
/-! ===== the reference: a row is taken, restore ===== -/
noncomputable def S6 (M : jm) (f : Int) (g : Int → Int) (y s : Int) : Prop := M 632 (2 * f + s) = tHl g y s ∧ M 634 (2 * f + s) = (if s = 0 then 1 else g (y + 1) / 128 % 2) ∧ M 631 (2 * f + s) = tPt g y s ∧ M 635 (2 * f + s) = tWn g y s ∧ M 630 (2 * f + s) = tAd g y s ∧ M 633 (2 * f + s) = j_w (nbs g (y + 26 + 4 * s) 4)
noncomputable def O6 (T M : jm) (f : Int) : Prop := (∀ (b : Nat) (j : Int), j ≠ f → (b = 628 ∨ b = 629 ∨ b = 638 ∨ b = 639 ∨ b = 640) → M b j = T b j) ∧ ∀ (b : Nat) (j : Int), (j < 2 * f ∨ 2 * f + 2 ≤ j) → (630 ≤ b ∧ b ≤ 637) → M b j = T b j
noncomputable def H6 (M : jm) (f : Int) (g : Int → Int) (y : Int) : Prop := M 640 f = -1 ∧ M 629 f = g y ∧ M 638 f = g (y + 1) % 16 ∧ M 628 f = g (y + 1) / 16 % 2
/-- a row that is being taken, sides below s -/
noncomputable def RP6 (T M : jm) (f : Int) (g : Int → Int) (y s : Int) : Prop := H6 M f g y ∧ (∀ j : Int, 0 ≤ j → j < s → S6 M f g y j) ∧ (M 636 (2 * f) = 0 ∧ M 636 (2 * f + 1) = 0 ∧ M 637 (2 * f) = 0 ∧ M 637 (2 * f + 1) = 0) ∧ O6 T M f
/-- a flow of the reference as its row tells it -/
noncomputable def RR6 (M : jm) (f : Int) (g : Int → Int) (y Z : Int) : Prop := H6 M f g y ∧ (∀ j : Int, 0 ≤ j → j < 2 → S6 M f g y j) ∧ (M 639 f = Z + nbs g (y + 34) 4 ∧ M 636 (2 * f) = nbs g (y + 38) 4 ∧ M 636 (2 * f + 1) = 0 ∧ M 637 (2 * f) = nbs g (y + 42) 4 ∧ M 637 (2 * f + 1) = 0)
theorem O6.u1 {T M : jm} {f v : Int} {a : Nat} (h : O6 T M f) (ha : a < 630 ∨ 637 < a) : O6 T (ju M a f v) f := by
  refine ⟨fun b j hj hb => ?_, fun b j hj hb => ?_⟩
  · rw [ju_i _ _ hj]; exact h.1 b j hj hb
  · rw [ju_c _ _ (by omega)]; exact h.2 b j hj hb
theorem O6.u2 {T M : jm} {f i v : Int} {a : Nat} (h : O6 T M f) (ha : 630 ≤ a ∧ a ≤ 637) (hi : 2 * f ≤ i ∧ i < 2 * f + 2) : O6 T (ju M a i v) f := by
  refine ⟨fun b j hj hb => ?_, fun b j hj hb => ?_⟩
  · rw [ju_c _ _ (by omega)]; exact h.1 b j hj hb
  · rw [ju_i _ _ (by omega)]; exact h.2 b j hj hb
theorem RP6.z {T H : jm} {f y a b c : Int} {g : Int → Int} (h : FG6 T H f (2 * f + 2)) (fr : ∀ (a : Nat) (i : Int), a ≠ 632 → a ≠ 633 → a ≠ 634 → a ≠ 635 → a ≠ 636 → a ≠ 637 → H a i = T a i) (ha : a = g y) (hb : b = g (y + 1) % 16) (hc : c = g (y + 1) / 16 % 2) : RP6 T (ju (ju (ju (ju H 640 f (-1)) 629 f a) 638 f b) 628 f c) f g y 0 := by
  have o : O6 T H f := ⟨fun b j hj hb => fr b j (by omega) (by omega) (by omega) (by omega) (by omega) (by omega), fun b j hj hb => h.2 b j hj⟩
  have z0 := h.1 (2 * f) (by omega) (by omega)
  have z1 := h.1 (2 * f + 1) (by omega) (by omega)
  refine ⟨⟨?_, ?_, ?_, ?_⟩, fun j j0 j1 => absurd j1 (by omega), ⟨?_, ?_, ?_, ?_⟩, (((o.u1 (by omega)).u1 (by omega)).u1 (by omega)).u1 (by omega)⟩
  · rw [ju_c _ _ (by decide), ju_c _ _ (by decide), ju_c _ _ (by decide), ju_same]
  · rw [ju_c _ _ (by decide), ju_c _ _ (by decide), ju_same, ha]
  · rw [ju_c _ _ (by decide), ju_same, hb]
  · rw [ju_same, hc]
  · rw [ju_c _ _ (by decide), ju_c _ _ (by decide), ju_c _ _ (by decide), ju_c _ _ (by decide)]; exact z0.2.2.2.2.1
  · rw [ju_c _ _ (by decide), ju_c _ _ (by decide), ju_c _ _ (by decide), ju_c _ _ (by decide)]; exact z1.2.2.2.2.1
  · rw [ju_c _ _ (by decide), ju_c _ _ (by decide), ju_c _ _ (by decide), ju_c _ _ (by decide)]; exact z0.2.2.2.2.2
  · rw [ju_c _ _ (by decide), ju_c _ _ (by decide), ju_c _ _ (by decide), ju_c _ _ (by decide)]; exact z1.2.2.2.2.2
theorem RP6.s {T M : jm} {f y s a b c d e l : Int} {g : Int → Int} (h : RP6 T M f g y s) (hs : 0 ≤ s ∧ s ≤ 1) (ha : a = tHl g y s) (hb : b = (if s = 0 then 1 else g (y + 1) / 128 % 2)) (hc : c = tPt g y s) (hd : d = tWn g y s) (he : e = tAd g y s) (hl : l = j_w (nbs g (y + 26 + 4 * s) 4)) : RP6 T (ju (ju (ju (ju (ju (ju M 632 (2 * f + s) a) 634 (2 * f + s) b) 631 (2 * f + s) c) 635 (2 * f + s) d) 630 (2 * f + s) e) 633 (2 * f + s) l) f g y (s + 1) := by
  obtain ⟨h1, h2, h3, h4⟩ := h
  refine ⟨?_, fun j j0 j1 => ?_, ?_, (((((h4.u2 (by decide) (by omega)).u2 (by decide) (by omega)).u2 (by decide) (by omega)).u2 (by decide) (by omega)).u2 (by decide) (by omega)).u2 (by decide) (by omega)⟩
  · unfold H6 at h1 ⊢
    simp only [ju, show (640 : Nat) ≠ 632 from by decide, show (640 : Nat) ≠ 634 from by decide, show (640 : Nat) ≠ 631 from by decide, show (640 : Nat) ≠ 635 from by decide, show (640 : Nat) ≠ 630 from by decide, show (640 : Nat) ≠ 633 from by decide, show (629 : Nat) ≠ 632 from by decide, show (629 : Nat) ≠ 634 from by decide, show (629 : Nat) ≠ 631 from by decide, show (629 : Nat) ≠ 635 from by decide, show (629 : Nat) ≠ 630 from by decide, show (629 : Nat) ≠ 633 from by decide, show (638 : Nat) ≠ 632 from by decide, show (638 : Nat) ≠ 634 from by decide, show (638 : Nat) ≠ 631 from by decide, show (638 : Nat) ≠ 635 from by decide, show (638 : Nat) ≠ 630 from by decide, show (638 : Nat) ≠ 633 from by decide, show (628 : Nat) ≠ 632 from by decide, show (628 : Nat) ≠ 634 from by decide, show (628 : Nat) ≠ 631 from by decide, show (628 : Nat) ≠ 635 from by decide, show (628 : Nat) ≠ 630 from by decide, show (628 : Nat) ≠ 633 from by decide, false_and, if_false]
    exact h1
  · by_cases q : j = s
    · subst q
      refine ⟨?_, ?_, ?_, ?_, ?_, ?_⟩
      · rw [ju_c _ _ (by decide), ju_c _ _ (by decide), ju_c _ _ (by decide), ju_c _ _ (by decide), ju_c _ _ (by decide), ju_same]; exact ha
      · rw [ju_c _ _ (by decide), ju_c _ _ (by decide), ju_c _ _ (by decide), ju_c _ _ (by decide), ju_same]; exact hb
      · rw [ju_c _ _ (by decide), ju_c _ _ (by decide), ju_c _ _ (by decide), ju_same]; exact hc
      · rw [ju_c _ _ (by decide), ju_c _ _ (by decide), ju_same]; exact hd
      · rw [ju_c _ _ (by decide), ju_same]; exact he
      · rw [ju_same]; exact hl
    · have z := h2 j j0 (by omega)
      unfold S6 at z ⊢
      simp only [ju_i _ _ (show 2 * f + j ≠ 2 * f + s by omega)]
      exact z
  · refine ⟨?_, ?_, ?_, ?_⟩ <;> (rw [ju_c _ _ (by decide), ju_c _ _ (by decide), ju_c _ _ (by decide), ju_c _ _ (by decide), ju_c _ _ (by decide), ju_c _ _ (by decide)])
    · exact h3.1
    · exact h3.2.1
    · exact h3.2.2.1
    · exact h3.2.2.2
theorem RP6.e {T M : jm} {f y Z u a b : Int} {g : Int → Int} (h : RP6 T M f g y 2) (hu : u = Z + nbs g (y + 34) 4) (ha : a = nbs g (y + 38) 4) (hb : b = nbs g (y + 42) 4) : RR6 (ju (ju (ju M 639 f u) 636 (2 * f) a) 637 (2 * f) b) f g y Z ∧ O6 T (ju (ju (ju M 639 f u) 636 (2 * f) a) 637 (2 * f) b) f := by
  obtain ⟨h1, h2, h3, h4⟩ := h
  refine ⟨⟨?_, fun j j0 j1 => ?_, ?_, ?_, ?_, ?_, ?_⟩, ((h4.u1 (by decide)).u2 (by decide) (by omega)).u2 (by decide) (by omega)⟩
  · unfold H6 at h1 ⊢
    rw [ju_c _ _ (by decide), ju_c _ _ (by decide), ju_c _ _ (by decide), ju_c _ _ (by decide), ju_c _ _ (by decide), ju_c _ _ (by decide), ju_c _ _ (by decide), ju_c _ _ (by decide), ju_c _ _ (by decide), ju_c _ _ (by decide), ju_c _ _ (by decide), ju_c _ _ (by decide)]
    exact h1
  · have z := h2 j j0 j1
    unfold S6 at z ⊢
    simp only [ju, show (632 : Nat) ≠ 637 from by decide, show (632 : Nat) ≠ 636 from by decide, show (632 : Nat) ≠ 639 from by decide, show (634 : Nat) ≠ 637 from by decide, show (634 : Nat) ≠ 636 from by decide, show (634 : Nat) ≠ 639 from by decide, show (631 : Nat) ≠ 637 from by decide, show (631 : Nat) ≠ 636 from by decide, show (631 : Nat) ≠ 639 from by decide, show (635 : Nat) ≠ 637 from by decide, show (635 : Nat) ≠ 636 from by decide, show (635 : Nat) ≠ 639 from by decide, show (630 : Nat) ≠ 637 from by decide, show (630 : Nat) ≠ 636 from by decide, show (630 : Nat) ≠ 639 from by decide, show (633 : Nat) ≠ 637 from by decide, show (633 : Nat) ≠ 636 from by decide, show (633 : Nat) ≠ 639 from by decide, false_and, if_false]
    exact z
  · rw [ju_c _ _ (by decide), ju_c _ _ (by decide), ju_same]; exact hu
  · rw [ju_c _ _ (by decide), ju_same]; exact ha
  · rw [ju_c _ _ (by decide), ju_i _ _ (by omega), ju_c _ _ (by decide)]; exact h3.2.1
  · rw [ju_same]; exact hb
  · rw [ju_i _ _ (by omega), ju_c _ _ (by decide), ju_c _ _ (by decide)]; exact h3.2.2.2
theorem r_takeRow_L73_x {A : Nat → Option (Nat × (Nat → Int32))} {Q : Option Value → jm → Prop} {M0 : jm} {f0 : Int} (q : ∀ (M' : jm), RI M' → RH M' → RF M' → (RR6 M' f0 (M0 599) (48 * f0) (M0 598 2) ∧ O6 M0 M' f0) → (∀ (a : Nat) (i : Int), a ≠ 628 → a ≠ 629 → a ≠ 630 → a ≠ 631 → a ≠ 632 → a ≠ 633 → a ≠ 634 → a ≠ 635 → a ≠ 636 → a ≠ 637 → a ≠ 638 → a ≠ 639 → a ≠ 640 → M' a i = M0 a i) → Q none M') : ∀ (nM : Nat) (M : jm) (s : Int) (f : Int), RI M → RH M → RF M → (∀ (a : Nat) (i : Int), a ≠ 628 → a ≠ 629 → a ≠ 630 → a ≠ 631 → a ≠ 632 → a ≠ 633 → a ≠ 634 → a ≠ 635 → a ≠ 636 → a ≠ 637 → a ≠ 638 → a ≠ 639 → a ≠ 640 → M a i = M0 a i) → 0 ≤ s ∧ s ≤ 2 → 0 ≤ f ∧ f ≤ 23 → RP6 M0 M f (M0 599) (48 * f) s → (1 ≤ nbs (M0 599) (48 * f + 34) 4 ∧ nbs (M0 599) (48 * f + 34) 4 ≤ 200) → f = f0 → 2 - s ≤ nM → jr A 3 xm_333 73 [(3, .int (Int32.ofInt (s))), (1, .int (Int32.ofInt (f))), (2, .int (Int32.ofInt (48 * f))), (0, .ref (598))] [] M Q := by
  intro nM
  induction nM using Nat.strongRecOn with
  | ind nM ih =>
    intro M s f hI_M hH_M hS_M hF_M h_s h_f hy0 hy1 hy2 hm
    subst hy2
    refine jr.iload_n rfl rfl ?_
    refine jr.iconst rfl ?_
    refine jr.icmp_ge rfl rfl (by first | (refine rgb (by assumption) ?_; exact rfl) | omega) (rgl rfl) (fun h75 => ?_) (fun h75 => ?_)
    · refine jr.aload_n rfl rfl ?_
      refine jr.getf (i := 51) (v := .ref 639) rfl rfl (nlt rfl) rfl (nlt rfl) rfl rfl rfl rfl ?_
      refine jr.iload_n rfl rfl ?_
      refine jr.aload_n rfl rfl ?_
      obtain ⟨v1, e1⟩ : ∃ z, M 598 2 = z := ⟨_, rfl⟩
      have b1 : 0 ≤ v1 ∧ v1 ≤ 2000000 := by rw [← e1]; exact hI_M 598 2 (Nat.le_of_ble_eq_true rfl)
      refine jr.getf (i := 2) (x := v1) (v := .int (Int32.ofInt (v1))) rfl rfl (nlt rfl) rfl (nlt rfl) rfl rfl e1 rfl ?_
      refine jr.aload_n rfl rfl ?_
      refine jr.iload_n rfl rfl ?_
      refine jr.bipush rfl (jbp _ (nlt rfl)) ?_
      refine jr.iadd rfl ?_
      refine jr_v rfl rfl (Or.inl rfl) rfl rfl (nlt rfl) rfl ⟨rfl, Nat.le_of_ble_eq_true rfl, Nat.le_of_ble_eq_true rfl⟩ rfl (jc.deep (r_takenFour_x hI_M hH_M hS_M  (by omega)  (fun r2 z2 w2_0 => ?_)) (Nat.le_of_ble_eq_true rfl))
      have hlv2 : 1 ≤ r2 ∧ r2 ≤ 200 := (by have h9 := w2_0; have h8 := hy1; rw [show (M 599 : Int → Int) = M0 599 from funext (fun i => hF_M 599 i (nne rfl) (nne rfl) (nne rfl) (nne rfl) (nne rfl) (nne rfl) (nne rfl) (nne rfl) (nne rfl) (nne rfl) (nne rfl) (nne rfl) (nne rfl))] at h9; rw [← h9] at h8; exact h8)
      refine jr.l2i rfl ?_
      refine jr.iadd rfl ?_
      refine jr.iast (i := f) (x := (v1 + r2)) rfl (nlt rfl) rfl (Nat.le_of_ble_eq_true rfl) (by omega) (by omega) ?_
      refine jr.aload_n rfl rfl ?_
      refine jr.getf (i := 48) (v := .ref 636) rfl rfl (nlt rfl) rfl (nlt rfl) rfl rfl rfl rfl ?_
      refine jr.iconst rfl ?_
      refine jr.iload_n rfl rfl ?_
      refine jr.imul rfl ?_
      refine jr.aload_n rfl rfl ?_
      refine jr.iload_n rfl rfl ?_
      refine jr.bipush rfl (jbp _ (nlt rfl)) ?_
      refine jr.iadd rfl ?_
      refine jr_v rfl rfl (Or.inl rfl) rfl rfl (nlt rfl) rfl ⟨rfl, Nat.le_of_ble_eq_true rfl, Nat.le_of_ble_eq_true rfl⟩ rfl (jc.deep (r_takenFour_x (RI.u hI_M (a := 639) (i := f) (by rw [xri_row rfl rfl]; show (-2147483648 : Int) ≤ _ ∧ _ ≤ (2147483647 : Int); omega)) (RH.o hH_M (by decide) (by decide) (by decide)) (RF.o hS_M (by decide) (by decide))  (by omega)  (fun r3 z3 w3_0 => ?_)) (Nat.le_of_ble_eq_true rfl))
      refine jr.last (i := (2 * f)) (x := r3) rfl (nlt rfl) rfl (Nat.le_of_ble_eq_true rfl) (by omega) (by omega) ?_
      refine jr.aload_n rfl rfl ?_
      refine jr.getf (i := 49) (v := .ref 637) rfl rfl (nlt rfl) rfl (nlt rfl) rfl rfl rfl rfl ?_
      refine jr.iconst rfl ?_
      refine jr.iload_n rfl rfl ?_
      refine jr.imul rfl ?_
      refine jr.aload_n rfl rfl ?_
      refine jr.iload_n rfl rfl ?_
      refine jr.bipush rfl (jbp _ (nlt rfl)) ?_
      refine jr.iadd rfl ?_
      refine jr_v rfl rfl (Or.inl rfl) rfl rfl (nlt rfl) rfl ⟨rfl, Nat.le_of_ble_eq_true rfl, Nat.le_of_ble_eq_true rfl⟩ rfl (jc.deep (r_takenFour_x (RI.u (RI.u hI_M (a := 639) (i := f) (by rw [xri_row rfl rfl]; show (-2147483648 : Int) ≤ _ ∧ _ ≤ (2147483647 : Int); omega)) (a := 636) (i := (2 * f)) (by rw [xri_row rfl rfl]; show (-9223372036854775808 : Int) ≤ _ ∧ _ ≤ (9223372036854775807 : Int); omega)) (RH.o (RH.o hH_M (by decide) (by decide) (by decide)) (by decide) (by decide) (by decide)) (RF.o (RF.o hS_M (by decide) (by decide)) (by decide) (by decide))  (by omega)  (fun r4 z4 w4_0 => ?_)) (Nat.le_of_ble_eq_true rfl))
      refine jr.last (i := (2 * f)) (x := r4) rfl (nlt rfl) rfl (Nat.le_of_ble_eq_true rfl) (by omega) (by omega) ?_
      exact jr.vreturn rfl rfl (q _ (RI.u (RI.u (RI.u hI_M (a := 639) (i := f) (by rw [xri_row rfl rfl]; show (-2147483648 : Int) ≤ _ ∧ _ ≤ (2147483647 : Int); omega)) (a := 636) (i := (2 * f)) (by rw [xri_row rfl rfl]; show (-9223372036854775808 : Int) ≤ _ ∧ _ ≤ (9223372036854775807 : Int); omega)) (a := 637) (i := (2 * f)) (by rw [xri_row rfl rfl]; show (-9223372036854775808 : Int) ≤ _ ∧ _ ≤ (9223372036854775807 : Int); omega)) (RH.o (RH.o (RH.o hH_M (by decide) (by decide) (by decide)) (by decide) (by decide) (by decide)) (by decide) (by decide) (by decide)) (RF.o (RF.o (RF.o hS_M (by decide) (by decide)) (by decide) (by decide)) (by decide) (by decide))  (RP6.e (by have h9 := hy0; rw [show s = 2 from by omega] at h9; exact h9) (by rw [← hF_M 598 2 (by decide) (by decide) (by decide) (by decide) (by decide) (by decide) (by decide) (by decide) (by decide) (by decide) (by decide) (by decide) (by decide), e1]; have h9 := w2_0; rw [(show M 599 = M0 599 from funext (fun i => (rfl).trans (hF_M 599 i (nne rfl) (nne rfl) (nne rfl) (nne rfl) (nne rfl) (nne rfl) (nne rfl) (nne rfl) (nne rfl) (nne rfl) (nne rfl) (nne rfl) (nne rfl))))] at h9; omega) (by have h9 := w3_0; rw [(show (ju M 639 f (v1 + r2)) 599 = M0 599 from funext (fun i => (((ju_c _ _ (by decide)).trans rfl)).trans (hF_M 599 i (nne rfl) (nne rfl) (nne rfl) (nne rfl) (nne rfl) (nne rfl) (nne rfl) (nne rfl) (nne rfl) (nne rfl) (nne rfl) (nne rfl) (nne rfl))))] at h9; exact h9) (by have h9 := w4_0; rw [(show (ju (ju M 639 f (v1 + r2)) 636 (2 * f) r3) 599 = M0 599 from funext (fun i => (((ju_c _ _ (by decide)).trans ((ju_c _ _ (by decide)).trans rfl))).trans (hF_M 599 i (nne rfl) (nne rfl) (nne rfl) (nne rfl) (nne rfl) (nne rfl) (nne rfl) (nne rfl) (nne rfl) (nne rfl) (nne rfl) (nne rfl) (nne rfl))))] at h9; exact h9)) (fun a i f628 f629 f630 f631 f632 f633 f634 f635 f636 f637 f638 f639 f640 => ((ju_c _ _ f637).trans ((ju_c _ _ f636).trans ((ju_c _ _ f639).trans (hF_M a i f628 f629 f630 f631 f632 f633 f634 f635 f636 f637 f638 f639 f640))))))
    · refine jr.aload_n rfl rfl ?_
      refine jr.getf (i := 44) (v := .ref 632) rfl rfl (nlt rfl) rfl (nlt rfl) rfl rfl rfl rfl ?_
      refine jr.iconst rfl ?_
      refine jr.iload_n rfl rfl ?_
      refine jr.imul rfl ?_
      refine jr.iload_n rfl rfl ?_
      refine jr.iadd rfl ?_
      refine jr.aload_n rfl rfl ?_
      refine jr.getf (i := 0) (v := .ref 599) rfl rfl (nlt rfl) rfl (nlt rfl) rfl rfl rfl rfl ?_
      refine jr.iload_n rfl rfl ?_
      refine jr.iconst rfl ?_
      refine jr.iadd rfl ?_
      obtain ⟨v5, e5⟩ : ∃ z, M 599 ((48 * f) + 1) = z := ⟨_, rfl⟩
      have b5 : 0 ≤ v5 ∧ v5 ≤ 255 := by rw [← e5]; exact (by have q := hI_M 599 ((48 * f) + 1) (by decide); rw [xri_row rfl rfl] at q; exact q)
      refine jr.iald (i := ((48 * f) + 1)) (x := v5) rfl (nlt rfl) rfl (Nat.le_of_ble_eq_true rfl) (by omega) (by omega) e5 ?_
      refine jr.iload_n rfl rfl ?_
      refine jr.if_ne rfl rfl (by first | (refine rgb (by assumption) ?_; exact rfl) | omega) (fun h96 => ?_) (fun h96 => ?_)
      · have sx96 : (1 : Int) ≤ s := by omega
        clear h96
        refine jr.bipush rfl (jbp _ (nlt rfl)) ?_
        refine jr.iand rfl ?_
        have b6 : j_and v5 64 = v5 / 64 % 2 * 64 ∧ 0 ≤ j_and v5 64 ∧ j_and v5 64 ≤ 64 := ⟨(jbx (by omega)).2.1, by rw [(jbx (by omega)).2.1]; omega⟩
        generalize j_and v5 64 = v6 at b6 ⊢
        refine jr.if_eq rfl rfl (by first | (refine rgb (by assumption) ?_; exact rfl) | omega) (fun h107 => ?_) (fun h107 => ?_)
        · refine jr.iconst rfl ?_
          refine jr.zast (i := ((2 * f) + s)) (x := 0) rfl (nlt rfl) rfl (Nat.le_of_ble_eq_true rfl) (by omega) (by omega) (j_zn (by omega)) ?_
          refine jr.aload_n rfl rfl ?_
          refine jr.getf (i := 46) (v := .ref 634) rfl rfl (nlt rfl) rfl (nlt rfl) rfl rfl rfl rfl ?_
          refine jr.iconst rfl ?_
          refine jr.iload_n rfl rfl ?_
          refine jr.imul rfl ?_
          refine jr.iload_n rfl rfl ?_
          refine jr.iadd rfl ?_
          refine jr.iload_n rfl rfl ?_
          refine jr.if_eq rfl rfl (by first | (refine rgb (by assumption) ?_; exact rfl) | omega) (fun h126 => ?_) (fun h126 => ?_)
          · exact absurd h126 (by omega)
          · refine jr.aload_n rfl rfl ?_
            refine jr.getf (i := 0) (v := .ref 599) rfl rfl (nlt rfl) rfl (nlt rfl) rfl rfl rfl rfl ?_
            refine jr.iload_n rfl rfl ?_
            refine jr.iconst rfl ?_
            refine jr.iadd rfl ?_
            refine jr.iald (i := ((48 * f) + 1)) (x := v5) rfl (nlt rfl) rfl (Nat.le_of_ble_eq_true rfl) (by omega) (by omega) ((ju_c _ _ (by decide)).trans e5) ?_
            refine jr.sipush rfl (by decide) ?_
            refine jr.iand rfl ?_
            have b7 : j_and v5 128 = v5 / 128 % 2 * 128 ∧ 0 ≤ j_and v5 128 ∧ j_and v5 128 ≤ 128 := ⟨(jbx (by omega)).2.2, by rw [(jbx (by omega)).2.2]; omega⟩
            generalize j_and v5 128 = v7 at b7 ⊢
            refine jr.if_eq rfl rfl (by first | (refine rgb (by assumption) ?_; exact rfl) | omega) (fun h141 => ?_) (fun h141 => ?_)
            · refine jr.iconst rfl ?_
              refine jr.zast (i := ((2 * f) + s)) (x := 0) rfl (nlt rfl) rfl (Nat.le_of_ble_eq_true rfl) (by omega) (by omega) (j_zn (by omega)) ?_
              refine jr.aload_n rfl rfl ?_
              refine jr.getf (i := 43) (v := .ref 631) rfl rfl (nlt rfl) rfl (nlt rfl) rfl rfl rfl rfl ?_
              refine jr.iconst rfl ?_
              refine jr.iload_n rfl rfl ?_
              refine jr.imul rfl ?_
              refine jr.iload_n rfl rfl ?_
              refine jr.iadd rfl ?_
              refine jr.aload_n rfl rfl ?_
              refine jr.iload_n rfl rfl ?_
              refine jr.iconst rfl ?_
              refine jr.iadd rfl ?_
              refine jr.iconst rfl ?_
              refine jr.iload_n rfl rfl ?_
              refine jr.imul rfl ?_
              refine jr.iadd rfl ?_
              refine jr_v rfl rfl (Or.inl rfl) rfl rfl (nlt rfl) rfl ⟨rfl, Nat.le_of_ble_eq_true rfl, Nat.le_of_ble_eq_true rfl⟩ rfl (jc.deep (r_takenTwo_x (RI.u (RI.u hI_M (a := 632) (i := ((2 * f) + s)) (by rw [xri_row rfl rfl]; show (0 : Int) ≤ _ ∧ _ ≤ (1 : Int); omega)) (a := 634) (i := ((2 * f) + s)) (by rw [xri_row rfl rfl]; show (0 : Int) ≤ _ ∧ _ ≤ (1 : Int); omega)) (RH.o (RH.o hH_M (by decide) (by decide) (by decide)) (by decide) (by decide) (by decide)) (RF.o (RF.o hS_M (by decide) (by decide)) (by decide) (by decide))  (by omega)  (fun r8 z8 w8_0 => ?_)) (Nat.le_of_ble_eq_true rfl))
              refine jr.iast (i := ((2 * f) + s)) (x := r8) rfl (nlt rfl) rfl (Nat.le_of_ble_eq_true rfl) (by omega) (by omega) ?_
              refine jr.aload_n rfl rfl ?_
              refine jr.getf (i := 47) (v := .ref 635) rfl rfl (nlt rfl) rfl (nlt rfl) rfl rfl rfl rfl ?_
              refine jr.iconst rfl ?_
              refine jr.iload_n rfl rfl ?_
              refine jr.imul rfl ?_
              refine jr.iload_n rfl rfl ?_
              refine jr.iadd rfl ?_
              refine jr.aload_n rfl rfl ?_
              refine jr.iload_n rfl rfl ?_
              refine jr.bipush rfl (jbp _ (nlt rfl)) ?_
              refine jr.iadd rfl ?_
              refine jr.iconst rfl ?_
              refine jr.iload_n rfl rfl ?_
              refine jr.imul rfl ?_
              refine jr.iadd rfl ?_
              refine jr_v rfl rfl (Or.inl rfl) rfl rfl (nlt rfl) rfl ⟨rfl, Nat.le_of_ble_eq_true rfl, Nat.le_of_ble_eq_true rfl⟩ rfl (jc.deep (r_takenTwo_x (RI.u (RI.u (RI.u hI_M (a := 632) (i := ((2 * f) + s)) (by rw [xri_row rfl rfl]; show (0 : Int) ≤ _ ∧ _ ≤ (1 : Int); omega)) (a := 634) (i := ((2 * f) + s)) (by rw [xri_row rfl rfl]; show (0 : Int) ≤ _ ∧ _ ≤ (1 : Int); omega)) (a := 631) (i := ((2 * f) + s)) (by rw [xri_row rfl rfl]; show (0 : Int) ≤ _ ∧ _ ≤ (65535 : Int); omega)) (RH.o (RH.o (RH.o hH_M (by decide) (by decide) (by decide)) (by decide) (by decide) (by decide)) (by decide) (by decide) (by decide)) (RF.o (RF.o (RF.o hS_M (by decide) (by decide)) (by decide) (by decide)) (by decide) (by decide))  (by omega)  (fun r9 z9 w9_0 => ?_)) (Nat.le_of_ble_eq_true rfl))
              refine jr.iast (i := ((2 * f) + s)) (x := r9) rfl (nlt rfl) rfl (Nat.le_of_ble_eq_true rfl) (by omega) (by omega) ?_
              refine jr.aload_n rfl rfl ?_
              refine jr.getf (i := 42) (v := .ref 630) rfl rfl (nlt rfl) rfl (nlt rfl) rfl rfl rfl rfl ?_
              refine jr.iconst rfl ?_
              refine jr.iload_n rfl rfl ?_
              refine jr.imul rfl ?_
              refine jr.iload_n rfl rfl ?_
              refine jr.iadd rfl ?_
              refine jr.aload_n rfl rfl ?_
              refine jr.iload_n rfl rfl ?_
              refine jr.bipush rfl (jbp _ (nlt rfl)) ?_
              refine jr.iadd rfl ?_
              refine jr.bipush rfl (jbp _ (nlt rfl)) ?_
              refine jr.iload_n rfl rfl ?_
              refine jr.imul rfl ?_
              refine jr.iadd rfl ?_
              refine jr_v rfl rfl (Or.inl rfl) rfl rfl (nlt rfl) rfl ⟨rfl, Nat.le_of_ble_eq_true rfl, Nat.le_of_ble_eq_true rfl⟩ rfl (jc.deep (r_takenEight_x (RI.u (RI.u (RI.u (RI.u hI_M (a := 632) (i := ((2 * f) + s)) (by rw [xri_row rfl rfl]; show (0 : Int) ≤ _ ∧ _ ≤ (1 : Int); omega)) (a := 634) (i := ((2 * f) + s)) (by rw [xri_row rfl rfl]; show (0 : Int) ≤ _ ∧ _ ≤ (1 : Int); omega)) (a := 631) (i := ((2 * f) + s)) (by rw [xri_row rfl rfl]; show (0 : Int) ≤ _ ∧ _ ≤ (65535 : Int); omega)) (a := 635) (i := ((2 * f) + s)) (by rw [xri_row rfl rfl]; show (0 : Int) ≤ _ ∧ _ ≤ (65535 : Int); omega)) (RH.o (RH.o (RH.o (RH.o hH_M (by decide) (by decide) (by decide)) (by decide) (by decide) (by decide)) (by decide) (by decide) (by decide)) (by decide) (by decide) (by decide)) (RF.o (RF.o (RF.o (RF.o hS_M (by decide) (by decide)) (by decide) (by decide)) (by decide) (by decide)) (by decide) (by decide))  (by omega)  (fun r10 z10 w10_0 => ?_)) (Nat.le_of_ble_eq_true rfl))
              refine jr.last (i := ((2 * f) + s)) (x := r10) rfl (nlt rfl) rfl (Nat.le_of_ble_eq_true rfl) (by omega) (by omega) ?_
              refine jr.aload_n rfl rfl ?_
              refine jr.getf (i := 45) (v := .ref 633) rfl rfl (nlt rfl) rfl (nlt rfl) rfl rfl rfl rfl ?_
              refine jr.iconst rfl ?_
              refine jr.iload_n rfl rfl ?_
              refine jr.imul rfl ?_
              refine jr.iload_n rfl rfl ?_
              refine jr.iadd rfl ?_
              refine jr.aload_n rfl rfl ?_
              refine jr.iload_n rfl rfl ?_
              refine jr.bipush rfl (jbp _ (nlt rfl)) ?_
              refine jr.iadd rfl ?_
              refine jr.iconst rfl ?_
              refine jr.iload_n rfl rfl ?_
              refine jr.imul rfl ?_
              refine jr.iadd rfl ?_
              refine jr_v rfl rfl (Or.inl rfl) rfl rfl (nlt rfl) rfl ⟨rfl, Nat.le_of_ble_eq_true rfl, Nat.le_of_ble_eq_true rfl⟩ rfl (jc.deep (r_takenFour_x (RI.u (RI.u (RI.u (RI.u (RI.u hI_M (a := 632) (i := ((2 * f) + s)) (by rw [xri_row rfl rfl]; show (0 : Int) ≤ _ ∧ _ ≤ (1 : Int); omega)) (a := 634) (i := ((2 * f) + s)) (by rw [xri_row rfl rfl]; show (0 : Int) ≤ _ ∧ _ ≤ (1 : Int); omega)) (a := 631) (i := ((2 * f) + s)) (by rw [xri_row rfl rfl]; show (0 : Int) ≤ _ ∧ _ ≤ (65535 : Int); omega)) (a := 635) (i := ((2 * f) + s)) (by rw [xri_row rfl rfl]; show (0 : Int) ≤ _ ∧ _ ≤ (65535 : Int); omega)) (a := 630) (i := ((2 * f) + s)) (by rw [xri_row rfl rfl]; show (-9223372036854775808 : Int) ≤ _ ∧ _ ≤ (9223372036854775807 : Int); omega)) (RH.o (RH.o (RH.o (RH.o (RH.o hH_M (by decide) (by decide) (by decide)) (by decide) (by decide) (by decide)) (by decide) (by decide) (by decide)) (by decide) (by decide) (by decide)) (by decide) (by decide) (by decide)) (RF.o (RF.o (RF.o (RF.o (RF.o hS_M (by decide) (by decide)) (by decide) (by decide)) (by decide) (by decide)) (by decide) (by decide)) (by decide) (by decide))  (by omega)  (fun r11 z11 w11_0 => ?_)) (Nat.le_of_ble_eq_true rfl))
              refine jr.l2i rfl ?_
              refine jr.iw (j_w r11) (j_w_eq _) ?_
              have b12 : -2147483648 ≤ j_w r11 ∧ j_w r11 ≤ 2147483647 := jb_any _
              refine jr.iast (i := ((2 * f) + s)) (x := (j_w r11)) rfl (nlt rfl) rfl (Nat.le_of_ble_eq_true rfl) (by omega) (by omega) ?_
              refine jr.iinc (ls' := [_, _, _, _]) rfl rfl (nlt rfl) rfl ?_
              refine jr.goto rfl rfl ?_
              refine jr.pick (ls := [_, _, _, _]) [0, 1, 2, 3] rfl rfl ?_
              exact ih (nM - 1) (by omega) (ju (ju (ju (ju (ju (ju M 632 ((2 * f) + s) 0) 634 ((2 * f) + s) 0) 631 ((2 * f) + s) r8) 635 ((2 * f) + s) r9) 630 ((2 * f) + s) r10) 633 ((2 * f) + s) (j_w r11)) (s + 1) f (RI.u (RI.u (RI.u (RI.u (RI.u (RI.u hI_M (a := 632) (i := ((2 * f) + s)) (by rw [xri_row rfl rfl]; show (0 : Int) ≤ _ ∧ _ ≤ (1 : Int); omega)) (a := 634) (i := ((2 * f) + s)) (by rw [xri_row rfl rfl]; show (0 : Int) ≤ _ ∧ _ ≤ (1 : Int); omega)) (a := 631) (i := ((2 * f) + s)) (by rw [xri_row rfl rfl]; show (0 : Int) ≤ _ ∧ _ ≤ (65535 : Int); omega)) (a := 635) (i := ((2 * f) + s)) (by rw [xri_row rfl rfl]; show (0 : Int) ≤ _ ∧ _ ≤ (65535 : Int); omega)) (a := 630) (i := ((2 * f) + s)) (by rw [xri_row rfl rfl]; show (-9223372036854775808 : Int) ≤ _ ∧ _ ≤ (9223372036854775807 : Int); omega)) (a := 633) (i := ((2 * f) + s)) (by rw [xri_row rfl rfl]; show (-2147483648 : Int) ≤ _ ∧ _ ≤ (2147483647 : Int); omega)) (RH.o (RH.o (RH.o (RH.o (RH.o (RH.o hH_M (by decide) (by decide) (by decide)) (by decide) (by decide) (by decide)) (by decide) (by decide) (by decide)) (by decide) (by decide) (by decide)) (by decide) (by decide) (by decide)) (by decide) (by decide) (by decide)) (RF.o (RF.o (RF.o (RF.o (RF.o (RF.o hS_M (by decide) (by decide)) (by decide) (by decide)) (by decide) (by decide)) (by decide) (by decide)) (by decide) (by decide)) (by decide) (by decide))  (fun a i f628 f629 f630 f631 f632 f633 f634 f635 f636 f637 f638 f639 f640 => ((ju_c _ _ f633).trans ((ju_c _ _ f630).trans ((ju_c _ _ f635).trans ((ju_c _ _ f631).trans ((ju_c _ _ f634).trans ((ju_c _ _ f632).trans (hF_M a i f628 f629 f630 f631 f632 f633 f634 f635 f636 f637 f638 f639 f640)))))))) (by omega) (by omega) (RP6.s hy0 (by omega) (by unfold tHl; rw [(show M0 599 ((48 * f) + 1) = v5 from (hF_M 599 ((48 * f) + 1) (by decide) (by decide) (by decide) (by decide) (by decide) (by decide) (by decide) (by decide) (by decide) (by decide) (by decide) (by decide) (by decide)).symm.trans e5)]; first | (rw [if_pos (by omega)]; omega) | (rw [if_neg (by omega)]; omega)) (by rw [(show M0 599 ((48 * f) + 1) = v5 from (hF_M 599 ((48 * f) + 1) (by decide) (by decide) (by decide) (by decide) (by decide) (by decide) (by decide) (by decide) (by decide) (by decide) (by decide) (by decide) (by decide)).symm.trans e5)]; first | (rw [if_pos (by omega)]) | (rw [if_neg (by omega)]; omega)) (by unfold tPt; have h9 := w8_0; rw [(show (ju (ju M 632 ((2 * f) + s) 0) 634 ((2 * f) + s) 0) 599 = M0 599 from funext (fun i => (((ju_c _ _ (by decide)).trans ((ju_c _ _ (by decide)).trans rfl))).trans (hF_M 599 i (nne rfl) (nne rfl) (nne rfl) (nne rfl) (nne rfl) (nne rfl) (nne rfl) (nne rfl) (nne rfl) (nne rfl) (nne rfl) (nne rfl) (nne rfl))))] at h9; exact h9) (by unfold tWn; have h9 := w9_0; rw [(show (ju (ju (ju M 632 ((2 * f) + s) 0) 634 ((2 * f) + s) 0) 631 ((2 * f) + s) r8) 599 = M0 599 from funext (fun i => (((ju_c _ _ (by decide)).trans ((ju_c _ _ (by decide)).trans ((ju_c _ _ (by decide)).trans rfl)))).trans (hF_M 599 i (nne rfl) (nne rfl) (nne rfl) (nne rfl) (nne rfl) (nne rfl) (nne rfl) (nne rfl) (nne rfl) (nne rfl) (nne rfl) (nne rfl) (nne rfl))))] at h9; exact h9) (by unfold tAd; have h9 := w10_0; rw [(show (ju (ju (ju (ju M 632 ((2 * f) + s) 0) 634 ((2 * f) + s) 0) 631 ((2 * f) + s) r8) 635 ((2 * f) + s) r9) 599 = M0 599 from funext (fun i => (((ju_c _ _ (by decide)).trans ((ju_c _ _ (by decide)).trans ((ju_c _ _ (by decide)).trans ((ju_c _ _ (by decide)).trans rfl))))).trans (hF_M 599 i (nne rfl) (nne rfl) (nne rfl) (nne rfl) (nne rfl) (nne rfl) (nne rfl) (nne rfl) (nne rfl) (nne rfl) (nne rfl) (nne rfl) (nne rfl))))] at h9; exact h9) (by have h9 := w11_0; rw [(show (ju (ju (ju (ju (ju M 632 ((2 * f) + s) 0) 634 ((2 * f) + s) 0) 631 ((2 * f) + s) r8) 635 ((2 * f) + s) r9) 630 ((2 * f) + s) r10) 599 = M0 599 from funext (fun i => (((ju_c _ _ (by decide)).trans ((ju_c _ _ (by decide)).trans ((ju_c _ _ (by decide)).trans ((ju_c _ _ (by decide)).trans ((ju_c _ _ (by decide)).trans rfl)))))).trans (hF_M 599 i (nne rfl) (nne rfl) (nne rfl) (nne rfl) (nne rfl) (nne rfl) (nne rfl) (nne rfl) (nne rfl) (nne rfl) (nne rfl) (nne rfl) (nne rfl))))] at h9; rw [← h9])) hy1 (by omega) (by omega)
            · have sx141 : (1 : Int) ≤ v7 := by omega
              clear h141
              refine jr.iconst rfl ?_
              refine jr.goto rfl rfl ?_
              refine jr.zast (i := ((2 * f) + s)) (x := 1) rfl (nlt rfl) rfl (Nat.le_of_ble_eq_true rfl) (by omega) (by omega) (j_zn (by omega)) ?_
              refine jr.aload_n rfl rfl ?_
              refine jr.getf (i := 43) (v := .ref 631) rfl rfl (nlt rfl) rfl (nlt rfl) rfl rfl rfl rfl ?_
              refine jr.iconst rfl ?_
              refine jr.iload_n rfl rfl ?_
              refine jr.imul rfl ?_
              refine jr.iload_n rfl rfl ?_
              refine jr.iadd rfl ?_
              refine jr.aload_n rfl rfl ?_
              refine jr.iload_n rfl rfl ?_
              refine jr.iconst rfl ?_
              refine jr.iadd rfl ?_
              refine jr.iconst rfl ?_
              refine jr.iload_n rfl rfl ?_
              refine jr.imul rfl ?_
              refine jr.iadd rfl ?_
              refine jr_v rfl rfl (Or.inl rfl) rfl rfl (nlt rfl) rfl ⟨rfl, Nat.le_of_ble_eq_true rfl, Nat.le_of_ble_eq_true rfl⟩ rfl (jc.deep (r_takenTwo_x (RI.u (RI.u hI_M (a := 632) (i := ((2 * f) + s)) (by rw [xri_row rfl rfl]; show (0 : Int) ≤ _ ∧ _ ≤ (1 : Int); omega)) (a := 634) (i := ((2 * f) + s)) (by rw [xri_row rfl rfl]; show (0 : Int) ≤ _ ∧ _ ≤ (1 : Int); omega)) (RH.o (RH.o hH_M (by decide) (by decide) (by decide)) (by decide) (by decide) (by decide)) (RF.o (RF.o hS_M (by decide) (by decide)) (by decide) (by decide))  (by omega)  (fun r13 z13 w13_0 => ?_)) (Nat.le_of_ble_eq_true rfl))
              refine jr.iast (i := ((2 * f) + s)) (x := r13) rfl (nlt rfl) rfl (Nat.le_of_ble_eq_true rfl) (by omega) (by omega) ?_
              refine jr.aload_n rfl rfl ?_
              refine jr.getf (i := 47) (v := .ref 635) rfl rfl (nlt rfl) rfl (nlt rfl) rfl rfl rfl rfl ?_
              refine jr.iconst rfl ?_
              refine jr.iload_n rfl rfl ?_
              refine jr.imul rfl ?_
              refine jr.iload_n rfl rfl ?_
              refine jr.iadd rfl ?_
              refine jr.aload_n rfl rfl ?_
              refine jr.iload_n rfl rfl ?_
              refine jr.bipush rfl (jbp _ (nlt rfl)) ?_
              refine jr.iadd rfl ?_
              refine jr.iconst rfl ?_
              refine jr.iload_n rfl rfl ?_
              refine jr.imul rfl ?_
              refine jr.iadd rfl ?_
              refine jr_v rfl rfl (Or.inl rfl) rfl rfl (nlt rfl) rfl ⟨rfl, Nat.le_of_ble_eq_true rfl, Nat.le_of_ble_eq_true rfl⟩ rfl (jc.deep (r_takenTwo_x (RI.u (RI.u (RI.u hI_M (a := 632) (i := ((2 * f) + s)) (by rw [xri_row rfl rfl]; show (0 : Int) ≤ _ ∧ _ ≤ (1 : Int); omega)) (a := 634) (i := ((2 * f) + s)) (by rw [xri_row rfl rfl]; show (0 : Int) ≤ _ ∧ _ ≤ (1 : Int); omega)) (a := 631) (i := ((2 * f) + s)) (by rw [xri_row rfl rfl]; show (0 : Int) ≤ _ ∧ _ ≤ (65535 : Int); omega)) (RH.o (RH.o (RH.o hH_M (by decide) (by decide) (by decide)) (by decide) (by decide) (by decide)) (by decide) (by decide) (by decide)) (RF.o (RF.o (RF.o hS_M (by decide) (by decide)) (by decide) (by decide)) (by decide) (by decide))  (by omega)  (fun r14 z14 w14_0 => ?_)) (Nat.le_of_ble_eq_true rfl))
              refine jr.iast (i := ((2 * f) + s)) (x := r14) rfl (nlt rfl) rfl (Nat.le_of_ble_eq_true rfl) (by omega) (by omega) ?_
              refine jr.aload_n rfl rfl ?_
              refine jr.getf (i := 42) (v := .ref 630) rfl rfl (nlt rfl) rfl (nlt rfl) rfl rfl rfl rfl ?_
              refine jr.iconst rfl ?_
              refine jr.iload_n rfl rfl ?_
              refine jr.imul rfl ?_
              refine jr.iload_n rfl rfl ?_
              refine jr.iadd rfl ?_
              refine jr.aload_n rfl rfl ?_
              refine jr.iload_n rfl rfl ?_
              refine jr.bipush rfl (jbp _ (nlt rfl)) ?_
              refine jr.iadd rfl ?_
              refine jr.bipush rfl (jbp _ (nlt rfl)) ?_
              refine jr.iload_n rfl rfl ?_
              refine jr.imul rfl ?_
              refine jr.iadd rfl ?_
              refine jr_v rfl rfl (Or.inl rfl) rfl rfl (nlt rfl) rfl ⟨rfl, Nat.le_of_ble_eq_true rfl, Nat.le_of_ble_eq_true rfl⟩ rfl (jc.deep (r_takenEight_x (RI.u (RI.u (RI.u (RI.u hI_M (a := 632) (i := ((2 * f) + s)) (by rw [xri_row rfl rfl]; show (0 : Int) ≤ _ ∧ _ ≤ (1 : Int); omega)) (a := 634) (i := ((2 * f) + s)) (by rw [xri_row rfl rfl]; show (0 : Int) ≤ _ ∧ _ ≤ (1 : Int); omega)) (a := 631) (i := ((2 * f) + s)) (by rw [xri_row rfl rfl]; show (0 : Int) ≤ _ ∧ _ ≤ (65535 : Int); omega)) (a := 635) (i := ((2 * f) + s)) (by rw [xri_row rfl rfl]; show (0 : Int) ≤ _ ∧ _ ≤ (65535 : Int); omega)) (RH.o (RH.o (RH.o (RH.o hH_M (by decide) (by decide) (by decide)) (by decide) (by decide) (by decide)) (by decide) (by decide) (by decide)) (by decide) (by decide) (by decide)) (RF.o (RF.o (RF.o (RF.o hS_M (by decide) (by decide)) (by decide) (by decide)) (by decide) (by decide)) (by decide) (by decide))  (by omega)  (fun r15 z15 w15_0 => ?_)) (Nat.le_of_ble_eq_true rfl))
              refine jr.last (i := ((2 * f) + s)) (x := r15) rfl (nlt rfl) rfl (Nat.le_of_ble_eq_true rfl) (by omega) (by omega) ?_
              refine jr.aload_n rfl rfl ?_
              refine jr.getf (i := 45) (v := .ref 633) rfl rfl (nlt rfl) rfl (nlt rfl) rfl rfl rfl rfl ?_
              refine jr.iconst rfl ?_
              refine jr.iload_n rfl rfl ?_
              refine jr.imul rfl ?_
              refine jr.iload_n rfl rfl ?_
              refine jr.iadd rfl ?_
              refine jr.aload_n rfl rfl ?_
              refine jr.iload_n rfl rfl ?_
              refine jr.bipush rfl (jbp _ (nlt rfl)) ?_
              refine jr.iadd rfl ?_
              refine jr.iconst rfl ?_
              refine jr.iload_n rfl rfl ?_
              refine jr.imul rfl ?_
              refine jr.iadd rfl ?_
              refine jr_v rfl rfl (Or.inl rfl) rfl rfl (nlt rfl) rfl ⟨rfl, Nat.le_of_ble_eq_true rfl, Nat.le_of_ble_eq_true rfl⟩ rfl (jc.deep (r_takenFour_x (RI.u (RI.u (RI.u (RI.u (RI.u hI_M (a := 632) (i := ((2 * f) + s)) (by rw [xri_row rfl rfl]; show (0 : Int) ≤ _ ∧ _ ≤ (1 : Int); omega)) (a := 634) (i := ((2 * f) + s)) (by rw [xri_row rfl rfl]; show (0 : Int) ≤ _ ∧ _ ≤ (1 : Int); omega)) (a := 631) (i := ((2 * f) + s)) (by rw [xri_row rfl rfl]; show (0 : Int) ≤ _ ∧ _ ≤ (65535 : Int); omega)) (a := 635) (i := ((2 * f) + s)) (by rw [xri_row rfl rfl]; show (0 : Int) ≤ _ ∧ _ ≤ (65535 : Int); omega)) (a := 630) (i := ((2 * f) + s)) (by rw [xri_row rfl rfl]; show (-9223372036854775808 : Int) ≤ _ ∧ _ ≤ (9223372036854775807 : Int); omega)) (RH.o (RH.o (RH.o (RH.o (RH.o hH_M (by decide) (by decide) (by decide)) (by decide) (by decide) (by decide)) (by decide) (by decide) (by decide)) (by decide) (by decide) (by decide)) (by decide) (by decide) (by decide)) (RF.o (RF.o (RF.o (RF.o (RF.o hS_M (by decide) (by decide)) (by decide) (by decide)) (by decide) (by decide)) (by decide) (by decide)) (by decide) (by decide))  (by omega)  (fun r16 z16 w16_0 => ?_)) (Nat.le_of_ble_eq_true rfl))
              refine jr.l2i rfl ?_
              refine jr.iw (j_w r16) (j_w_eq _) ?_
              have b17 : -2147483648 ≤ j_w r16 ∧ j_w r16 ≤ 2147483647 := jb_any _
              refine jr.iast (i := ((2 * f) + s)) (x := (j_w r16)) rfl (nlt rfl) rfl (Nat.le_of_ble_eq_true rfl) (by omega) (by omega) ?_
              refine jr.iinc (ls' := [_, _, _, _]) rfl rfl (nlt rfl) rfl ?_
              refine jr.goto rfl rfl ?_
              refine jr.pick (ls := [_, _, _, _]) [0, 1, 2, 3] rfl rfl ?_
              exact ih (nM - 1) (by omega) (ju (ju (ju (ju (ju (ju M 632 ((2 * f) + s) 0) 634 ((2 * f) + s) 1) 631 ((2 * f) + s) r13) 635 ((2 * f) + s) r14) 630 ((2 * f) + s) r15) 633 ((2 * f) + s) (j_w r16)) (s + 1) f (RI.u (RI.u (RI.u (RI.u (RI.u (RI.u hI_M (a := 632) (i := ((2 * f) + s)) (by rw [xri_row rfl rfl]; show (0 : Int) ≤ _ ∧ _ ≤ (1 : Int); omega)) (a := 634) (i := ((2 * f) + s)) (by rw [xri_row rfl rfl]; show (0 : Int) ≤ _ ∧ _ ≤ (1 : Int); omega)) (a := 631) (i := ((2 * f) + s)) (by rw [xri_row rfl rfl]; show (0 : Int) ≤ _ ∧ _ ≤ (65535 : Int); omega)) (a := 635) (i := ((2 * f) + s)) (by rw [xri_row rfl rfl]; show (0 : Int) ≤ _ ∧ _ ≤ (65535 : Int); omega)) (a := 630) (i := ((2 * f) + s)) (by rw [xri_row rfl rfl]; show (-9223372036854775808 : Int) ≤ _ ∧ _ ≤ (9223372036854775807 : Int); omega)) (a := 633) (i := ((2 * f) + s)) (by rw [xri_row rfl rfl]; show (-2147483648 : Int) ≤ _ ∧ _ ≤ (2147483647 : Int); omega)) (RH.o (RH.o (RH.o (RH.o (RH.o (RH.o hH_M (by decide) (by decide) (by decide)) (by decide) (by decide) (by decide)) (by decide) (by decide) (by decide)) (by decide) (by decide) (by decide)) (by decide) (by decide) (by decide)) (by decide) (by decide) (by decide)) (RF.o (RF.o (RF.o (RF.o (RF.o (RF.o hS_M (by decide) (by decide)) (by decide) (by decide)) (by decide) (by decide)) (by decide) (by decide)) (by decide) (by decide)) (by decide) (by decide))  (fun a i f628 f629 f630 f631 f632 f633 f634 f635 f636 f637 f638 f639 f640 => ((ju_c _ _ f633).trans ((ju_c _ _ f630).trans ((ju_c _ _ f635).trans ((ju_c _ _ f631).trans ((ju_c _ _ f634).trans ((ju_c _ _ f632).trans (hF_M a i f628 f629 f630 f631 f632 f633 f634 f635 f636 f637 f638 f639 f640)))))))) (by omega) (by omega) (RP6.s hy0 (by omega) (by unfold tHl; rw [(show M0 599 ((48 * f) + 1) = v5 from (hF_M 599 ((48 * f) + 1) (by decide) (by decide) (by decide) (by decide) (by decide) (by decide) (by decide) (by decide) (by decide) (by decide) (by decide) (by decide) (by decide)).symm.trans e5)]; first | (rw [if_pos (by omega)]; omega) | (rw [if_neg (by omega)]; omega)) (by rw [(show M0 599 ((48 * f) + 1) = v5 from (hF_M 599 ((48 * f) + 1) (by decide) (by decide) (by decide) (by decide) (by decide) (by decide) (by decide) (by decide) (by decide) (by decide) (by decide) (by decide) (by decide)).symm.trans e5)]; first | (rw [if_pos (by omega)]) | (rw [if_neg (by omega)]; omega)) (by unfold tPt; have h9 := w13_0; rw [(show (ju (ju M 632 ((2 * f) + s) 0) 634 ((2 * f) + s) 1) 599 = M0 599 from funext (fun i => (((ju_c _ _ (by decide)).trans ((ju_c _ _ (by decide)).trans rfl))).trans (hF_M 599 i (nne rfl) (nne rfl) (nne rfl) (nne rfl) (nne rfl) (nne rfl) (nne rfl) (nne rfl) (nne rfl) (nne rfl) (nne rfl) (nne rfl) (nne rfl))))] at h9; exact h9) (by unfold tWn; have h9 := w14_0; rw [(show (ju (ju (ju M 632 ((2 * f) + s) 0) 634 ((2 * f) + s) 1) 631 ((2 * f) + s) r13) 599 = M0 599 from funext (fun i => (((ju_c _ _ (by decide)).trans ((ju_c _ _ (by decide)).trans ((ju_c _ _ (by decide)).trans rfl)))).trans (hF_M 599 i (nne rfl) (nne rfl) (nne rfl) (nne rfl) (nne rfl) (nne rfl) (nne rfl) (nne rfl) (nne rfl) (nne rfl) (nne rfl) (nne rfl) (nne rfl))))] at h9; exact h9) (by unfold tAd; have h9 := w15_0; rw [(show (ju (ju (ju (ju M 632 ((2 * f) + s) 0) 634 ((2 * f) + s) 1) 631 ((2 * f) + s) r13) 635 ((2 * f) + s) r14) 599 = M0 599 from funext (fun i => (((ju_c _ _ (by decide)).trans ((ju_c _ _ (by decide)).trans ((ju_c _ _ (by decide)).trans ((ju_c _ _ (by decide)).trans rfl))))).trans (hF_M 599 i (nne rfl) (nne rfl) (nne rfl) (nne rfl) (nne rfl) (nne rfl) (nne rfl) (nne rfl) (nne rfl) (nne rfl) (nne rfl) (nne rfl) (nne rfl))))] at h9; exact h9) (by have h9 := w16_0; rw [(show (ju (ju (ju (ju (ju M 632 ((2 * f) + s) 0) 634 ((2 * f) + s) 1) 631 ((2 * f) + s) r13) 635 ((2 * f) + s) r14) 630 ((2 * f) + s) r15) 599 = M0 599 from funext (fun i => (((ju_c _ _ (by decide)).trans ((ju_c _ _ (by decide)).trans ((ju_c _ _ (by decide)).trans ((ju_c _ _ (by decide)).trans ((ju_c _ _ (by decide)).trans rfl)))))).trans (hF_M 599 i (nne rfl) (nne rfl) (nne rfl) (nne rfl) (nne rfl) (nne rfl) (nne rfl) (nne rfl) (nne rfl) (nne rfl) (nne rfl) (nne rfl) (nne rfl))))] at h9; rw [← h9])) hy1 (by omega) (by omega)
        · have sx107 : (1 : Int) ≤ v6 := by omega
          clear h107
          refine jr.iconst rfl ?_
          refine jr.goto rfl rfl ?_
          refine jr.zast (i := ((2 * f) + s)) (x := 1) rfl (nlt rfl) rfl (Nat.le_of_ble_eq_true rfl) (by omega) (by omega) (j_zn (by omega)) ?_
          refine jr.aload_n rfl rfl ?_
          refine jr.getf (i := 46) (v := .ref 634) rfl rfl (nlt rfl) rfl (nlt rfl) rfl rfl rfl rfl ?_
          refine jr.iconst rfl ?_
          refine jr.iload_n rfl rfl ?_
          refine jr.imul rfl ?_
          refine jr.iload_n rfl rfl ?_
          refine jr.iadd rfl ?_
          refine jr.iload_n rfl rfl ?_
          refine jr.if_eq rfl rfl (by first | (refine rgb (by assumption) ?_; exact rfl) | omega) (fun h126 => ?_) (fun h126 => ?_)
          · exact absurd h126 (by omega)
          · refine jr.aload_n rfl rfl ?_
            refine jr.getf (i := 0) (v := .ref 599) rfl rfl (nlt rfl) rfl (nlt rfl) rfl rfl rfl rfl ?_
            refine jr.iload_n rfl rfl ?_
            refine jr.iconst rfl ?_
            refine jr.iadd rfl ?_
            refine jr.iald (i := ((48 * f) + 1)) (x := v5) rfl (nlt rfl) rfl (Nat.le_of_ble_eq_true rfl) (by omega) (by omega) ((ju_c _ _ (by decide)).trans e5) ?_
            refine jr.sipush rfl (by decide) ?_
            refine jr.iand rfl ?_
            have b18 : j_and v5 128 = v5 / 128 % 2 * 128 ∧ 0 ≤ j_and v5 128 ∧ j_and v5 128 ≤ 128 := ⟨(jbx (by omega)).2.2, by rw [(jbx (by omega)).2.2]; omega⟩
            generalize j_and v5 128 = v18 at b18 ⊢
            refine jr.if_eq rfl rfl (by first | (refine rgb (by assumption) ?_; exact rfl) | omega) (fun h141 => ?_) (fun h141 => ?_)
            · refine jr.iconst rfl ?_
              refine jr.zast (i := ((2 * f) + s)) (x := 0) rfl (nlt rfl) rfl (Nat.le_of_ble_eq_true rfl) (by omega) (by omega) (j_zn (by omega)) ?_
              refine jr.aload_n rfl rfl ?_
              refine jr.getf (i := 43) (v := .ref 631) rfl rfl (nlt rfl) rfl (nlt rfl) rfl rfl rfl rfl ?_
              refine jr.iconst rfl ?_
              refine jr.iload_n rfl rfl ?_
              refine jr.imul rfl ?_
              refine jr.iload_n rfl rfl ?_
              refine jr.iadd rfl ?_
              refine jr.aload_n rfl rfl ?_
              refine jr.iload_n rfl rfl ?_
              refine jr.iconst rfl ?_
              refine jr.iadd rfl ?_
              refine jr.iconst rfl ?_
              refine jr.iload_n rfl rfl ?_
              refine jr.imul rfl ?_
              refine jr.iadd rfl ?_
              refine jr_v rfl rfl (Or.inl rfl) rfl rfl (nlt rfl) rfl ⟨rfl, Nat.le_of_ble_eq_true rfl, Nat.le_of_ble_eq_true rfl⟩ rfl (jc.deep (r_takenTwo_x (RI.u (RI.u hI_M (a := 632) (i := ((2 * f) + s)) (by rw [xri_row rfl rfl]; show (0 : Int) ≤ _ ∧ _ ≤ (1 : Int); omega)) (a := 634) (i := ((2 * f) + s)) (by rw [xri_row rfl rfl]; show (0 : Int) ≤ _ ∧ _ ≤ (1 : Int); omega)) (RH.o (RH.o hH_M (by decide) (by decide) (by decide)) (by decide) (by decide) (by decide)) (RF.o (RF.o hS_M (by decide) (by decide)) (by decide) (by decide))  (by omega)  (fun r19 z19 w19_0 => ?_)) (Nat.le_of_ble_eq_true rfl))
              refine jr.iast (i := ((2 * f) + s)) (x := r19) rfl (nlt rfl) rfl (Nat.le_of_ble_eq_true rfl) (by omega) (by omega) ?_
              refine jr.aload_n rfl rfl ?_
              refine jr.getf (i := 47) (v := .ref 635) rfl rfl (nlt rfl) rfl (nlt rfl) rfl rfl rfl rfl ?_
              refine jr.iconst rfl ?_
              refine jr.iload_n rfl rfl ?_
              refine jr.imul rfl ?_
              refine jr.iload_n rfl rfl ?_
              refine jr.iadd rfl ?_
              refine jr.aload_n rfl rfl ?_
              refine jr.iload_n rfl rfl ?_
              refine jr.bipush rfl (jbp _ (nlt rfl)) ?_
              refine jr.iadd rfl ?_
              refine jr.iconst rfl ?_
              refine jr.iload_n rfl rfl ?_
              refine jr.imul rfl ?_
              refine jr.iadd rfl ?_
              refine jr_v rfl rfl (Or.inl rfl) rfl rfl (nlt rfl) rfl ⟨rfl, Nat.le_of_ble_eq_true rfl, Nat.le_of_ble_eq_true rfl⟩ rfl (jc.deep (r_takenTwo_x (RI.u (RI.u (RI.u hI_M (a := 632) (i := ((2 * f) + s)) (by rw [xri_row rfl rfl]; show (0 : Int) ≤ _ ∧ _ ≤ (1 : Int); omega)) (a := 634) (i := ((2 * f) + s)) (by rw [xri_row rfl rfl]; show (0 : Int) ≤ _ ∧ _ ≤ (1 : Int); omega)) (a := 631) (i := ((2 * f) + s)) (by rw [xri_row rfl rfl]; show (0 : Int) ≤ _ ∧ _ ≤ (65535 : Int); omega)) (RH.o (RH.o (RH.o hH_M (by decide) (by decide) (by decide)) (by decide) (by decide) (by decide)) (by decide) (by decide) (by decide)) (RF.o (RF.o (RF.o hS_M (by decide) (by decide)) (by decide) (by decide)) (by decide) (by decide))  (by omega)  (fun r20 z20 w20_0 => ?_)) (Nat.le_of_ble_eq_true rfl))
              refine jr.iast (i := ((2 * f) + s)) (x := r20) rfl (nlt rfl) rfl (Nat.le_of_ble_eq_true rfl) (by omega) (by omega) ?_
              refine jr.aload_n rfl rfl ?_
              refine jr.getf (i := 42) (v := .ref 630) rfl rfl (nlt rfl) rfl (nlt rfl) rfl rfl rfl rfl ?_
              refine jr.iconst rfl ?_
              refine jr.iload_n rfl rfl ?_
              refine jr.imul rfl ?_
              refine jr.iload_n rfl rfl ?_
              refine jr.iadd rfl ?_
              refine jr.aload_n rfl rfl ?_
              refine jr.iload_n rfl rfl ?_
              refine jr.bipush rfl (jbp _ (nlt rfl)) ?_
              refine jr.iadd rfl ?_
              refine jr.bipush rfl (jbp _ (nlt rfl)) ?_
              refine jr.iload_n rfl rfl ?_
              refine jr.imul rfl ?_
              refine jr.iadd rfl ?_
              refine jr_v rfl rfl (Or.inl rfl) rfl rfl (nlt rfl) rfl ⟨rfl, Nat.le_of_ble_eq_true rfl, Nat.le_of_ble_eq_true rfl⟩ rfl (jc.deep (r_takenEight_x (RI.u (RI.u (RI.u (RI.u hI_M (a := 632) (i := ((2 * f) + s)) (by rw [xri_row rfl rfl]; show (0 : Int) ≤ _ ∧ _ ≤ (1 : Int); omega)) (a := 634) (i := ((2 * f) + s)) (by rw [xri_row rfl rfl]; show (0 : Int) ≤ _ ∧ _ ≤ (1 : Int); omega)) (a := 631) (i := ((2 * f) + s)) (by rw [xri_row rfl rfl]; show (0 : Int) ≤ _ ∧ _ ≤ (65535 : Int); omega)) (a := 635) (i := ((2 * f) + s)) (by rw [xri_row rfl rfl]; show (0 : Int) ≤ _ ∧ _ ≤ (65535 : Int); omega)) (RH.o (RH.o (RH.o (RH.o hH_M (by decide) (by decide) (by decide)) (by decide) (by decide) (by decide)) (by decide) (by decide) (by decide)) (by decide) (by decide) (by decide)) (RF.o (RF.o (RF.o (RF.o hS_M (by decide) (by decide)) (by decide) (by decide)) (by decide) (by decide)) (by decide) (by decide))  (by omega)  (fun r21 z21 w21_0 => ?_)) (Nat.le_of_ble_eq_true rfl))
              refine jr.last (i := ((2 * f) + s)) (x := r21) rfl (nlt rfl) rfl (Nat.le_of_ble_eq_true rfl) (by omega) (by omega) ?_
              refine jr.aload_n rfl rfl ?_
              refine jr.getf (i := 45) (v := .ref 633) rfl rfl (nlt rfl) rfl (nlt rfl) rfl rfl rfl rfl ?_
              refine jr.iconst rfl ?_
              refine jr.iload_n rfl rfl ?_
              refine jr.imul rfl ?_
              refine jr.iload_n rfl rfl ?_
              refine jr.iadd rfl ?_
              refine jr.aload_n rfl rfl ?_
              refine jr.iload_n rfl rfl ?_
              refine jr.bipush rfl (jbp _ (nlt rfl)) ?_
              refine jr.iadd rfl ?_
              refine jr.iconst rfl ?_
              refine jr.iload_n rfl rfl ?_
              refine jr.imul rfl ?_
              refine jr.iadd rfl ?_
              refine jr_v rfl rfl (Or.inl rfl) rfl rfl (nlt rfl) rfl ⟨rfl, Nat.le_of_ble_eq_true rfl, Nat.le_of_ble_eq_true rfl⟩ rfl (jc.deep (r_takenFour_x (RI.u (RI.u (RI.u (RI.u (RI.u hI_M (a := 632) (i := ((2 * f) + s)) (by rw [xri_row rfl rfl]; show (0 : Int) ≤ _ ∧ _ ≤ (1 : Int); omega)) (a := 634) (i := ((2 * f) + s)) (by rw [xri_row rfl rfl]; show (0 : Int) ≤ _ ∧ _ ≤ (1 : Int); omega)) (a := 631) (i := ((2 * f) + s)) (by rw [xri_row rfl rfl]; show (0 : Int) ≤ _ ∧ _ ≤ (65535 : Int); omega)) (a := 635) (i := ((2 * f) + s)) (by rw [xri_row rfl rfl]; show (0 : Int) ≤ _ ∧ _ ≤ (65535 : Int); omega)) (a := 630) (i := ((2 * f) + s)) (by rw [xri_row rfl rfl]; show (-9223372036854775808 : Int) ≤ _ ∧ _ ≤ (9223372036854775807 : Int); omega)) (RH.o (RH.o (RH.o (RH.o (RH.o hH_M (by decide) (by decide) (by decide)) (by decide) (by decide) (by decide)) (by decide) (by decide) (by decide)) (by decide) (by decide) (by decide)) (by decide) (by decide) (by decide)) (RF.o (RF.o (RF.o (RF.o (RF.o hS_M (by decide) (by decide)) (by decide) (by decide)) (by decide) (by decide)) (by decide) (by decide)) (by decide) (by decide))  (by omega)  (fun r22 z22 w22_0 => ?_)) (Nat.le_of_ble_eq_true rfl))
              refine jr.l2i rfl ?_
              refine jr.iw (j_w r22) (j_w_eq _) ?_
              have b23 : -2147483648 ≤ j_w r22 ∧ j_w r22 ≤ 2147483647 := jb_any _
              refine jr.iast (i := ((2 * f) + s)) (x := (j_w r22)) rfl (nlt rfl) rfl (Nat.le_of_ble_eq_true rfl) (by omega) (by omega) ?_
              refine jr.iinc (ls' := [_, _, _, _]) rfl rfl (nlt rfl) rfl ?_
              refine jr.goto rfl rfl ?_
              refine jr.pick (ls := [_, _, _, _]) [0, 1, 2, 3] rfl rfl ?_
              exact ih (nM - 1) (by omega) (ju (ju (ju (ju (ju (ju M 632 ((2 * f) + s) 1) 634 ((2 * f) + s) 0) 631 ((2 * f) + s) r19) 635 ((2 * f) + s) r20) 630 ((2 * f) + s) r21) 633 ((2 * f) + s) (j_w r22)) (s + 1) f (RI.u (RI.u (RI.u (RI.u (RI.u (RI.u hI_M (a := 632) (i := ((2 * f) + s)) (by rw [xri_row rfl rfl]; show (0 : Int) ≤ _ ∧ _ ≤ (1 : Int); omega)) (a := 634) (i := ((2 * f) + s)) (by rw [xri_row rfl rfl]; show (0 : Int) ≤ _ ∧ _ ≤ (1 : Int); omega)) (a := 631) (i := ((2 * f) + s)) (by rw [xri_row rfl rfl]; show (0 : Int) ≤ _ ∧ _ ≤ (65535 : Int); omega)) (a := 635) (i := ((2 * f) + s)) (by rw [xri_row rfl rfl]; show (0 : Int) ≤ _ ∧ _ ≤ (65535 : Int); omega)) (a := 630) (i := ((2 * f) + s)) (by rw [xri_row rfl rfl]; show (-9223372036854775808 : Int) ≤ _ ∧ _ ≤ (9223372036854775807 : Int); omega)) (a := 633) (i := ((2 * f) + s)) (by rw [xri_row rfl rfl]; show (-2147483648 : Int) ≤ _ ∧ _ ≤ (2147483647 : Int); omega)) (RH.o (RH.o (RH.o (RH.o (RH.o (RH.o hH_M (by decide) (by decide) (by decide)) (by decide) (by decide) (by decide)) (by decide) (by decide) (by decide)) (by decide) (by decide) (by decide)) (by decide) (by decide) (by decide)) (by decide) (by decide) (by decide)) (RF.o (RF.o (RF.o (RF.o (RF.o (RF.o hS_M (by decide) (by decide)) (by decide) (by decide)) (by decide) (by decide)) (by decide) (by decide)) (by decide) (by decide)) (by decide) (by decide))  (fun a i f628 f629 f630 f631 f632 f633 f634 f635 f636 f637 f638 f639 f640 => ((ju_c _ _ f633).trans ((ju_c _ _ f630).trans ((ju_c _ _ f635).trans ((ju_c _ _ f631).trans ((ju_c _ _ f634).trans ((ju_c _ _ f632).trans (hF_M a i f628 f629 f630 f631 f632 f633 f634 f635 f636 f637 f638 f639 f640)))))))) (by omega) (by omega) (RP6.s hy0 (by omega) (by unfold tHl; rw [(show M0 599 ((48 * f) + 1) = v5 from (hF_M 599 ((48 * f) + 1) (by decide) (by decide) (by decide) (by decide) (by decide) (by decide) (by decide) (by decide) (by decide) (by decide) (by decide) (by decide) (by decide)).symm.trans e5)]; first | (rw [if_pos (by omega)]; omega) | (rw [if_neg (by omega)]; omega)) (by rw [(show M0 599 ((48 * f) + 1) = v5 from (hF_M 599 ((48 * f) + 1) (by decide) (by decide) (by decide) (by decide) (by decide) (by decide) (by decide) (by decide) (by decide) (by decide) (by decide) (by decide) (by decide)).symm.trans e5)]; first | (rw [if_pos (by omega)]) | (rw [if_neg (by omega)]; omega)) (by unfold tPt; have h9 := w19_0; rw [(show (ju (ju M 632 ((2 * f) + s) 1) 634 ((2 * f) + s) 0) 599 = M0 599 from funext (fun i => (((ju_c _ _ (by decide)).trans ((ju_c _ _ (by decide)).trans rfl))).trans (hF_M 599 i (nne rfl) (nne rfl) (nne rfl) (nne rfl) (nne rfl) (nne rfl) (nne rfl) (nne rfl) (nne rfl) (nne rfl) (nne rfl) (nne rfl) (nne rfl))))] at h9; exact h9) (by unfold tWn; have h9 := w20_0; rw [(show (ju (ju (ju M 632 ((2 * f) + s) 1) 634 ((2 * f) + s) 0) 631 ((2 * f) + s) r19) 599 = M0 599 from funext (fun i => (((ju_c _ _ (by decide)).trans ((ju_c _ _ (by decide)).trans ((ju_c _ _ (by decide)).trans rfl)))).trans (hF_M 599 i (nne rfl) (nne rfl) (nne rfl) (nne rfl) (nne rfl) (nne rfl) (nne rfl) (nne rfl) (nne rfl) (nne rfl) (nne rfl) (nne rfl) (nne rfl))))] at h9; exact h9) (by unfold tAd; have h9 := w21_0; rw [(show (ju (ju (ju (ju M 632 ((2 * f) + s) 1) 634 ((2 * f) + s) 0) 631 ((2 * f) + s) r19) 635 ((2 * f) + s) r20) 599 = M0 599 from funext (fun i => (((ju_c _ _ (by decide)).trans ((ju_c _ _ (by decide)).trans ((ju_c _ _ (by decide)).trans ((ju_c _ _ (by decide)).trans rfl))))).trans (hF_M 599 i (nne rfl) (nne rfl) (nne rfl) (nne rfl) (nne rfl) (nne rfl) (nne rfl) (nne rfl) (nne rfl) (nne rfl) (nne rfl) (nne rfl) (nne rfl))))] at h9; exact h9) (by have h9 := w22_0; rw [(show (ju (ju (ju (ju (ju M 632 ((2 * f) + s) 1) 634 ((2 * f) + s) 0) 631 ((2 * f) + s) r19) 635 ((2 * f) + s) r20) 630 ((2 * f) + s) r21) 599 = M0 599 from funext (fun i => (((ju_c _ _ (by decide)).trans ((ju_c _ _ (by decide)).trans ((ju_c _ _ (by decide)).trans ((ju_c _ _ (by decide)).trans ((ju_c _ _ (by decide)).trans rfl)))))).trans (hF_M 599 i (nne rfl) (nne rfl) (nne rfl) (nne rfl) (nne rfl) (nne rfl) (nne rfl) (nne rfl) (nne rfl) (nne rfl) (nne rfl) (nne rfl) (nne rfl))))] at h9; rw [← h9])) hy1 (by omega) (by omega)
            · have sx141 : (1 : Int) ≤ v18 := by omega
              clear h141
              refine jr.iconst rfl ?_
              refine jr.goto rfl rfl ?_
              refine jr.zast (i := ((2 * f) + s)) (x := 1) rfl (nlt rfl) rfl (Nat.le_of_ble_eq_true rfl) (by omega) (by omega) (j_zn (by omega)) ?_
              refine jr.aload_n rfl rfl ?_
              refine jr.getf (i := 43) (v := .ref 631) rfl rfl (nlt rfl) rfl (nlt rfl) rfl rfl rfl rfl ?_
              refine jr.iconst rfl ?_
              refine jr.iload_n rfl rfl ?_
              refine jr.imul rfl ?_
              refine jr.iload_n rfl rfl ?_
              refine jr.iadd rfl ?_
              refine jr.aload_n rfl rfl ?_
              refine jr.iload_n rfl rfl ?_
              refine jr.iconst rfl ?_
              refine jr.iadd rfl ?_
              refine jr.iconst rfl ?_
              refine jr.iload_n rfl rfl ?_
              refine jr.imul rfl ?_
              refine jr.iadd rfl ?_
              refine jr_v rfl rfl (Or.inl rfl) rfl rfl (nlt rfl) rfl ⟨rfl, Nat.le_of_ble_eq_true rfl, Nat.le_of_ble_eq_true rfl⟩ rfl (jc.deep (r_takenTwo_x (RI.u (RI.u hI_M (a := 632) (i := ((2 * f) + s)) (by rw [xri_row rfl rfl]; show (0 : Int) ≤ _ ∧ _ ≤ (1 : Int); omega)) (a := 634) (i := ((2 * f) + s)) (by rw [xri_row rfl rfl]; show (0 : Int) ≤ _ ∧ _ ≤ (1 : Int); omega)) (RH.o (RH.o hH_M (by decide) (by decide) (by decide)) (by decide) (by decide) (by decide)) (RF.o (RF.o hS_M (by decide) (by decide)) (by decide) (by decide))  (by omega)  (fun r24 z24 w24_0 => ?_)) (Nat.le_of_ble_eq_true rfl))
              refine jr.iast (i := ((2 * f) + s)) (x := r24) rfl (nlt rfl) rfl (Nat.le_of_ble_eq_true rfl) (by omega) (by omega) ?_
              refine jr.aload_n rfl rfl ?_
              refine jr.getf (i := 47) (v := .ref 635) rfl rfl (nlt rfl) rfl (nlt rfl) rfl rfl rfl rfl ?_
              refine jr.iconst rfl ?_
              refine jr.iload_n rfl rfl ?_
              refine jr.imul rfl ?_
              refine jr.iload_n rfl rfl ?_
              refine jr.iadd rfl ?_
              refine jr.aload_n rfl rfl ?_
              refine jr.iload_n rfl rfl ?_
              refine jr.bipush rfl (jbp _ (nlt rfl)) ?_
              refine jr.iadd rfl ?_
              refine jr.iconst rfl ?_
              refine jr.iload_n rfl rfl ?_
              refine jr.imul rfl ?_
              refine jr.iadd rfl ?_
              refine jr_v rfl rfl (Or.inl rfl) rfl rfl (nlt rfl) rfl ⟨rfl, Nat.le_of_ble_eq_true rfl, Nat.le_of_ble_eq_true rfl⟩ rfl (jc.deep (r_takenTwo_x (RI.u (RI.u (RI.u hI_M (a := 632) (i := ((2 * f) + s)) (by rw [xri_row rfl rfl]; show (0 : Int) ≤ _ ∧ _ ≤ (1 : Int); omega)) (a := 634) (i := ((2 * f) + s)) (by rw [xri_row rfl rfl]; show (0 : Int) ≤ _ ∧ _ ≤ (1 : Int); omega)) (a := 631) (i := ((2 * f) + s)) (by rw [xri_row rfl rfl]; show (0 : Int) ≤ _ ∧ _ ≤ (65535 : Int); omega)) (RH.o (RH.o (RH.o hH_M (by decide) (by decide) (by decide)) (by decide) (by decide) (by decide)) (by decide) (by decide) (by decide)) (RF.o (RF.o (RF.o hS_M (by decide) (by decide)) (by decide) (by decide)) (by decide) (by decide))  (by omega)  (fun r25 z25 w25_0 => ?_)) (Nat.le_of_ble_eq_true rfl))
              refine jr.iast (i := ((2 * f) + s)) (x := r25) rfl (nlt rfl) rfl (Nat.le_of_ble_eq_true rfl) (by omega) (by omega) ?_
              refine jr.aload_n rfl rfl ?_
              refine jr.getf (i := 42) (v := .ref 630) rfl rfl (nlt rfl) rfl (nlt rfl) rfl rfl rfl rfl ?_
              refine jr.iconst rfl ?_
              refine jr.iload_n rfl rfl ?_
              refine jr.imul rfl ?_
              refine jr.iload_n rfl rfl ?_
              refine jr.iadd rfl ?_
              refine jr.aload_n rfl rfl ?_
              refine jr.iload_n rfl rfl ?_
              refine jr.bipush rfl (jbp _ (nlt rfl)) ?_
              refine jr.iadd rfl ?_
              refine jr.bipush rfl (jbp _ (nlt rfl)) ?_
              refine jr.iload_n rfl rfl ?_
              refine jr.imul rfl ?_
              refine jr.iadd rfl ?_
              refine jr_v rfl rfl (Or.inl rfl) rfl rfl (nlt rfl) rfl ⟨rfl, Nat.le_of_ble_eq_true rfl, Nat.le_of_ble_eq_true rfl⟩ rfl (jc.deep (r_takenEight_x (RI.u (RI.u (RI.u (RI.u hI_M (a := 632) (i := ((2 * f) + s)) (by rw [xri_row rfl rfl]; show (0 : Int) ≤ _ ∧ _ ≤ (1 : Int); omega)) (a := 634) (i := ((2 * f) + s)) (by rw [xri_row rfl rfl]; show (0 : Int) ≤ _ ∧ _ ≤ (1 : Int); omega)) (a := 631) (i := ((2 * f) + s)) (by rw [xri_row rfl rfl]; show (0 : Int) ≤ _ ∧ _ ≤ (65535 : Int); omega)) (a := 635) (i := ((2 * f) + s)) (by rw [xri_row rfl rfl]; show (0 : Int) ≤ _ ∧ _ ≤ (65535 : Int); omega)) (RH.o (RH.o (RH.o (RH.o hH_M (by decide) (by decide) (by decide)) (by decide) (by decide) (by decide)) (by decide) (by decide) (by decide)) (by decide) (by decide) (by decide)) (RF.o (RF.o (RF.o (RF.o hS_M (by decide) (by decide)) (by decide) (by decide)) (by decide) (by decide)) (by decide) (by decide))  (by omega)  (fun r26 z26 w26_0 => ?_)) (Nat.le_of_ble_eq_true rfl))
              refine jr.last (i := ((2 * f) + s)) (x := r26) rfl (nlt rfl) rfl (Nat.le_of_ble_eq_true rfl) (by omega) (by omega) ?_
              refine jr.aload_n rfl rfl ?_
              refine jr.getf (i := 45) (v := .ref 633) rfl rfl (nlt rfl) rfl (nlt rfl) rfl rfl rfl rfl ?_
              refine jr.iconst rfl ?_
              refine jr.iload_n rfl rfl ?_
              refine jr.imul rfl ?_
              refine jr.iload_n rfl rfl ?_
              refine jr.iadd rfl ?_
              refine jr.aload_n rfl rfl ?_
              refine jr.iload_n rfl rfl ?_
              refine jr.bipush rfl (jbp _ (nlt rfl)) ?_
              refine jr.iadd rfl ?_
              refine jr.iconst rfl ?_
              refine jr.iload_n rfl rfl ?_
              refine jr.imul rfl ?_
              refine jr.iadd rfl ?_
              refine jr_v rfl rfl (Or.inl rfl) rfl rfl (nlt rfl) rfl ⟨rfl, Nat.le_of_ble_eq_true rfl, Nat.le_of_ble_eq_true rfl⟩ rfl (jc.deep (r_takenFour_x (RI.u (RI.u (RI.u (RI.u (RI.u hI_M (a := 632) (i := ((2 * f) + s)) (by rw [xri_row rfl rfl]; show (0 : Int) ≤ _ ∧ _ ≤ (1 : Int); omega)) (a := 634) (i := ((2 * f) + s)) (by rw [xri_row rfl rfl]; show (0 : Int) ≤ _ ∧ _ ≤ (1 : Int); omega)) (a := 631) (i := ((2 * f) + s)) (by rw [xri_row rfl rfl]; show (0 : Int) ≤ _ ∧ _ ≤ (65535 : Int); omega)) (a := 635) (i := ((2 * f) + s)) (by rw [xri_row rfl rfl]; show (0 : Int) ≤ _ ∧ _ ≤ (65535 : Int); omega)) (a := 630) (i := ((2 * f) + s)) (by rw [xri_row rfl rfl]; show (-9223372036854775808 : Int) ≤ _ ∧ _ ≤ (9223372036854775807 : Int); omega)) (RH.o (RH.o (RH.o (RH.o (RH.o hH_M (by decide) (by decide) (by decide)) (by decide) (by decide) (by decide)) (by decide) (by decide) (by decide)) (by decide) (by decide) (by decide)) (by decide) (by decide) (by decide)) (RF.o (RF.o (RF.o (RF.o (RF.o hS_M (by decide) (by decide)) (by decide) (by decide)) (by decide) (by decide)) (by decide) (by decide)) (by decide) (by decide))  (by omega)  (fun r27 z27 w27_0 => ?_)) (Nat.le_of_ble_eq_true rfl))
              refine jr.l2i rfl ?_
              refine jr.iw (j_w r27) (j_w_eq _) ?_
              have b28 : -2147483648 ≤ j_w r27 ∧ j_w r27 ≤ 2147483647 := jb_any _
              refine jr.iast (i := ((2 * f) + s)) (x := (j_w r27)) rfl (nlt rfl) rfl (Nat.le_of_ble_eq_true rfl) (by omega) (by omega) ?_
              refine jr.iinc (ls' := [_, _, _, _]) rfl rfl (nlt rfl) rfl ?_
              refine jr.goto rfl rfl ?_
              refine jr.pick (ls := [_, _, _, _]) [0, 1, 2, 3] rfl rfl ?_
              exact ih (nM - 1) (by omega) (ju (ju (ju (ju (ju (ju M 632 ((2 * f) + s) 1) 634 ((2 * f) + s) 1) 631 ((2 * f) + s) r24) 635 ((2 * f) + s) r25) 630 ((2 * f) + s) r26) 633 ((2 * f) + s) (j_w r27)) (s + 1) f (RI.u (RI.u (RI.u (RI.u (RI.u (RI.u hI_M (a := 632) (i := ((2 * f) + s)) (by rw [xri_row rfl rfl]; show (0 : Int) ≤ _ ∧ _ ≤ (1 : Int); omega)) (a := 634) (i := ((2 * f) + s)) (by rw [xri_row rfl rfl]; show (0 : Int) ≤ _ ∧ _ ≤ (1 : Int); omega)) (a := 631) (i := ((2 * f) + s)) (by rw [xri_row rfl rfl]; show (0 : Int) ≤ _ ∧ _ ≤ (65535 : Int); omega)) (a := 635) (i := ((2 * f) + s)) (by rw [xri_row rfl rfl]; show (0 : Int) ≤ _ ∧ _ ≤ (65535 : Int); omega)) (a := 630) (i := ((2 * f) + s)) (by rw [xri_row rfl rfl]; show (-9223372036854775808 : Int) ≤ _ ∧ _ ≤ (9223372036854775807 : Int); omega)) (a := 633) (i := ((2 * f) + s)) (by rw [xri_row rfl rfl]; show (-2147483648 : Int) ≤ _ ∧ _ ≤ (2147483647 : Int); omega)) (RH.o (RH.o (RH.o (RH.o (RH.o (RH.o hH_M (by decide) (by decide) (by decide)) (by decide) (by decide) (by decide)) (by decide) (by decide) (by decide)) (by decide) (by decide) (by decide)) (by decide) (by decide) (by decide)) (by decide) (by decide) (by decide)) (RF.o (RF.o (RF.o (RF.o (RF.o (RF.o hS_M (by decide) (by decide)) (by decide) (by decide)) (by decide) (by decide)) (by decide) (by decide)) (by decide) (by decide)) (by decide) (by decide))  (fun a i f628 f629 f630 f631 f632 f633 f634 f635 f636 f637 f638 f639 f640 => ((ju_c _ _ f633).trans ((ju_c _ _ f630).trans ((ju_c _ _ f635).trans ((ju_c _ _ f631).trans ((ju_c _ _ f634).trans ((ju_c _ _ f632).trans (hF_M a i f628 f629 f630 f631 f632 f633 f634 f635 f636 f637 f638 f639 f640)))))))) (by omega) (by omega) (RP6.s hy0 (by omega) (by unfold tHl; rw [(show M0 599 ((48 * f) + 1) = v5 from (hF_M 599 ((48 * f) + 1) (by decide) (by decide) (by decide) (by decide) (by decide) (by decide) (by decide) (by decide) (by decide) (by decide) (by decide) (by decide) (by decide)).symm.trans e5)]; first | (rw [if_pos (by omega)]; omega) | (rw [if_neg (by omega)]; omega)) (by rw [(show M0 599 ((48 * f) + 1) = v5 from (hF_M 599 ((48 * f) + 1) (by decide) (by decide) (by decide) (by decide) (by decide) (by decide) (by decide) (by decide) (by decide) (by decide) (by decide) (by decide) (by decide)).symm.trans e5)]; first | (rw [if_pos (by omega)]) | (rw [if_neg (by omega)]; omega)) (by unfold tPt; have h9 := w24_0; rw [(show (ju (ju M 632 ((2 * f) + s) 1) 634 ((2 * f) + s) 1) 599 = M0 599 from funext (fun i => (((ju_c _ _ (by decide)).trans ((ju_c _ _ (by decide)).trans rfl))).trans (hF_M 599 i (nne rfl) (nne rfl) (nne rfl) (nne rfl) (nne rfl) (nne rfl) (nne rfl) (nne rfl) (nne rfl) (nne rfl) (nne rfl) (nne rfl) (nne rfl))))] at h9; exact h9) (by unfold tWn; have h9 := w25_0; rw [(show (ju (ju (ju M 632 ((2 * f) + s) 1) 634 ((2 * f) + s) 1) 631 ((2 * f) + s) r24) 599 = M0 599 from funext (fun i => (((ju_c _ _ (by decide)).trans ((ju_c _ _ (by decide)).trans ((ju_c _ _ (by decide)).trans rfl)))).trans (hF_M 599 i (nne rfl) (nne rfl) (nne rfl) (nne rfl) (nne rfl) (nne rfl) (nne rfl) (nne rfl) (nne rfl) (nne rfl) (nne rfl) (nne rfl) (nne rfl))))] at h9; exact h9) (by unfold tAd; have h9 := w26_0; rw [(show (ju (ju (ju (ju M 632 ((2 * f) + s) 1) 634 ((2 * f) + s) 1) 631 ((2 * f) + s) r24) 635 ((2 * f) + s) r25) 599 = M0 599 from funext (fun i => (((ju_c _ _ (by decide)).trans ((ju_c _ _ (by decide)).trans ((ju_c _ _ (by decide)).trans ((ju_c _ _ (by decide)).trans rfl))))).trans (hF_M 599 i (nne rfl) (nne rfl) (nne rfl) (nne rfl) (nne rfl) (nne rfl) (nne rfl) (nne rfl) (nne rfl) (nne rfl) (nne rfl) (nne rfl) (nne rfl))))] at h9; exact h9) (by have h9 := w27_0; rw [(show (ju (ju (ju (ju (ju M 632 ((2 * f) + s) 1) 634 ((2 * f) + s) 1) 631 ((2 * f) + s) r24) 635 ((2 * f) + s) r25) 630 ((2 * f) + s) r26) 599 = M0 599 from funext (fun i => (((ju_c _ _ (by decide)).trans ((ju_c _ _ (by decide)).trans ((ju_c _ _ (by decide)).trans ((ju_c _ _ (by decide)).trans ((ju_c _ _ (by decide)).trans rfl)))))).trans (hF_M 599 i (nne rfl) (nne rfl) (nne rfl) (nne rfl) (nne rfl) (nne rfl) (nne rfl) (nne rfl) (nne rfl) (nne rfl) (nne rfl) (nne rfl) (nne rfl))))] at h9; rw [← h9])) hy1 (by omega) (by omega)
      · refine jr.bipush rfl (jbp _ (nlt rfl)) ?_
        refine jr.goto rfl rfl ?_
        refine jr.iand rfl ?_
        have b29 : j_and v5 32 = v5 / 32 % 2 * 32 ∧ 0 ≤ j_and v5 32 ∧ j_and v5 32 ≤ 64 := ⟨(jbx (by omega)).1, by rw [(jbx (by omega)).1]; omega⟩
        generalize j_and v5 32 = v29 at b29 ⊢
        refine jr.if_eq rfl rfl (by first | (refine rgb (by assumption) ?_; exact rfl) | omega) (fun h107 => ?_) (fun h107 => ?_)
        · refine jr.iconst rfl ?_
          refine jr.zast (i := ((2 * f) + s)) (x := 0) rfl (nlt rfl) rfl (Nat.le_of_ble_eq_true rfl) (by omega) (by omega) (j_zn (by omega)) ?_
          refine jr.aload_n rfl rfl ?_
          refine jr.getf (i := 46) (v := .ref 634) rfl rfl (nlt rfl) rfl (nlt rfl) rfl rfl rfl rfl ?_
          refine jr.iconst rfl ?_
          refine jr.iload_n rfl rfl ?_
          refine jr.imul rfl ?_
          refine jr.iload_n rfl rfl ?_
          refine jr.iadd rfl ?_
          refine jr.iload_n rfl rfl ?_
          refine jr.if_eq rfl rfl (by first | (refine rgb (by assumption) ?_; exact rfl) | omega) (fun h126 => ?_) (fun h126 => ?_)
          · refine jr.iconst rfl ?_
            refine jr.goto rfl rfl ?_
            refine jr.zast (i := ((2 * f) + s)) (x := 1) rfl (nlt rfl) rfl (Nat.le_of_ble_eq_true rfl) (by omega) (by omega) (j_zn (by omega)) ?_
            refine jr.aload_n rfl rfl ?_
            refine jr.getf (i := 43) (v := .ref 631) rfl rfl (nlt rfl) rfl (nlt rfl) rfl rfl rfl rfl ?_
            refine jr.iconst rfl ?_
            refine jr.iload_n rfl rfl ?_
            refine jr.imul rfl ?_
            refine jr.iload_n rfl rfl ?_
            refine jr.iadd rfl ?_
            refine jr.aload_n rfl rfl ?_
            refine jr.iload_n rfl rfl ?_
            refine jr.iconst rfl ?_
            refine jr.iadd rfl ?_
            refine jr.iconst rfl ?_
            refine jr.iload_n rfl rfl ?_
            refine jr.imul rfl ?_
            refine jr.iadd rfl ?_
            refine jr_v rfl rfl (Or.inl rfl) rfl rfl (nlt rfl) rfl ⟨rfl, Nat.le_of_ble_eq_true rfl, Nat.le_of_ble_eq_true rfl⟩ rfl (jc.deep (r_takenTwo_x (RI.u (RI.u hI_M (a := 632) (i := ((2 * f) + s)) (by rw [xri_row rfl rfl]; show (0 : Int) ≤ _ ∧ _ ≤ (1 : Int); omega)) (a := 634) (i := ((2 * f) + s)) (by rw [xri_row rfl rfl]; show (0 : Int) ≤ _ ∧ _ ≤ (1 : Int); omega)) (RH.o (RH.o hH_M (by decide) (by decide) (by decide)) (by decide) (by decide) (by decide)) (RF.o (RF.o hS_M (by decide) (by decide)) (by decide) (by decide))  (by omega)  (fun r30 z30 w30_0 => ?_)) (Nat.le_of_ble_eq_true rfl))
            refine jr.iast (i := ((2 * f) + s)) (x := r30) rfl (nlt rfl) rfl (Nat.le_of_ble_eq_true rfl) (by omega) (by omega) ?_
            refine jr.aload_n rfl rfl ?_
            refine jr.getf (i := 47) (v := .ref 635) rfl rfl (nlt rfl) rfl (nlt rfl) rfl rfl rfl rfl ?_
            refine jr.iconst rfl ?_
            refine jr.iload_n rfl rfl ?_
            refine jr.imul rfl ?_
            refine jr.iload_n rfl rfl ?_
            refine jr.iadd rfl ?_
            refine jr.aload_n rfl rfl ?_
            refine jr.iload_n rfl rfl ?_
            refine jr.bipush rfl (jbp _ (nlt rfl)) ?_
            refine jr.iadd rfl ?_
            refine jr.iconst rfl ?_
            refine jr.iload_n rfl rfl ?_
            refine jr.imul rfl ?_
            refine jr.iadd rfl ?_
            refine jr_v rfl rfl (Or.inl rfl) rfl rfl (nlt rfl) rfl ⟨rfl, Nat.le_of_ble_eq_true rfl, Nat.le_of_ble_eq_true rfl⟩ rfl (jc.deep (r_takenTwo_x (RI.u (RI.u (RI.u hI_M (a := 632) (i := ((2 * f) + s)) (by rw [xri_row rfl rfl]; show (0 : Int) ≤ _ ∧ _ ≤ (1 : Int); omega)) (a := 634) (i := ((2 * f) + s)) (by rw [xri_row rfl rfl]; show (0 : Int) ≤ _ ∧ _ ≤ (1 : Int); omega)) (a := 631) (i := ((2 * f) + s)) (by rw [xri_row rfl rfl]; show (0 : Int) ≤ _ ∧ _ ≤ (65535 : Int); omega)) (RH.o (RH.o (RH.o hH_M (by decide) (by decide) (by decide)) (by decide) (by decide) (by decide)) (by decide) (by decide) (by decide)) (RF.o (RF.o (RF.o hS_M (by decide) (by decide)) (by decide) (by decide)) (by decide) (by decide))  (by omega)  (fun r31 z31 w31_0 => ?_)) (Nat.le_of_ble_eq_true rfl))
            refine jr.iast (i := ((2 * f) + s)) (x := r31) rfl (nlt rfl) rfl (Nat.le_of_ble_eq_true rfl) (by omega) (by omega) ?_
            refine jr.aload_n rfl rfl ?_
            refine jr.getf (i := 42) (v := .ref 630) rfl rfl (nlt rfl) rfl (nlt rfl) rfl rfl rfl rfl ?_
            refine jr.iconst rfl ?_
            refine jr.iload_n rfl rfl ?_
            refine jr.imul rfl ?_
            refine jr.iload_n rfl rfl ?_
            refine jr.iadd rfl ?_
            refine jr.aload_n rfl rfl ?_
            refine jr.iload_n rfl rfl ?_
            refine jr.bipush rfl (jbp _ (nlt rfl)) ?_
            refine jr.iadd rfl ?_
            refine jr.bipush rfl (jbp _ (nlt rfl)) ?_
            refine jr.iload_n rfl rfl ?_
            refine jr.imul rfl ?_
            refine jr.iadd rfl ?_
            refine jr_v rfl rfl (Or.inl rfl) rfl rfl (nlt rfl) rfl ⟨rfl, Nat.le_of_ble_eq_true rfl, Nat.le_of_ble_eq_true rfl⟩ rfl (jc.deep (r_takenEight_x (RI.u (RI.u (RI.u (RI.u hI_M (a := 632) (i := ((2 * f) + s)) (by rw [xri_row rfl rfl]; show (0 : Int) ≤ _ ∧ _ ≤ (1 : Int); omega)) (a := 634) (i := ((2 * f) + s)) (by rw [xri_row rfl rfl]; show (0 : Int) ≤ _ ∧ _ ≤ (1 : Int); omega)) (a := 631) (i := ((2 * f) + s)) (by rw [xri_row rfl rfl]; show (0 : Int) ≤ _ ∧ _ ≤ (65535 : Int); omega)) (a := 635) (i := ((2 * f) + s)) (by rw [xri_row rfl rfl]; show (0 : Int) ≤ _ ∧ _ ≤ (65535 : Int); omega)) (RH.o (RH.o (RH.o (RH.o hH_M (by decide) (by decide) (by decide)) (by decide) (by decide) (by decide)) (by decide) (by decide) (by decide)) (by decide) (by decide) (by decide)) (RF.o (RF.o (RF.o (RF.o hS_M (by decide) (by decide)) (by decide) (by decide)) (by decide) (by decide)) (by decide) (by decide))  (by omega)  (fun r32 z32 w32_0 => ?_)) (Nat.le_of_ble_eq_true rfl))
            refine jr.last (i := ((2 * f) + s)) (x := r32) rfl (nlt rfl) rfl (Nat.le_of_ble_eq_true rfl) (by omega) (by omega) ?_
            refine jr.aload_n rfl rfl ?_
            refine jr.getf (i := 45) (v := .ref 633) rfl rfl (nlt rfl) rfl (nlt rfl) rfl rfl rfl rfl ?_
            refine jr.iconst rfl ?_
            refine jr.iload_n rfl rfl ?_
            refine jr.imul rfl ?_
            refine jr.iload_n rfl rfl ?_
            refine jr.iadd rfl ?_
            refine jr.aload_n rfl rfl ?_
            refine jr.iload_n rfl rfl ?_
            refine jr.bipush rfl (jbp _ (nlt rfl)) ?_
            refine jr.iadd rfl ?_
            refine jr.iconst rfl ?_
            refine jr.iload_n rfl rfl ?_
            refine jr.imul rfl ?_
            refine jr.iadd rfl ?_
            refine jr_v rfl rfl (Or.inl rfl) rfl rfl (nlt rfl) rfl ⟨rfl, Nat.le_of_ble_eq_true rfl, Nat.le_of_ble_eq_true rfl⟩ rfl (jc.deep (r_takenFour_x (RI.u (RI.u (RI.u (RI.u (RI.u hI_M (a := 632) (i := ((2 * f) + s)) (by rw [xri_row rfl rfl]; show (0 : Int) ≤ _ ∧ _ ≤ (1 : Int); omega)) (a := 634) (i := ((2 * f) + s)) (by rw [xri_row rfl rfl]; show (0 : Int) ≤ _ ∧ _ ≤ (1 : Int); omega)) (a := 631) (i := ((2 * f) + s)) (by rw [xri_row rfl rfl]; show (0 : Int) ≤ _ ∧ _ ≤ (65535 : Int); omega)) (a := 635) (i := ((2 * f) + s)) (by rw [xri_row rfl rfl]; show (0 : Int) ≤ _ ∧ _ ≤ (65535 : Int); omega)) (a := 630) (i := ((2 * f) + s)) (by rw [xri_row rfl rfl]; show (-9223372036854775808 : Int) ≤ _ ∧ _ ≤ (9223372036854775807 : Int); omega)) (RH.o (RH.o (RH.o (RH.o (RH.o hH_M (by decide) (by decide) (by decide)) (by decide) (by decide) (by decide)) (by decide) (by decide) (by decide)) (by decide) (by decide) (by decide)) (by decide) (by decide) (by decide)) (RF.o (RF.o (RF.o (RF.o (RF.o hS_M (by decide) (by decide)) (by decide) (by decide)) (by decide) (by decide)) (by decide) (by decide)) (by decide) (by decide))  (by omega)  (fun r33 z33 w33_0 => ?_)) (Nat.le_of_ble_eq_true rfl))
            refine jr.l2i rfl ?_
            refine jr.iw (j_w r33) (j_w_eq _) ?_
            have b34 : -2147483648 ≤ j_w r33 ∧ j_w r33 ≤ 2147483647 := jb_any _
            refine jr.iast (i := ((2 * f) + s)) (x := (j_w r33)) rfl (nlt rfl) rfl (Nat.le_of_ble_eq_true rfl) (by omega) (by omega) ?_
            refine jr.iinc (ls' := [_, _, _, _]) rfl rfl (nlt rfl) rfl ?_
            refine jr.goto rfl rfl ?_
            refine jr.pick (ls := [_, _, _, _]) [0, 1, 2, 3] rfl rfl ?_
            exact ih (nM - 1) (by omega) (ju (ju (ju (ju (ju (ju M 632 ((2 * f) + s) 0) 634 ((2 * f) + s) 1) 631 ((2 * f) + s) r30) 635 ((2 * f) + s) r31) 630 ((2 * f) + s) r32) 633 ((2 * f) + s) (j_w r33)) (s + 1) f (RI.u (RI.u (RI.u (RI.u (RI.u (RI.u hI_M (a := 632) (i := ((2 * f) + s)) (by rw [xri_row rfl rfl]; show (0 : Int) ≤ _ ∧ _ ≤ (1 : Int); omega)) (a := 634) (i := ((2 * f) + s)) (by rw [xri_row rfl rfl]; show (0 : Int) ≤ _ ∧ _ ≤ (1 : Int); omega)) (a := 631) (i := ((2 * f) + s)) (by rw [xri_row rfl rfl]; show (0 : Int) ≤ _ ∧ _ ≤ (65535 : Int); omega)) (a := 635) (i := ((2 * f) + s)) (by rw [xri_row rfl rfl]; show (0 : Int) ≤ _ ∧ _ ≤ (65535 : Int); omega)) (a := 630) (i := ((2 * f) + s)) (by rw [xri_row rfl rfl]; show (-9223372036854775808 : Int) ≤ _ ∧ _ ≤ (9223372036854775807 : Int); omega)) (a := 633) (i := ((2 * f) + s)) (by rw [xri_row rfl rfl]; show (-2147483648 : Int) ≤ _ ∧ _ ≤ (2147483647 : Int); omega)) (RH.o (RH.o (RH.o (RH.o (RH.o (RH.o hH_M (by decide) (by decide) (by decide)) (by decide) (by decide) (by decide)) (by decide) (by decide) (by decide)) (by decide) (by decide) (by decide)) (by decide) (by decide) (by decide)) (by decide) (by decide) (by decide)) (RF.o (RF.o (RF.o (RF.o (RF.o (RF.o hS_M (by decide) (by decide)) (by decide) (by decide)) (by decide) (by decide)) (by decide) (by decide)) (by decide) (by decide)) (by decide) (by decide))  (fun a i f628 f629 f630 f631 f632 f633 f634 f635 f636 f637 f638 f639 f640 => ((ju_c _ _ f633).trans ((ju_c _ _ f630).trans ((ju_c _ _ f635).trans ((ju_c _ _ f631).trans ((ju_c _ _ f634).trans ((ju_c _ _ f632).trans (hF_M a i f628 f629 f630 f631 f632 f633 f634 f635 f636 f637 f638 f639 f640)))))))) (by omega) (by omega) (RP6.s hy0 (by omega) (by unfold tHl; rw [(show M0 599 ((48 * f) + 1) = v5 from (hF_M 599 ((48 * f) + 1) (by decide) (by decide) (by decide) (by decide) (by decide) (by decide) (by decide) (by decide) (by decide) (by decide) (by decide) (by decide) (by decide)).symm.trans e5)]; first | (rw [if_pos (by omega)]; omega) | (rw [if_neg (by omega)]; omega)) (by rw [(show M0 599 ((48 * f) + 1) = v5 from (hF_M 599 ((48 * f) + 1) (by decide) (by decide) (by decide) (by decide) (by decide) (by decide) (by decide) (by decide) (by decide) (by decide) (by decide) (by decide) (by decide)).symm.trans e5)]; first | (rw [if_pos (by omega)]) | (rw [if_neg (by omega)]; omega)) (by unfold tPt; have h9 := w30_0; rw [(show (ju (ju M 632 ((2 * f) + s) 0) 634 ((2 * f) + s) 1) 599 = M0 599 from funext (fun i => (((ju_c _ _ (by decide)).trans ((ju_c _ _ (by decide)).trans rfl))).trans (hF_M 599 i (nne rfl) (nne rfl) (nne rfl) (nne rfl) (nne rfl) (nne rfl) (nne rfl) (nne rfl) (nne rfl) (nne rfl) (nne rfl) (nne rfl) (nne rfl))))] at h9; exact h9) (by unfold tWn; have h9 := w31_0; rw [(show (ju (ju (ju M 632 ((2 * f) + s) 0) 634 ((2 * f) + s) 1) 631 ((2 * f) + s) r30) 599 = M0 599 from funext (fun i => (((ju_c _ _ (by decide)).trans ((ju_c _ _ (by decide)).trans ((ju_c _ _ (by decide)).trans rfl)))).trans (hF_M 599 i (nne rfl) (nne rfl) (nne rfl) (nne rfl) (nne rfl) (nne rfl) (nne rfl) (nne rfl) (nne rfl) (nne rfl) (nne rfl) (nne rfl) (nne rfl))))] at h9; exact h9) (by unfold tAd; have h9 := w32_0; rw [(show (ju (ju (ju (ju M 632 ((2 * f) + s) 0) 634 ((2 * f) + s) 1) 631 ((2 * f) + s) r30) 635 ((2 * f) + s) r31) 599 = M0 599 from funext (fun i => (((ju_c _ _ (by decide)).trans ((ju_c _ _ (by decide)).trans ((ju_c _ _ (by decide)).trans ((ju_c _ _ (by decide)).trans rfl))))).trans (hF_M 599 i (nne rfl) (nne rfl) (nne rfl) (nne rfl) (nne rfl) (nne rfl) (nne rfl) (nne rfl) (nne rfl) (nne rfl) (nne rfl) (nne rfl) (nne rfl))))] at h9; exact h9) (by have h9 := w33_0; rw [(show (ju (ju (ju (ju (ju M 632 ((2 * f) + s) 0) 634 ((2 * f) + s) 1) 631 ((2 * f) + s) r30) 635 ((2 * f) + s) r31) 630 ((2 * f) + s) r32) 599 = M0 599 from funext (fun i => (((ju_c _ _ (by decide)).trans ((ju_c _ _ (by decide)).trans ((ju_c _ _ (by decide)).trans ((ju_c _ _ (by decide)).trans ((ju_c _ _ (by decide)).trans rfl)))))).trans (hF_M 599 i (nne rfl) (nne rfl) (nne rfl) (nne rfl) (nne rfl) (nne rfl) (nne rfl) (nne rfl) (nne rfl) (nne rfl) (nne rfl) (nne rfl) (nne rfl))))] at h9; rw [← h9])) hy1 (by omega) (by omega)
          · exact absurd (by omega) h126
        · have sx107 : (1 : Int) ≤ v29 := by omega
          clear h107
          refine jr.iconst rfl ?_
          refine jr.goto rfl rfl ?_
          refine jr.zast (i := ((2 * f) + s)) (x := 1) rfl (nlt rfl) rfl (Nat.le_of_ble_eq_true rfl) (by omega) (by omega) (j_zn (by omega)) ?_
          refine jr.aload_n rfl rfl ?_
          refine jr.getf (i := 46) (v := .ref 634) rfl rfl (nlt rfl) rfl (nlt rfl) rfl rfl rfl rfl ?_
          refine jr.iconst rfl ?_
          refine jr.iload_n rfl rfl ?_
          refine jr.imul rfl ?_
          refine jr.iload_n rfl rfl ?_
          refine jr.iadd rfl ?_
          refine jr.iload_n rfl rfl ?_
          refine jr.if_eq rfl rfl (by first | (refine rgb (by assumption) ?_; exact rfl) | omega) (fun h126 => ?_) (fun h126 => ?_)
          · refine jr.iconst rfl ?_
            refine jr.goto rfl rfl ?_
            refine jr.zast (i := ((2 * f) + s)) (x := 1) rfl (nlt rfl) rfl (Nat.le_of_ble_eq_true rfl) (by omega) (by omega) (j_zn (by omega)) ?_
            refine jr.aload_n rfl rfl ?_
            refine jr.getf (i := 43) (v := .ref 631) rfl rfl (nlt rfl) rfl (nlt rfl) rfl rfl rfl rfl ?_
            refine jr.iconst rfl ?_
            refine jr.iload_n rfl rfl ?_
            refine jr.imul rfl ?_
            refine jr.iload_n rfl rfl ?_
            refine jr.iadd rfl ?_
            refine jr.aload_n rfl rfl ?_
            refine jr.iload_n rfl rfl ?_
            refine jr.iconst rfl ?_
            refine jr.iadd rfl ?_
            refine jr.iconst rfl ?_
            refine jr.iload_n rfl rfl ?_
            refine jr.imul rfl ?_
            refine jr.iadd rfl ?_
            refine jr_v rfl rfl (Or.inl rfl) rfl rfl (nlt rfl) rfl ⟨rfl, Nat.le_of_ble_eq_true rfl, Nat.le_of_ble_eq_true rfl⟩ rfl (jc.deep (r_takenTwo_x (RI.u (RI.u hI_M (a := 632) (i := ((2 * f) + s)) (by rw [xri_row rfl rfl]; show (0 : Int) ≤ _ ∧ _ ≤ (1 : Int); omega)) (a := 634) (i := ((2 * f) + s)) (by rw [xri_row rfl rfl]; show (0 : Int) ≤ _ ∧ _ ≤ (1 : Int); omega)) (RH.o (RH.o hH_M (by decide) (by decide) (by decide)) (by decide) (by decide) (by decide)) (RF.o (RF.o hS_M (by decide) (by decide)) (by decide) (by decide))  (by omega)  (fun r35 z35 w35_0 => ?_)) (Nat.le_of_ble_eq_true rfl))
            refine jr.iast (i := ((2 * f) + s)) (x := r35) rfl (nlt rfl) rfl (Nat.le_of_ble_eq_true rfl) (by omega) (by omega) ?_
            refine jr.aload_n rfl rfl ?_
            refine jr.getf (i := 47) (v := .ref 635) rfl rfl (nlt rfl) rfl (nlt rfl) rfl rfl rfl rfl ?_
            refine jr.iconst rfl ?_
            refine jr.iload_n rfl rfl ?_
            refine jr.imul rfl ?_
            refine jr.iload_n rfl rfl ?_
            refine jr.iadd rfl ?_
            refine jr.aload_n rfl rfl ?_
            refine jr.iload_n rfl rfl ?_
            refine jr.bipush rfl (jbp _ (nlt rfl)) ?_
            refine jr.iadd rfl ?_
            refine jr.iconst rfl ?_
            refine jr.iload_n rfl rfl ?_
            refine jr.imul rfl ?_
            refine jr.iadd rfl ?_
            refine jr_v rfl rfl (Or.inl rfl) rfl rfl (nlt rfl) rfl ⟨rfl, Nat.le_of_ble_eq_true rfl, Nat.le_of_ble_eq_true rfl⟩ rfl (jc.deep (r_takenTwo_x (RI.u (RI.u (RI.u hI_M (a := 632) (i := ((2 * f) + s)) (by rw [xri_row rfl rfl]; show (0 : Int) ≤ _ ∧ _ ≤ (1 : Int); omega)) (a := 634) (i := ((2 * f) + s)) (by rw [xri_row rfl rfl]; show (0 : Int) ≤ _ ∧ _ ≤ (1 : Int); omega)) (a := 631) (i := ((2 * f) + s)) (by rw [xri_row rfl rfl]; show (0 : Int) ≤ _ ∧ _ ≤ (65535 : Int); omega)) (RH.o (RH.o (RH.o hH_M (by decide) (by decide) (by decide)) (by decide) (by decide) (by decide)) (by decide) (by decide) (by decide)) (RF.o (RF.o (RF.o hS_M (by decide) (by decide)) (by decide) (by decide)) (by decide) (by decide))  (by omega)  (fun r36 z36 w36_0 => ?_)) (Nat.le_of_ble_eq_true rfl))
            refine jr.iast (i := ((2 * f) + s)) (x := r36) rfl (nlt rfl) rfl (Nat.le_of_ble_eq_true rfl) (by omega) (by omega) ?_
            refine jr.aload_n rfl rfl ?_
            refine jr.getf (i := 42) (v := .ref 630) rfl rfl (nlt rfl) rfl (nlt rfl) rfl rfl rfl rfl ?_
            refine jr.iconst rfl ?_
            refine jr.iload_n rfl rfl ?_
            refine jr.imul rfl ?_
            refine jr.iload_n rfl rfl ?_
            refine jr.iadd rfl ?_
            refine jr.aload_n rfl rfl ?_
            refine jr.iload_n rfl rfl ?_
            refine jr.bipush rfl (jbp _ (nlt rfl)) ?_
            refine jr.iadd rfl ?_
            refine jr.bipush rfl (jbp _ (nlt rfl)) ?_
            refine jr.iload_n rfl rfl ?_
            refine jr.imul rfl ?_
            refine jr.iadd rfl ?_
            refine jr_v rfl rfl (Or.inl rfl) rfl rfl (nlt rfl) rfl ⟨rfl, Nat.le_of_ble_eq_true rfl, Nat.le_of_ble_eq_true rfl⟩ rfl (jc.deep (r_takenEight_x (RI.u (RI.u (RI.u (RI.u hI_M (a := 632) (i := ((2 * f) + s)) (by rw [xri_row rfl rfl]; show (0 : Int) ≤ _ ∧ _ ≤ (1 : Int); omega)) (a := 634) (i := ((2 * f) + s)) (by rw [xri_row rfl rfl]; show (0 : Int) ≤ _ ∧ _ ≤ (1 : Int); omega)) (a := 631) (i := ((2 * f) + s)) (by rw [xri_row rfl rfl]; show (0 : Int) ≤ _ ∧ _ ≤ (65535 : Int); omega)) (a := 635) (i := ((2 * f) + s)) (by rw [xri_row rfl rfl]; show (0 : Int) ≤ _ ∧ _ ≤ (65535 : Int); omega)) (RH.o (RH.o (RH.o (RH.o hH_M (by decide) (by decide) (by decide)) (by decide) (by decide) (by decide)) (by decide) (by decide) (by decide)) (by decide) (by decide) (by decide)) (RF.o (RF.o (RF.o (RF.o hS_M (by decide) (by decide)) (by decide) (by decide)) (by decide) (by decide)) (by decide) (by decide))  (by omega)  (fun r37 z37 w37_0 => ?_)) (Nat.le_of_ble_eq_true rfl))
            refine jr.last (i := ((2 * f) + s)) (x := r37) rfl (nlt rfl) rfl (Nat.le_of_ble_eq_true rfl) (by omega) (by omega) ?_
            refine jr.aload_n rfl rfl ?_
            refine jr.getf (i := 45) (v := .ref 633) rfl rfl (nlt rfl) rfl (nlt rfl) rfl rfl rfl rfl ?_
            refine jr.iconst rfl ?_
            refine jr.iload_n rfl rfl ?_
            refine jr.imul rfl ?_
            refine jr.iload_n rfl rfl ?_
            refine jr.iadd rfl ?_
            refine jr.aload_n rfl rfl ?_
            refine jr.iload_n rfl rfl ?_
            refine jr.bipush rfl (jbp _ (nlt rfl)) ?_
            refine jr.iadd rfl ?_
            refine jr.iconst rfl ?_
            refine jr.iload_n rfl rfl ?_
            refine jr.imul rfl ?_
            refine jr.iadd rfl ?_
            refine jr_v rfl rfl (Or.inl rfl) rfl rfl (nlt rfl) rfl ⟨rfl, Nat.le_of_ble_eq_true rfl, Nat.le_of_ble_eq_true rfl⟩ rfl (jc.deep (r_takenFour_x (RI.u (RI.u (RI.u (RI.u (RI.u hI_M (a := 632) (i := ((2 * f) + s)) (by rw [xri_row rfl rfl]; show (0 : Int) ≤ _ ∧ _ ≤ (1 : Int); omega)) (a := 634) (i := ((2 * f) + s)) (by rw [xri_row rfl rfl]; show (0 : Int) ≤ _ ∧ _ ≤ (1 : Int); omega)) (a := 631) (i := ((2 * f) + s)) (by rw [xri_row rfl rfl]; show (0 : Int) ≤ _ ∧ _ ≤ (65535 : Int); omega)) (a := 635) (i := ((2 * f) + s)) (by rw [xri_row rfl rfl]; show (0 : Int) ≤ _ ∧ _ ≤ (65535 : Int); omega)) (a := 630) (i := ((2 * f) + s)) (by rw [xri_row rfl rfl]; show (-9223372036854775808 : Int) ≤ _ ∧ _ ≤ (9223372036854775807 : Int); omega)) (RH.o (RH.o (RH.o (RH.o (RH.o hH_M (by decide) (by decide) (by decide)) (by decide) (by decide) (by decide)) (by decide) (by decide) (by decide)) (by decide) (by decide) (by decide)) (by decide) (by decide) (by decide)) (RF.o (RF.o (RF.o (RF.o (RF.o hS_M (by decide) (by decide)) (by decide) (by decide)) (by decide) (by decide)) (by decide) (by decide)) (by decide) (by decide))  (by omega)  (fun r38 z38 w38_0 => ?_)) (Nat.le_of_ble_eq_true rfl))
            refine jr.l2i rfl ?_
            refine jr.iw (j_w r38) (j_w_eq _) ?_
            have b39 : -2147483648 ≤ j_w r38 ∧ j_w r38 ≤ 2147483647 := jb_any _
            refine jr.iast (i := ((2 * f) + s)) (x := (j_w r38)) rfl (nlt rfl) rfl (Nat.le_of_ble_eq_true rfl) (by omega) (by omega) ?_
            refine jr.iinc (ls' := [_, _, _, _]) rfl rfl (nlt rfl) rfl ?_
            refine jr.goto rfl rfl ?_
            refine jr.pick (ls := [_, _, _, _]) [0, 1, 2, 3] rfl rfl ?_
            exact ih (nM - 1) (by omega) (ju (ju (ju (ju (ju (ju M 632 ((2 * f) + s) 1) 634 ((2 * f) + s) 1) 631 ((2 * f) + s) r35) 635 ((2 * f) + s) r36) 630 ((2 * f) + s) r37) 633 ((2 * f) + s) (j_w r38)) (s + 1) f (RI.u (RI.u (RI.u (RI.u (RI.u (RI.u hI_M (a := 632) (i := ((2 * f) + s)) (by rw [xri_row rfl rfl]; show (0 : Int) ≤ _ ∧ _ ≤ (1 : Int); omega)) (a := 634) (i := ((2 * f) + s)) (by rw [xri_row rfl rfl]; show (0 : Int) ≤ _ ∧ _ ≤ (1 : Int); omega)) (a := 631) (i := ((2 * f) + s)) (by rw [xri_row rfl rfl]; show (0 : Int) ≤ _ ∧ _ ≤ (65535 : Int); omega)) (a := 635) (i := ((2 * f) + s)) (by rw [xri_row rfl rfl]; show (0 : Int) ≤ _ ∧ _ ≤ (65535 : Int); omega)) (a := 630) (i := ((2 * f) + s)) (by rw [xri_row rfl rfl]; show (-9223372036854775808 : Int) ≤ _ ∧ _ ≤ (9223372036854775807 : Int); omega)) (a := 633) (i := ((2 * f) + s)) (by rw [xri_row rfl rfl]; show (-2147483648 : Int) ≤ _ ∧ _ ≤ (2147483647 : Int); omega)) (RH.o (RH.o (RH.o (RH.o (RH.o (RH.o hH_M (by decide) (by decide) (by decide)) (by decide) (by decide) (by decide)) (by decide) (by decide) (by decide)) (by decide) (by decide) (by decide)) (by decide) (by decide) (by decide)) (by decide) (by decide) (by decide)) (RF.o (RF.o (RF.o (RF.o (RF.o (RF.o hS_M (by decide) (by decide)) (by decide) (by decide)) (by decide) (by decide)) (by decide) (by decide)) (by decide) (by decide)) (by decide) (by decide))  (fun a i f628 f629 f630 f631 f632 f633 f634 f635 f636 f637 f638 f639 f640 => ((ju_c _ _ f633).trans ((ju_c _ _ f630).trans ((ju_c _ _ f635).trans ((ju_c _ _ f631).trans ((ju_c _ _ f634).trans ((ju_c _ _ f632).trans (hF_M a i f628 f629 f630 f631 f632 f633 f634 f635 f636 f637 f638 f639 f640)))))))) (by omega) (by omega) (RP6.s hy0 (by omega) (by unfold tHl; rw [(show M0 599 ((48 * f) + 1) = v5 from (hF_M 599 ((48 * f) + 1) (by decide) (by decide) (by decide) (by decide) (by decide) (by decide) (by decide) (by decide) (by decide) (by decide) (by decide) (by decide) (by decide)).symm.trans e5)]; first | (rw [if_pos (by omega)]; omega) | (rw [if_neg (by omega)]; omega)) (by rw [(show M0 599 ((48 * f) + 1) = v5 from (hF_M 599 ((48 * f) + 1) (by decide) (by decide) (by decide) (by decide) (by decide) (by decide) (by decide) (by decide) (by decide) (by decide) (by decide) (by decide) (by decide)).symm.trans e5)]; first | (rw [if_pos (by omega)]) | (rw [if_neg (by omega)]; omega)) (by unfold tPt; have h9 := w35_0; rw [(show (ju (ju M 632 ((2 * f) + s) 1) 634 ((2 * f) + s) 1) 599 = M0 599 from funext (fun i => (((ju_c _ _ (by decide)).trans ((ju_c _ _ (by decide)).trans rfl))).trans (hF_M 599 i (nne rfl) (nne rfl) (nne rfl) (nne rfl) (nne rfl) (nne rfl) (nne rfl) (nne rfl) (nne rfl) (nne rfl) (nne rfl) (nne rfl) (nne rfl))))] at h9; exact h9) (by unfold tWn; have h9 := w36_0; rw [(show (ju (ju (ju M 632 ((2 * f) + s) 1) 634 ((2 * f) + s) 1) 631 ((2 * f) + s) r35) 599 = M0 599 from funext (fun i => (((ju_c _ _ (by decide)).trans ((ju_c _ _ (by decide)).trans ((ju_c _ _ (by decide)).trans rfl)))).trans (hF_M 599 i (nne rfl) (nne rfl) (nne rfl) (nne rfl) (nne rfl) (nne rfl) (nne rfl) (nne rfl) (nne rfl) (nne rfl) (nne rfl) (nne rfl) (nne rfl))))] at h9; exact h9) (by unfold tAd; have h9 := w37_0; rw [(show (ju (ju (ju (ju M 632 ((2 * f) + s) 1) 634 ((2 * f) + s) 1) 631 ((2 * f) + s) r35) 635 ((2 * f) + s) r36) 599 = M0 599 from funext (fun i => (((ju_c _ _ (by decide)).trans ((ju_c _ _ (by decide)).trans ((ju_c _ _ (by decide)).trans ((ju_c _ _ (by decide)).trans rfl))))).trans (hF_M 599 i (nne rfl) (nne rfl) (nne rfl) (nne rfl) (nne rfl) (nne rfl) (nne rfl) (nne rfl) (nne rfl) (nne rfl) (nne rfl) (nne rfl) (nne rfl))))] at h9; exact h9) (by have h9 := w38_0; rw [(show (ju (ju (ju (ju (ju M 632 ((2 * f) + s) 1) 634 ((2 * f) + s) 1) 631 ((2 * f) + s) r35) 635 ((2 * f) + s) r36) 630 ((2 * f) + s) r37) 599 = M0 599 from funext (fun i => (((ju_c _ _ (by decide)).trans ((ju_c _ _ (by decide)).trans ((ju_c _ _ (by decide)).trans ((ju_c _ _ (by decide)).trans ((ju_c _ _ (by decide)).trans rfl)))))).trans (hF_M 599 i (nne rfl) (nne rfl) (nne rfl) (nne rfl) (nne rfl) (nne rfl) (nne rfl) (nne rfl) (nne rfl) (nne rfl) (nne rfl) (nne rfl) (nne rfl))))] at h9; rw [← h9])) hy1 (by omega) (by omega)
          · exact absurd (by omega) h126
theorem r_takeRow_x {A : Nat → Option (Nat × (Nat → Int32))} {Q : Option Value → jm → Prop} {M : jm} (hI_M : RI M) (hH_M : RH M) (hS_M : RF M) {f : Int} (h_f : 0 ≤ f ∧ f ≤ 23) (p0 : (M 599 (48 * f) = 6 → 1 ≤ M 599 (48 * f + 1) % 16 ∧ M 599 (48 * f + 1) % 16 ≤ 10)) (p1 : (1 ≤ nbs (M 599) (48 * f + 34) 4 ∧ nbs (M 599) (48 * f + 34) 4 ≤ 200)) (q : ∀ (M' : jm), RI M' → RH M' → RF M' → (RR6 M' f (M 599) (48 * f) (M 598 2) ∧ O6 M M' f) → (∀ (a : Nat) (i : Int), a ≠ 628 → a ≠ 629 → a ≠ 630 → a ≠ 631 → a ≠ 632 → a ≠ 633 → a ≠ 634 → a ≠ 635 → a ≠ 636 → a ≠ 637 → a ≠ 638 → a ≠ 639 → a ≠ 640 → M' a i = M a i) → Q none M') : jc A 4 333 [.ref (598), .int (Int32.ofInt (f))] M Q := by
  refine jc_of (m := xm_333) rfl (Nat.le_of_ble_eq_true rfl) rfl ?_
  refine jr.bipush rfl (jbp _ (nlt rfl)) ?_
  refine jr.iload_n rfl rfl ?_
  refine jr.imul rfl ?_
  refine jr.istore_n (ls' := [_, _, _]) rfl (nlt rfl) rfl ?_
  refine jr.aload_n rfl rfl ?_
  refine jr.iload_n rfl rfl ?_
  refine jr_v rfl rfl (Or.inl rfl) rfl rfl (nlt rfl) rfl ⟨rfl, Nat.le_of_ble_eq_true rfl, Nat.le_of_ble_eq_true rfl⟩ rfl (jc.deep (r_forget_x hI_M hH_M  (by omega)  (fun M1 hI_M1 hH_M1  w1_0 w1_1 => ?_)) (Nat.le_of_ble_eq_true rfl))
  refine jr.aload_n rfl rfl ?_
  refine jr.getf (i := 52) (v := .ref 640) rfl rfl (nlt rfl) rfl (nlt rfl) rfl rfl rfl rfl ?_
  refine jr.iload_n rfl rfl ?_
  refine jr.iconst rfl ?_
  refine jr.iast (i := f) (x := (-1)) rfl (nlt rfl) rfl (Nat.le_of_ble_eq_true rfl) (by omega) (by omega) ?_
  refine jr.aload_n rfl rfl ?_
  refine jr.getf (i := 41) (v := .ref 629) rfl rfl (nlt rfl) rfl (nlt rfl) rfl rfl rfl rfl ?_
  refine jr.iload_n rfl rfl ?_
  refine jr.aload_n rfl rfl ?_
  refine jr.getf (i := 0) (v := .ref 599) rfl rfl (nlt rfl) rfl (nlt rfl) rfl rfl rfl rfl ?_
  refine jr.iload_n rfl rfl ?_
  obtain ⟨v2, e2⟩ : ∃ z, M 599 (48 * f) = z := ⟨_, rfl⟩
  have b2 : 0 ≤ v2 ∧ v2 ≤ 255 := by rw [← e2]; exact (by have q := hI_M 599 (48 * f) (Nat.le_of_ble_eq_true rfl); rw [xri_row rfl rfl] at q; exact q)
  have e3 : M1 599 (48 * f) = v2 := ((w1_1 599 (48 * f) (nne rfl) (nne rfl) (nne rfl) (nne rfl) (nne rfl) (nne rfl)).trans e2)
  refine jr.iald (i := (48 * f)) (x := v2) rfl (nlt rfl) rfl (Nat.le_of_ble_eq_true rfl) (by omega) (by omega) ((ju_c _ _ (by decide)).trans e3) ?_
  refine jr.iast (i := f) (x := v2) rfl (nlt rfl) rfl (Nat.le_of_ble_eq_true rfl) (by omega) (by omega) ?_
  refine jr.aload_n rfl rfl ?_
  refine jr.getf (i := 50) (v := .ref 638) rfl rfl (nlt rfl) rfl (nlt rfl) rfl rfl rfl rfl ?_
  refine jr.iload_n rfl rfl ?_
  refine jr.aload_n rfl rfl ?_
  refine jr.getf (i := 0) (v := .ref 599) rfl rfl (nlt rfl) rfl (nlt rfl) rfl rfl rfl rfl ?_
  refine jr.iload_n rfl rfl ?_
  refine jr.iconst rfl ?_
  refine jr.iadd rfl ?_
  obtain ⟨v4, e4⟩ : ∃ z, M 599 ((48 * f) + 1) = z := ⟨_, rfl⟩
  have b4 : 0 ≤ v4 ∧ v4 ≤ 255 := by rw [← e4]; exact (by have q := hI_M 599 ((48 * f) + 1) (by decide); rw [xri_row rfl rfl] at q; exact q)
  have e5 : M1 599 ((48 * f) + 1) = v4 := ((w1_1 599 ((48 * f) + 1) (by decide) (by decide) (by decide) (by decide) (by decide) (by decide)).trans e4)
  refine jr.iald (i := ((48 * f) + 1)) (x := v4) rfl (nlt rfl) rfl (Nat.le_of_ble_eq_true rfl) (by omega) (by omega) ((ju_c _ _ (by decide)).trans ((ju_c _ _ (by decide)).trans e5)) ?_
  refine jr.bipush rfl (jbp _ (nlt rfl)) ?_
  refine jr.iand rfl ?_
  have b6 : j_and v4 15 = v4 % 16 := j_and_mask 4 (by decide) (by omega) (by omega)
  generalize j_and v4 15 = v6 at b6 ⊢
  refine jr.iast (i := f) (x := v6) rfl (nlt rfl) rfl (Nat.le_of_ble_eq_true rfl) (by omega) (by omega) ?_
  refine jr.aload_n rfl rfl ?_
  refine jr.getf (i := 40) (v := .ref 628) rfl rfl (nlt rfl) rfl (nlt rfl) rfl rfl rfl rfl ?_
  refine jr.iload_n rfl rfl ?_
  refine jr.aload_n rfl rfl ?_
  refine jr.getf (i := 0) (v := .ref 599) rfl rfl (nlt rfl) rfl (nlt rfl) rfl rfl rfl rfl ?_
  refine jr.iload_n rfl rfl ?_
  refine jr.iconst rfl ?_
  refine jr.iadd rfl ?_
  refine jr.iald (i := ((48 * f) + 1)) (x := v4) rfl (nlt rfl) rfl (Nat.le_of_ble_eq_true rfl) (by omega) (by omega) ((ju_c _ _ (by decide)).trans ((ju_c _ _ (by decide)).trans ((ju_c _ _ (by decide)).trans e5))) ?_
  refine jr.bipush rfl (jbp _ (nlt rfl)) ?_
  refine jr.iand rfl ?_
  have b7 : j_and v4 16 = v4 / 16 % 2 * 16 ∧ 0 ≤ j_and v4 16 ∧ j_and v4 16 ≤ 16 := ⟨(jbt (by omega)).2.2.2, by rw [(jbt (by omega)).2.2.2]; omega⟩
  generalize j_and v4 16 = v7 at b7 ⊢
  refine jr.if_eq rfl rfl (by first | (refine rgb (by assumption) ?_; exact rfl) | omega) (fun h62 => ?_) (fun h62 => ?_)
  · refine jr.iconst rfl ?_
    refine jr.zast (i := f) (x := 0) rfl (nlt rfl) rfl (Nat.le_of_ble_eq_true rfl) (by omega) (by omega) (j_zn (by omega)) ?_
    refine jr.iconst rfl ?_
    refine jr.istore_n (ls' := [_, _, _, _]) rfl (nlt rfl) rfl ?_
    refine jr.pick (ls := [_, _, _, _]) [0, 3, 1, 2] rfl rfl ?_
    exact r_takeRow_L73_x q 2 (ju (ju (ju (ju M1 640 f (-1)) 629 f v2) 638 f v6) 628 f 0) 0 f (RI.u (RI.u (RI.u (RI.u hI_M1 (a := 640) (i := f) (by rw [xri_row rfl rfl]; show (-1 : Int) ≤ _ ∧ _ ≤ (3 : Int); omega)) (a := 629) (i := f) (by rw [xri_row rfl rfl]; show (0 : Int) ≤ _ ∧ _ ≤ (255 : Int); omega)) (a := 638) (i := f) (by rw [xri_row rfl rfl]; show (0 : Int) ≤ _ ∧ _ ≤ (15 : Int); omega)) (a := 628) (i := f) (by rw [xri_row rfl rfl]; show (0 : Int) ≤ _ ∧ _ ≤ (1 : Int); omega)) (RH.o (RH.o (RH.o (RH.o hH_M1 (by decide) (by decide) (by decide)) (by decide) (by decide) (by decide)) (by decide) (by decide) (by decide)) (by decide) (by decide) (by decide)) (RF.o (RFx.w (RF.x (RF.o (RF.fr hS_M (fun f => w1_1 629 f (nne rfl) (nne rfl) (nne rfl) (nne rfl) (nne rfl) (nne rfl)) (fun f => w1_1 638 f (nne rfl) (nne rfl) (nne rfl) (nne rfl) (nne rfl) (nne rfl))) (by decide) (by decide))) (fun q => by rw [(ju_same _ _ _ _)] at q; omega)) (by decide) (by decide))  (fun a i f628 f629 f630 f631 f632 f633 f634 f635 f636 f637 f638 f639 f640 => ((ju_c _ _ f628).trans ((ju_c _ _ f638).trans ((ju_c _ _ f629).trans ((ju_c _ _ f640).trans ((w1_1 a i f632 f633 f634 f635 f636 f637).trans rfl)))))) (by omega) (by omega) (RP6.z w1_0 w1_1 (by rw [e2]) (by rw [e4]; omega) (by rw [e4]; omega)) p1 (by omega) (by omega)
  · have sx62 : (1 : Int) ≤ v7 := by omega
    clear h62
    refine jr.iconst rfl ?_
    refine jr.goto rfl rfl ?_
    refine jr.zast (i := f) (x := 1) rfl (nlt rfl) rfl (Nat.le_of_ble_eq_true rfl) (by omega) (by omega) (j_zn (by omega)) ?_
    refine jr.iconst rfl ?_
    refine jr.istore_n (ls' := [_, _, _, _]) rfl (nlt rfl) rfl ?_
    refine jr.pick (ls := [_, _, _, _]) [0, 3, 1, 2] rfl rfl ?_
    exact r_takeRow_L73_x q 2 (ju (ju (ju (ju M1 640 f (-1)) 629 f v2) 638 f v6) 628 f 1) 0 f (RI.u (RI.u (RI.u (RI.u hI_M1 (a := 640) (i := f) (by rw [xri_row rfl rfl]; show (-1 : Int) ≤ _ ∧ _ ≤ (3 : Int); omega)) (a := 629) (i := f) (by rw [xri_row rfl rfl]; show (0 : Int) ≤ _ ∧ _ ≤ (255 : Int); omega)) (a := 638) (i := f) (by rw [xri_row rfl rfl]; show (0 : Int) ≤ _ ∧ _ ≤ (15 : Int); omega)) (a := 628) (i := f) (by rw [xri_row rfl rfl]; show (0 : Int) ≤ _ ∧ _ ≤ (1 : Int); omega)) (RH.o (RH.o (RH.o (RH.o hH_M1 (by decide) (by decide) (by decide)) (by decide) (by decide) (by decide)) (by decide) (by decide) (by decide)) (by decide) (by decide) (by decide)) (RF.o (RFx.w (RF.x (RF.o (RF.fr hS_M (fun f => w1_1 629 f (nne rfl) (nne rfl) (nne rfl) (nne rfl) (nne rfl) (nne rfl)) (fun f => w1_1 638 f (nne rfl) (nne rfl) (nne rfl) (nne rfl) (nne rfl) (nne rfl))) (by decide) (by decide))) (fun q => by rw [(ju_same _ _ _ _)] at q; omega)) (by decide) (by decide))  (fun a i f628 f629 f630 f631 f632 f633 f634 f635 f636 f637 f638 f639 f640 => ((ju_c _ _ f628).trans ((ju_c _ _ f638).trans ((ju_c _ _ f629).trans ((ju_c _ _ f640).trans ((w1_1 a i f632 f633 f634 f635 f636 f637).trans rfl)))))) (by omega) (by omega) (RP6.z w1_0 w1_1 (by rw [e2]) (by rw [e4]; omega) (by rw [e4]; omega)) p1 (by omega) (by omega)
theorem okR.w {f : Int → Int} {n : Int} {k : Int} (h : okR f n k) : 48 * k + 48 ≤ n ∧ k ≤ 23 ∧ (f (48 * k) = 6 → 1 ≤ f (48 * k + 1) % 16 ∧ f (48 * k + 1) % 16 ≤ 10) := by
  refine ⟨h.1.1, by have := h.1.2; omega, fun e => ?_⟩
  have q := h.2.1.2.1
  unfold stOK at q
  omega
noncomputable def TB6 (T M : jm) (n w f : Int) : Prop := ∀ j : Int, 0 ≤ j → j < f → (j < w → M 627 j = 1 ∧ RR6 M j (T 599) (48 * j) (T 598 2)) ∧ (w ≤ j → M 627 j = 0)
theorem RR6.fr {T M : jm} {f k y Z : Int} {g : Int → Int} (h : RR6 T f g y Z) (o : O6 T M k) (hk : f ≠ k) : RR6 M f g y Z := by
  obtain ⟨h1, h2, h3⟩ := h
  have a : ∀ b : Nat, (b = 628 ∨ b = 629 ∨ b = 638 ∨ b = 639 ∨ b = 640) → M b f = T b f := fun b hb => o.1 b f hk hb
  have c : ∀ (b : Nat) (s : Int), 0 ≤ s → s < 2 → (630 ≤ b ∧ b ≤ 637) → M b (2 * f + s) = T b (2 * f + s) := fun b s s0 s1 hb => o.2 b _ (by omega) hb
  have c0 : ∀ b : Nat, (630 ≤ b ∧ b ≤ 637) → M b (2 * f) = T b (2 * f) := fun b hb => o.2 b _ (by omega) hb
  have c1 : ∀ b : Nat, (630 ≤ b ∧ b ≤ 637) → M b (2 * f + 1) = T b (2 * f + 1) := fun b hb => o.2 b _ (by omega) hb
  refine ⟨?_, fun j j0 j1 => ?_, ?_⟩
  · unfold H6 at h1 ⊢
    rw [a 640 (by decide), a 629 (by decide), a 638 (by decide), a 628 (by decide)]
    exact h1
  · have z := h2 j j0 j1
    unfold S6 at z ⊢
    rw [c 632 j j0 j1 (by decide), c 634 j j0 j1 (by decide), c 631 j j0 j1 (by decide), c 635 j j0 j1 (by decide), c 630 j j0 j1 (by decide), c 633 j j0 j1 (by decide)]
    exact z
  · rw [a 639 (by decide), c0 636 (by decide), c1 636 (by decide), c0 637 (by decide), c1 637 (by decide)]
    exact h3
theorem O6.c7 {M : jm} {f v : Int} (k : Int) : O6 M (ju M 627 f v) k := ⟨fun b j hj hb => ju_c _ _ (by omega), fun b j hj hb => ju_c _ _ (by omega)⟩
theorem TB6.n {T M : jm} {n w f : Int} (h : TB6 T M n w f) (hf : w ≤ f) : TB6 T (ju M 627 f 0) n w (f + 1) := fun j j0 j1 => by
  by_cases e : j = f
  · subst e
    exact ⟨fun u => absurd u (by omega), fun _ => ju_same _ _ _ _⟩
  · have q := h j j0 (by omega)
    rw [ju_i _ _ e]
    exact ⟨fun u => ⟨(q.1 u).1, (q.1 u).2.fr (O6.c7 (j + 1)) (by omega)⟩, q.2⟩
theorem TB6.s {T M M2 : jm} {n w f : Int} (h : TB6 T M n w f) (hf : f < w) (hr : RR6 M2 f ((ju M 627 f 1) 599) (48 * f) ((ju M 627 f 1) 598 2)) (o : O6 (ju M 627 f 1) M2 f) (e7 : ∀ i : Int, M2 627 i = (ju M 627 f 1) 627 i) (e5 : ∀ i : Int, M 599 i = T 599 i) (e2 : M 598 2 = T 598 2) : TB6 T M2 n w (f + 1) := fun j j0 j1 => by
  rw [e7]
  have t5 : (ju M 627 f 1) 599 = T 599 := funext (fun i => (ju_c _ _ (by decide)).trans (e5 i))
  have t2 : (ju M 627 f 1) 598 2 = T 598 2 := (ju_c _ _ (by decide)).trans e2
  rw [t5, t2] at hr
  by_cases e : j = f
  · subst e
    exact ⟨fun _ => ⟨ju_same _ _ _ _, hr⟩, fun u => absurd u (by omega)⟩
  · have q := h j j0 (by omega)
    rw [ju_i _ _ e]
    exact ⟨fun u => ⟨(q.1 u).1, ((q.1 u).2.fr (O6.c7 (j + 1)) (by omega)).fr o e⟩, q.2⟩
/-- what restore of the reference leaves behind -/
noncomputable def RS6 (T M : jm) (r : Int) : Prop := RTR (T 599) (T 598 1) r ∧ M 598 1 = 0 ∧ ((r < 0 ∧ SFl T M) ∨ ((0 ≤ r ∧ r ≤ 24) ∧ (∀ k : Int, 0 ≤ k → k < r → okR (T 599) (T 598 1) k) ∧ TB6 T M (T 598 1) r 24))
theorem RS6.m {T M : jm} {j : Int} (h0 : 0 ≤ j) (h1 : j < (T 598 1 + 47) / 48) (h2 : ∀ k : Int, 0 ≤ k → k < j → okR (T 599) (T 598 1) k) (h3 : ¬ okR (T 599) (T 598 1) j) (e : M 598 1 = 0) (s : SFl T M) : RS6 T M (-10 - j) := ⟨Or.inl ⟨j, ⟨h0, h1⟩, h2, h3, rfl⟩, e, Or.inl ⟨by omega, s⟩⟩
theorem okR.all {f : Int → Int} {n k : Int} (h : ∀ j : Int, 0 ≤ j → j < k → okR f n j) : k ≤ 24 := by
  by_cases q : k ≤ 0
  · omega
  · have := (h (k - 1) (by omega) (by omega)).1.2
    omega
theorem r_restore_L47_x {A : Nat → Option (Nat × (Nat → Int32))} {Q : Option Value → jm → Prop} {M0 : jm} (q : ∀ (r : Int) (M' : jm), RI M' → RH M' → RF M' → (-60) ≤ r ∧ r ≤ 24 → RS6 M0 M' r → (∀ (a : Nat) (i : Int), a ≠ 598 → a ≠ 627 → a ≠ 628 → a ≠ 629 → a ≠ 630 → a ≠ 631 → a ≠ 632 → a ≠ 633 → a ≠ 634 → a ≠ 635 → a ≠ 636 → a ≠ 637 → a ≠ 638 → a ≠ 639 → a ≠ 640 → M' a i = M0 a i) → (∀ (i : Int), i ≠ 1 → M' 598 i = M0 598 i) → Q (some (.int (Int32.ofInt r))) M') : ∀ (nM : Nat) (M : jm) (f : Int) (w : Int) (n : Int), RI M → RH M → RF M → (∀ (a : Nat) (i : Int), a ≠ 598 → a ≠ 627 → a ≠ 628 → a ≠ 629 → a ≠ 630 → a ≠ 631 → a ≠ 632 → a ≠ 633 → a ≠ 634 → a ≠ 635 → a ≠ 636 → a ≠ 637 → a ≠ 638 → a ≠ 639 → a ≠ 640 → M a i = M0 a i) → (∀ (i : Int), i ≠ 1 → M 598 i = M0 598 i) → 0 ≤ f ∧ f ≤ 24 → 0 ≤ w ∧ w ≤ 24 → 0 ≤ n ∧ n ≤ 1600 → TB6 M0 M n w f → (∀ j : Int, 0 ≤ j → j < w → okR (M0 599) n j) → M 598 1 = 0 → w = (n + 47) / 48 → n = M0 598 1 → 24 - f ≤ nM → jr A 5 xm_332 47 [(3, .int (Int32.ofInt (f))), (2, .int (Int32.ofInt (w))), (1, .int (Int32.ofInt (n))), (0, .ref (598))] [] M Q := by
  intro nM
  induction nM using Nat.strongRecOn with
  | ind nM ih =>
    intro M f w n hI_M hH_M hS_M hF_M hG_M h_f h_w h_n hy0 hy1 hy2 hy3 hy4 hm
    refine jr.iload_n rfl rfl ?_
    refine jr.bipush rfl (jbp _ (nlt rfl)) ?_
    refine jr.icmp_ge rfl rfl (by first | (refine rgb (by assumption) ?_; exact rfl) | omega) (rgl rfl) (fun h50 => ?_) (fun h50 => ?_)
    · refine jr.iload_n rfl rfl ?_
      obtain ⟨v1, e1⟩ : ∃ z, M 598 1 = z := ⟨_, rfl⟩
      have b1 : 0 ≤ v1 ∧ v1 ≤ 1600 := by rw [← e1]; exact hI_M 598 1 (Nat.le_of_ble_eq_true rfl)
      exact jr.ireturn rfl rfl rfl (q _ _ hI_M hH_M hS_M  (by omega) (by have h9 := hy0; rw [show f = 24 from by omega] at h9; exact ⟨Or.inr ⟨by rw [← hy4, ← hy3]; exact hy1, by rw [← hy4]; omega⟩, hy2, Or.inr ⟨by omega, by rw [← hy4]; exact hy1, by rw [← hy4]; exact h9⟩⟩) (fun a i f598 f627 f628 f629 f630 f631 f632 f633 f634 f635 f636 f637 f638 f639 f640 => (hF_M a i f598 f627 f628 f629 f630 f631 f632 f633 f634 f635 f636 f637 f638 f639 f640)) (fun i g1 => (hG_M i g1)))
    · refine jr.aload_n rfl rfl ?_
      refine jr.getf (i := 39) (v := .ref 627) rfl rfl (nlt rfl) rfl (nlt rfl) rfl rfl rfl rfl ?_
      refine jr.iload_n rfl rfl ?_
      refine jr.iload_n rfl rfl ?_
      refine jr.iload_n rfl rfl ?_
      refine jr.icmp_ge rfl rfl (by first | (refine rgb (by assumption) ?_; exact rfl) | omega) (by first | (refine rgb (by assumption) ?_; exact rfl) | omega) (fun h60 => ?_) (fun h60 => ?_)
      · refine jr.iconst rfl ?_
        refine jr.zast (i := f) (x := 0) rfl (nlt rfl) rfl (Nat.le_of_ble_eq_true rfl) (by omega) (by omega) (j_zn (by omega)) ?_
        refine jr.iload_n rfl rfl ?_
        refine jr.iload_n rfl rfl ?_
        refine jr.icmp_ge rfl rfl (by first | (refine rgb (by assumption) ?_; exact rfl) | omega) (by first | (refine rgb (by assumption) ?_; exact rfl) | omega) (fun h71 => ?_) (fun h71 => ?_)
        · refine jr.iinc (ls' := [_, _, _, _]) rfl rfl (nlt rfl) rfl ?_
          refine jr.goto rfl rfl ?_
          obtain ⟨v2, e2⟩ : ∃ z, M 598 1 = z := ⟨_, rfl⟩
          have b2 : 0 ≤ v2 ∧ v2 ≤ 1600 := by rw [← e2]; exact hI_M 598 1 (Nat.le_of_ble_eq_true rfl)
          refine jr.pick (ls := [_, _, _, _]) [0, 1, 2, 3] rfl rfl ?_
          exact ih (nM - 1) (by omega) (ju M 627 f 0) (f + 1) w n (RI.u hI_M (a := 627) (i := f) (by rw [xri_row rfl rfl]; show (0 : Int) ≤ _ ∧ _ ≤ (1 : Int); omega)) (RH.o hH_M (by decide) (by decide) (by decide)) (RF.o hS_M (by decide) (by decide))  (fun a i f598 f627 f628 f629 f630 f631 f632 f633 f634 f635 f636 f637 f638 f639 f640 => ((ju_c _ _ f627).trans (hF_M a i f598 f627 f628 f629 f630 f631 f632 f633 f634 f635 f636 f637 f638 f639 f640))) (fun i g1 => ((ju_c _ _ (by decide)).trans (hG_M i g1))) (by omega) (by omega) (by omega) (TB6.n hy0 (by omega)) hy1 ((((ju_c _ _ (by decide)).trans e2)).trans (by omega)) (by omega) hy4 (by omega)
        · refine jr.aload_n rfl rfl ?_
          refine jr.iload_n rfl rfl ?_
          refine jr_v rfl rfl (Or.inl rfl) rfl rfl (nlt rfl) rfl ⟨rfl, Nat.le_of_ble_eq_true rfl, Nat.le_of_ble_eq_true rfl⟩ rfl (jc.deep (r_takeRow_x (RI.u hI_M (a := 627) (i := f) (by rw [xri_row rfl rfl]; show (0 : Int) ≤ _ ∧ _ ≤ (1 : Int); omega)) (RH.o hH_M (by decide) (by decide) (by decide)) (RF.o hS_M (by decide) (by decide))  (by omega) (by have h9 := (hy1 f (by omega) (by omega)).w; have e5 : ((ju M 627 f 0)) 599 = M0 599 := funext (fun i => (ju_c _ _ (by decide)).trans (hF_M 599 i (nne rfl) (nne rfl) (nne rfl) (nne rfl) (nne rfl) (nne rfl) (nne rfl) (nne rfl) (nne rfl) (nne rfl) (nne rfl) (nne rfl) (nne rfl) (nne rfl) (nne rfl))); rw [e5]; exact h9.2.2) (by have h9 := (hy1 f (by omega) (by omega)).2.1.2.2.2; have e5 : ((ju M 627 f 0)) 599 = M0 599 := funext (fun i => (ju_c _ _ (by decide)).trans (hF_M 599 i (nne rfl) (nne rfl) (nne rfl) (nne rfl) (nne rfl) (nne rfl) (nne rfl) (nne rfl) (nne rfl) (nne rfl) (nne rfl) (nne rfl) (nne rfl) (nne rfl) (nne rfl))); rw [e5]; exact h9) (fun M3 hI_M3 hH_M3 hS_M3  w3_0 w3_1 => ?_)) (Nat.le_of_ble_eq_true rfl))
          refine jr.iinc (ls' := [_, _, _, _]) rfl rfl (nlt rfl) rfl ?_
          refine jr.goto rfl rfl ?_
          obtain ⟨v4, e4⟩ : ∃ z, M 598 1 = z := ⟨_, rfl⟩
          have b4 : 0 ≤ v4 ∧ v4 ≤ 1600 := by rw [← e4]; exact hI_M 598 1 (Nat.le_of_ble_eq_true rfl)
          have e5 : M3 598 1 = v4 := ((w3_1 598 1 (nne rfl) (nne rfl) (nne rfl) (nne rfl) (nne rfl) (nne rfl) (nne rfl) (nne rfl) (nne rfl) (nne rfl) (nne rfl) (nne rfl) (nne rfl)).trans ((ju_c _ _ (by decide)).trans e4))
          refine jr.pick (ls := [_, _, _, _]) [0, 1, 2, 3] rfl rfl ?_
          exact ih (nM - 1) (by omega) M3 (f + 1) w n hI_M3 hH_M3 hS_M3  (fun a i f598 f627 f628 f629 f630 f631 f632 f633 f634 f635 f636 f637 f638 f639 f640 => ((w3_1 a i f628 f629 f630 f631 f632 f633 f634 f635 f636 f637 f638 f639 f640).trans ((ju_c _ _ f627).trans (hF_M a i f598 f627 f628 f629 f630 f631 f632 f633 f634 f635 f636 f637 f638 f639 f640)))) (fun i g1 => ((w3_1 598 i (nne rfl) (nne rfl) (nne rfl) (nne rfl) (nne rfl) (nne rfl) (nne rfl) (nne rfl) (nne rfl) (nne rfl) (nne rfl) (nne rfl) (nne rfl)).trans ((ju_c _ _ (by decide)).trans (hG_M i g1)))) (by omega) (by omega) (by omega) (by exfalso; omega) hy1 ((e5).trans (by omega)) (by omega) hy4 (by omega)
      · refine jr.iconst rfl ?_
        refine jr.goto rfl rfl ?_
        refine jr.zast (i := f) (x := 1) rfl (nlt rfl) rfl (Nat.le_of_ble_eq_true rfl) (by omega) (by omega) (j_zn (by omega)) ?_
        refine jr.iload_n rfl rfl ?_
        refine jr.iload_n rfl rfl ?_
        refine jr.icmp_ge rfl rfl (by first | (refine rgb (by assumption) ?_; exact rfl) | omega) (by first | (refine rgb (by assumption) ?_; exact rfl) | omega) (fun h71 => ?_) (fun h71 => ?_)
        · refine jr.iinc (ls' := [_, _, _, _]) rfl rfl (nlt rfl) rfl ?_
          refine jr.goto rfl rfl ?_
          obtain ⟨v6, e6⟩ : ∃ z, M 598 1 = z := ⟨_, rfl⟩
          have b6 : 0 ≤ v6 ∧ v6 ≤ 1600 := by rw [← e6]; exact hI_M 598 1 (Nat.le_of_ble_eq_true rfl)
          refine jr.pick (ls := [_, _, _, _]) [0, 1, 2, 3] rfl rfl ?_
          exact ih (nM - 1) (by omega) (ju M 627 f 1) (f + 1) w n (RI.u hI_M (a := 627) (i := f) (by rw [xri_row rfl rfl]; show (0 : Int) ≤ _ ∧ _ ≤ (1 : Int); omega)) (RH.o hH_M (by decide) (by decide) (by decide)) (RF.o hS_M (by decide) (by decide))  (fun a i f598 f627 f628 f629 f630 f631 f632 f633 f634 f635 f636 f637 f638 f639 f640 => ((ju_c _ _ f627).trans (hF_M a i f598 f627 f628 f629 f630 f631 f632 f633 f634 f635 f636 f637 f638 f639 f640))) (fun i g1 => ((ju_c _ _ (by decide)).trans (hG_M i g1))) (by omega) (by omega) (by omega) (by exfalso; omega) hy1 ((((ju_c _ _ (by decide)).trans e6)).trans (by omega)) (by omega) hy4 (by omega)
        · refine jr.aload_n rfl rfl ?_
          refine jr.iload_n rfl rfl ?_
          refine jr_v rfl rfl (Or.inl rfl) rfl rfl (nlt rfl) rfl ⟨rfl, Nat.le_of_ble_eq_true rfl, Nat.le_of_ble_eq_true rfl⟩ rfl (jc.deep (r_takeRow_x (RI.u hI_M (a := 627) (i := f) (by rw [xri_row rfl rfl]; show (0 : Int) ≤ _ ∧ _ ≤ (1 : Int); omega)) (RH.o hH_M (by decide) (by decide) (by decide)) (RF.o hS_M (by decide) (by decide))  (by omega) (by have h9 := (hy1 f (by omega) (by omega)).w; have e5 : ((ju M 627 f 1)) 599 = M0 599 := funext (fun i => (ju_c _ _ (by decide)).trans (hF_M 599 i (nne rfl) (nne rfl) (nne rfl) (nne rfl) (nne rfl) (nne rfl) (nne rfl) (nne rfl) (nne rfl) (nne rfl) (nne rfl) (nne rfl) (nne rfl) (nne rfl) (nne rfl))); rw [e5]; exact h9.2.2) (by have h9 := (hy1 f (by omega) (by omega)).2.1.2.2.2; have e5 : ((ju M 627 f 1)) 599 = M0 599 := funext (fun i => (ju_c _ _ (by decide)).trans (hF_M 599 i (nne rfl) (nne rfl) (nne rfl) (nne rfl) (nne rfl) (nne rfl) (nne rfl) (nne rfl) (nne rfl) (nne rfl) (nne rfl) (nne rfl) (nne rfl) (nne rfl) (nne rfl))); rw [e5]; exact h9) (fun M7 hI_M7 hH_M7 hS_M7  w7_0 w7_1 => ?_)) (Nat.le_of_ble_eq_true rfl))
          refine jr.iinc (ls' := [_, _, _, _]) rfl rfl (nlt rfl) rfl ?_
          refine jr.goto rfl rfl ?_
          obtain ⟨v8, e8⟩ : ∃ z, M 598 1 = z := ⟨_, rfl⟩
          have b8 : 0 ≤ v8 ∧ v8 ≤ 1600 := by rw [← e8]; exact hI_M 598 1 (Nat.le_of_ble_eq_true rfl)
          have e9 : M7 598 1 = v8 := ((w7_1 598 1 (nne rfl) (nne rfl) (nne rfl) (nne rfl) (nne rfl) (nne rfl) (nne rfl) (nne rfl) (nne rfl) (nne rfl) (nne rfl) (nne rfl) (nne rfl)).trans ((ju_c _ _ (by decide)).trans e8))
          refine jr.pick (ls := [_, _, _, _]) [0, 1, 2, 3] rfl rfl ?_
          exact ih (nM - 1) (by omega) M7 (f + 1) w n hI_M7 hH_M7 hS_M7  (fun a i f598 f627 f628 f629 f630 f631 f632 f633 f634 f635 f636 f637 f638 f639 f640 => ((w7_1 a i f628 f629 f630 f631 f632 f633 f634 f635 f636 f637 f638 f639 f640).trans ((ju_c _ _ f627).trans (hF_M a i f598 f627 f628 f629 f630 f631 f632 f633 f634 f635 f636 f637 f638 f639 f640)))) (fun i g1 => ((w7_1 598 i (nne rfl) (nne rfl) (nne rfl) (nne rfl) (nne rfl) (nne rfl) (nne rfl) (nne rfl) (nne rfl) (nne rfl) (nne rfl) (nne rfl) (nne rfl)).trans ((ju_c _ _ (by decide)).trans (hG_M i g1)))) (by omega) (by omega) (by omega) (TB6.s hy0 (by omega) w7_0.1 w7_0.2 (fun i => w7_1 627 i (nne rfl) (nne rfl) (nne rfl) (nne rfl) (nne rfl) (nne rfl) (nne rfl) (nne rfl) (nne rfl) (nne rfl) (nne rfl) (nne rfl) (nne rfl)) (fun i => hF_M 599 i (nne rfl) (nne rfl) (nne rfl) (nne rfl) (nne rfl) (nne rfl) (nne rfl) (nne rfl) (nne rfl) (nne rfl) (nne rfl) (nne rfl) (nne rfl) (nne rfl) (nne rfl)) (hG_M 2 (zne rfl))) hy1 ((e9).trans (by omega)) (by omega) hy4 (by omega)
theorem r_restore_L20_x {A : Nat → Option (Nat × (Nat → Int32))} {Q : Option Value → jm → Prop} {M0 : jm} (q : ∀ (r : Int) (M' : jm), RI M' → RH M' → RF M' → (-60) ≤ r ∧ r ≤ 24 → RS6 M0 M' r → (∀ (a : Nat) (i : Int), a ≠ 598 → a ≠ 627 → a ≠ 628 → a ≠ 629 → a ≠ 630 → a ≠ 631 → a ≠ 632 → a ≠ 633 → a ≠ 634 → a ≠ 635 → a ≠ 636 → a ≠ 637 → a ≠ 638 → a ≠ 639 → a ≠ 640 → M' a i = M0 a i) → (∀ (i : Int), i ≠ 1 → M' 598 i = M0 598 i) → Q (some (.int (Int32.ofInt r))) M') : ∀ (nM : Nat) (M : jm) (k : Int) (w : Int) (n : Int), RI M → RH M → RF M → (∀ (a : Nat) (i : Int), a ≠ 598 → a ≠ 627 → a ≠ 628 → a ≠ 629 → a ≠ 630 → a ≠ 631 → a ≠ 632 → a ≠ 633 → a ≠ 634 → a ≠ 635 → a ≠ 636 → a ≠ 637 → a ≠ 638 → a ≠ 639 → a ≠ 640 → M a i = M0 a i) → (∀ (i : Int), i ≠ 1 → M 598 i = M0 598 i) → 0 ≤ k ∧ k ≤ 34 → 0 ≤ w ∧ w ≤ 34 → 0 ≤ n ∧ n ≤ 1600 → k ≤ w → (∀ j : Int, 0 ≤ j → j < k → okR (M0 599) n j) → M 598 1 = 0 → n = M0 598 1 → (∀ (b : Nat) (i : Int), 627 ≤ b → b ≤ 642 → M b i = M0 b i) → w = (n + 47) / 48 → 34 - k ≤ nM → jr A 5 xm_332 20 [(3, .int (Int32.ofInt (k))), (2, .int (Int32.ofInt (w))), (1, .int (Int32.ofInt (n))), (0, .ref (598))] [] M Q := by
  intro nM
  induction nM using Nat.strongRecOn with
  | ind nM ih =>
    intro M k w n hI_M hH_M hS_M hF_M hG_M h_k h_w h_n hy0 hy1 hy2 hy3 hy4 hy5 hm
    have wl := okR.all hy1
    refine jr.iload_n rfl rfl ?_
    refine jr.iload_n rfl rfl ?_
    refine jr.icmp_ge rfl rfl (by first | (refine rgb (by assumption) ?_; exact rfl) | omega) (by first | (refine rgb (by assumption) ?_; exact rfl) | omega) (fun h22 => ?_) (fun h22 => ?_)
    · refine jr.iconst rfl ?_
      refine jr.istore_n (ls' := [_, _, _, _]) rfl (nlt rfl) rfl ?_
      refine jr.pick (ls := [_, _, _, _]) [0, 1, 2, 3] rfl rfl ?_
      exact r_restore_L47_x q 24 M 0 w n hI_M hH_M hS_M  (fun a i f598 f627 f628 f629 f630 f631 f632 f633 f634 f635 f636 f637 f638 f639 f640 => (hF_M a i f598 f627 f628 f629 f630 f631 f632 f633 f634 f635 f636 f637 f638 f639 f640)) (fun i g1 => (hG_M i g1)) (by omega) (by omega) (by omega) (fun j j0 j1 => absurd j1 (by omega)) (fun j j0 j1 => hy1 j j0 (by omega)) hy2 (by omega) hy3 (by omega)
    · refine jr.aload_n rfl rfl ?_
      refine jr.iload_n rfl rfl ?_
      refine jr.iload_n rfl rfl ?_
      refine jr_v rfl rfl (Or.inl rfl) rfl rfl (nlt rfl) rfl ⟨rfl, Nat.le_of_ble_eq_true rfl, Nat.le_of_ble_eq_true rfl⟩ rfl (jc.deep (r_isRow_x hI_M hH_M hS_M  (by omega) (by omega)  (fun r1 z1 w1_0 => ?_)) (Nat.le_of_ble_eq_true rfl))
      refine jr.if_ne rfl rfl (by first | (refine rgb (by assumption) ?_; exact rfl) | omega) (fun h31 => ?_) (fun h31 => ?_)
      · have sx31 : (1 : Int) ≤ r1 := by omega
        clear h31
        refine jr.iinc (ls' := [_, _, _, _]) rfl rfl (nlt rfl) rfl ?_
        refine jr.goto rfl rfl ?_
        obtain ⟨v2, e2⟩ : ∃ z, M 598 1 = z := ⟨_, rfl⟩
        have b2 : 0 ≤ v2 ∧ v2 ≤ 1600 := by rw [← e2]; exact hI_M 598 1 (Nat.le_of_ble_eq_true rfl)
        refine jr.pick (ls := [_, _, _, _]) [0, 1, 2, 3] rfl rfl ?_
        exact ih (nM - 1) (by omega) M (k + 1) w n hI_M hH_M hS_M  (fun a i f598 f627 f628 f629 f630 f631 f632 f633 f634 f635 f636 f637 f638 f639 f640 => (hF_M a i f598 f627 f628 f629 f630 f631 f632 f633 f634 f635 f636 f637 f638 f639 f640)) (fun i g1 => (hG_M i g1)) (by omega) (by omega) (by omega) (by omega) (fun j j0 j1 => by by_cases e : j = k; (subst e; have h9 := (w1_0.resolve_right (fun h => by omega)).2; rw [(show (M 599 : Int → Int) = M0 599 from funext (fun i => hF_M 599 i (nne rfl) (nne rfl) (nne rfl) (nne rfl) (nne rfl) (nne rfl) (nne rfl) (nne rfl) (nne rfl) (nne rfl) (nne rfl) (nne rfl) (nne rfl) (nne rfl) (nne rfl)))] at h9; exact h9); (exact hy1 j j0 (by omega))) ((e2).trans (by omega)) hy3 hy4 (by omega) (by omega)
      · refine jr.bipush rfl (by decide) ?_
        refine jr.iload_n rfl rfl ?_
        refine jr.isub rfl ?_
        obtain ⟨v3, e3⟩ : ∃ z, M 598 1 = z := ⟨_, rfl⟩
        have b3 : 0 ≤ v3 ∧ v3 ≤ 1600 := by rw [← e3]; exact hI_M 598 1 (Nat.le_of_ble_eq_true rfl)
        exact jr.ireturn rfl rfl rfl (q _ _ hI_M hH_M hS_M  (by omega) (RS6.m (by omega) (by omega) (by rw [← hy3]; exact hy1) (by have h9 := (w1_0.resolve_left (fun h => by omega)).2; rw [(show (M 599 : Int → Int) = M0 599 from funext (fun i => hF_M 599 i (nne rfl) (nne rfl) (nne rfl) (nne rfl) (nne rfl) (nne rfl) (nne rfl) (nne rfl) (nne rfl) (nne rfl) (nne rfl) (nne rfl) (nne rfl) (nne rfl) (nne rfl)))] at h9; rw [← hy3]; exact h9) hy2 (fun b i b1 b2 => hy4 b i b1 b2)) (fun a i f598 f627 f628 f629 f630 f631 f632 f633 f634 f635 f636 f637 f638 f639 f640 => (hF_M a i f598 f627 f628 f629 f630 f631 f632 f633 f634 f635 f636 f637 f638 f639 f640)) (fun i g1 => (hG_M i g1)))
theorem r_restore_x {A : Nat → Option (Nat × (Nat → Int32))} {Q : Option Value → jm → Prop} {M : jm} (hI_M : RI M) (hH_M : RH M) (hS_M : RF M) (q : ∀ (r : Int) (M' : jm), RI M' → RH M' → RF M' → (-60) ≤ r ∧ r ≤ 24 → RS6 M M' r → (∀ (a : Nat) (i : Int), a ≠ 598 → a ≠ 627 → a ≠ 628 → a ≠ 629 → a ≠ 630 → a ≠ 631 → a ≠ 632 → a ≠ 633 → a ≠ 634 → a ≠ 635 → a ≠ 636 → a ≠ 637 → a ≠ 638 → a ≠ 639 → a ≠ 640 → M' a i = M a i) → (∀ (i : Int), i ≠ 1 → M' 598 i = M 598 i) → Q (some (.int (Int32.ofInt r))) M') : jc A 6 332 [.ref (598)] M Q := by
  refine jc_of (m := xm_332) rfl (Nat.le_of_ble_eq_true rfl) rfl ?_
  refine jr.aload_n rfl rfl ?_
  obtain ⟨v1, e1⟩ : ∃ z, M 598 1 = z := ⟨_, rfl⟩
  have b1 : 0 ≤ v1 ∧ v1 ≤ 1600 := by rw [← e1]; exact hI_M 598 1 (Nat.le_of_ble_eq_true rfl)
  refine jr.getf (i := 1) (x := v1) (v := .int (Int32.ofInt (v1))) rfl rfl (nlt rfl) rfl (nlt rfl) rfl rfl e1 rfl ?_
  refine jr.istore_n (ls' := [_, _]) rfl (nlt rfl) rfl ?_
  refine jr.aload_n rfl rfl ?_
  refine jr.iconst rfl ?_
  refine jr.putf (i := 1) (x := 0) rfl rfl (nlt rfl) rfl (nlt rfl) rfl rfl rfl rfl rfl ?_
  refine jr.iload_n rfl rfl ?_
  refine jr.bipush rfl (jbp _ (nlt rfl)) ?_
  refine jr.iadd rfl ?_
  refine jr.bipush rfl (jbp _ (nlt rfl)) ?_
  refine jr.idiv rfl (by decide) ?_
  have b2 : j_div (v1 + 47) 48 = (v1 + 47) / 48 := j_div_ex (by omega) (by omega)
  generalize j_div (v1 + 47) 48 = v2 at b2 ⊢
  refine jr.istore_n (ls' := [_, _, _]) rfl (nlt rfl) rfl ?_
  refine jr.iconst rfl ?_
  refine jr.istore_n (ls' := [_, _, _, _]) rfl (nlt rfl) rfl ?_
  refine jr.pick (ls := [_, _, _, _]) [0, 1, 2, 3] rfl rfl ?_
  exact r_restore_L20_x q 34 (ju M 598 1 0) 0 v2 v1 (RI.u hI_M (a := 598) (i := 1) (show (0 : Int) ≤ _ ∧ _ ≤ (1600 : Int) from by omega)) (RH.o hH_M (by decide) (by decide) (by decide)) (RF.o hS_M (by decide) (by decide))  (fun a i f598 f627 f628 f629 f630 f631 f632 f633 f634 f635 f636 f637 f638 f639 f640 => ((ju_c _ _ f598).trans rfl)) (fun i g1 => ((ju_i _ _ g1).trans rfl)) (by omega) (by omega) (by omega) (by omega) (fun j j0 j1 => absurd j1 (by omega)) (((ju_same _ _ _ _)).trans (by omega)) e1.symm (fun b i b1 b2 => ju_c _ _ (by omega)) (by omega) (by omega)
end
section
/-! ===== the class: tick ===== -/
noncomputable def TGA (T M : jm) (z i : Int) : Prop := ∀ g : Int, 0 ≤ g → g < 8 → M (xe 10 g) 0 = if g < i ∧ T (xe 10 g) 6 ≤ z then 0 else T (xe 10 g) 0
noncomputable def TFA (T M : jm) (V : Nat) (z i : Int) : Prop := ∀ f : Int, 0 ≤ f → f < 24 → M (xe V f) 0 = if f < i ∧ T (xe V f) 6 ≤ z then 0 else T (xe V f) 0
theorem xgx0 : ∀ n : Nat, n < 8 → xe 10 (n : Int) = 574 + 3 * n := by decide +kernel
theorem xgx {g : Int} (h : 0 ≤ g ∧ g < 8) : xe 10 g = 574 + 3 * g.toNat := by
  obtain ⟨n, rfl⟩ := Int.eq_ofNat_of_zero_le h.1
  exact xgx0 n (by omega)
theorem TGA.s1 {T M : jm} {z i : Int} (h : TGA T M z i) (hi : 0 ≤ i ∧ i < 8) (hu : T (xe 10 i) 6 ≤ z) : TGA T (ju M (xe 10 i) 0 0) z (i + 1) := fun g g0 g1 => by
  by_cases e : g = i
  · subst e
    rw [ju_same, if_pos ⟨by omega, hu⟩]
  · have a := xgx (g := g) ⟨g0, g1⟩
    have b := xgx (g := i) hi
    rw [ju_c _ _ (by omega), h g g0 g1]
    by_cases q : g < i ∧ T (xe 10 g) 6 ≤ z
    · rw [if_pos q, if_pos ⟨by omega, q.2⟩]
    · rw [if_neg q, if_neg (by omega)]
theorem TGA.s0 {T M : jm} {z i : Int} (h : TGA T M z i) (hu : z < T (xe 10 i) 6) : TGA T M z (i + 1) := fun g g0 g1 => by
  rw [h g g0 g1]
  by_cases e : g = i
  · subst e
    rw [if_neg (by omega), if_neg (by omega)]
  · by_cases q : g < i ∧ T (xe 10 g) 6 ≤ z
    · rw [if_pos q, if_pos ⟨by omega, q.2⟩]
    · rw [if_neg q, if_neg (by omega)]
theorem TFA.s1 {T M : jm} {V z i : Int} (h : TFA T M V.toNat z i) (hV : 16 ≤ V ∧ V ≤ 17) (hi : 0 ≤ i ∧ i < 24) (hu : T (xe V.toNat i) 6 ≤ z) : TFA T (ju M (xe V.toNat i) 0 0) V.toNat z (i + 1) := fun g g0 g1 => by
  by_cases e : g = i
  · subst e
    rw [ju_same, if_pos ⟨by omega, hu⟩]
  · have a := xfl_d hV hi (k := g) ⟨g0, g1⟩ e
    rw [ju_c _ _ (by omega), h g g0 g1]
    by_cases q : g < i ∧ T (xe V.toNat g) 6 ≤ z
    · rw [if_pos q, if_pos ⟨by omega, q.2⟩]
    · rw [if_neg q, if_neg (by omega)]
theorem TFA.s0 {T M : jm} {V : Nat} {z i : Int} (h : TFA T M V z i) (hu : z < T (xe V i) 6) : TFA T M V z (i + 1) := fun g g0 g1 => by
  rw [h g g0 g1]
  by_cases e : g = i
  · subst e
    rw [if_neg (by omega), if_neg (by omega)]
  · by_cases q : g < i ∧ T (xe V g) 6 ≤ z
    · rw [if_pos q, if_pos ⟨by omega, q.2⟩]
    · rw [if_neg q, if_neg (by omega)]
theorem TFA.z {T : jm} {V : Nat} {z : Int} : TFA T T V z 0 := fun g g0 g1 => by rw [if_neg (by omega)]
theorem TGA.z {T : jm} {z : Int} : TGA T T z 0 := fun g g0 g1 => by rw [if_neg (by omega)]
theorem TFA.t {T M M2 : jm} {V : Nat} {z : Int} (h : TFA T M V z 0) (h2 : TFA M M2 V z 24) (hu : ∀ f : Int, 0 ≤ f → f < 24 → M (xe V f) 6 = T (xe V f) 6) : TFA T M2 V z 24 := fun g g0 g1 => by
  rw [h2 g g0 g1, hu g g0 g1, h g g0 g1, if_neg (show ¬ (g < 0 ∧ _) by omega)]
theorem TGA.e {T M M2 : jm} {z i : Int} (h : TGA T M z i) (e : ∀ g : Int, 0 ≤ g → g < 8 → M2 (xe 10 g) 0 = M (xe 10 g) 0) : TGA T M2 z i := fun g g0 g1 => by
  rw [e g g0 g1]
  exact h g g0 g1
theorem TFA.e {T M M2 : jm} {V : Nat} {z i : Int} (h : TFA T M V z i) (e : ∀ f : Int, 0 ≤ f → f < 24 → M2 (xe V f) 0 = M (xe V f) 0) : TFA T M2 V z i := fun g g0 g1 => by
  rw [e g g0 g1]
  exact h g g0 g1
theorem kV {V f : Int} (hV : 16 ≤ V ∧ V ≤ 17) (h0 : 0 ≤ f) (h1 : f < 24) : kd (xe V.toNat f) = 1 := (kxe_13 (show kd V.toNat = 13 from by rcases (show V = 16 ∨ V = 17 by omega) with h | h <;> (rw [h]; rfl)) h0 h1).2
theorem kGa {g : Int} (h0 : 0 ≤ g) (h1 : g < 8) : kd (xe 10 g) = 15 := (kxe_40 (show kd 10 = 40 from rfl) h0 h1).2
noncomputable def W_c_Flows_age_x : List (Nat × Nat) := [(1, 0)]
theorem c_Flows_age_x_L2 {A : Nat → Option (Nat × (Nat → Int32))} {Q : Option Value → jm → Prop} {T : jm} {V : Int} {x : Int} (q : ∀ (M' : jm), CI M' → FR W_c_Flows_age_x T M' → (TFA T M' V.toNat x 24) → Q none M') : ∀ (nM : Nat) (M : jm) (i : Int), CI M → FR W_c_Flows_age_x T M → (-2147483648) ≤ x ∧ x ≤ 2147483647 → 0 ≤ i ∧ i ≤ 24 → M 15 0 = V → (TFA T M V.toNat x i) → 24 - i ≤ nM → jr A 0 xm_76 2 [(1, .int (Int32.ofInt (x))), (2, .int (Int32.ofInt (i))), (0, .ref (15))] [] M Q := by
  intro nM
  induction nM using Nat.strongRecOn with
  | ind nM ih =>
    intro M i hC_M ht_M h_x h_i g_V hy0 hm
    have b_V : 16 ≤ V ∧ V ≤ 17 := by rw [← g_V]; exact (CI.r hC_M (show kd 15 = 9 from rfl) (by decide) 0)
    refine jr.iload_n rfl rfl ?_
    refine jr.bipush rfl (jbp _ (nlt rfl)) ?_
    refine jr.icmp_ge rfl rfl (by first | (refine rgb (by assumption) ?_; exact rfl) | omega) (rgl rfl) (fun h5 => ?_) (fun h5 => ?_)
    · exact jr.vreturn rfl rfl (q _ hC_M ht_M  (by have h9 := hy0; rw [show i = 24 from by omega] at h9; exact h9))
    · refine jr.aload_n rfl rfl ?_
      have k1 : kd (V).toNat = 13 := by rcases (show V = 16 ∨ V = 17 by omega) with h | h <;> (rw [h]; rfl)
      refine jr.getf (i := 0) (x := V) (v := .ref (V.toNat)) rfl rfl (nlt rfl) rfl (nlt rfl) rfl rfl g_V rfl ?_
      refine jr.iload_n rfl rfl ?_
      have k2 := kxe_13 k1 (i := i) (by omega) (by omega)
      refine jr.aald (c := (xe ((V.toNat)) i)) rfl (Nat.lt_trans (kx_13 k1).1 (by decide)) (kx_13 k1).2 (by decide) (by decide) rfl (by decide) (by omega) (by omega) k2.1 ?_
      obtain ⟨v3, e3⟩ : ∃ z_, M ((xe ((V.toNat)) i)) 6 = z_ := ⟨_, rfl⟩
      have b3 : (-2147483648) ≤ v3 ∧ v3 ≤ 2147483647 := by rw [← e3]; exact (CI.r hC_M k2.2 (by decide) 6)
      refine jr.getf (i := 6) (x := v3) (v := .int (Int32.ofInt (v3))) rfl rfl (Nat.lt_trans (kx_1 k2.2).1 (by decide)) (kx_1 k2.2).2 (by decide) rfl rfl e3 rfl ?_
      refine jr.iload_n rfl rfl ?_
      refine jr.icmp_gt rfl rfl (by first | (refine rgb (by assumption) ?_; exact rfl) | omega) (by first | (refine rgb (by assumption) ?_; exact rfl) | omega) (fun h18 => ?_) (fun h18 => ?_)
      · refine jr.iinc (ls' := [_, _, _]) rfl rfl (nlt rfl) rfl ?_
        refine jr.goto rfl rfl ?_
        refine jr.pick (ls := [_, _, _]) [1, 0, 2] rfl rfl ?_
        exact ih (nM - 1) (by omega) M (i + 1) hC_M ht_M (by omega) (by omega) g_V (TFA.s0 hy0 (by rw [(show T (xe V.toNat i) 6 = _ from (ht_M.g (kV (by omega) (by omega) (by omega)) rfl).symm.trans e3)]; omega)) (by omega)
      · refine jr.aload_n rfl rfl ?_
        have k4 : kd (V).toNat = 13 := by rcases (show V = 16 ∨ V = 17 by omega) with h | h <;> (rw [h]; rfl)
        refine jr.getf (i := 0) (x := V) (v := .ref (V.toNat)) rfl rfl (nlt rfl) rfl (nlt rfl) rfl rfl g_V rfl ?_
        refine jr.iload_n rfl rfl ?_
        have k5 := kxe_13 k4 (i := i) (by omega) (by omega)
        refine jr.aald (c := (xe ((V.toNat)) i)) rfl (Nat.lt_trans (kx_13 k4).1 (by decide)) (kx_13 k4).2 (by decide) (by decide) rfl (by decide) (by omega) (by omega) k5.1 ?_
        refine jr.iconst rfl ?_
        refine jr.putf (i := 0) (x := 0) rfl rfl (Nat.lt_trans (kx_1 k5.2).1 (by decide)) (kx_1 k5.2).2 (by decide) rfl rfl rfl rfl rfl ?_
        refine jr.iinc (ls' := [_, _, _]) rfl rfl (nlt rfl) rfl ?_
        refine jr.goto rfl rfl ?_
        refine jr.pick (ls := [_, _, _]) [1, 0, 2] rfl rfl ?_
        exact ih (nM - 1) (by omega) ((ju M ((xe ((V.toNat)) i)) 0 0)) (i + 1) (CI.u hC_M (i := 0) k5.2 (show (0 : Int) ≤ _ ∧ _ ≤ (1 : Int) from by omega) rfl) (FR.o ht_M k5.2 rfl) (by omega) (by omega) ((ju_c _ _ (kd_ne (by rw [(show kd 15 = 9 from rfl), k5.2]; decide))).trans g_V) (TFA.s1 hy0 (by omega) (by omega) (by rw [(show T (xe V.toNat i) 6 = _ from (ht_M.g (kV (by omega) (by omega) (by omega)) rfl).symm.trans e3)]; omega)) (by omega)
theorem c_Flows_age_x {A : Nat → Option (Nat × (Nat → Int32))} {Q : Option Value → jm → Prop} {T : jm} {M : jm} (hC_M : CI M) (ht_M : FR W_c_Flows_age_x T M) {x : Int} (h_x : (-2147483648) ≤ x ∧ x ≤ 2147483647) {V : Int} (g_V : M 15 0 = V) (p0 : T = M) (q : ∀ (M' : jm), CI M' → FR W_c_Flows_age_x T M' → (TFA T M' V.toNat x 24) → Q none M') : jc A 1 76 [.ref (15), .int (Int32.ofInt (x))] M Q := by
  refine jc_of (m := xm_76) rfl (Nat.le_of_ble_eq_true rfl) rfl ?_
  have b_V : 16 ≤ V ∧ V ≤ 17 := by rw [← g_V]; exact (CI.r hC_M (show kd 15 = 9 from rfl) (by decide) 0)
  refine jr.iconst rfl ?_
  refine jr.istore_n (ls' := [_, _, _]) rfl (nlt rfl) rfl ?_
  refine jr.pick (ls := [_, _, _]) [2, 0, 1] rfl rfl ?_
  exact c_Flows_age_x_L2  q 24 M 0 hC_M ht_M (by omega) (by omega) g_V (by rw [p0]; exact TFA.z) (by omega)
noncomputable def W_c_PacketWall_tick_x : List (Nat × Nat) := [(1, 0), (15, 0), (28, 1000), (35, 8)]
theorem c_PacketWall_tick_x_L83 {A : Nat → Option (Nat × (Nat → Int32))} {Q : Option Value → jm → Prop} {T : jm} {S : Int} {V : Int} {x : Int} (q : ∀ (r : Int) (M' : jm), CI M' → FR W_c_PacketWall_tick_x T M' → (-2147483648) ≤ r ∧ r ≤ 2147483647 → (((1 ≤ x ∧ x ≤ 1000) ∧ r = S + x ∧ M' 0 8 = S + x ∧ TGA T M' (S + x) 8 ∧ TFA T M' V.toNat (S + x) 24) ∨ (¬ (1 ≤ x ∧ x ≤ 1000) ∧ r = -3 ∧ M' = T)) → Q (some (.int (Int32.ofInt r))) M') : ∀ (nM : Nat) (M : jm) (b : Int) (i : Int), CI M → FR W_c_PacketWall_tick_x T M → 1 ≤ x ∧ x ≤ 1000 → (-2147483648) ≤ b ∧ b ≤ 2147483647 → 0 ≤ i ∧ i ≤ 4 → M 15 0 = V → (M 0 8 = S + x) → (TGA T M (S + x) 8) → (TFA T M V.toNat (S + x) 24) → 4 - i ≤ nM → jr A 1 xm_18 83 [(1, .int (Int32.ofInt (x))), (2, .int (Int32.ofInt (b))), (3, .int (Int32.ofInt (i))), (0, .ref (0))] [] M Q := by
  intro nM
  induction nM using Nat.strongRecOn with
  | ind nM ih =>
    intro M b i hC_M ht_M h_x h_b h_i g_V hy0 hy1 hy2 hm
    have b_V : 16 ≤ V ∧ V ≤ 17 := by rw [← g_V]; exact (CI.r hC_M (show kd 15 = 9 from rfl) (by decide) 0)
    obtain ⟨v1, e1⟩ : ∃ z_, M 0 8 = z_ := ⟨_, rfl⟩
    have b1 : (-2147483648) ≤ v1 ∧ v1 ≤ 2147483647 := by rw [← e1]; exact (CI.r hC_M (show kd 0 = 35 from rfl) (by decide) 8)
    refine jr.iload_n rfl rfl ?_
    refine jr.iconst rfl ?_
    refine jr.icmp_ge rfl rfl (by first | (refine rgb (by assumption) ?_; exact rfl) | omega) (rgl rfl) (fun h85 => ?_) (fun h85 => ?_)
    · refine jr.aload_n rfl rfl ?_
      refine jr.getf (i := 8) (x := v1) (v := .int (Int32.ofInt (v1))) rfl rfl (nlt rfl) rfl (nlt rfl) rfl rfl e1 rfl ?_
      exact jr.ireturn rfl rfl rfl (q _ _ hC_M ht_M (by omega) (Or.inl ⟨by omega, by omega, by omega, hy1, hy2⟩))
    · refine jr.aload_n rfl rfl ?_
      refine jr.iload_n rfl rfl ?_
      refine jr.iload_n rfl rfl ?_
      refine jr_v rfl rfl (Or.inl rfl) rfl rfl (nlt rfl) rfl ⟨rfl, Nat.le_of_ble_eq_true rfl, Nat.le_of_ble_eq_true rfl⟩ rfl (jc.deep (c_PacketWall_fillBucket hC_M (FR.rfl _ M) (by omega) (by omega) (fun M2 hC_M2 hf_M2  => ?_)) (Nat.le_of_ble_eq_true rfl))
      have ht_M2 : FR W_c_PacketWall_tick_x T M2 := FR.t ht_M hf_M2 (kw_sub rfl)
      refine jr.iinc (ls' := [_, _, _, _]) rfl rfl (nlt rfl) rfl ?_
      refine jr.goto rfl rfl ?_
      have e3 : M2 15 0 = V := (hf_M2.g (show kd 15 = 9 from rfl) rfl).trans g_V
      have e4 : M2 0 8 = v1 := (hf_M2.g (show kd 0 = 35 from rfl) rfl).trans e1
      refine jr.pick (ls := [_, _, _, _]) [1, 2, 0, 3] rfl rfl ?_
      exact ih (nM - 1) (by omega) M2 b (i + 1) hC_M2 ht_M2 (by omega) (by omega) (by omega) e3 (by have hq0 : M2 0 8 = v1 := e4; omega) (TGA.e hy1 (fun g g0 g1 => hf_M2.g (kGa g0 g1) rfl)) (TFA.e hy2 (fun f f0 f1 => hf_M2.g (kV (by omega) f0 f1) rfl)) (by omega)
theorem c_PacketWall_tick_x_L32 {A : Nat → Option (Nat × (Nat → Int32))} {Q : Option Value → jm → Prop} {T : jm} {S : Int} {V : Int} {x : Int} (q : ∀ (r : Int) (M' : jm), CI M' → FR W_c_PacketWall_tick_x T M' → (-2147483648) ≤ r ∧ r ≤ 2147483647 → (((1 ≤ x ∧ x ≤ 1000) ∧ r = S + x ∧ M' 0 8 = S + x ∧ TGA T M' (S + x) 8 ∧ TFA T M' V.toNat (S + x) 24) ∨ (¬ (1 ≤ x ∧ x ≤ 1000) ∧ r = -3 ∧ M' = T)) → Q (some (.int (Int32.ofInt r))) M') : ∀ (nM : Nat) (M : jm) (b : Int) (i : Int), CI M → FR W_c_PacketWall_tick_x T M → 1 ≤ x ∧ x ≤ 1000 → (-2147483648) ≤ b ∧ b ≤ 2147483647 → 0 ≤ i ∧ i ≤ 8 → M 15 0 = V → (M 0 8 = S + x) → (TGA T M (S + x) i) → (TFA T M V.toNat (S + x) 0) → 8 - i ≤ nM → jr A 1 xm_18 32 [(1, .int (Int32.ofInt (x))), (2, .int (Int32.ofInt (b))), (3, .int (Int32.ofInt (i))), (0, .ref (0))] [] M Q := by
  intro nM
  induction nM using Nat.strongRecOn with
  | ind nM ih =>
    intro M b i hC_M ht_M h_x h_b h_i g_V hy0 hy1 hy2 hm
    have b_V : 16 ≤ V ∧ V ≤ 17 := by rw [← g_V]; exact (CI.r hC_M (show kd 15 = 9 from rfl) (by decide) 0)
    obtain ⟨v1, e1⟩ : ∃ z_, M 0 8 = z_ := ⟨_, rfl⟩
    have b1 : (-2147483648) ≤ v1 ∧ v1 ≤ 2147483647 := by rw [← e1]; exact (CI.r hC_M (show kd 0 = 35 from rfl) (by decide) 8)
    refine jr.iload_n rfl rfl ?_
    refine jr.bipush rfl (jbp _ (nlt rfl)) ?_
    refine jr.icmp_ge rfl rfl (by first | (refine rgb (by assumption) ?_; exact rfl) | omega) (rgl rfl) (fun h35 => ?_) (fun h35 => ?_)
    · refine jr.aload_n rfl rfl ?_
      refine jr.getf (i := 9) (v := .ref 15) rfl rfl (nlt rfl) rfl (nlt rfl) rfl rfl rfl rfl ?_
      refine jr.aload_n rfl rfl ?_
      refine jr.getf (i := 8) (x := v1) (v := .int (Int32.ofInt (v1))) rfl rfl (nlt rfl) rfl (nlt rfl) rfl rfl e1 rfl ?_
      refine jr_v rfl rfl (Or.inl rfl) rfl rfl (nlt rfl) rfl ⟨rfl, Nat.le_of_ble_eq_true rfl, Nat.le_of_ble_eq_true rfl⟩ rfl (jc.deep (c_Flows_age_x hC_M (FR.rfl _ M) (by omega) g_V rfl (fun M2 hC_M2 hf_M2 w2_0 => ?_)) (Nat.le_of_ble_eq_true rfl))
      have ht_M2 : FR W_c_PacketWall_tick_x T M2 := FR.t ht_M hf_M2 (kw_sub rfl)
      refine jr.iconst rfl ?_
      refine jr.istore_n (ls' := [_, _, _, _]) rfl (nlt rfl) rfl ?_
      have e3 : M2 15 0 = V := (hf_M2.g (show kd 15 = 9 from rfl) rfl).trans g_V
      have e4 : M2 0 8 = v1 := (hf_M2.g (show kd 0 = 35 from rfl) rfl).trans e1
      refine jr.pick (ls := [_, _, _, _]) [1, 2, 0, 3] rfl rfl ?_
      exact c_PacketWall_tick_x_L83  q 4 M2 b 0 hC_M2 ht_M2 (by omega) (by omega) (by omega) e3 (by have hq0 : M2 0 8 = v1 := e4; omega) (TGA.e (by have h9 := hy1; rw [show i = 8 from by omega] at h9; exact h9) (fun g g0 g1 => hf_M2.g (kGa g0 g1) rfl)) (TFA.t hy2 (by have h9 := w2_0; rw [show v1 = S + x from by omega] at h9; exact h9) (fun f f0 f1 => ht_M.g (kV (by omega) f0 f1) rfl)) (by omega)
    · refine jr.aload_n rfl rfl ?_
      refine jr.getf (i := 5) (v := .ref 10) rfl rfl (nlt rfl) rfl (nlt rfl) rfl rfl rfl rfl ?_
      refine jr.iload_n rfl rfl ?_
      have k5 := kxe_40 (a := 10) rfl (i := i) (by omega) (by omega)
      refine jr.aald (c := (xe 10 i)) rfl (by decide) rfl (by decide) (by decide) rfl (by decide) (by omega) (by omega) k5.1 ?_
      obtain ⟨v6, e6⟩ : ∃ z_, M ((xe 10 i)) 6 = z_ := ⟨_, rfl⟩
      have b6 : (-2147483648) ≤ v6 ∧ v6 ≤ 2147483647 := by rw [← e6]; exact (CI.r hC_M k5.2 (by decide) 6)
      refine jr.getf (i := 6) (x := v6) (v := .int (Int32.ofInt (v6))) rfl rfl (Nat.lt_trans (kx_15 k5.2).1 (by decide)) (kx_15 k5.2).2 (by decide) rfl rfl e6 rfl ?_
      refine jr.aload_n rfl rfl ?_
      refine jr.getf (i := 8) (x := v1) (v := .int (Int32.ofInt (v1))) rfl rfl (nlt rfl) rfl (nlt rfl) rfl rfl e1 rfl ?_
      refine jr.icmp_gt rfl rfl (by first | (refine rgb (by assumption) ?_; exact rfl) | omega) (by first | (refine rgb (by assumption) ?_; exact rfl) | omega) (fun h51 => ?_) (fun h51 => ?_)
      · refine jr.iinc (ls' := [_, _, _, _]) rfl rfl (nlt rfl) rfl ?_
        refine jr.goto rfl rfl ?_
        refine jr.pick (ls := [_, _, _, _]) [1, 2, 0, 3] rfl rfl ?_
        exact ih (nM - 1) (by omega) M b (i + 1) hC_M ht_M (by omega) (by omega) (by omega) g_V (by have hq0 : M 0 8 = v1 := e1; omega) (TGA.s0 hy1 (by rw [(show T (xe 10 i) 6 = _ from (ht_M.g (kGa (by omega) (by omega)) rfl).symm.trans e6)]; omega)) hy2 (by omega)
      · refine jr.aload_n rfl rfl ?_
        refine jr.getf (i := 5) (v := .ref 10) rfl rfl (nlt rfl) rfl (nlt rfl) rfl rfl rfl rfl ?_
        refine jr.iload_n rfl rfl ?_
        have k7 := kxe_40 (a := 10) rfl (i := i) (by omega) (by omega)
        refine jr.aald (c := (xe 10 i)) rfl (by decide) rfl (by decide) (by decide) rfl (by decide) (by omega) (by omega) k7.1 ?_
        refine jr.iconst rfl ?_
        refine jr.putf (i := 0) (x := 0) rfl rfl (Nat.lt_trans (kx_15 k7.2).1 (by decide)) (kx_15 k7.2).2 (by decide) rfl rfl rfl rfl rfl ?_
        refine jr.iinc (ls' := [_, _, _, _]) rfl rfl (nlt rfl) rfl ?_
        refine jr.goto rfl rfl ?_
        refine jr.pick (ls := [_, _, _, _]) [1, 2, 0, 3] rfl rfl ?_
        exact ih (nM - 1) (by omega) ((ju M ((xe 10 i)) 0 0)) b (i + 1) (CI.u hC_M (i := 0) k7.2 (show (0 : Int) ≤ _ ∧ _ ≤ (1 : Int) from by omega) rfl) (FR.o ht_M k7.2 rfl) (by omega) (by omega) (by omega) ((ju_c _ _ (kd_ne (by rw [(show kd 15 = 9 from rfl), k7.2]; decide))).trans g_V) (by have hq0 : (ju M ((xe 10 i)) 0 0) 0 8 = v1 := ((ju_i _ _ (zne (by decide))).trans e1); omega) (TGA.s1 hy1 (by omega) (by rw [(show T (xe 10 i) 6 = _ from (ht_M.g (kGa (by omega) (by omega)) rfl).symm.trans e6)]; omega)) (TFA.e hy2 (fun f f0 f1 => ju_c _ _ (kd_ne (by rw [kV (by omega) f0 f1, kGa (by omega) (by omega)]; decide)))) (by omega)
theorem c_PacketWall_tick_x {A : Nat → Option (Nat × (Nat → Int32))} {Q : Option Value → jm → Prop} {T : jm} {M : jm} (hC_M : CI M) (ht_M : FR W_c_PacketWall_tick_x T M) {x : Int} (h_x : (-2147483648) ≤ x ∧ x ≤ 2147483647) {S : Int} (g_S : M 0 8 = S) {V : Int} (g_V : M 15 0 = V) (p0 : T = M) (p1 : 0 ≤ S ∧ S ≤ 2000000000) (q : ∀ (r : Int) (M' : jm), CI M' → FR W_c_PacketWall_tick_x T M' → (-2147483648) ≤ r ∧ r ≤ 2147483647 → (((1 ≤ x ∧ x ≤ 1000) ∧ r = S + x ∧ M' 0 8 = S + x ∧ TGA T M' (S + x) 8 ∧ TFA T M' V.toNat (S + x) 24) ∨ (¬ (1 ≤ x ∧ x ≤ 1000) ∧ r = -3 ∧ M' = T)) → Q (some (.int (Int32.ofInt r))) M') : jc A 2 18 [.ref (0), .int (Int32.ofInt (x))] M Q := by
  refine jc_of (m := xm_18) rfl (Nat.le_of_ble_eq_true rfl) rfl ?_
  have b_S : (-2147483648) ≤ S ∧ S ≤ 2147483647 := by rw [← g_S]; exact (CI.r hC_M (show kd 0 = 35 from rfl) (by decide) 8)
  have b_V : 16 ≤ V ∧ V ≤ 17 := by rw [← g_V]; exact (CI.r hC_M (show kd 15 = 9 from rfl) (by decide) 0)
  refine jr.iload_n rfl rfl ?_
  refine jr.iconst rfl ?_
  refine jr.icmp_lt rfl rfl (by first | (refine rgb (by assumption) ?_; exact rfl) | omega) (rgl rfl) (fun h2 => ?_) (fun h2 => ?_)
  · refine jr.bipush rfl (by decide) ?_
    exact jr.ireturn rfl rfl rfl (q _ _ hC_M ht_M (by first | exact rgq rfl | omega) (Or.inr ⟨by omega, by omega, p0.symm⟩))
  · refine jr.iload_n rfl rfl ?_
    refine jr.sipush rfl (by decide) ?_
    refine jr.icmp_le rfl rfl (by first | (refine rgb (by assumption) ?_; exact rfl) | omega) (rgl rfl) (fun h9 => ?_) (fun h9 => ?_)
    · refine jr.aload_n rfl rfl ?_
      refine jr.getf (i := 8) (x := S) (v := .int (Int32.ofInt (S))) rfl rfl (nlt rfl) rfl (nlt rfl) rfl rfl g_S rfl ?_
      refine jr.istore_n (ls' := [_, _, _]) rfl (nlt rfl) rfl ?_
      refine jr.aload_n rfl rfl ?_
      refine jr.dup rfl rfl ?_
      refine jr.getf (i := 8) (x := S) (v := .int (Int32.ofInt (S))) rfl rfl (nlt rfl) rfl (nlt rfl) rfl rfl g_S rfl ?_
      refine jr.iload_n rfl rfl ?_
      refine jr.iadd rfl ?_
      refine jr.putf (i := 8) (x := (S + x)) rfl rfl (nlt rfl) rfl (nlt rfl) rfl rfl rfl rfl rfl ?_
      refine jr.iconst rfl ?_
      refine jr.istore_n (ls' := [_, _, _, _]) rfl (nlt rfl) rfl ?_
      refine jr.pick (ls := [_, _, _, _]) [3, 1, 0, 2] rfl rfl ?_
      exact c_PacketWall_tick_x_L32  q 8 ((ju M 0 8 (S + x))) S 0 (CI.u hC_M (i := 8) (show kd 0 = 35 from rfl) (show (-2147483648 : Int) ≤ _ ∧ _ ≤ (2147483647 : Int) from by omega) rfl) (FR.o ht_M (show kd 0 = 35 from rfl) rfl) (by omega) (by omega) (by omega) ((ju_c _ _ (by decide)).trans g_V) (by have hq0 : (ju M 0 8 (S + x)) 0 8 = S + x := (ju_same _ _ _ _); omega) (by rw [p0]; exact TGA.e TGA.z (fun g g0 g1 => ju_c _ _ (by have q := xgx (g := g) ⟨g0, g1⟩; omega))) (by rw [p0]; exact TFA.e TFA.z (fun f f0 f1 => ju_c _ _ (by have q := xfl (V := V) (i := f) (by omega) ⟨f0, f1⟩; omega))) (by omega)
    · refine jr.bipush rfl (by decide) ?_
      exact jr.ireturn rfl rfl rfl (q _ _ hC_M ht_M (by first | exact rgq rfl | omega) (Or.inr ⟨by omega, by omega, p0.symm⟩))
end
