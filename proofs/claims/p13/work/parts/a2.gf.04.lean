section
theorem r_tick_L17_x {A : Nat → Option (Nat × (Nat → Int32))} {Q : Option Value → jm → Prop} {M0 : jm} {n0 : Int} (q : ∀ (r : Int) (M' : jm), RI M' → RH M' → RF M' → (-3) ≤ r ∧ r ≤ 2000000 → (((1 ≤ n0 ∧ n0 ≤ 1000) ∧ r = M0 598 2 + n0 ∧ M' 598 2 = M0 598 2 + n0 ∧ (∀ j : Int, 0 ≤ j → j < 8 → M' 606 j = if M0 612 j ≤ M0 598 2 + n0 then 0 else M0 606 j) ∧ (∀ j : Int, 0 ≤ j → j < 24 → M' 627 j = if M0 639 j ≤ M0 598 2 + n0 then 0 else M0 627 j)) ∨ (¬ (1 ≤ n0 ∧ n0 ≤ 1000) ∧ r = -3 ∧ M' = M0)) → RG1 M' → (∀ (a : Nat) (i : Int), a ≠ 598 → a ≠ 606 → a ≠ 624 → a ≠ 627 → M' a i = M0 a i) → (∀ (i : Int), i ≠ 2 → M' 598 i = M0 598 i) → Q (some (.int (Int32.ofInt r))) M') : ∀ (nM : Nat) (M : jm) (k : Int) (n : Int), RI M → RH M → RF M → (∀ (a : Nat) (i : Int), a ≠ 598 → a ≠ 606 → a ≠ 624 → a ≠ 627 → M a i = M0 a i) → (∀ (i : Int), i ≠ 2 → M 598 i = M0 598 i) → 0 ≤ k ∧ k ≤ 1000 → 1 ≤ n ∧ n ≤ 1000 → RG1 M → RI M0 → k ≤ n → M 598 2 = M0 598 2 + k → TW M0 M 606 612 8 (k) (0) → TW M0 M 627 639 24 (k) (0) → 0 ≤ M0 598 2 ∧ M0 598 2 ≤ 1000000 → n = n0 → 1000 - k ≤ nM → jr A 1 xm_298 17 [(2, .int (Int32.ofInt (k))), (1, .int (Int32.ofInt (n))), (0, .ref (598))] [] M Q := by
  intro nM
  induction nM using Nat.strongRecOn with
  | ind nM ih =>
    intro M k n hI_M hH_M hS_M hF_M hG_M h_k h_n hy0 hy1 hy2 hy3 hy4 hy5 hy6 hy7 hm
    subst hy7
    have hG1 := hy0
    have hI0 := hy1
    refine jr.iload_n rfl rfl ?_
    refine jr.iload_n rfl rfl ?_
    refine jr.icmp_ge rfl rfl (by omega) (by omega) (fun h19 => ?_) (fun h19 => ?_)
    · refine jr.aload_n rfl rfl ?_
      obtain ⟨v1, e1⟩ : ∃ z, M 598 2 = z := ⟨_, rfl⟩
      have b1 : 0 ≤ v1 ∧ v1 ≤ 2000000 := by rw [← e1]; exact hI_M 598 2 (by decide)
      refine jr.getf (i := 2) (x := v1) (v := .int (Int32.ofInt (v1))) rfl rfl (by decide) rfl (by decide) rfl rfl e1 rfl ?_
      exact jr.ireturn rfl rfl rfl (q _ _ hI_M hH_M hS_M  (by omega) (by have h4 := hy4; have h5 := hy5; rw [show k = n from by omega] at h4 h5; exact Or.inl ⟨by omega, by omega, by omega, TW.f h4 (by omega), TW.f h5 (by omega)⟩) hG1 (fun a i f598 f606 f624 f627 => (hF_M a i f598 f606 f624 f627)) (fun i g2 => (hG_M i g2)))
    · refine jr.aload_n rfl rfl ?_
      refine jr.dup rfl rfl ?_
      obtain ⟨v2, e2⟩ : ∃ z, M 598 2 = z := ⟨_, rfl⟩
      have b2 : 0 ≤ v2 ∧ v2 ≤ 2000000 := by rw [← e2]; exact hI_M 598 2 (by decide)
      refine jr.getf (i := 2) (x := v2) (v := .int (Int32.ofInt (v2))) rfl rfl (by decide) rfl (by decide) rfl rfl e2 rfl ?_
      refine jr.iconst rfl ?_
      refine jr.iadd rfl ?_
      refine jr.putf (i := 2) (x := (v2 + 1)) rfl rfl (by decide) rfl (by decide) rfl rfl rfl rfl rfl ?_
      refine jr.iconst rfl ?_
      refine jr.istore_n (ls' := [_, _, _, _]) rfl (by decide) rfl ?_
      refine jr.pick (ls := [_, _, _, _]) [0, 1, 2, 3] rfl rfl ?_
      exact r_tick_L34_x q (nM - 1) (ih (nM - 1) (by omega)) 8 (ju M 598 2 (v2 + 1)) 0 k n (RI.u hI_M (a := 598) (i := 2) (show (0 : Int) ≤ _ ∧ _ ≤ (2000000 : Int) from by omega)) (RH.o hH_M (by decide) (by decide) (by decide)) (RF.o hS_M (by decide) (by decide))  (fun a i f598 f606 f624 f627 => ((ju_c _ _ f598).trans (hF_M a i f598 f606 f624 f627))) (fun i g2 => ((ju_i _ _ g2).trans (hG_M i g2))) (by omega) (by omega) (by omega) (RG1.o hG1 rfl) hy1 (by omega) (by omega) (((ju_same _ _ _ _)).trans (by omega)) (TW.e hy4 (fun j => ((ju_c _ _ (by decide)).trans rfl))) (TW.e hy5 (fun j => ((ju_c _ _ (by decide)).trans rfl))) (by omega) (by omega) (by omega)
theorem r_tick_x {A : Nat → Option (Nat × (Nat → Int32))} {Q : Option Value → jm → Prop} {M : jm} (hI_M : RI M) (hH_M : RH M) (hS_M : RF M) {n : Int} (h_n : (-2147483648) ≤ n ∧ n ≤ 2147483647) (p0 : 0 ≤ M 598 2 ∧ M 598 2 ≤ 1000000) (p1 : RG1 M) (q : ∀ (r : Int) (M' : jm), RI M' → RH M' → RF M' → (-3) ≤ r ∧ r ≤ 2000000 → (((1 ≤ n ∧ n ≤ 1000) ∧ r = M 598 2 + n ∧ M' 598 2 = M 598 2 + n ∧ (∀ j : Int, 0 ≤ j → j < 8 → M' 606 j = if M 612 j ≤ M 598 2 + n then 0 else M 606 j) ∧ (∀ j : Int, 0 ≤ j → j < 24 → M' 627 j = if M 639 j ≤ M 598 2 + n then 0 else M 627 j)) ∨ (¬ (1 ≤ n ∧ n ≤ 1000) ∧ r = -3 ∧ M' = M)) → RG1 M' → (∀ (a : Nat) (i : Int), a ≠ 598 → a ≠ 606 → a ≠ 624 → a ≠ 627 → M' a i = M a i) → (∀ (i : Int), i ≠ 2 → M' 598 i = M 598 i) → Q (some (.int (Int32.ofInt r))) M') : jc A 2 298 [.ref (598), .int (Int32.ofInt (n))] M Q := by
  have hG1 := p1
  refine jc_of (m := xm_298) rfl (Nat.le_of_ble_eq_true rfl) rfl ?_
  refine jr.iload_n rfl rfl ?_
  refine jr.i2l rfl (by omega) ?_
  refine jr.lconst (x := 1) rfl (by decide) ?_
  refine jr.ldc2 (x := 1000) rfl rfl (by decide) ?_
  refine jr_s rfl rfl (Or.inl rfl) ⟨Nat.le_of_ble_eq_true rfl, Nat.le_of_ble_eq_true rfl⟩ rfl rfl (jc.deep (c_within (by omega) (by omega) (by omega) (fun l6 u6 => ?_) (fun n6 => ?_)) (by decide))
  · refine jr.if_ne rfl rfl (by omega) (fun _ => ?_) (fun h => absurd (by decide) h)
    refine jr.iconst rfl ?_
    refine jr.istore_n (ls' := [_, _, _]) rfl (by decide) rfl ?_
    obtain ⟨v1, e1⟩ : ∃ z, M 598 2 = z := ⟨_, rfl⟩
    have b1 : 0 ≤ v1 ∧ v1 ≤ 2000000 := by rw [← e1]; exact hI_M 598 2 (by decide)
    refine jr.pick (ls := [_, _, _]) [0, 2, 1] rfl rfl ?_
    exact r_tick_L17_x q 1000 M 0 n hI_M hH_M hS_M  (fun a i f598 f606 f624 f627 => rfl) (fun i g2 => rfl) (by omega) (by omega) hG1 hI_M (by omega) ((e1).trans (by omega)) TW.z TW.z (by omega) (by omega) (by omega)
  · refine jr.if_ne rfl rfl (by omega) (fun h => absurd h (by decide)) (fun _ => ?_)
    refine jr.bipush rfl (by decide) ?_
    exact jr.ireturn rfl rfl rfl (q _ _ hI_M hH_M hS_M  (by omega) (Or.inr ⟨by omega, by omega, rfl⟩) hG1 (fun a i f598 f606 f624 f627 => rfl) (fun i g2 => rfl))
end
section
/-! ===== the data of both sides are the same ===== -/
noncomputable def RDt (C R : jm) : Prop := C 1 = R 599 ∧ C 0 1 = R 598 1
noncomputable def RDp (C R : jm) : Prop := ∀ p : Int, 0 ≤ p → p < 24 → C (xe 2 p) 1 = R 600 p ∧ ∀ i : Int, 0 ≤ i → i < 400 → C (xe 2 p + 1) i = R 601 (400 * p + i)
noncomputable def RDf (C R : jm) : Prop := C 9 0 = (if R 598 13 = -1 then 0 else R 598 13) ∧ C 9 1 = R 598 14 ∧ C 9 2 = R 598 15 ∧ C 9 3 = R 598 16
noncomputable def RDl (C R : jm) : Prop := ∀ i : Int, 0 ≤ i → i < 5 → C 14 i = if R 598 34 = 0 then -1 else R 622 i
noncomputable def RDo (C R : jm) : Prop := (∀ y : Int, 0 ≤ C 27 y ∧ C 27 y ≤ 65535) ∧ ∀ k : Int, 0 ≤ k → k < 4 → (R 643 k = 0 → C 28 k = 0) ∧ (R 643 k ≠ 0 → C 26 k = R 644 k ∧ C 27 k = R 645 k ∧ C 28 k = R 646 k ∧ 1 ≤ C 28 k)
/-- a flow that lives -/
noncomputable def FL (C R : jm) (t : Nat) (f : Int) : Prop := (C t 1 = R 628 f ∧ C t 2 = R 629 f ∧ C t 5 = R 638 f ∧ C t 6 = R 639 f ∧ C t 13 = R 640 f) ∧ (∀ s : Int, 0 ≤ s → s < 2 → (C (t + 1) s = R 630 (2 * f + s) ∧ C (t + 2) s = R 631 (2 * f + s) ∧ C (t + 5) s = R 635 (2 * f + s)) ∧ (C (t + 6) s = R 636 (2 * f + s) ∧ C (t + 7) s = R 637 (2 * f + s)) ∧ C (t + 4) s = R 632 (2 * f + s) ∧ C (t + 3) s = l6x R (2 * f + s)) ∧ (C t 12 = R 634 (2 * f + 1) ∧ R 634 (2 * f) = 1) ∧ ((R 640 f = -1 ∧ C t 15 = -1) ∨ (R 640 f ≠ -1 ∧ C t 14 = R 641 f ∧ C t 15 = R 642 f ∧ R 628 f = 0 ∧ R 629 f ≠ 1)) ∧ stOK (R 629 f) (R 638 f)
noncomputable def FR1 (C R : jm) (t : Nat) (f : Int) : Prop := C t 0 = R 627 f ∧ (R 627 f ≠ 0 → FL C R t f)
noncomputable def RDw (C R : jm) : Prop := ((16 ≤ C 15 0 ∧ C 15 0 ≤ 17) ∧ C 15 0 + C 15 1 = 33) ∧ ∀ f : Int, 0 ≤ f → f < 24 → FR1 C R (xe (C 15 0).toNat f) f
/-- a gathering that lives -/
noncomputable def GL (C R : jm) (G : Nat) (g : Int) : Prop := (C G 1 = R 607 g ∧ C G 2 = R 608 g ∧ C G 3 = R 609 g ∧ C G 4 = R 610 g ∧ C G 5 = R 611 g ∧ C G 6 = R 612 g) ∧ (R 607 g = 2 ∨ R 607 g = 6) ∧ (C G 7 = R 614 g ∧ R 613 g = rbf (C G 7) (C G 8) ∧ (C G 7 = -1 ∨ (0 ≤ C G 7 ∧ C G 7 ≤ 360))) ∧ (∀ k : Int, 0 ≤ k → k < lpf (C G 7) → C (G + 1) k = wR R g k) ∧ C G 11 = R 617 g ∧ (R 617 g ≠ -1 → (∀ k : Int, 0 ≤ k → k < R 617 g → C (G + 2) k = R 618 (400 * g + k)) ∧ C G 12 = R 621 g ∧ (R 607 g = 6 → C G 13 = R 620 g ∧ R 618 (400 * g + R 619 g) = R 611 g) ∧ (R 607 g = 2 → R 617 g = R 621 g + 4 * (R 618 (400 * g + R 621 g) % 16) ∧ R 621 g + 20 ≤ R 617 g))
noncomputable def GR1 (C R : jm) (G : Nat) (g : Int) : Prop := C G 0 = R 606 g ∧ (R 606 g ≠ 0 → GL C R G g)
/-- names of gatherings differ -/
noncomputable def UN (R : jm) : Prop := ∀ g h : Int, 0 ≤ g → g < 8 → 0 ≤ h → h < 8 → R 606 g ≠ 0 → R 606 h ≠ 0 → (R 607 g = R 607 h ∧ R 608 g = R 608 h ∧ R 609 g = R 609 h ∧ R 610 g = R 610 h ∧ R 611 g = R 611 h) → g = h
noncomputable def RDg (C R : jm) : Prop := UN R ∧ ∀ g : Int, 0 ≤ g → g < 8 → GR1 C R (xe 10 g) g
noncomputable def RDA (C R : jm) : Prop := RDt C R ∧ RDp C R ∧ RDf C R ∧ RDl C R ∧ RDo C R ∧ RDw C R ∧ RDg C R
theorem xpk0 : ∀ n : Nat, n < 24 → xe 2 (n : Int) = 526 + 2 * n := by decide +kernel
theorem xpk {g : Int} (h : 0 ≤ g ∧ g < 24) : xe 2 g = 526 + 2 * g.toNat := by
  obtain ⟨n, rfl⟩ := Int.eq_ofNat_of_zero_le h.1
  exact xpk0 n (by omega)
theorem kP {p : Int} (h0 : 0 ≤ p) (h1 : p < 24) : kd (xe 2 p) = 33 ∧ kd (xe 2 p + 1) = 34 := by
  have k := (kxe_42 (show kd 2 = 42 from rfl) h0 h1).2
  exact ⟨k, (kf_33_0 k).2⟩
/-! frames: the class's cells -/
theorem RDt.f {W : List (Nat × Nat)} {C D R : jm} (h : RDt C R) (f : FR W C D) (s : ksep W [(35, 1), (43, 1000)] = true) : RDt D R := by
  refine ⟨?_, ?_⟩
  · rw [← h.1]
    exact funext (fun i => f.s s (show kd 1 = 43 from rfl) 1000 (by decide) i (Or.inl rfl))
  · rw [← h.2]
    exact f.s s (show kd 0 = 35 from rfl) 1 (by decide) 1 (Or.inr rfl)
theorem RDp.f {W : List (Nat × Nat)} {C D R : jm} (h : RDp C R) (f : FR W C D) (s : ksep W [(33, 1), (34, 1000)] = true) : RDp D R := fun p p0 p1 => by
  have k := kP p0 p1
  refine ⟨?_, fun i i0 i1 => ?_⟩
  · rw [f.s s k.1 1 (by decide) 1 (Or.inr rfl)]; exact (h p p0 p1).1
  · rw [f.s s k.2 1000 (by decide) i (Or.inl rfl)]; exact (h p p0 p1).2 i i0 i1
theorem RDf.f {W : List (Nat × Nat)} {C D R : jm} (h : RDf C R) (f : FR W C D) (s : ksep W [(39, 1000)] = true) : RDf D R := by
  have e : ∀ i : Int, D 9 i = C 9 i := fun i => f.s s (show kd 9 = 39 from rfl) 1000 (by decide) i (Or.inl rfl)
  unfold RDf
  rw [e, e, e, e]
  exact h
end
