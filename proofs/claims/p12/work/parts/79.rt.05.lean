section
theorem r_right_x {A : Nat → Option (Nat × (Nat → Int32))} {Q : Option Value → jm → Prop} {f : Int → Int} {N C : Int} {M : jm} (hI_M : RI M) (hH_M : RH M) (hS_M : RF M) {x : Int} (h_x : 0 ≤ x ∧ x ≤ 23) {h : Int} (h_h : 0 ≤ h ∧ h ≤ 11) (p0 : HT M f N C) (p1 : h < C) (p2 : M 600 x = N) (q : ∀ (r : Int) (M' : jm), RI M' → RH M' → RF M' → 0 ≤ r ∧ r ≤ 1 → (r = mdR f N C h (rf M x) ∧ rf M' x = mdF f N C h (rf M x)) → OX M M' x → (∀ (a : Nat) (i : Int), a ≠ 601 → M' a i = M a i) → Q (some (.int (Int32.ofInt r))) M') : jc A 4 284 [.ref (598), .int (Int32.ofInt (x)), .int (Int32.ofInt (h))] M Q := by
  refine jc_of (m := xm_284) rfl (Nat.le_of_ble_eq_true rfl) rfl ?_
  refine jr.aload_n rfl rfl ?_
  refine jr.iload_n rfl rfl ?_
  refine jr.iload_n rfl rfl ?_
  refine jr_v rfl rfl (Or.inl rfl) rfl rfl (by decide) rfl ⟨rfl, Nat.le_of_ble_eq_true rfl, Nat.le_of_ble_eq_true rfl⟩ rfl (jc.deep (r_sumOf_x hI_M hH_M hS_M  (by omega) (by omega) p0 p1 p2 (fun r1 z1 w1_0 => ?_)) (by decide))
  have hds := dS_in w1_0
  have hh0 := HT.f p0 (x := h) (by omega)
  have hk4 : kA f N C h = hX f N h := kA_i (by omega)
  refine jr.istore_n (ls' := [_, _, _, _]) rfl (by decide) rfl ?_
  refine jr.iload_n rfl rfl ?_
  refine jr.iconst rfl ?_
  refine jr.icmp_eq rfl rfl (by omega) (by omega) (fun h9 => ?_) (fun h9 => ?_)
  · refine jr.iconst rfl ?_
    exact jr.ireturn rfl rfl rfl (q _ _ hI_M hH_M hS_M  (by omega) (by (have h9 := md_n w1_0 (by omega); exact ⟨h9.1.symm, h9.2.symm⟩)) (fun _ _ => rfl) (fun a i f601 => rfl))
  · have sx9 : (0 : Int) ≤ r1 := by omega
    refine jr.aload_n rfl rfl ?_
    refine jr.iload_n rfl rfl ?_
    refine jr.aload_n rfl rfl ?_
    refine jr.iload_n rfl rfl ?_
    refine jr_v rfl rfl (Or.inl rfl) rfl rfl (by decide) rfl ⟨rfl, Nat.le_of_ble_eq_true rfl, Nat.le_of_ble_eq_true rfl⟩ rfl (jc.deep (r_sumAt_x hI_M hH_M hS_M  (by omega)  (fun r2 z2 w2_0 => ?_)) (by decide))
    refine jr_v rfl rfl (Or.inl rfl) rfl rfl (by decide) rfl ⟨rfl, Nat.le_of_ble_eq_true rfl, Nat.le_of_ble_eq_true rfl⟩ rfl (jc.deep (r_two_x hI_M hH_M hS_M  (by omega) (by omega)  (fun r3 z3 w3_0 => ?_)) (by decide))
    refine jr.iload_n rfl rfl ?_
    refine jr.icmp_ne rfl rfl (by omega) (by omega) (fun h23 => ?_) (fun h23 => ?_)
    · refine jr.aload_n rfl rfl ?_
      refine jr.iload_n rfl rfl ?_
      refine jr.aload_n rfl rfl ?_
      refine jr.iload_n rfl rfl ?_
      refine jr_v rfl rfl (Or.inl rfl) rfl rfl (by decide) rfl ⟨rfl, Nat.le_of_ble_eq_true rfl, Nat.le_of_ble_eq_true rfl⟩ rfl (jc.deep (r_sumAt_x hI_M hH_M hS_M  (by omega)  (fun r4 z4 w4_0 => ?_)) (by decide))
      refine jr.iload_n rfl rfl ?_
      refine jr_v rfl rfl (Or.inl rfl) rfl rfl (by decide) rfl ⟨rfl, Nat.le_of_ble_eq_true rfl, Nat.le_of_ble_eq_true rfl⟩ rfl (jc.deep (r_layTwo_x hI_M hH_M hS_M  (by omega) (by omega) (by omega)  (fun M5 hI_M5 hH_M5 hS_M5  w5_0 w5_1 w5_2 => ?_)) (by decide))
      refine jr.iconst rfl ?_
      exact jr.ireturn rfl rfl rfl (q _ _ hI_M5 hH_M5 hS_M5  (by omega) (by have hh := HT.f p0 (x := h) (by omega); have hat : hY f N h + sof (hX f N h) = r4 := (by have h9 := w4_0; rw [← hh.1, ← hh.2.1]; omega); have hsm : r4 = r2 := (by have h9 := w4_0; have h8 := w2_0; omega); have h9 := md_c w1_0 (by omega) hat (by rw [hsm]; omega); rw [h9.1, h9.2]; exact ⟨rfl, w5_0⟩) w5_1 (fun a i f601 => ((w5_2 a i f601).trans rfl)))
    · refine jr.iconst rfl ?_
      exact jr.ireturn rfl rfl rfl (q _ _ hI_M hH_M hS_M  (by omega) (by first | (have h9 := md_n w1_0 (by omega); exact ⟨h9.1.symm, h9.2.symm⟩) | (have hh := HT.f p0 (x := h) (by omega); have hat : hY f N h + sof (hX f N h) = r2 := (by have h9 := w2_0; rw [← hh.1, ← hh.2.1]; omega); have h9 := md_e w1_0 (by omega) hat (by omega) (rf_r hI_M _ _) (rf_r hI_M _ _); exact ⟨h9.1.symm, h9.2.symm⟩)) (fun _ _ => rfl) (fun a i f601 => rfl))
theorem r_repair_L25_x {A : Nat → Option (Nat × (Nat → Int32))} {Q : Option Value → jm → Prop} {M0 : jm} {x0 : Int} (q : ∀ (r : Int) (M' : jm), RI M' → RH M' → RF M' → (-2) ≤ r ∧ r ≤ 20 → (((x0 < 0 ∨ 23 < x0 ∨ M0 600 x0 = -1) ∧ r = -2 ∧ M' = M0) ∨ (((0 ≤ x0 ∧ x0 ≤ 23) ∧ M0 600 x0 ≠ -1) ∧ (∃ C : Int, HE (rf M0 x0) (M0 600 x0) C ∧ r = rpN (rf M0 x0) (M0 600 x0) C C.toNat (rf M0 x0) ∧ rf M' x0 = rpF (rf M0 x0) (M0 600 x0) C C.toNat (rf M0 x0)) ∧ OX M0 M' x0)) → (∀ (a : Nat) (i : Int), a ≠ 598 → a ≠ 601 → a ≠ 603 → a ≠ 604 → a ≠ 605 → M' a i = M0 a i) → (∀ (i : Int), i ≠ 6 → i ≠ 10 → i ≠ 11 → i ≠ 12 → M' 598 i = M0 598 i) → Q (some (.int (Int32.ofInt r))) M') : ∀ (nM : Nat) (M : jm) (h : Int) (c : Int) (x : Int), RI M → RH M → RF M → (∀ (a : Nat) (i : Int), a ≠ 598 → a ≠ 601 → a ≠ 603 → a ≠ 604 → a ≠ 605 → M a i = M0 a i) → (∀ (i : Int), i ≠ 6 → i ≠ 10 → i ≠ 11 → i ≠ 12 → M 598 i = M0 598 i) → (-1) ≤ h ∧ h ≤ 11 → 0 ≤ c ∧ c ≤ 12 → 0 ≤ x ∧ x ≤ 23 → c + h ≤ 11 → HT M (rf M0 x) (M0 600 x) (M 598 6) → HE (rf M0 x) (M0 600 x) (M 598 6) → rpF (rf M0 x) (M0 600 x) (M 598 6) (h + 1).toNat (rf M x) = rpF (rf M0 x) (M0 600 x) (M 598 6) (M 598 6).toNat (rf M0 x) → c + rpN (rf M0 x) (M0 600 x) (M 598 6) (h + 1).toNat (rf M x) = rpN (rf M0 x) (M0 600 x) (M 598 6) (M 598 6).toNat (rf M0 x) → OX M0 M x → M0 600 x ≠ -1 ∧ M 600 x = M0 600 x ∧ h < M 598 6 → x = x0 → h + 1 ≤ nM → jr A 4 xm_285 25 [(3, .int (Int32.ofInt (h))), (2, .int (Int32.ofInt (c))), (1, .int (Int32.ofInt (x))), (0, .ref (598))] [] M Q := by
  intro nM
  induction nM using Nat.strongRecOn with
  | ind nM ih =>
    intro M h c x hI_M hH_M hS_M hF_M hG_M h_h h_c h_x hy0 hy1 hy2 hy3 hy4 hy5 hy6 hy7 hm
    subst hy7
    refine jr.iload_n rfl rfl ?_
    refine jr.if_lt rfl rfl (by omega) (fun h26 => ?_) (fun h26 => ?_)
    · refine jr.iload_n rfl rfl ?_
      exact jr.ireturn rfl rfl rfl (q _ _ hI_M hH_M hS_M  (by omega) (Or.inr ⟨by omega, ⟨M 598 6, hy2, by have h9 := (rp_0 (f := rf M0 x) (N := M0 600 x) (C := M 598 6) (g := rf M x) (show h < 0 by omega)).2; omega, by rw [← hy3, (rp_0 (by omega)).1]⟩, hy5⟩) (fun a i f598 f601 f603 f604 f605 => (hF_M a i f598 f601 f603 f604 f605)) (fun i g6 g10 g11 g12 => (hG_M i g6 g10 g11 g12)))
    · refine jr.iload_n rfl rfl ?_
      refine jr.aload_n rfl rfl ?_
      refine jr.iload_n rfl rfl ?_
      refine jr.iload_n rfl rfl ?_
      refine jr_v rfl rfl (Or.inl rfl) rfl rfl (by decide) rfl ⟨rfl, Nat.le_of_ble_eq_true rfl, Nat.le_of_ble_eq_true rfl⟩ rfl (jc.deep (r_right_x hI_M hH_M hS_M  (by omega) (by omega) hy1 (by omega) hy6.2.1 (fun r1 M1 hI_M1 hH_M1 hS_M1  z1 w1_0 w1_1 w1_2 => ?_)) (by decide))
      refine jr.if_eq rfl rfl (by omega) (fun h36 => ?_) (fun h36 => ?_)
      · refine jr.iconst rfl ?_
        refine jr.iadd rfl ?_
        refine jr.istore_n (ls' := [_, _, _, _]) rfl (by decide) rfl ?_
        refine jr.iinc (ls' := [_, _, _, _]) rfl rfl (by decide) rfl ?_
        refine jr.goto rfl rfl ?_
        refine jr.pick (ls := [_, _, _, _]) [0, 1, 2, 3] rfl rfl ?_
        exact ih (nM - 1) (by omega) M1 (h + (-1)) (c + 0) x hI_M1 hH_M1 hS_M1  (fun a i f598 f601 f603 f604 f605 => ((w1_2 a i f601).trans (hF_M a i f598 f601 f603 f604 f605))) (fun i g6 g10 g11 g12 => ((w1_2 598 i (by decide)).trans (hG_M i g6 g10 g11 g12))) (by omega) (by omega) (by omega) (by omega) (by rw [w1_2 598 6 (by decide)]; exact hy1.o (fun b i hb => w1_2 b i hb)) (by rw [w1_2 598 6 (by decide)]; exact hy2) (by rw [w1_2 598 6 (by decide), w1_0.2, show h + -1 + 1 = h from by omega, ← (rp_s (by omega)).1]; exact hy3) (by rw [w1_2 598 6 (by decide), w1_0.2, show h + -1 + 1 = h from by omega]; have h9 := hy4; rw [(rp_s (by omega)).2] at h9; have h8 := w1_0.1; omega) (fun j hj => (w1_1 j hj).trans (hy5 j hj)) (by rw [w1_2 600 x (by decide), w1_2 598 6 (by decide)]; omega) (by omega) (by omega)
      · have sx36 : (1 : Int) ≤ r1 := by omega
        clear h36
        refine jr.iconst rfl ?_
        refine jr.goto rfl rfl ?_
        refine jr.iadd rfl ?_
        refine jr.istore_n (ls' := [_, _, _, _]) rfl (by decide) rfl ?_
        refine jr.iinc (ls' := [_, _, _, _]) rfl rfl (by decide) rfl ?_
        refine jr.goto rfl rfl ?_
        refine jr.pick (ls := [_, _, _, _]) [0, 1, 2, 3] rfl rfl ?_
        exact ih (nM - 1) (by omega) M1 (h + (-1)) (c + 1) x hI_M1 hH_M1 hS_M1  (fun a i f598 f601 f603 f604 f605 => ((w1_2 a i f601).trans (hF_M a i f598 f601 f603 f604 f605))) (fun i g6 g10 g11 g12 => ((w1_2 598 i (by decide)).trans (hG_M i g6 g10 g11 g12))) (by omega) (by omega) (by omega) (by omega) (by rw [w1_2 598 6 (by decide)]; exact hy1.o (fun b i hb => w1_2 b i hb)) (by rw [w1_2 598 6 (by decide)]; exact hy2) (by rw [w1_2 598 6 (by decide), w1_0.2, show h + -1 + 1 = h from by omega, ← (rp_s (by omega)).1]; exact hy3) (by rw [w1_2 598 6 (by decide), w1_0.2, show h + -1 + 1 = h from by omega]; have h9 := hy4; rw [(rp_s (by omega)).2] at h9; have h8 := w1_0.1; omega) (fun j hj => (w1_1 j hj).trans (hy5 j hj)) (by rw [w1_2 600 x (by decide), w1_2 598 6 (by decide)]; omega) (by omega) (by omega)
end
