section
theorem r_beginFlow_x {A : Nat → Option (Nat × (Nat → Int32))} {Q : Option Value → jm → Prop} {M : jm} (hI_M : RI M) (hH_M : RH M) (hS_M : RF M) (q : ∀ (r : Int) (M' : jm), RI M' → RH M' → (-1) ≤ r ∧ r ≤ 23 → RFx M' r → (r = -1 ∨ M' 629 r = M 598 60) → (r = fE6 M 24 0 ∧ ((r = -1 ∧ M' = M) ∨ (r ≠ -1 ∧ BF6 M M' r))) → (∀ (a : Nat) (i : Int), a ≠ 627 → a ≠ 628 → a ≠ 629 → a ≠ 630 → a ≠ 631 → a ≠ 632 → a ≠ 633 → a ≠ 634 → a ≠ 635 → a ≠ 636 → a ≠ 637 → a ≠ 640 → M' a i = M a i) → Q (some (.int (Int32.ofInt r))) M') : jc A 2 310 [.ref (598)] M Q := by
  refine jc_of (m := xm_310) rfl (Nat.le_of_ble_eq_true rfl) rfl ?_
  refine jr.iconst rfl ?_
  refine jr.istore_n (ls' := [_, _]) rfl (by decide) rfl ?_
  refine jr.bipush rfl (by decide) ?_
  refine jr.istore_n (ls' := [_, _, _]) rfl (by decide) rfl ?_
  refine jr.pick (ls := [_, _, _]) [0, 1, 2] rfl rfl ?_
  exact r_beginFlow_L5_x q 24 M 23 (-1) hI_M hH_M hS_M  (fun a i f627 f628 f629 f630 f631 f632 f633 f634 f635 f636 f637 f640 => rfl) (by omega) (by omega) rfl rfl (by omega)
end
section
/-! ===== the reference: counts ===== -/
noncomputable def ct0 (M : jm) (x s : Int) : jm := ju (ju (ju M 636 s (jl_w (M 636 s + 1))) 637 s (jl_w (M 637 s + M 600 x))) 634 s 1
noncomputable def ctE (M : jm) (x : Int) : Int := j_w (sq6 M x + lg6 M x)
noncomputable def CT6 (M M' : jm) (x f s : Int) : Prop := (M 629 f ≠ 6 ∧ M' = ct0 M x s) ∨ (M 629 f = 6 ∧ (M 632 s ≠ 0 ∧ j_w (ctE M x - M 633 s) ≤ 0) ∧ M' = ju (ju (ct0 M x s) 632 s 1) 635 s (tw (rf M x) (M 604 (M 598 65) + 14))) ∨ (M 629 f = 6 ∧ ¬ (M 632 s ≠ 0 ∧ j_w (ctE M x - M 633 s) ≤ 0) ∧ M' = ju (ju (ju (ct0 M x s) 633 s (ctE M x)) 632 s 1) 635 s (tw (rf M x) (M 604 (M 598 65) + 14)))
theorem lg6_e {M M1 : jm} (x : Int) (h0 : ∀ i : Int, M1 600 i = M 600 i) (h1 : ∀ i : Int, M1 601 i = M 601 i) (h4 : ∀ i : Int, M1 604 i = M 604 i) (h5 : ∀ i : Int, M1 605 i = M 605 i) (h8 : ∀ i : Int, M1 598 i = M 598 i) : lg6 M1 x = lg6 M x := by
  unfold lg6
  simp only [h0, h1, h4, h5, h8]
end
