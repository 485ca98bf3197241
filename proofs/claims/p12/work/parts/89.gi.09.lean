section
theorem r_layData_x {A : Nat → Option (Nat × (Nat → Int32))} {Q : Option Value → jm → Prop} {M : jm} (hI_M : RI M) (hH_M : RH M) (hS_M : RF M) {g : Int} (h_g : 0 ≤ g ∧ g ≤ 7) {x : Int} (h_x : 0 ≤ x ∧ x ≤ 23) {f : Int} (h_f : 0 ≤ f ∧ f ≤ 400) {c : Int} (h_c : 0 ≤ c ∧ c ≤ 400) {o : Int} (h_o : 0 ≤ o ∧ o ≤ 65528) (p0 : f + c ≤ 400) (p1 : (M 614 g = -1 ∨ (0 ≤ M 614 g ∧ M 614 g ≤ 360))) (q : ∀ (M' : jm), RI M' → RH M' → RF M' → (((∀ j : Int, 0 ≤ j → j < 360 → wR M' g j = glay (wR M g) (rf M x) o f (mlf c o (lpf (M 614 g))) j) ∧ (∀ j : Int, (j < 360 * g ∨ 360 * g + 360 ≤ j) → M' 616 j = M 616 j ∧ M' 615 j = M 615 j)) ∧ M' 598 34 = 1 ∧ M' 622 0 = mlf c o (lpf (M 614 g)) - gov (wR M g) o (mlf c o (lpf (M 614 g))).toNat ∧ M' 622 1 = gov (wR M g) o (mlf c o (lpf (M 614 g))).toNat ∧ M' 622 2 = c - mlf c o (lpf (M 614 g)) ∧ M' 622 3 = M 613 g ∧ M' 622 4 = M 614 g) → (∀ (a : Nat) (i : Int), a ≠ 598 → a ≠ 615 → a ≠ 616 → a ≠ 622 → M' a i = M a i) → (∀ (i : Int), i ≠ 34 → M' 598 i = M 598 i) → Q none M') : jc A 2 294 [.ref (598), .int (Int32.ofInt (g)), .int (Int32.ofInt (x)), .int (Int32.ofInt (f)), .int (Int32.ofInt (c)), .int (Int32.ofInt (o))] M Q := by
  refine jc_of (m := xm_294) rfl (Nat.le_of_ble_eq_true rfl) rfl ?_
  refine jr.aload_n rfl rfl ?_
  refine jr.getf (i := 25) (v := .ref 614) rfl rfl (by decide) rfl (by decide) rfl rfl rfl rfl ?_
  refine jr.iload_n rfl rfl ?_
  obtain ⟨v1, e1⟩ : ∃ z, M 614 g = z := ⟨_, rfl⟩
  have b1 : (-1) ≤ v1 ∧ v1 ≤ 360 := by rw [← e1]; exact (by have q := hI_M 614 g (by decide); rw [xri_row rfl rfl] at q; exact q)
  refine jr.iald (i := g) (x := v1) rfl (by decide) rfl (by decide) (by omega) (by omega) e1 ?_
  refine jr.iconst rfl ?_
  refine jr.icmp_ne rfl rfl (by omega) (by omega) (fun h7 => ?_) (fun h7 => ?_)
  · have sx7 : (0 : Int) ≤ v1 := by omega
    clear h7
    refine jr.aload_n rfl rfl ?_
    refine jr.getf (i := 25) (v := .ref 614) rfl rfl (by decide) rfl (by decide) rfl rfl rfl rfl ?_
    refine jr.iload_n rfl rfl ?_
    refine jr.iald (i := g) (x := v1) rfl (by decide) rfl (by decide) (by omega) (by omega) e1 ?_
    refine jr.istore (ls' := [_, _, _, _, _, _, _]) rfl (by decide) rfl ?_
    refine jr.iconst rfl ?_
    refine jr.istore (ls' := [_, _, _, _, _, _, _, _]) rfl (by decide) rfl ?_
    refine jr.iconst rfl ?_
    refine jr.istore (ls' := [_, _, _, _, _, _, _, _, _]) rfl (by decide) rfl ?_
    refine jr.iconst rfl ?_
    refine jr.istore (ls' := [_, _, _, _, _, _, _, _, _, _]) rfl (by decide) rfl ?_
    refine jr.iconst rfl ?_
    refine jr.istore (ls' := [_, _, _, _, _, _, _, _, _, _, _]) rfl (by decide) rfl ?_
    refine jr.pick (ls := [_, _, _, _, _, _, _, _, _, _, _]) [0, 1, 2, 3, 4, 10, 9, 8, 7, 6, 5] rfl rfl ?_
    exact r_layData_L36_x q 400 M 0 0 0 0 v1 o c f x g hI_M hH_M hS_M  (fun a i f598 f615 f616 f622 => rfl) (fun i g34 => rfl) (by omega) (by omega) (by omega) (by omega) (by omega) (by omega) (by omega) (by omega) (by omega) (by omega) (by omega) (by omega) (by omega) (by omega) (by omega) LDR.z (by first | (have h9 := lpf_w (w := M 614 g) (by omega); omega) | (unfold lpf; rw [if_pos (by omega)])) (by omega) (by omega) (by omega) (by omega) (by omega) (by omega)
  · refine jr.sipush rfl (by decide) ?_
    refine jr.goto rfl rfl ?_
    refine jr.istore (ls' := [_, _, _, _, _, _, _]) rfl (by decide) rfl ?_
    refine jr.iconst rfl ?_
    refine jr.istore (ls' := [_, _, _, _, _, _, _, _]) rfl (by decide) rfl ?_
    refine jr.iconst rfl ?_
    refine jr.istore (ls' := [_, _, _, _, _, _, _, _, _]) rfl (by decide) rfl ?_
    refine jr.iconst rfl ?_
    refine jr.istore (ls' := [_, _, _, _, _, _, _, _, _, _]) rfl (by decide) rfl ?_
    refine jr.iconst rfl ?_
    refine jr.istore (ls' := [_, _, _, _, _, _, _, _, _, _, _]) rfl (by decide) rfl ?_
    refine jr.pick (ls := [_, _, _, _, _, _, _, _, _, _, _]) [0, 1, 2, 3, 4, 10, 9, 8, 7, 6, 5] rfl rfl ?_
    exact r_layData_L36_x q 400 M 0 0 0 0 360 o c f x g hI_M hH_M hS_M  (fun a i f598 f615 f616 f622 => rfl) (fun i g34 => rfl) (by omega) (by omega) (by omega) (by omega) (by omega) (by omega) (by omega) (by omega) (by omega) (by omega) (by omega) (by omega) (by omega) (by omega) (by omega) LDR.z (by first | (have h9 := lpf_w (w := M 614 g) (by omega); omega) | (unfold lpf; rw [if_pos (by omega)])) (by omega) (by omega) (by omega) (by omega) (by omega) (by omega)
end
section
end
