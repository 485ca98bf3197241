section
noncomputable def io6 (M : jm) (x f c : Int) : Int := if (c ≠ 2 ∧ c ≠ 4) ∨ M 632 (2 * f + M 598 66) = 0 then 0 else if j_w (sq6 M x - M 633 (2 * f + M 598 66)) < -66000 ∨ (M 634 (2 * f + 1 - M 598 66) ≠ 0 ∧ M 635 (2 * f + 1 - M 598 66) < j_w (j_w (sq6 M x + lg6 M x) - M 633 (2 * f + M 598 66))) then 1 else 0
theorem io6_0 {M : jm} {x f c : Int} (h : (c ≠ 2 ∧ c ≠ 4) ∨ M 632 (2 * f + M 598 66) = 0) : io6 M x f c = 0 := by
  unfold io6
  rw [if_pos h]
theorem io6_1 {M : jm} {x f c q n l : Int} (h : ¬ ((c ≠ 2 ∧ c ≠ 4) ∨ M 632 (2 * f + M 598 66) = 0)) (hq : sq6 M x = q) (hn : lg6 M x = n) (hl : M 633 (2 * f + M 598 66) = l) (h1 : j_w (q - l) < -66000 ∨ (M 634 (2 * f + 1 - M 598 66) ≠ 0 ∧ M 635 (2 * f + 1 - M 598 66) < j_w (j_w (q + n) - l))) : io6 M x f c = 1 := by
  unfold io6
  rw [if_neg h, hq, hn, hl, if_pos h1]
theorem io6_2 {M : jm} {x f c q n l : Int} (h : ¬ ((c ≠ 2 ∧ c ≠ 4) ∨ M 632 (2 * f + M 598 66) = 0)) (hq : sq6 M x = q) (hn : lg6 M x = n) (hl : M 633 (2 * f + M 598 66) = l) (h1 : ¬ (j_w (q - l) < -66000 ∨ (M 634 (2 * f + 1 - M 598 66) ≠ 0 ∧ M 635 (2 * f + 1 - M 598 66) < j_w (j_w (q + n) - l)))) : io6 M x f c = 0 := by
  unfold io6
  rw [if_neg h, hq, hn, hl, if_neg h1]
theorem r_longOf_x {A : Nat → Option (Nat × (Nat → Int32))} {Q : Option Value → jm → Prop} {M : jm} (hI_M : RI M) (hH_M : RH M) (hS_M : RF M) {x : Int} (h_x : 0 ≤ x ∧ x ≤ 23) (p0 : (0 ≤ M 598 65 ∧ M 598 65 ≤ 11)) (p1 : M 604 (M 598 65) ≤ 380) (q : ∀ (r : Int), (-2000) ≤ r ∧ r ≤ 2000 → r = lg6 M x → Q (some (.int (Int32.ofInt r))) M) : jc A 2 311 [.ref (598), .int (Int32.ofInt (x))] M Q := by
  obtain ⟨ea, hea⟩ : ∃ z, M 598 65 = z := ⟨_, rfl⟩
  rw [hea] at p0 p1
  refine jc_of (m := xm_311) rfl (Nat.le_of_ble_eq_true rfl) rfl ?_
  refine jr.aload_n rfl rfl ?_
  refine jr.getf (i := 65) (x := ea) (v := .int (Int32.ofInt (ea))) rfl rfl (by decide) rfl (by decide) rfl rfl hea rfl ?_
  refine jr.istore_n (ls' := [_, _, _]) rfl (by decide) rfl ?_
  refine jr.aload_n rfl rfl ?_
  refine jr.iload_n rfl rfl ?_
  refine jr.aload_n rfl rfl ?_
  refine jr.getf (i := 8) (v := .ref 604) rfl rfl (by decide) rfl (by decide) rfl rfl rfl rfl ?_
  refine jr.iload_n rfl rfl ?_
  obtain ⟨v1, e1⟩ : ∃ z, M 604 ea = z := ⟨_, rfl⟩
  have b1 : 0 ≤ v1 ∧ v1 ≤ 400 := by rw [← e1]; exact (by have q := hI_M 604 ea (by decide); rw [xri_row rfl rfl] at q; exact q)
  refine jr.iald (i := ea) (x := v1) rfl (by decide) rfl (by decide) (by omega) (by omega) e1 ?_
  refine jr.bipush rfl (by decide) ?_
  refine jr.iadd rfl ?_
  refine jr_v rfl rfl (Or.inl rfl) rfl rfl (by decide) rfl ⟨rfl, Nat.le_of_ble_eq_true rfl, Nat.le_of_ble_eq_true rfl⟩ rfl (jc.deep (r_one hI_M hH_M hS_M (Kp.rfl _) (by omega) (by omega)  (fun r2 z2 w2_0 => ?_)) (by decide))
  refine jr.istore_n (ls' := [_, _, _, _]) rfl (by decide) rfl ?_
  refine jr.aload_n rfl rfl ?_
  refine jr.getf (i := 3) (v := .ref 600) rfl rfl (by decide) rfl (by decide) rfl rfl rfl rfl ?_
  refine jr.iload_n rfl rfl ?_
  obtain ⟨v3, e3⟩ : ∃ z, M 600 x = z := ⟨_, rfl⟩
  have b3 : (-1) ≤ v3 ∧ v3 ≤ 400 := by rw [← e3]; exact (by have q := hI_M 600 x (by decide); rw [xri_row rfl rfl] at q; exact q)
  refine jr.iald (i := x) (x := v3) rfl (by decide) rfl (by decide) (by omega) (by omega) e3 ?_
  refine jr.aload_n rfl rfl ?_
  refine jr.getf (i := 8) (v := .ref 604) rfl rfl (by decide) rfl (by decide) rfl rfl rfl rfl ?_
  refine jr.iload_n rfl rfl ?_
  refine jr.iald (i := ea) (x := v1) rfl (by decide) rfl (by decide) (by omega) (by omega) e1 ?_
  refine jr.isub rfl ?_
  refine jr.aload_n rfl rfl ?_
  refine jr.getf (i := 9) (v := .ref 605) rfl rfl (by decide) rfl (by decide) rfl rfl rfl rfl ?_
  refine jr.iload_n rfl rfl ?_
  obtain ⟨v4, e4⟩ : ∃ z, M 605 ea = z := ⟨_, rfl⟩
  have b4 : 0 ≤ v4 ∧ v4 ≤ 400 := by rw [← e4]; exact (by have q := hI_M 605 ea (by decide); rw [xri_row rfl rfl] at q; exact q)
  refine jr.iald (i := ea) (x := v4) rfl (by decide) rfl (by decide) (by omega) (by omega) e4 ?_
  refine jr.isub rfl ?_
  refine jr.iload_n rfl rfl ?_
  refine jr.iconst rfl ?_
  refine jr.ishr rfl ?_
  have b5 : j_shr r2 1 = r2 / 2 := j_shr_ex 1 (by decide) (by omega) (by omega)
  generalize j_shr r2 1 = v5 at b5 ⊢
  refine jr.iconst rfl ?_
  refine jr.iand rfl ?_
  have b6 : j_and v5 1 = v5 % 2 := j_and_m 1 (by decide) _
  generalize j_and v5 1 = v6 at b6 ⊢
  refine jr.iadd rfl ?_
  refine jr.iload_n rfl rfl ?_
  refine jr.iconst rfl ?_
  refine jr.iand rfl ?_
  have b7 : j_and r2 1 = r2 % 2 := j_and_m 1 (by decide) _
  generalize j_and r2 1 = v7 at b7 ⊢
  refine jr.iadd rfl ?_
  exact jr.ireturn rfl rfl rfl (q _ (by omega) (by unfold lg6; rw [hea, e1, e4]; omega))
end
