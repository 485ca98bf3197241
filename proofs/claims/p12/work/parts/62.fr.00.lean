section
/-! ===== the reference: exact effects on tape and packets ===== -/
theorem bt_rg {n k j : Int} (h : k = 0 ∨ k = 8 ∨ k = 16 ∨ k = 24) (hj : k / 8 = j) : j_and (j_ushr n k) 255 = bt n j ∧ 0 ≤ j_and (j_ushr n k) 255 ∧ j_and (j_ushr n k) 255 ≤ 255 := by
  subst hj
  rw [bt_rf h]
  exact ⟨rfl, bt_r _ _⟩
theorem t4_4 {f : Int → Int} {S v : Int} (g : Int → Int) (h0 : g S = bt v 3) (h1 : g (S + 1) = bt v 2) (h2 : g (S + 2) = bt v 1) (h3 : g (S + 3) = bt v 0) (ho : ∀ k : Int, ¬ (S ≤ k ∧ k < S + 4) → g k = f k) : g = t4 f S v := by
  funext k
  unfold t4
  by_cases q : S ≤ k ∧ k < S + 4
  · rw [if_pos q]
    rcases (show k = S ∨ k = S + 1 ∨ k = S + 2 ∨ k = S + 3 by omega) with rfl | rfl | rfl | rfl
    · rw [h0, show k + 3 - k = 3 by omega]
    · rw [h1, show S + 3 - (S + 1) = 2 by omega]
    · rw [h2, show S + 3 - (S + 2) = 1 by omega]
    · rw [h3, show S + 3 - (S + 3) = 0 by omega]
  · rw [if_neg q]
    exact ho k q
theorem r_putWord_x {A : Nat → Option (Nat × (Nat → Int32))} {Q : Option Value → jm → Prop} {M : jm} (hI_M : RI M) (hH_M : RH M) (hS_M : RF M) {x : Int} (h_x : (-2147483648) ≤ x ∧ x ≤ 2147483647) (p0 : M 598 1 ≤ 1596) (q : ∀ (M' : jm), RI M' → RH M' → RF M' → M' 599 = t4 (M 599) (M 598 1) x → M' 598 1 = M 598 1 + 4 → (∀ (a : Nat) (i : Int), a ≠ 598 → a ≠ 599 → M' a i = M a i) → (∀ (i : Int), i ≠ 1 → M' 598 i = M 598 i) → Q none M') : jc A 1 243 [.ref (598), .int (Int32.ofInt (x))] M Q := by
  refine jc_of (m := xm_243) rfl (Nat.le_of_ble_eq_true rfl) rfl ?_
  refine jr.bipush rfl (by decide) ?_
  refine jr.istore_n (ls' := [_, _, _]) rfl (by decide) rfl ?_
  refine jr.iload_n rfl rfl ?_
  refine jr.if_lt rfl rfl (by omega) (fun h => absurd h (by decide)) (fun _ => ?_)
  refine jr.aload_n rfl rfl ?_
  refine jr.getf (i := 0) (v := .ref 599) rfl rfl (by decide) rfl (by decide) rfl rfl rfl rfl ?_
  refine jr.aload_n rfl rfl ?_
  obtain ⟨v1, e1⟩ : ∃ z, M 598 1 = z := ⟨_, rfl⟩
  have b1 : 0 ≤ v1 ∧ v1 ≤ 1600 := by rw [← e1]; exact hI_M 598 1 (by decide)
  refine jr.getf (i := 1) (x := v1) (v := .int (Int32.ofInt (v1))) rfl rfl (by decide) rfl (by decide) rfl rfl e1 rfl ?_
  refine jr.iload_n rfl rfl ?_
  refine jr.iload_n rfl rfl ?_
  refine jr.iushr rfl ?_
  refine jr.sipush rfl (by decide) ?_
  refine jr.iand rfl ?_
  have b2 : j_and (j_ushr x 24) 255 = bt x 3 ∧ 0 ≤ j_and (j_ushr x 24) 255 ∧ j_and (j_ushr x 24) 255 ≤ 255 := bt_rg (by omega) (by omega)
  generalize j_and (j_ushr x 24) 255 = v2 at b2 ⊢
  refine jr.iast (i := v1) (x := v2) rfl (by decide) rfl (by decide) (by omega) (by omega) ?_
  refine jr.aload_n rfl rfl ?_
  refine jr.dup rfl rfl ?_
  refine jr.getf (i := 1) (x := v1) (v := .int (Int32.ofInt (v1))) rfl rfl (by decide) rfl (by decide) rfl rfl ((ju_c _ _ (by decide)).trans e1) rfl ?_
  refine jr.iconst rfl ?_
  refine jr.iadd rfl ?_
  refine jr.putf (i := 1) (x := (v1 + 1)) rfl rfl (by decide) rfl (by decide) rfl rfl rfl rfl rfl ?_
  refine jr.iinc (ls' := [_, _, _]) rfl rfl (by decide) rfl ?_
  refine jr.goto rfl rfl ?_
  refine jr.iload_n rfl rfl ?_
  refine jr.if_lt rfl rfl (by omega) (fun h => absurd h (by decide)) (fun _ => ?_)
  refine jr.aload_n rfl rfl ?_
  refine jr.getf (i := 0) (v := .ref 599) rfl rfl (by decide) rfl (by decide) rfl rfl rfl rfl ?_
  refine jr.aload_n rfl rfl ?_
  refine jr.getf (i := 1) (x := (v1 + 1)) (v := .int (Int32.ofInt (v1 + 1))) rfl rfl (by decide) rfl (by decide) rfl rfl (ju_same _ _ _ _) rfl ?_
  refine jr.iload_n rfl rfl ?_
  refine jr.iload_n rfl rfl ?_
  refine jr.iushr rfl ?_
  refine jr.sipush rfl (by decide) ?_
  refine jr.iand rfl ?_
  have b3 : j_and (j_ushr x (24 + (-8))) 255 = bt x 2 ∧ 0 ≤ j_and (j_ushr x (24 + (-8))) 255 ∧ j_and (j_ushr x (24 + (-8))) 255 ≤ 255 := bt_rg (by omega) (by omega)
  generalize j_and (j_ushr x (24 + (-8))) 255 = v3 at b3 ⊢
  refine jr.iast (i := (v1 + 1)) (x := v3) rfl (by decide) rfl (by decide) (by omega) (by omega) ?_
  refine jr.aload_n rfl rfl ?_
  refine jr.dup rfl rfl ?_
  refine jr.getf (i := 1) (x := (v1 + 1)) (v := .int (Int32.ofInt (v1 + 1))) rfl rfl (by decide) rfl (by decide) rfl rfl ((ju_c _ _ (by decide)).trans (ju_same _ _ _ _)) rfl ?_
  refine jr.iconst rfl ?_
  refine jr.iadd rfl ?_
  refine jr.putf (i := 1) (x := ((v1 + 1) + 1)) rfl rfl (by decide) rfl (by decide) rfl rfl rfl rfl rfl ?_
  refine jr.iinc (ls' := [_, _, _]) rfl rfl (by decide) rfl ?_
  refine jr.goto rfl rfl ?_
  refine jr.iload_n rfl rfl ?_
  refine jr.if_lt rfl rfl (by omega) (fun h => absurd h (by decide)) (fun _ => ?_)
  refine jr.aload_n rfl rfl ?_
  refine jr.getf (i := 0) (v := .ref 599) rfl rfl (by decide) rfl (by decide) rfl rfl rfl rfl ?_
  refine jr.aload_n rfl rfl ?_
  refine jr.getf (i := 1) (x := ((v1 + 1) + 1)) (v := .int (Int32.ofInt ((v1 + 1) + 1))) rfl rfl (by decide) rfl (by decide) rfl rfl (ju_same _ _ _ _) rfl ?_
  refine jr.iload_n rfl rfl ?_
  refine jr.iload_n rfl rfl ?_
  refine jr.iushr rfl ?_
  refine jr.sipush rfl (by decide) ?_
  refine jr.iand rfl ?_
  have b4 : j_and (j_ushr x ((24 + (-8)) + (-8))) 255 = bt x 1 ∧ 0 ≤ j_and (j_ushr x ((24 + (-8)) + (-8))) 255 ∧ j_and (j_ushr x ((24 + (-8)) + (-8))) 255 ≤ 255 := bt_rg (by omega) (by omega)
  generalize j_and (j_ushr x ((24 + (-8)) + (-8))) 255 = v4 at b4 ⊢
  refine jr.iast (i := ((v1 + 1) + 1)) (x := v4) rfl (by decide) rfl (by decide) (by omega) (by omega) ?_
  refine jr.aload_n rfl rfl ?_
  refine jr.dup rfl rfl ?_
  refine jr.getf (i := 1) (x := ((v1 + 1) + 1)) (v := .int (Int32.ofInt ((v1 + 1) + 1))) rfl rfl (by decide) rfl (by decide) rfl rfl ((ju_c _ _ (by decide)).trans (ju_same _ _ _ _)) rfl ?_
  refine jr.iconst rfl ?_
  refine jr.iadd rfl ?_
  refine jr.putf (i := 1) (x := (((v1 + 1) + 1) + 1)) rfl rfl (by decide) rfl (by decide) rfl rfl rfl rfl rfl ?_
  refine jr.iinc (ls' := [_, _, _]) rfl rfl (by decide) rfl ?_
  refine jr.goto rfl rfl ?_
  refine jr.iload_n rfl rfl ?_
  refine jr.if_lt rfl rfl (by omega) (fun h => absurd h (by decide)) (fun _ => ?_)
  refine jr.aload_n rfl rfl ?_
  refine jr.getf (i := 0) (v := .ref 599) rfl rfl (by decide) rfl (by decide) rfl rfl rfl rfl ?_
  refine jr.aload_n rfl rfl ?_
  refine jr.getf (i := 1) (x := (((v1 + 1) + 1) + 1)) (v := .int (Int32.ofInt (((v1 + 1) + 1) + 1))) rfl rfl (by decide) rfl (by decide) rfl rfl (ju_same _ _ _ _) rfl ?_
  refine jr.iload_n rfl rfl ?_
  refine jr.iload_n rfl rfl ?_
  refine jr.iushr rfl ?_
  refine jr.sipush rfl (by decide) ?_
  refine jr.iand rfl ?_
  have b5 : j_and (j_ushr x (((24 + (-8)) + (-8)) + (-8))) 255 = bt x 0 ∧ 0 ≤ j_and (j_ushr x (((24 + (-8)) + (-8)) + (-8))) 255 ∧ j_and (j_ushr x (((24 + (-8)) + (-8)) + (-8))) 255 ≤ 255 := bt_rg (by omega) (by omega)
  generalize j_and (j_ushr x (((24 + (-8)) + (-8)) + (-8))) 255 = v5 at b5 ⊢
  refine jr.iast (i := (((v1 + 1) + 1) + 1)) (x := v5) rfl (by decide) rfl (by decide) (by omega) (by omega) ?_
  refine jr.aload_n rfl rfl ?_
  refine jr.dup rfl rfl ?_
  refine jr.getf (i := 1) (x := (((v1 + 1) + 1) + 1)) (v := .int (Int32.ofInt (((v1 + 1) + 1) + 1))) rfl rfl (by decide) rfl (by decide) rfl rfl ((ju_c _ _ (by decide)).trans (ju_same _ _ _ _)) rfl ?_
  refine jr.iconst rfl ?_
  refine jr.iadd rfl ?_
  refine jr.putf (i := 1) (x := ((((v1 + 1) + 1) + 1) + 1)) rfl rfl (by decide) rfl (by decide) rfl rfl rfl rfl rfl ?_
  refine jr.iinc (ls' := [_, _, _]) rfl rfl (by decide) rfl ?_
  refine jr.goto rfl rfl ?_
  refine jr.iload_n rfl rfl ?_
  refine jr.if_lt rfl rfl (by omega) (fun _ => ?_) (fun h => absurd (by decide) h)
  exact jr.vreturn rfl rfl (q _ (RI.u (RI.u (RI.u (RI.u (RI.u (RI.u (RI.u (RI.u hI_M (a := 599) (i := v1) (by rw [xri_row rfl rfl]; show (0 : Int) ≤ _ ∧ _ ≤ (255 : Int); omega)) (a := 598) (i := 1) (show (0 : Int) ≤ _ ∧ _ ≤ (1600 : Int) from by omega)) (a := 599) (i := (v1 + 1)) (by rw [xri_row rfl rfl]; show (0 : Int) ≤ _ ∧ _ ≤ (255 : Int); omega)) (a := 598) (i := 1) (show (0 : Int) ≤ _ ∧ _ ≤ (1600 : Int) from by omega)) (a := 599) (i := ((v1 + 1) + 1)) (by rw [xri_row rfl rfl]; show (0 : Int) ≤ _ ∧ _ ≤ (255 : Int); omega)) (a := 598) (i := 1) (show (0 : Int) ≤ _ ∧ _ ≤ (1600 : Int) from by omega)) (a := 599) (i := (((v1 + 1) + 1) + 1)) (by rw [xri_row rfl rfl]; show (0 : Int) ≤ _ ∧ _ ≤ (255 : Int); omega)) (a := 598) (i := 1) (show (0 : Int) ≤ _ ∧ _ ≤ (1600 : Int) from by omega)) (RH.o (RH.o (RH.o (RH.o (RH.o (RH.o (RH.o (RH.o hH_M (by decide) (by decide) (by decide)) (by decide) (by decide) (by decide)) (by decide) (by decide) (by decide)) (by decide) (by decide) (by decide)) (by decide) (by decide) (by decide)) (by decide) (by decide) (by decide)) (by decide) (by decide) (by decide)) (by decide) (by decide) (by decide)) (RF.o (RF.o (RF.o (RF.o (RF.o (RF.o (RF.o (RF.o hS_M (by decide) (by decide)) (by decide) (by decide)) (by decide) (by decide)) (by decide) (by decide)) (by decide) (by decide)) (by decide) (by decide)) (by decide) (by decide)) (by decide) (by decide))  (by rw [e1]; exact t4_4 _ (by rw [show v1 = v1 from by omega]; exact (((ju_c _ _ (by decide)).trans ((ju_i _ _ (by omega)).trans ((ju_c _ _ (by decide)).trans ((ju_i _ _ (by omega)).trans ((ju_c _ _ (by decide)).trans ((ju_i _ _ (by omega)).trans ((ju_c _ _ (by decide)).trans (ju_same _ _ _ _))))))))).trans (by omega)) (by rw [show v1 + 1 = v1 + 1 from by omega]; exact (((ju_c _ _ (by decide)).trans ((ju_i _ _ (by omega)).trans ((ju_c _ _ (by decide)).trans ((ju_i _ _ (by omega)).trans ((ju_c _ _ (by decide)).trans (ju_same _ _ _ _))))))).trans (by omega)) (by rw [show v1 + 2 = (v1 + 1) + 1 from by omega]; exact (((ju_c _ _ (by decide)).trans ((ju_i _ _ (by omega)).trans ((ju_c _ _ (by decide)).trans (ju_same _ _ _ _))))).trans (by omega)) (by rw [show v1 + 3 = ((v1 + 1) + 1) + 1 from by omega]; exact (((ju_c _ _ (by decide)).trans (ju_same _ _ _ _))).trans (by omega)) (fun k hk => ((ju_c _ _ (by decide)).trans ((ju_i _ _ (by omega)).trans ((ju_c _ _ (by decide)).trans ((ju_i _ _ (by omega)).trans ((ju_c _ _ (by decide)).trans ((ju_i _ _ (by omega)).trans ((ju_c _ _ (by decide)).trans ((ju_i _ _ (by omega)).trans rfl)))))))))) ((ju_same _ _ _ _).trans (by omega)) (fun a i f598 f599 => ((ju_c _ _ f598).trans ((ju_c _ _ f599).trans ((ju_c _ _ f598).trans ((ju_c _ _ f599).trans ((ju_c _ _ f598).trans ((ju_c _ _ f599).trans ((ju_c _ _ f598).trans ((ju_c _ _ f599).trans rfl))))))))) (fun i g1 => ((ju_i _ _ g1).trans ((ju_c _ _ (by decide)).trans ((ju_i _ _ g1).trans ((ju_c _ _ (by decide)).trans ((ju_i _ _ g1).trans ((ju_c _ _ (by decide)).trans ((ju_i _ _ g1).trans ((ju_c _ _ (by decide)).trans rfl))))))))))
end
