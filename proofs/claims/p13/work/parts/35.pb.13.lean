theorem r_open {A : Nat → Option (Nat × (Nat → Int32))} {M : jm} {Q : Option Value → jm → Prop} {c n s : Int} (e_c : M 598 102 = c) (h_c : 0 ≤ c ∧ c ≤ 399) (e_n : M 598 90 = n) (h_n : 0 ≤ n ∧ n ≤ 2199) (h_s : 0 ≤ s ∧ s ≤ 255) (q : ∀ op : Int, (op = 7 ∨ op = 8) → Q none (ju (ju (ju (ju (ju (ju (ju (ju M 664 c s) 666 c (-1)) 667 c 1) 598 102 (c + 1)) 665 (c + 1 - 1) n) 659 n op) 660 n 0) 598 90 (n + 1))) : jc A 2 361 [.ref (598), .int (Int32.ofInt (s))] M Q := by
  refine jc_of (m := xm_361) rfl (Nat.le_of_ble_eq_true rfl) rfl ?_
  refine jr.aload_n rfl rfl ?_
  refine jr.iload_n rfl rfl ?_
  refine jr.iconst rfl ?_
  refine jr_v rfl rfl (Or.inl rfl) rfl rfl (by decide) rfl ⟨rfl, Nat.le_of_ble_eq_true rfl, Nat.le_of_ble_eq_true rfl⟩ rfl (jc.deep (r_push e_c (by omega) (by omega) (by omega) ?_) (by decide))
  refine jr.aload_n rfl rfl ?_
  refine jr.getf (i := 104) (v := .ref 665) rfl rfl (by decide) rfl (by decide) rfl rfl rfl rfl ?_
  refine jr.aload_n rfl rfl ?_
  refine jr.getf (i := 102) (x := (c + 1)) (v := .int (Int32.ofInt (c + 1))) rfl rfl (by decide) rfl (by decide) rfl rfl (ju_same _ _ _ _) rfl ?_
  refine jr.iconst rfl ?_
  refine jr.isub rfl ?_
  refine jr.aload_n rfl rfl ?_
  refine jr.getf (i := 90) (x := n) (v := .int (Int32.ofInt (n))) rfl rfl (by decide) rfl (by decide) rfl rfl ((ju_i _ _ (by decide)).trans ((ju_c _ _ (by decide)).trans ((ju_c _ _ (by decide)).trans ((ju_c _ _ (by decide)).trans e_n)))) rfl ?_
  refine jr.iast (i := ((c + 1) - 1)) (x := n) rfl (by decide) rfl (by decide) (by omega) (by omega) ?_
  refine jr.aload_n rfl rfl ?_
  refine jr.iload_n rfl rfl ?_
  refine jr.bipush rfl (by decide) ?_
  refine jr.icmp_ne rfl rfl (by omega) (by omega) (fun h25 => ?_) (fun h25 => ?_)
  · refine jr.bipush rfl (by decide) ?_
    refine jr.lconst (x := 0) rfl (by decide) ?_
    refine jr_v rfl rfl (Or.inl rfl) rfl rfl (by decide) rfl ⟨rfl, Nat.le_of_ble_eq_true rfl, Nat.le_of_ble_eq_true rfl⟩ rfl (jc.deep (r_emit ((ju_c _ _ (by decide)).trans ((ju_i _ _ (by decide)).trans ((ju_c _ _ (by decide)).trans ((ju_c _ _ (by decide)).trans ((ju_c _ _ (by decide)).trans e_n))))) (by omega) (by omega) (by omega) ?_) (by decide))
    exact jr.vreturn rfl rfl (q 8 (by decide))
  · refine jr.bipush rfl (by decide) ?_
    refine jr.goto rfl rfl ?_
    refine jr.lconst (x := 0) rfl (by decide) ?_
    refine jr_v rfl rfl (Or.inl rfl) rfl rfl (by decide) rfl ⟨rfl, Nat.le_of_ble_eq_true rfl, Nat.le_of_ble_eq_true rfl⟩ rfl (jc.deep (r_emit ((ju_c _ _ (by decide)).trans ((ju_i _ _ (by decide)).trans ((ju_c _ _ (by decide)).trans ((ju_c _ _ (by decide)).trans ((ju_c _ _ (by decide)).trans e_n))))) (by omega) (by omega) (by omega) ?_) (by decide))
    exact jr.vreturn rfl rfl (q 7 (by decide))

