theorem c_Headers_kindBehind {A : Nat → Option (Nat × (Nat → Int32))} {Q : Option Value → jm → Prop} {M : jm} (hC_M : CI M) {t : Nat} (k_t : kd t = 18) {x : Int} (h_x : 0 ≤ x ∧ x ≤ 11) {y : Int} (h_y : 0 ≤ y ∧ y ≤ 400) {z : Int} (h_z : 0 ≤ z ∧ z ≤ 400) (q : ∀ (r : Int), (-1) ≤ r ∧ r ≤ 11 → Q (some (.int (Int32.ofInt r))) M) : jc A 4 132 [.ref (t), .int (Int32.ofInt (x)), .int (Int32.ofInt (y)), .int (Int32.ofInt (z))] M Q := by
  refine jc_of (m := xm_132) rfl (Nat.le_of_ble_eq_true rfl) rfl ?_
  refine jr.aload_n rfl rfl ?_
  refine jr.iload_n rfl rfl ?_
  refine jr.iload_n rfl rfl ?_
  refine jr.iload_n rfl rfl ?_
  refine jr_v rfl rfl (Or.inl rfl) rfl rfl (Nat.lt_trans (kx_18 k_t).1 (by decide)) (kx_18 k_t).2 ⟨rfl, Nat.le_of_ble_eq_true rfl, Nat.le_of_ble_eq_true rfl⟩ rfl (jc.deep (c_Headers_toldKind hC_M k_t (by omega) (by omega) (by omega) (fun r1 z1  => ?_)) (by decide))
  refine jr.istore (ls' := [_, _, _, _, _]) rfl (by decide) rfl ?_
  refine jr.iload rfl rfl ?_
  refine jr.bipush rfl (by decide) ?_
  refine jr.icmp_ne rfl rfl (by omega) (by omega) (fun h13 => ?_) (fun h13 => ?_)
  · have sx13 : r1 ≤ (10 : Int) := by omega
    clear h13
    refine jr.iload rfl rfl ?_
    exact jr.ireturn rfl rfl rfl (q _ (by omega) )
  · refine jr.iload_n rfl rfl ?_
    refine jr.aload_n rfl rfl ?_
    obtain ⟨v2, e2⟩ : ∃ z_, M t 7 = z_ := ⟨_, rfl⟩
    have b2 : 0 ≤ v2 ∧ v2 ≤ 597 := by rw [← e2]; exact (CI.r hC_M k_t (by decide) 7)
    have k3 : kd (v2).toNat = 33 := ((congrArg (fun z : Int => kd z.toNat) (show M t 7 = v2 from e2)).symm.trans (CI.x hC_M k_t 7 rfl (by decide)))
    refine jr.getf (i := 7) (x := v2) (v := .ref (v2.toNat)) rfl rfl (Nat.lt_trans (kx_18 k_t).1 (by decide)) (kx_18 k_t).2 (by decide) rfl rfl e2 (jval_mut rfl (kn_18_7 k_t)) ?_
    obtain ⟨v4, e4⟩ : ∃ z_, M ((v2.toNat)) 1 = z_ := ⟨_, rfl⟩
    have b4 : (-1) ≤ v4 ∧ v4 ≤ 400 := by rw [← e4]; exact (CI.r hC_M k3 (by decide) 1)
    refine jr.getf (i := 1) (x := v4) (v := .int (Int32.ofInt (v4))) rfl rfl (Nat.lt_trans (kx_33 k3).1 (by decide)) (kx_33 k3).2 (by decide) rfl rfl e4 rfl ?_
    refine jr.icmp_lt rfl rfl (by omega) (by omega) (fun h24 => ?_) (fun h24 => ?_)
    · refine jr.iload rfl rfl ?_
      exact jr.ireturn rfl rfl rfl (q _ (by omega) )
    · refine jr.iconst rfl ?_
      refine jr.goto rfl rfl ?_
      exact jr.ireturn rfl rfl rfl (q _ (by omega) )
noncomputable def W_c_Headers_readAll : List (Nat × Nat) := [(18, 3), (18, 4), (18, 5), (18, 6), (18, 7), (19, 1000), (20, 1000), (21, 1000)]
