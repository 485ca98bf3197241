section
theorem r_haveLikeEnds_x {A : Nat → Option (Nat × (Nat → Int32))} {Q : Option Value → jm → Prop} {M : jm} (hI_M : RI M) (hH_M : RH M) (hS_M : RF M) {a : Int} (h_a : 0 ≤ a ∧ a ≤ 23) {b : Int} (h_b : 0 ≤ b ∧ b ≤ 23) (q : ∀ (r : Int), 0 ≤ r ∧ r ≤ 1 → ((r = 1 ∧ rLike (M 599) (48 * a) (48 * b)) ∨ (r = 0 ∧ ¬ rLike (M 599) (48 * a) (48 * b))) → Q (some (.int (Int32.ofInt r))) M) : jc A 4 330 [.ref (598), .int (Int32.ofInt (a)), .int (Int32.ofInt (b))] M Q := by
  refine jc_of (m := xm_330) rfl (Nat.le_of_ble_eq_true rfl) rfl ?_
  refine jr.bipush rfl (by decide) ?_
  refine jr.iload_n rfl rfl ?_
  refine jr.imul rfl ?_
  refine jr.istore_n (ls' := [_, _, _, _]) rfl (by decide) rfl ?_
  refine jr.bipush rfl (by decide) ?_
  refine jr.iload_n rfl rfl ?_
  refine jr.imul rfl ?_
  refine jr.istore (ls' := [_, _, _, _, _]) rfl (by decide) rfl ?_
  refine jr.aload_n rfl rfl ?_
  refine jr.getf (i := 0) (v := .ref 599) rfl rfl (by decide) rfl (by decide) rfl rfl rfl rfl ?_
  refine jr.iload_n rfl rfl ?_
  obtain ⟨v1, e1⟩ : ∃ z, M 599 (48 * a) = z := ⟨_, rfl⟩
  have b1 : 0 ≤ v1 ∧ v1 ≤ 255 := by rw [← e1]; exact (by have q := hI_M 599 (48 * a) (by decide); rw [xri_row rfl rfl] at q; exact q)
  refine jr.iald (i := (48 * a)) (x := v1) rfl (by decide) rfl (by decide) (by omega) (by omega) e1 ?_
  refine jr.aload_n rfl rfl ?_
  refine jr.getf (i := 0) (v := .ref 599) rfl rfl (by decide) rfl (by decide) rfl rfl rfl rfl ?_
  refine jr.iload rfl rfl ?_
  obtain ⟨v2, e2⟩ : ∃ z, M 599 (48 * b) = z := ⟨_, rfl⟩
  have b2 : 0 ≤ v2 ∧ v2 ≤ 255 := by rw [← e2]; exact (by have q := hI_M 599 (48 * b) (by decide); rw [xri_row rfl rfl] at q; exact q)
  refine jr.iald (i := (48 * b)) (x := v2) rfl (by decide) rfl (by decide) (by omega) (by omega) e2 ?_
  refine jr.icmp_ne rfl rfl (by omega) (by omega) (fun h24 => ?_) (fun h24 => ?_)
  · refine jr.iconst rfl ?_
    exact jr.ireturn rfl rfl rfl (q _ (by omega) (Or.inr ⟨rfl, fun u => by rw [rLike_x] at u; have u1 := u.1; rw [e1, e2] at u1; omega⟩))
  · refine jr.aload_n rfl rfl ?_
    refine jr.getf (i := 0) (v := .ref 599) rfl rfl (by decide) rfl (by decide) rfl rfl rfl rfl ?_
    refine jr.iload_n rfl rfl ?_
    refine jr.iconst rfl ?_
    refine jr.iadd rfl ?_
    obtain ⟨v3, e3⟩ : ∃ z, M 599 ((48 * a) + 1) = z := ⟨_, rfl⟩
    have b3 : 0 ≤ v3 ∧ v3 ≤ 255 := by rw [← e3]; exact (by have q := hI_M 599 ((48 * a) + 1) (by decide); rw [xri_row rfl rfl] at q; exact q)
    refine jr.iald (i := ((48 * a) + 1)) (x := v3) rfl (by decide) rfl (by decide) (by omega) (by omega) e3 ?_
    refine jr.bipush rfl (by decide) ?_
    refine jr.iand rfl ?_
    have b4 : j_and v3 16 = v3 / 16 % 2 * 16 ∧ 0 ≤ j_and v3 16 ∧ j_and v3 16 ≤ 16 := ⟨(jbt (by omega)).2.2.2, by rw [(jbt (by omega)).2.2.2]; omega⟩
    generalize j_and v3 16 = v4 at b4 ⊢
    refine jr.aload_n rfl rfl ?_
    refine jr.getf (i := 0) (v := .ref 599) rfl rfl (by decide) rfl (by decide) rfl rfl rfl rfl ?_
    refine jr.iload rfl rfl ?_
    refine jr.iconst rfl ?_
    refine jr.iadd rfl ?_
    obtain ⟨v5, e5⟩ : ∃ z, M 599 ((48 * b) + 1) = z := ⟨_, rfl⟩
    have b5 : 0 ≤ v5 ∧ v5 ≤ 255 := by rw [← e5]; exact (by have q := hI_M 599 ((48 * b) + 1) (by decide); rw [xri_row rfl rfl] at q; exact q)
    refine jr.iald (i := ((48 * b) + 1)) (x := v5) rfl (by decide) rfl (by decide) (by omega) (by omega) e5 ?_
    refine jr.bipush rfl (by decide) ?_
    refine jr.iand rfl ?_
    have b6 : j_and v5 16 = v5 / 16 % 2 * 16 ∧ 0 ≤ j_and v5 16 ∧ j_and v5 16 ≤ 16 := ⟨(jbt (by omega)).2.2.2, by rw [(jbt (by omega)).2.2.2]; omega⟩
    generalize j_and v5 16 = v6 at b6 ⊢
    refine jr.icmp_eq rfl rfl (by omega) (by omega) (fun h50 => ?_) (fun h50 => ?_)
    · refine jr.aload_n rfl rfl ?_
      refine jr.iload_n rfl rfl ?_
      refine jr.iconst rfl ?_
      refine jr.iadd rfl ?_
      refine jr_v rfl rfl (Or.inl rfl) rfl rfl (by decide) rfl ⟨rfl, Nat.le_of_ble_eq_true rfl, Nat.le_of_ble_eq_true rfl⟩ rfl (jc.deep (r_takenTwo_x hI_M hH_M hS_M  (by omega)  (fun r7 z7 w7_0 => ?_)) (by decide))
      refine jr.aload_n rfl rfl ?_
      refine jr.iload rfl rfl ?_
      refine jr.iconst rfl ?_
      refine jr.iadd rfl ?_
      refine jr_v rfl rfl (Or.inl rfl) rfl rfl (by decide) rfl ⟨rfl, Nat.le_of_ble_eq_true rfl, Nat.le_of_ble_eq_true rfl⟩ rfl (jc.deep (r_takenTwo_x hI_M hH_M hS_M  (by omega)  (fun r8 z8 w8_0 => ?_)) (by decide))
      refine jr.icmp_ne rfl rfl (by omega) (by omega) (fun h70 => ?_) (fun h70 => ?_)
      · refine jr.iconst rfl ?_
        refine jr.pick (ls := [_, _, _, _, _]) [0, 1, 4, 3, 2] rfl rfl ?_
        exact r_haveLikeEnds_L138_x hI_M hH_M hS_M q (48 * b) (48 * a) b a 0 (by omega) (by omega) (by omega) (by omega) (by omega) (by unfold alg; have t7 := w7_0; have t8 := w8_0; first | exact Or.inl ⟨rfl, by omega⟩ | exact Or.inr ⟨rfl, by omega⟩) (by have bA := e1; have bB := e2; have bC := e3; have bD := e5; rw [bA, bB, bC, bD]; omega) (by omega) (by omega) (by omega) (by omega)
      · refine jr.aload_n rfl rfl ?_
        refine jr.iload_n rfl rfl ?_
        refine jr.iconst rfl ?_
        refine jr.iadd rfl ?_
        refine jr_v rfl rfl (Or.inl rfl) rfl rfl (by decide) rfl ⟨rfl, Nat.le_of_ble_eq_true rfl, Nat.le_of_ble_eq_true rfl⟩ rfl (jc.deep (r_takenTwo_x hI_M hH_M hS_M  (by omega)  (fun r9 z9 w9_0 => ?_)) (by decide))
        refine jr.aload_n rfl rfl ?_
        refine jr.iload rfl rfl ?_
        refine jr.iconst rfl ?_
        refine jr.iadd rfl ?_
        refine jr_v rfl rfl (Or.inl rfl) rfl rfl (by decide) rfl ⟨rfl, Nat.le_of_ble_eq_true rfl, Nat.le_of_ble_eq_true rfl⟩ rfl (jc.deep (r_takenTwo_x hI_M hH_M hS_M  (by omega)  (fun r10 z10 w10_0 => ?_)) (by decide))
        refine jr.icmp_ne rfl rfl (by omega) (by omega) (fun h88 => ?_) (fun h88 => ?_)
        · refine jr.iconst rfl ?_
          refine jr.pick (ls := [_, _, _, _, _]) [0, 1, 4, 3, 2] rfl rfl ?_
          exact r_haveLikeEnds_L138_x hI_M hH_M hS_M q (48 * b) (48 * a) b a 0 (by omega) (by omega) (by omega) (by omega) (by omega) (by unfold alg; have t7 := w7_0; have t8 := w8_0; have t9 := w9_0; have t10 := w10_0; first | exact Or.inl ⟨rfl, by omega⟩ | exact Or.inr ⟨rfl, by omega⟩) (by have bA := e1; have bB := e2; have bC := e3; have bD := e5; rw [bA, bB, bC, bD]; omega) (by omega) (by omega) (by omega) (by omega)
        · refine jr.aload_n rfl rfl ?_
          refine jr.iload_n rfl rfl ?_
          refine jr.bipush rfl (by decide) ?_
          refine jr.iadd rfl ?_
          refine jr_v rfl rfl (Or.inl rfl) rfl rfl (by decide) rfl ⟨rfl, Nat.le_of_ble_eq_true rfl, Nat.le_of_ble_eq_true rfl⟩ rfl (jc.deep (r_takenEight_x hI_M hH_M hS_M  (by omega)  (fun r11 z11 w11_0 => ?_)) (by decide))
          refine jr.aload_n rfl rfl ?_
          refine jr.iload rfl rfl ?_
          refine jr.bipush rfl (by decide) ?_
          refine jr.iadd rfl ?_
          refine jr_v rfl rfl (Or.inl rfl) rfl rfl (by decide) rfl ⟨rfl, Nat.le_of_ble_eq_true rfl, Nat.le_of_ble_eq_true rfl⟩ rfl (jc.deep (r_takenEight_x hI_M hH_M hS_M  (by omega)  (fun r12 z12 w12_0 => ?_)) (by decide))
          refine jr.lcmp_ne rfl rfl rfl (by omega) (by omega) (fun h108 => ?_) (fun h108 => ?_)
          · refine jr.iconst rfl ?_
            refine jr.pick (ls := [_, _, _, _, _]) [0, 1, 4, 3, 2] rfl rfl ?_
            exact r_haveLikeEnds_L138_x hI_M hH_M hS_M q (48 * b) (48 * a) b a 0 (by omega) (by omega) (by omega) (by omega) (by omega) (by unfold alg; have t7 := w7_0; have t8 := w8_0; have t9 := w9_0; have t10 := w10_0; have t11 := w11_0; have t12 := w12_0; first | exact Or.inl ⟨rfl, by omega⟩ | exact Or.inr ⟨rfl, by omega⟩) (by have bA := e1; have bB := e2; have bC := e3; have bD := e5; rw [bA, bB, bC, bD]; omega) (by omega) (by omega) (by omega) (by omega)
          · refine jr.aload_n rfl rfl ?_
            refine jr.iload_n rfl rfl ?_
            refine jr.bipush rfl (by decide) ?_
            refine jr.iadd rfl ?_
            refine jr_v rfl rfl (Or.inl rfl) rfl rfl (by decide) rfl ⟨rfl, Nat.le_of_ble_eq_true rfl, Nat.le_of_ble_eq_true rfl⟩ rfl (jc.deep (r_takenEight_x hI_M hH_M hS_M  (by omega)  (fun r13 z13 w13_0 => ?_)) (by decide))
            refine jr.aload_n rfl rfl ?_
            refine jr.iload rfl rfl ?_
            refine jr.bipush rfl (by decide) ?_
            refine jr.iadd rfl ?_
            refine jr_v rfl rfl (Or.inl rfl) rfl rfl (by decide) rfl ⟨rfl, Nat.le_of_ble_eq_true rfl, Nat.le_of_ble_eq_true rfl⟩ rfl (jc.deep (r_takenEight_x hI_M hH_M hS_M  (by omega)  (fun r14 z14 w14_0 => ?_)) (by decide))
            refine jr.lcmp_ne rfl rfl rfl (by omega) (by omega) (fun h129 => ?_) (fun h129 => ?_)
            · refine jr.iconst rfl ?_
              refine jr.pick (ls := [_, _, _, _, _]) [0, 1, 4, 3, 2] rfl rfl ?_
              exact r_haveLikeEnds_L138_x hI_M hH_M hS_M q (48 * b) (48 * a) b a 0 (by omega) (by omega) (by omega) (by omega) (by omega) (by unfold alg; have t7 := w7_0; have t8 := w8_0; have t9 := w9_0; have t10 := w10_0; have t11 := w11_0; have t12 := w12_0; have t13 := w13_0; have t14 := w14_0; first | exact Or.inl ⟨rfl, by omega⟩ | exact Or.inr ⟨rfl, by omega⟩) (by have bA := e1; have bB := e2; have bC := e3; have bD := e5; rw [bA, bB, bC, bD]; omega) (by omega) (by omega) (by omega) (by omega)
            · refine jr.iconst rfl ?_
              refine jr.goto rfl rfl ?_
              refine jr.pick (ls := [_, _, _, _, _]) [0, 1, 4, 3, 2] rfl rfl ?_
              exact r_haveLikeEnds_L138_x hI_M hH_M hS_M q (48 * b) (48 * a) b a 1 (by omega) (by omega) (by omega) (by omega) (by omega) (by unfold alg; have t7 := w7_0; have t8 := w8_0; have t9 := w9_0; have t10 := w10_0; have t11 := w11_0; have t12 := w12_0; have t13 := w13_0; have t14 := w14_0; first | exact Or.inl ⟨rfl, by omega⟩ | exact Or.inr ⟨rfl, by omega⟩) (by have bA := e1; have bB := e2; have bC := e3; have bD := e5; rw [bA, bB, bC, bD]; omega) (by omega) (by omega) (by omega) (by omega)
    · refine jr.iconst rfl ?_
      exact jr.ireturn rfl rfl rfl (q _ (by omega) (Or.inr ⟨rfl, fun u => by rw [rLike_x] at u; have u1 := u.1; rw [e1, e2, e3, e5] at u1; omega⟩))
end
