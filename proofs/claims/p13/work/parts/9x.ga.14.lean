section
theorem r_isRow_x {A : Nat → Option (Nat × (Nat → Int32))} {Q : Option Value → jm → Prop} {M : jm} (hI_M : RI M) (hH_M : RH M) (hS_M : RF M) {o : Int} (h_o : 0 ≤ o ∧ o ≤ 33) {n : Int} (h_n : 0 ≤ n ∧ n ≤ 1600) (q : ∀ (r : Int), 0 ≤ r ∧ r ≤ 1 → ((r = 1 ∧ okR (M 599) n o) ∨ (r = 0 ∧ ¬ (okR (M 599) n o))) → Q (some (.int (Int32.ofInt r))) M) : jc A 5 331 [.ref (598), .int (Int32.ofInt (o)), .int (Int32.ofInt (n))] M Q := by
  refine jc_of (m := xm_331) rfl (Nat.le_of_ble_eq_true rfl) rfl ?_
  refine jr.bipush rfl (by decide) ?_
  refine jr.iload_n rfl rfl ?_
  refine jr.imul rfl ?_
  refine jr.istore_n (ls' := [_, _, _, _]) rfl (by decide) rfl ?_
  refine jr.iload_n rfl rfl ?_
  refine jr.bipush rfl (by decide) ?_
  refine jr.iadd rfl ?_
  refine jr.iload_n rfl rfl ?_
  refine jr.icmp_gt rfl rfl (by omega) (by omega) (fun h10 => ?_) (fun h10 => ?_)
  · refine jr.iconst rfl ?_
    exact jr.ireturn rfl rfl rfl (q _ (by omega) (Or.inr ⟨rfl, fun u => by have u1 := u.1; have u2 := u.2.1.1; omega⟩))
  · refine jr.iload_n rfl rfl ?_
    refine jr.bipush rfl (by decide) ?_
    refine jr.icmp_ge rfl rfl (by omega) (by omega) (fun h16 => ?_) (fun h16 => ?_)
    · refine jr.iconst rfl ?_
      exact jr.ireturn rfl rfl rfl (q _ (by omega) (Or.inr ⟨rfl, fun u => by have u1 := u.1; have u2 := u.2.1.1; omega⟩))
    · refine jr.aload_n rfl rfl ?_
      refine jr.iload_n rfl rfl ?_
      refine jr.iload_n rfl rfl ?_
      refine jr.bipush rfl (by decide) ?_
      refine jr.iadd rfl ?_
      refine jr_v rfl rfl (Or.inl rfl) rfl rfl (by decide) rfl ⟨rfl, Nat.le_of_ble_eq_true rfl, Nat.le_of_ble_eq_true rfl⟩ rfl (jc.deep (r_sumOfTape_x hI_M hH_M hS_M  (by omega) (by omega) (by omega) (fun r1 z1 w1_0 => ?_)) (by decide))
      refine jr.aload_n rfl rfl ?_
      refine jr.iload_n rfl rfl ?_
      refine jr.bipush rfl (by decide) ?_
      refine jr.iadd rfl ?_
      refine jr_v rfl rfl (Or.inl rfl) rfl rfl (by decide) rfl ⟨rfl, Nat.le_of_ble_eq_true rfl, Nat.le_of_ble_eq_true rfl⟩ rfl (jc.deep (r_takenTwo_x hI_M hH_M hS_M  (by omega)  (fun r2 z2 w2_0 => ?_)) (by decide))
      refine jr.icmp_eq rfl rfl (by omega) (by omega) (fun h36 => ?_) (fun h36 => ?_)
      · refine jr.aload_n rfl rfl ?_
        refine jr.getf (i := 0) (v := .ref 599) rfl rfl (by decide) rfl (by decide) rfl rfl rfl rfl ?_
        refine jr.iload_n rfl rfl ?_
        obtain ⟨v3, e3⟩ : ∃ z, M 599 (48 * o) = z := ⟨_, rfl⟩
        have b3 : 0 ≤ v3 ∧ v3 ≤ 255 := by rw [← e3]; exact (by have q := hI_M 599 (48 * o) (by decide); rw [xri_row rfl rfl] at q; exact q)
        refine jr.iald (i := (48 * o)) (x := v3) rfl (by decide) rfl (by decide) (by omega) (by omega) e3 ?_
        refine jr.istore (ls' := [_, _, _, _, _]) rfl (by decide) rfl ?_
        refine jr.aload_n rfl rfl ?_
        refine jr.getf (i := 0) (v := .ref 599) rfl rfl (by decide) rfl (by decide) rfl rfl rfl rfl ?_
        refine jr.iload_n rfl rfl ?_
        refine jr.iconst rfl ?_
        refine jr.iadd rfl ?_
        obtain ⟨v4, e4⟩ : ∃ z, M 599 ((48 * o) + 1) = z := ⟨_, rfl⟩
        have b4 : 0 ≤ v4 ∧ v4 ≤ 255 := by rw [← e4]; exact (by have q := hI_M 599 ((48 * o) + 1) (by decide); rw [xri_row rfl rfl] at q; exact q)
        refine jr.iald (i := ((48 * o) + 1)) (x := v4) rfl (by decide) rfl (by decide) (by omega) (by omega) e4 ?_
        refine jr.bipush rfl (by decide) ?_
        refine jr.iand rfl ?_
        have b5 : j_and v4 15 = v4 % 16 := j_and_mask 4 (by decide) (by omega) (by omega)
        generalize j_and v4 15 = v5 at b5 ⊢
        refine jr.istore (ls' := [_, _, _, _, _, _]) rfl (by decide) rfl ?_
        refine jr.iload rfl rfl ?_
        refine jr.iconst rfl ?_
        refine jr.icmp_ne rfl rfl (by omega) (by omega) (fun h65 => ?_) (fun h65 => ?_)
        · refine jr.iload rfl rfl ?_
          refine jr.bipush rfl (by decide) ?_
          refine jr.icmp_ne rfl rfl (by omega) (by omega) (fun h85 => ?_) (fun h85 => ?_)
          · refine jr.iload rfl rfl ?_
            refine jr.bipush rfl (by decide) ?_
            refine jr.icmp_ne rfl rfl (by omega) (by omega) (fun h105 => ?_) (fun h105 => ?_)
            · refine jr.iconst rfl ?_
              refine jr.istore (ls' := [_, _, _, _, _, _, _]) rfl (by decide) rfl ?_
              refine jr.pick (ls := [_, _, _, _, _]) [0, 6, 5, 3, 4] rfl rfl ?_
              exact r_isRow_L121_x hI_M hH_M hS_M q 0 n o (by omega) (by omega) (by omega) (by unfold stOK; rw [e3, e4]; first | exact Or.inl ⟨rfl, by omega⟩ | exact Or.inr ⟨rfl, by omega⟩ | omega) (by have t1 := w1_0; have t2 := w2_0; rw [show ((48 * o) + 46 - (48 * o)).toNat = 46 from by omega] at t1; omega) (by omega) (by omega) (by omega)
            · refine jr.iload rfl rfl ?_
              refine jr.iconst rfl ?_
              refine jr.icmp_gt rfl rfl (by omega) (by omega) (fun h111 => ?_) (fun h111 => ?_)
              · refine jr.iconst rfl ?_
                refine jr.istore (ls' := [_, _, _, _, _, _, _]) rfl (by decide) rfl ?_
                refine jr.pick (ls := [_, _, _, _, _]) [0, 6, 5, 3, 4] rfl rfl ?_
                exact r_isRow_L121_x hI_M hH_M hS_M q 0 n o (by omega) (by omega) (by omega) (by unfold stOK; rw [e3, e4]; first | exact Or.inl ⟨rfl, by omega⟩ | exact Or.inr ⟨rfl, by omega⟩ | omega) (by have t1 := w1_0; have t2 := w2_0; rw [show ((48 * o) + 46 - (48 * o)).toNat = 46 from by omega] at t1; omega) (by omega) (by omega) (by omega)
              · refine jr.iconst rfl ?_
                refine jr.goto rfl rfl ?_
                refine jr.istore (ls' := [_, _, _, _, _, _, _]) rfl (by decide) rfl ?_
                refine jr.pick (ls := [_, _, _, _, _]) [0, 6, 5, 3, 4] rfl rfl ?_
                exact r_isRow_L121_x hI_M hH_M hS_M q 1 n o (by omega) (by omega) (by omega) (by unfold stOK; rw [e3, e4]; first | exact Or.inl ⟨rfl, by omega⟩ | exact Or.inr ⟨rfl, by omega⟩ | omega) (by have t1 := w1_0; have t2 := w2_0; rw [show ((48 * o) + 46 - (48 * o)).toNat = 46 from by omega] at t1; omega) (by omega) (by omega) (by omega)
          · refine jr.iload rfl rfl ?_
            refine jr.i2l rfl (by omega) ?_
            refine jr.lconst (x := 1) rfl (by decide) ?_
            refine jr.ldc2 (x := 10) rfl rfl (by decide) ?_
            refine jr_s rfl rfl (Or.inl rfl) ⟨Nat.le_of_ble_eq_true rfl, Nat.le_of_ble_eq_true rfl⟩ rfl rfl (jc.deep (c_within (by omega) (by omega) (by omega) (fun l95 u95 => ?_) (fun n95 => ?_)) (by decide))
            · refine jr.goto rfl rfl ?_
              refine jr.istore (ls' := [_, _, _, _, _, _, _]) rfl (by decide) rfl ?_
              refine jr.pick (ls := [_, _, _, _, _]) [0, 6, 5, 3, 4] rfl rfl ?_
              exact r_isRow_L121_x hI_M hH_M hS_M q 1 n o (by omega) (by omega) (by omega) (by unfold stOK; rw [e3, e4]; first | exact Or.inl ⟨rfl, by omega⟩ | exact Or.inr ⟨rfl, by omega⟩ | omega) (by have t1 := w1_0; have t2 := w2_0; rw [show ((48 * o) + 46 - (48 * o)).toNat = 46 from by omega] at t1; omega) (by omega) (by omega) (by omega)
            · refine jr.goto rfl rfl ?_
              refine jr.istore (ls' := [_, _, _, _, _, _, _]) rfl (by decide) rfl ?_
              refine jr.pick (ls := [_, _, _, _, _]) [0, 6, 5, 3, 4] rfl rfl ?_
              exact r_isRow_L121_x hI_M hH_M hS_M q 0 n o (by omega) (by omega) (by omega) (by unfold stOK; rw [e3, e4]; first | exact Or.inl ⟨rfl, by omega⟩ | exact Or.inr ⟨rfl, by omega⟩ | omega) (by have t1 := w1_0; have t2 := w2_0; rw [show ((48 * o) + 46 - (48 * o)).toNat = 46 from by omega] at t1; omega) (by omega) (by omega) (by omega)
        · refine jr.iload rfl rfl ?_
          refine jr.if_ne rfl rfl (by omega) (fun h70 => ?_) (fun h70 => ?_)
          · have sx70 : (1 : Int) ≤ v5 := by omega
            clear h70
            refine jr.iconst rfl ?_
            refine jr.goto rfl rfl ?_
            refine jr.istore (ls' := [_, _, _, _, _, _, _]) rfl (by decide) rfl ?_
            refine jr.pick (ls := [_, _, _, _, _]) [0, 6, 5, 3, 4] rfl rfl ?_
            exact r_isRow_L121_x hI_M hH_M hS_M q 0 n o (by omega) (by omega) (by omega) (by unfold stOK; rw [e3, e4]; first | exact Or.inl ⟨rfl, by omega⟩ | exact Or.inr ⟨rfl, by omega⟩ | omega) (by have t1 := w1_0; have t2 := w2_0; rw [show ((48 * o) + 46 - (48 * o)).toNat = 46 from by omega] at t1; omega) (by omega) (by omega) (by omega)
          · refine jr.iconst rfl ?_
            refine jr.goto rfl rfl ?_
            refine jr.istore (ls' := [_, _, _, _, _, _, _]) rfl (by decide) rfl ?_
            refine jr.pick (ls := [_, _, _, _, _]) [0, 6, 5, 3, 4] rfl rfl ?_
            exact r_isRow_L121_x hI_M hH_M hS_M q 1 n o (by omega) (by omega) (by omega) (by unfold stOK; rw [e3, e4]; first | exact Or.inl ⟨rfl, by omega⟩ | exact Or.inr ⟨rfl, by omega⟩ | omega) (by have t1 := w1_0; have t2 := w2_0; rw [show ((48 * o) + 46 - (48 * o)).toNat = 46 from by omega] at t1; omega) (by omega) (by omega) (by omega)
      · refine jr.iconst rfl ?_
        exact jr.ireturn rfl rfl rfl (q _ (by omega) (Or.inr ⟨rfl, fun u => by have t1 := w1_0; have t2 := w2_0; rw [show ((48 * o) + 46 - (48 * o)).toNat = 46 from by omega] at t1; have u1 := u.1; have u2 := u.2.1.1; omega⟩))
end

