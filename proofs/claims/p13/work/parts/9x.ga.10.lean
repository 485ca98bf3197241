section
theorem r_haveLikeEnds_L138_x {A : Nat → Option (Nat × (Nat → Int32))} {Q : Option Value → jm → Prop} {a0 : Int} {b0 : Int} {M : jm} (hI_M : RI M) (hH_M : RH M) (hS_M : RF M) (q : ∀ (r : Int), 0 ≤ r ∧ r ≤ 1 → ((r = 1 ∧ rLike (M 599) (48 * a0) (48 * b0)) ∨ (r = 0 ∧ ¬ rLike (M 599) (48 * a0) (48 * b0))) → Q (some (.int (Int32.ofInt r))) M) : ∀ (d : Int) (c : Int) (b : Int) (a : Int) (z : Int), 0 ≤ d ∧ d ≤ 1104 → 0 ≤ c ∧ c ≤ 1104 → 0 ≤ b ∧ b ≤ 23 → 0 ≤ a ∧ a ≤ 23 → 0 ≤ z ∧ z ≤ 1 → ((z = 1 ∧ alg (M 599) c d) ∨ (z = 0 ∧ ¬ alg (M 599) c d)) → (M 599 c = M 599 d ∧ M 599 (c + 1) / 16 % 2 = M 599 (d + 1) / 16 % 2) → c = 48 * a → d = 48 * b → a = a0 → b = b0 → jr A 3 xm_330 138 [(4, .int (Int32.ofInt (d))), (3, .int (Int32.ofInt (c))), (2, .int (Int32.ofInt (b))), (1, .int (Int32.ofInt (a))), (0, .ref (598))] [.int (Int32.ofInt (z))] M Q := by
    intro d c b a z h_d h_c h_b h_a h_z hy0 hy1 hy2 hy3 hy4 hy5
    subst hy4
    subst hy5
    refine jr.istore (ls' := [_, _, _, _, _, _]) rfl (by decide) rfl ?_
    refine jr.aload_n rfl rfl ?_
    refine jr.iload_n rfl rfl ?_
    refine jr.iconst rfl ?_
    refine jr.iadd rfl ?_
    refine jr_v rfl rfl (Or.inl rfl) rfl rfl (by decide) rfl ⟨rfl, Nat.le_of_ble_eq_true rfl, Nat.le_of_ble_eq_true rfl⟩ rfl (jc.deep (r_takenTwo_x hI_M hH_M hS_M  (by omega)  (fun r1 z1 w1_0 => ?_)) (by decide))
    refine jr.aload_n rfl rfl ?_
    refine jr.iload rfl rfl ?_
    refine jr.iconst rfl ?_
    refine jr.iadd rfl ?_
    refine jr_v rfl rfl (Or.inl rfl) rfl rfl (by decide) rfl ⟨rfl, Nat.le_of_ble_eq_true rfl, Nat.le_of_ble_eq_true rfl⟩ rfl (jc.deep (r_takenTwo_x hI_M hH_M hS_M  (by omega)  (fun r2 z2 w2_0 => ?_)) (by decide))
    refine jr.icmp_ne rfl rfl (by omega) (by omega) (fun h155 => ?_) (fun h155 => ?_)
    · refine jr.iconst rfl ?_
      refine jr.istore (ls' := [_, _, _, _, _, _, _]) rfl (by decide) rfl ?_
      refine jr.iload rfl rfl ?_
      refine jr.if_ne rfl rfl (by omega) (fun h227 => ?_) (fun h227 => ?_)
      · refine jr.iconst rfl ?_
        refine jr.goto rfl rfl ?_
        exact jr.ireturn rfl rfl rfl (q _ (by omega) (by rw [← hy2, ← hy3, rLike_x]; unfold alg at hy0; have t1 := w1_0; have t2 := w2_0; first | exact Or.inl ⟨rfl, by omega⟩ | exact Or.inr ⟨rfl, by omega⟩))
      · refine jr.iload rfl rfl ?_
        refine jr.if_eq rfl rfl (by omega) (fun _ => ?_) (fun h => absurd (by decide) h)
        refine jr.iconst rfl ?_
        exact jr.ireturn rfl rfl rfl (q _ (by omega) (by rw [← hy2, ← hy3, rLike_x]; unfold alg at hy0; have t1 := w1_0; have t2 := w2_0; first | exact Or.inl ⟨rfl, by omega⟩ | exact Or.inr ⟨rfl, by omega⟩))
    · refine jr.aload_n rfl rfl ?_
      refine jr.iload_n rfl rfl ?_
      refine jr.iconst rfl ?_
      refine jr.iadd rfl ?_
      refine jr_v rfl rfl (Or.inl rfl) rfl rfl (by decide) rfl ⟨rfl, Nat.le_of_ble_eq_true rfl, Nat.le_of_ble_eq_true rfl⟩ rfl (jc.deep (r_takenTwo_x hI_M hH_M hS_M  (by omega)  (fun r3 z3 w3_0 => ?_)) (by decide))
      refine jr.aload_n rfl rfl ?_
      refine jr.iload rfl rfl ?_
      refine jr.iconst rfl ?_
      refine jr.iadd rfl ?_
      refine jr_v rfl rfl (Or.inl rfl) rfl rfl (by decide) rfl ⟨rfl, Nat.le_of_ble_eq_true rfl, Nat.le_of_ble_eq_true rfl⟩ rfl (jc.deep (r_takenTwo_x hI_M hH_M hS_M  (by omega)  (fun r4 z4 w4_0 => ?_)) (by decide))
      refine jr.icmp_ne rfl rfl (by omega) (by omega) (fun h173 => ?_) (fun h173 => ?_)
      · refine jr.iconst rfl ?_
        refine jr.istore (ls' := [_, _, _, _, _, _, _]) rfl (by decide) rfl ?_
        refine jr.iload rfl rfl ?_
        refine jr.if_ne rfl rfl (by omega) (fun h227 => ?_) (fun h227 => ?_)
        · refine jr.iconst rfl ?_
          refine jr.goto rfl rfl ?_
          exact jr.ireturn rfl rfl rfl (q _ (by omega) (by rw [← hy2, ← hy3, rLike_x]; unfold alg at hy0; have t1 := w1_0; have t2 := w2_0; have t3 := w3_0; have t4 := w4_0; first | exact Or.inl ⟨rfl, by omega⟩ | exact Or.inr ⟨rfl, by omega⟩))
        · refine jr.iload rfl rfl ?_
          refine jr.if_eq rfl rfl (by omega) (fun _ => ?_) (fun h => absurd (by decide) h)
          refine jr.iconst rfl ?_
          exact jr.ireturn rfl rfl rfl (q _ (by omega) (by rw [← hy2, ← hy3, rLike_x]; unfold alg at hy0; have t1 := w1_0; have t2 := w2_0; have t3 := w3_0; have t4 := w4_0; first | exact Or.inl ⟨rfl, by omega⟩ | exact Or.inr ⟨rfl, by omega⟩))
      · refine jr.aload_n rfl rfl ?_
        refine jr.iload_n rfl rfl ?_
        refine jr.bipush rfl (by decide) ?_
        refine jr.iadd rfl ?_
        refine jr_v rfl rfl (Or.inl rfl) rfl rfl (by decide) rfl ⟨rfl, Nat.le_of_ble_eq_true rfl, Nat.le_of_ble_eq_true rfl⟩ rfl (jc.deep (r_takenEight_x hI_M hH_M hS_M  (by omega)  (fun r5 z5 w5_0 => ?_)) (by decide))
        refine jr.aload_n rfl rfl ?_
        refine jr.iload rfl rfl ?_
        refine jr.bipush rfl (by decide) ?_
        refine jr.iadd rfl ?_
        refine jr_v rfl rfl (Or.inl rfl) rfl rfl (by decide) rfl ⟨rfl, Nat.le_of_ble_eq_true rfl, Nat.le_of_ble_eq_true rfl⟩ rfl (jc.deep (r_takenEight_x hI_M hH_M hS_M  (by omega)  (fun r6 z6 w6_0 => ?_)) (by decide))
        refine jr.lcmp_ne rfl rfl rfl (by omega) (by omega) (fun h193 => ?_) (fun h193 => ?_)
        · refine jr.iconst rfl ?_
          refine jr.istore (ls' := [_, _, _, _, _, _, _]) rfl (by decide) rfl ?_
          refine jr.iload rfl rfl ?_
          refine jr.if_ne rfl rfl (by omega) (fun h227 => ?_) (fun h227 => ?_)
          · refine jr.iconst rfl ?_
            refine jr.goto rfl rfl ?_
            exact jr.ireturn rfl rfl rfl (q _ (by omega) (by rw [← hy2, ← hy3, rLike_x]; unfold alg at hy0; have t1 := w1_0; have t2 := w2_0; have t3 := w3_0; have t4 := w4_0; have t5 := w5_0; have t6 := w6_0; first | exact Or.inl ⟨rfl, by omega⟩ | exact Or.inr ⟨rfl, by omega⟩))
          · refine jr.iload rfl rfl ?_
            refine jr.if_eq rfl rfl (by omega) (fun _ => ?_) (fun h => absurd (by decide) h)
            refine jr.iconst rfl ?_
            exact jr.ireturn rfl rfl rfl (q _ (by omega) (by rw [← hy2, ← hy3, rLike_x]; unfold alg at hy0; have t1 := w1_0; have t2 := w2_0; have t3 := w3_0; have t4 := w4_0; have t5 := w5_0; have t6 := w6_0; first | exact Or.inl ⟨rfl, by omega⟩ | exact Or.inr ⟨rfl, by omega⟩))
        · refine jr.aload_n rfl rfl ?_
          refine jr.iload_n rfl rfl ?_
          refine jr.bipush rfl (by decide) ?_
          refine jr.iadd rfl ?_
          refine jr_v rfl rfl (Or.inl rfl) rfl rfl (by decide) rfl ⟨rfl, Nat.le_of_ble_eq_true rfl, Nat.le_of_ble_eq_true rfl⟩ rfl (jc.deep (r_takenEight_x hI_M hH_M hS_M  (by omega)  (fun r7 z7 w7_0 => ?_)) (by decide))
          refine jr.aload_n rfl rfl ?_
          refine jr.iload rfl rfl ?_
          refine jr.bipush rfl (by decide) ?_
          refine jr.iadd rfl ?_
          refine jr_v rfl rfl (Or.inl rfl) rfl rfl (by decide) rfl ⟨rfl, Nat.le_of_ble_eq_true rfl, Nat.le_of_ble_eq_true rfl⟩ rfl (jc.deep (r_takenEight_x hI_M hH_M hS_M  (by omega)  (fun r8 z8 w8_0 => ?_)) (by decide))
          refine jr.lcmp_ne rfl rfl rfl (by omega) (by omega) (fun h214 => ?_) (fun h214 => ?_)
          · refine jr.iconst rfl ?_
            refine jr.istore (ls' := [_, _, _, _, _, _, _]) rfl (by decide) rfl ?_
            refine jr.iload rfl rfl ?_
            refine jr.if_ne rfl rfl (by omega) (fun h227 => ?_) (fun h227 => ?_)
            · refine jr.iconst rfl ?_
              refine jr.goto rfl rfl ?_
              exact jr.ireturn rfl rfl rfl (q _ (by omega) (by rw [← hy2, ← hy3, rLike_x]; unfold alg at hy0; have t1 := w1_0; have t2 := w2_0; have t3 := w3_0; have t4 := w4_0; have t5 := w5_0; have t6 := w6_0; have t7 := w7_0; have t8 := w8_0; first | exact Or.inl ⟨rfl, by omega⟩ | exact Or.inr ⟨rfl, by omega⟩))
            · refine jr.iload rfl rfl ?_
              refine jr.if_eq rfl rfl (by omega) (fun _ => ?_) (fun h => absurd (by decide) h)
              refine jr.iconst rfl ?_
              exact jr.ireturn rfl rfl rfl (q _ (by omega) (by rw [← hy2, ← hy3, rLike_x]; unfold alg at hy0; have t1 := w1_0; have t2 := w2_0; have t3 := w3_0; have t4 := w4_0; have t5 := w5_0; have t6 := w6_0; have t7 := w7_0; have t8 := w8_0; first | exact Or.inl ⟨rfl, by omega⟩ | exact Or.inr ⟨rfl, by omega⟩))
          · refine jr.iconst rfl ?_
            refine jr.goto rfl rfl ?_
            refine jr.istore (ls' := [_, _, _, _, _, _, _]) rfl (by decide) rfl ?_
            refine jr.iload rfl rfl ?_
            refine jr.if_ne rfl rfl (by omega) (fun h227 => ?_) (fun h227 => ?_)
            · refine jr.iconst rfl ?_
              refine jr.goto rfl rfl ?_
              exact jr.ireturn rfl rfl rfl (q _ (by omega) (by rw [← hy2, ← hy3, rLike_x]; unfold alg at hy0; have t1 := w1_0; have t2 := w2_0; have t3 := w3_0; have t4 := w4_0; have t5 := w5_0; have t6 := w6_0; have t7 := w7_0; have t8 := w8_0; first | exact Or.inl ⟨rfl, by omega⟩ | exact Or.inr ⟨rfl, by omega⟩))
            · refine jr.iload rfl rfl ?_
              refine jr.if_eq rfl rfl (by omega) (fun h => absurd h (by decide)) (fun _ => ?_)
              refine jr.iconst rfl ?_
              refine jr.goto rfl rfl ?_
              exact jr.ireturn rfl rfl rfl (q _ (by omega) (by rw [← hy2, ← hy3, rLike_x]; unfold alg at hy0; have t1 := w1_0; have t2 := w2_0; have t3 := w3_0; have t4 := w4_0; have t5 := w5_0; have t6 := w6_0; have t7 := w7_0; have t8 := w8_0; first | exact Or.inl ⟨rfl, by omega⟩ | exact Or.inr ⟨rfl, by omega⟩))
end
