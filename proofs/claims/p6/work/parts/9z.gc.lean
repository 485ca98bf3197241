/-! ===== the reference: restore ===== -/
theorem rLike_x {f : Int → Int} {a b : Int} : rLike f a b ↔ ((f a = f b ∧ f (a + 1) / 16 % 2 = f (b + 1) / 16 % 2) ∧ (((tw f (a + 2) = tw f (b + 2) ∧ tw f (a + 4) = tw f (b + 4)) ∧ jl_w (nbs f (a + 10) 8) = jl_w (nbs f (b + 10) 8) ∧ jl_w (nbs f (a + 18) 8) = jl_w (nbs f (b + 18) 8)) ∨ ((tw f (a + 2) = tw f (b + 4) ∧ tw f (a + 4) = tw f (b + 2)) ∧ jl_w (nbs f (a + 10) 8) = jl_w (nbs f (b + 18) 8) ∧ jl_w (nbs f (a + 18) 8) = jl_w (nbs f (b + 10) 8)))) := by
  unfold rLike tPt tAd
  rw [show a + 2 + 2 * 0 = a + 2 by omega, show b + 2 + 2 * 0 = b + 2 by omega, show a + 2 + 2 * 1 = a + 4 by omega, show b + 2 + 2 * 1 = b + 4 by omega, show a + 10 + 8 * 0 = a + 10 by omega, show b + 10 + 8 * 0 = b + 10 by omega, show a + 10 + 8 * 1 = a + 18 by omega, show b + 10 + 8 * 1 = b + 18 by omega]
theorem adOK_x {f : Int → Int} {y : Int} : adOK f y ↔ (f (y + 1) / 16 % 2 = 1 ∨ ((0 ≤ jl_w (nbs f (y + 10) 8) ∧ jl_w (nbs f (y + 10) 8) ≤ 4294967295) ∧ (0 ≤ jl_w (nbs f (y + 18) 8) ∧ jl_w (nbs f (y + 18) 8) ≤ 4294967295))) := by
  unfold adOK tAd
  rw [show y + 10 + 8 * 0 = y + 10 by omega, show y + 10 + 8 * 1 = y + 18 by omega]
def alg (f : Int → Int) (a b : Int) : Prop := (tw f (a + 2) = tw f (b + 2) ∧ tw f (a + 4) = tw f (b + 4)) ∧ jl_w (nbs f (a + 10) 8) = jl_w (nbs f (b + 10) 8) ∧ jl_w (nbs f (a + 18) 8) = jl_w (nbs f (b + 18) 8)
theorem r_haveLikeEnds_L138_x {A : Nat → Option (Nat × (Nat → Int32))} {Q : Option Value → jm → Prop} {a0 : Int} {b0 : Int} {M : jm} (hI_M : RI M) (hH_M : RH M) (hS_M : RF M) (q : ∀ (r : Int), 0 ≤ r ∧ r ≤ 1 → ((r = 1 ∧ rLike (M 599) (48 * a0) (48 * b0)) ∨ (r = 0 ∧ ¬ rLike (M 599) (48 * a0) (48 * b0))) → Q (some (.int (Int32.ofInt r))) M) : ∀ (d : Int) (c : Int) (b : Int) (a : Int) (z : Int), 0 ≤ d ∧ d ≤ 1104 → 0 ≤ c ∧ c ≤ 1104 → 0 ≤ b ∧ b ≤ 23 → 0 ≤ a ∧ a ≤ 23 → 0 ≤ z ∧ z ≤ 1 → ((z = 1 ∧ alg (M 599) c d) ∨ (z = 0 ∧ ¬ alg (M 599) c d)) → (M 599 c = M 599 d ∧ M 599 (c + 1) / 16 % 2 = M 599 (d + 1) / 16 % 2) → c = 48 * a → d = 48 * b → a = a0 → b = b0 → jr A 3 xm_330 138 [(4, .int (Int32.ofInt (d))), (3, .int (Int32.ofInt (c))), (2, .int (Int32.ofInt (b))), (1, .int (Int32.ofInt (a))), (0, .ref (598))] [.int (Int32.ofInt (z))] M Q := by
    intro d c b a z h_d h_c h_b h_a h_z hy0 hy1 hy2 hy3 hy4 hy5
    subst hy4
    subst hy5
    refine jr.istore rfl (by decide) rfl ?_
    refine jr.aload_n rfl rfl ?_
    refine jr.iload_n rfl rfl ?_
    refine jr.iconst rfl ?_
    refine jr.iadd rfl ?_
    refine jr_v rfl rfl (Or.inl rfl) rfl rfl (by decide) rfl ⟨rfl, Nat.le_of_ble_eq_true rfl, Nat.le_of_ble_eq_true rfl⟩ rfl (jc.deep (r_takenTwo_x hI_M hH_M hS_M  (by omega)  (fun r1 z1 w1_0 => ?_)) (by decide))
    refine jr.aload_n rfl rfl ?_
    refine jr.iload rfl rfl ?_
    refine jr.iconst rfl ?_
    refine jr.iadd rfl ?_
    refine jr_v rfl rfl (Or.inl rfl) rfl rfl (by decide) rfl ⟨rfl, Nat.le_of_ble_eq_true rfl, Nat.le_of_ble_eq_true rfl⟩ rfl (jc.deep (r_takenTwo_x hI_M hH_M hS_M  (by omega)  (fun r2 z2 w2_0 => ?_)) (by decide))
    refine jr.icmp_ne rfl rfl (by omega) (by omega) (fun h155 => ?_) (fun h155 => ?_)
    · refine jr.iconst rfl ?_
      refine jr.istore rfl (by decide) rfl ?_
      refine jr.iload rfl rfl ?_
      refine jr.if_ne rfl rfl (by omega) (fun h227 => ?_) (fun h227 => ?_)
      · refine jr.iconst rfl ?_
        refine jr.goto rfl rfl ?_
        exact jr.ireturn rfl rfl rfl (q _ (by omega) (by rw [← hy2, ← hy3, rLike_x]; unfold alg at hy0; have t1 := w1_0; have t2 := w2_0; first | exact Or.inl ⟨rfl, by omega⟩ | exact Or.inr ⟨rfl, by omega⟩))
      · refine jr.iload rfl rfl ?_
        refine jr.if_eq rfl rfl (by omega) (fun _ => ?_) (fun h => absurd (by decide) h)
        refine jr.iconst rfl ?_
        exact jr.ireturn rfl rfl rfl (q _ (by omega) (by rw [← hy2, ← hy3, rLike_x]; unfold alg at hy0; have t1 := w1_0; have t2 := w2_0; first | exact Or.inl ⟨rfl, by omega⟩ | exact Or.inr ⟨rfl, by omega⟩))
    · refine jr.aload_n rfl rfl ?_
      refine jr.iload_n rfl rfl ?_
      refine jr.iconst rfl ?_
      refine jr.iadd rfl ?_
      refine jr_v rfl rfl (Or.inl rfl) rfl rfl (by decide) rfl ⟨rfl, Nat.le_of_ble_eq_true rfl, Nat.le_of_ble_eq_true rfl⟩ rfl (jc.deep (r_takenTwo_x hI_M hH_M hS_M  (by omega)  (fun r3 z3 w3_0 => ?_)) (by decide))
      refine jr.aload_n rfl rfl ?_
      refine jr.iload rfl rfl ?_
      refine jr.iconst rfl ?_
      refine jr.iadd rfl ?_
      refine jr_v rfl rfl (Or.inl rfl) rfl rfl (by decide) rfl ⟨rfl, Nat.le_of_ble_eq_true rfl, Nat.le_of_ble_eq_true rfl⟩ rfl (jc.deep (r_takenTwo_x hI_M hH_M hS_M  (by omega)  (fun r4 z4 w4_0 => ?_)) (by decide))
      refine jr.icmp_ne rfl rfl (by omega) (by omega) (fun h173 => ?_) (fun h173 => ?_)
      · refine jr.iconst rfl ?_
        refine jr.istore rfl (by decide) rfl ?_
        refine jr.iload rfl rfl ?_
        refine jr.if_ne rfl rfl (by omega) (fun h227 => ?_) (fun h227 => ?_)
        · refine jr.iconst rfl ?_
          refine jr.goto rfl rfl ?_
          exact jr.ireturn rfl rfl rfl (q _ (by omega) (by rw [← hy2, ← hy3, rLike_x]; unfold alg at hy0; have t1 := w1_0; have t2 := w2_0; have t3 := w3_0; have t4 := w4_0; first | exact Or.inl ⟨rfl, by omega⟩ | exact Or.inr ⟨rfl, by omega⟩))
        · refine jr.iload rfl rfl ?_
          refine jr.if_eq rfl rfl (by omega) (fun _ => ?_) (fun h => absurd (by decide) h)
          refine jr.iconst rfl ?_
          exact jr.ireturn rfl rfl rfl (q _ (by omega) (by rw [← hy2, ← hy3, rLike_x]; unfold alg at hy0; have t1 := w1_0; have t2 := w2_0; have t3 := w3_0; have t4 := w4_0; first | exact Or.inl ⟨rfl, by omega⟩ | exact Or.inr ⟨rfl, by omega⟩))
      · refine jr.aload_n rfl rfl ?_
        refine jr.iload_n rfl rfl ?_
        refine jr.bipush rfl (by decide) ?_
        refine jr.iadd rfl ?_
        refine jr_v rfl rfl (Or.inl rfl) rfl rfl (by decide) rfl ⟨rfl, Nat.le_of_ble_eq_true rfl, Nat.le_of_ble_eq_true rfl⟩ rfl (jc.deep (r_takenEight_x hI_M hH_M hS_M  (by omega)  (fun r5 z5 w5_0 => ?_)) (by decide))
        refine jr.aload_n rfl rfl ?_
        refine jr.iload rfl rfl ?_
        refine jr.bipush rfl (by decide) ?_
        refine jr.iadd rfl ?_
        refine jr_v rfl rfl (Or.inl rfl) rfl rfl (by decide) rfl ⟨rfl, Nat.le_of_ble_eq_true rfl, Nat.le_of_ble_eq_true rfl⟩ rfl (jc.deep (r_takenEight_x hI_M hH_M hS_M  (by omega)  (fun r6 z6 w6_0 => ?_)) (by decide))
        refine jr.lcmp_ne rfl rfl rfl (by omega) (by omega) (fun h193 => ?_) (fun h193 => ?_)
        · refine jr.iconst rfl ?_
          refine jr.istore rfl (by decide) rfl ?_
          refine jr.iload rfl rfl ?_
          refine jr.if_ne rfl rfl (by omega) (fun h227 => ?_) (fun h227 => ?_)
          · refine jr.iconst rfl ?_
            refine jr.goto rfl rfl ?_
            exact jr.ireturn rfl rfl rfl (q _ (by omega) (by rw [← hy2, ← hy3, rLike_x]; unfold alg at hy0; have t1 := w1_0; have t2 := w2_0; have t3 := w3_0; have t4 := w4_0; have t5 := w5_0; have t6 := w6_0; first | exact Or.inl ⟨rfl, by omega⟩ | exact Or.inr ⟨rfl, by omega⟩))
          · refine jr.iload rfl rfl ?_
            refine jr.if_eq rfl rfl (by omega) (fun _ => ?_) (fun h => absurd (by decide) h)
            refine jr.iconst rfl ?_
            exact jr.ireturn rfl rfl rfl (q _ (by omega) (by rw [← hy2, ← hy3, rLike_x]; unfold alg at hy0; have t1 := w1_0; have t2 := w2_0; have t3 := w3_0; have t4 := w4_0; have t5 := w5_0; have t6 := w6_0; first | exact Or.inl ⟨rfl, by omega⟩ | exact Or.inr ⟨rfl, by omega⟩))
        · refine jr.aload_n rfl rfl ?_
          refine jr.iload_n rfl rfl ?_
          refine jr.bipush rfl (by decide) ?_
          refine jr.iadd rfl ?_
          refine jr_v rfl rfl (Or.inl rfl) rfl rfl (by decide) rfl ⟨rfl, Nat.le_of_ble_eq_true rfl, Nat.le_of_ble_eq_true rfl⟩ rfl (jc.deep (r_takenEight_x hI_M hH_M hS_M  (by omega)  (fun r7 z7 w7_0 => ?_)) (by decide))
          refine jr.aload_n rfl rfl ?_
          refine jr.iload rfl rfl ?_
          refine jr.bipush rfl (by decide) ?_
          refine jr.iadd rfl ?_
          refine jr_v rfl rfl (Or.inl rfl) rfl rfl (by decide) rfl ⟨rfl, Nat.le_of_ble_eq_true rfl, Nat.le_of_ble_eq_true rfl⟩ rfl (jc.deep (r_takenEight_x hI_M hH_M hS_M  (by omega)  (fun r8 z8 w8_0 => ?_)) (by decide))
          refine jr.lcmp_ne rfl rfl rfl (by omega) (by omega) (fun h214 => ?_) (fun h214 => ?_)
          · refine jr.iconst rfl ?_
            refine jr.istore rfl (by decide) rfl ?_
            refine jr.iload rfl rfl ?_
            refine jr.if_ne rfl rfl (by omega) (fun h227 => ?_) (fun h227 => ?_)
            · refine jr.iconst rfl ?_
              refine jr.goto rfl rfl ?_
              exact jr.ireturn rfl rfl rfl (q _ (by omega) (by rw [← hy2, ← hy3, rLike_x]; unfold alg at hy0; have t1 := w1_0; have t2 := w2_0; have t3 := w3_0; have t4 := w4_0; have t5 := w5_0; have t6 := w6_0; have t7 := w7_0; have t8 := w8_0; first | exact Or.inl ⟨rfl, by omega⟩ | exact Or.inr ⟨rfl, by omega⟩))
            · refine jr.iload rfl rfl ?_
              refine jr.if_eq rfl rfl (by omega) (fun _ => ?_) (fun h => absurd (by decide) h)
              refine jr.iconst rfl ?_
              exact jr.ireturn rfl rfl rfl (q _ (by omega) (by rw [← hy2, ← hy3, rLike_x]; unfold alg at hy0; have t1 := w1_0; have t2 := w2_0; have t3 := w3_0; have t4 := w4_0; have t5 := w5_0; have t6 := w6_0; have t7 := w7_0; have t8 := w8_0; first | exact Or.inl ⟨rfl, by omega⟩ | exact Or.inr ⟨rfl, by omega⟩))
          · refine jr.iconst rfl ?_
            refine jr.goto rfl rfl ?_
            refine jr.istore rfl (by decide) rfl ?_
            refine jr.iload rfl rfl ?_
            refine jr.if_ne rfl rfl (by omega) (fun h227 => ?_) (fun h227 => ?_)
            · refine jr.iconst rfl ?_
              refine jr.goto rfl rfl ?_
              exact jr.ireturn rfl rfl rfl (q _ (by omega) (by rw [← hy2, ← hy3, rLike_x]; unfold alg at hy0; have t1 := w1_0; have t2 := w2_0; have t3 := w3_0; have t4 := w4_0; have t5 := w5_0; have t6 := w6_0; have t7 := w7_0; have t8 := w8_0; first | exact Or.inl ⟨rfl, by omega⟩ | exact Or.inr ⟨rfl, by omega⟩))
            · refine jr.iload rfl rfl ?_
              refine jr.if_eq rfl rfl (by omega) (fun h => absurd h (by decide)) (fun _ => ?_)
              refine jr.iconst rfl ?_
              refine jr.goto rfl rfl ?_
              exact jr.ireturn rfl rfl rfl (q _ (by omega) (by rw [← hy2, ← hy3, rLike_x]; unfold alg at hy0; have t1 := w1_0; have t2 := w2_0; have t3 := w3_0; have t4 := w4_0; have t5 := w5_0; have t6 := w6_0; have t7 := w7_0; have t8 := w8_0; first | exact Or.inl ⟨rfl, by omega⟩ | exact Or.inr ⟨rfl, by omega⟩))
theorem r_haveLikeEnds_x {A : Nat → Option (Nat × (Nat → Int32))} {Q : Option Value → jm → Prop} {M : jm} (hI_M : RI M) (hH_M : RH M) (hS_M : RF M) {a : Int} (h_a : 0 ≤ a ∧ a ≤ 23) {b : Int} (h_b : 0 ≤ b ∧ b ≤ 23) (q : ∀ (r : Int), 0 ≤ r ∧ r ≤ 1 → ((r = 1 ∧ rLike (M 599) (48 * a) (48 * b)) ∨ (r = 0 ∧ ¬ rLike (M 599) (48 * a) (48 * b))) → Q (some (.int (Int32.ofInt r))) M) : jc A 4 330 [.ref (598), .int (Int32.ofInt (a)), .int (Int32.ofInt (b))] M Q := by
  refine jc_of (m := xm_330) rfl (Nat.le_of_ble_eq_true rfl) rfl ?_
  refine jr.bipush rfl (by decide) ?_
  refine jr.iload_n rfl rfl ?_
  refine jr.imul rfl ?_
  refine jr.istore_n rfl (by decide) rfl ?_
  refine jr.bipush rfl (by decide) ?_
  refine jr.iload_n rfl rfl ?_
  refine jr.imul rfl ?_
  refine jr.istore rfl (by decide) rfl ?_
  refine jr.aload_n rfl rfl ?_
  refine jr.getf (i := 0) (v := .ref 599) rfl rfl (by decide) rfl (by decide) rfl rfl rfl rfl ?_
  refine jr.iload_n rfl rfl ?_
  obtain ⟨v1, e1⟩ : ∃ z, M 599 (48 * a) = z := ⟨_, rfl⟩
  have b1 : 0 ≤ v1 ∧ v1 ≤ 255 := by rw [← e1]; exact (by have q := hI_M 599 (48 * a) (by decide); rw [xri_row rfl rfl] at q; exact q)
  refine jr.iald (i := (48 * a)) (x := v1) rfl (by decide) rfl (by decide) (by omega) (by omega) e1 ?_
  refine jr.aload_n rfl rfl ?_
  refine jr.getf (i := 0) (v := .ref 599) rfl rfl (by decide) rfl (by decide) rfl rfl rfl rfl ?_
  refine jr.iload rfl rfl ?_
  obtain ⟨v2, e2⟩ : ∃ z, M 599 (48 * b) = z := ⟨_, rfl⟩
  have b2 : 0 ≤ v2 ∧ v2 ≤ 255 := by rw [← e2]; exact (by have q := hI_M 599 (48 * b) (by decide); rw [xri_row rfl rfl] at q; exact q)
  refine jr.iald (i := (48 * b)) (x := v2) rfl (by decide) rfl (by decide) (by omega) (by omega) e2 ?_
  refine jr.icmp_ne rfl rfl (by omega) (by omega) (fun h24 => ?_) (fun h24 => ?_)
  · refine jr.iconst rfl ?_
    exact jr.ireturn rfl rfl rfl (q _ (by omega) (Or.inr ⟨rfl, fun u => by rw [rLike_x] at u; have u1 := u.1; rw [e1, e2] at u1; omega⟩))
  · refine jr.aload_n rfl rfl ?_
    refine jr.getf (i := 0) (v := .ref 599) rfl rfl (by decide) rfl (by decide) rfl rfl rfl rfl ?_
    refine jr.iload_n rfl rfl ?_
    refine jr.iconst rfl ?_
    refine jr.iadd rfl ?_
    obtain ⟨v3, e3⟩ : ∃ z, M 599 ((48 * a) + 1) = z := ⟨_, rfl⟩
    have b3 : 0 ≤ v3 ∧ v3 ≤ 255 := by rw [← e3]; exact (by have q := hI_M 599 ((48 * a) + 1) (by decide); rw [xri_row rfl rfl] at q; exact q)
    refine jr.iald (i := ((48 * a) + 1)) (x := v3) rfl (by decide) rfl (by decide) (by omega) (by omega) e3 ?_
    refine jr.bipush rfl (by decide) ?_
    refine jr.iand rfl ?_
    have b4 : j_and v3 16 = v3 / 16 % 2 * 16 ∧ 0 ≤ j_and v3 16 ∧ j_and v3 16 ≤ 16 := ⟨(jbt (by omega)).2.2.2, by rw [(jbt (by omega)).2.2.2]; omega⟩
    generalize j_and v3 16 = v4 at b4 ⊢
    refine jr.aload_n rfl rfl ?_
    refine jr.getf (i := 0) (v := .ref 599) rfl rfl (by decide) rfl (by decide) rfl rfl rfl rfl ?_
    refine jr.iload rfl rfl ?_
    refine jr.iconst rfl ?_
    refine jr.iadd rfl ?_
    obtain ⟨v5, e5⟩ : ∃ z, M 599 ((48 * b) + 1) = z := ⟨_, rfl⟩
    have b5 : 0 ≤ v5 ∧ v5 ≤ 255 := by rw [← e5]; exact (by have q := hI_M 599 ((48 * b) + 1) (by decide); rw [xri_row rfl rfl] at q; exact q)
    refine jr.iald (i := ((48 * b) + 1)) (x := v5) rfl (by decide) rfl (by decide) (by omega) (by omega) e5 ?_
    refine jr.bipush rfl (by decide) ?_
    refine jr.iand rfl ?_
    have b6 : j_and v5 16 = v5 / 16 % 2 * 16 ∧ 0 ≤ j_and v5 16 ∧ j_and v5 16 ≤ 16 := ⟨(jbt (by omega)).2.2.2, by rw [(jbt (by omega)).2.2.2]; omega⟩
    generalize j_and v5 16 = v6 at b6 ⊢
    refine jr.icmp_eq rfl rfl (by omega) (by omega) (fun h50 => ?_) (fun h50 => ?_)
    · refine jr.aload_n rfl rfl ?_
      refine jr.iload_n rfl rfl ?_
      refine jr.iconst rfl ?_
      refine jr.iadd rfl ?_
      refine jr_v rfl rfl (Or.inl rfl) rfl rfl (by decide) rfl ⟨rfl, Nat.le_of_ble_eq_true rfl, Nat.le_of_ble_eq_true rfl⟩ rfl (jc.deep (r_takenTwo_x hI_M hH_M hS_M  (by omega)  (fun r7 z7 w7_0 => ?_)) (by decide))
      refine jr.aload_n rfl rfl ?_
      refine jr.iload rfl rfl ?_
      refine jr.iconst rfl ?_
      refine jr.iadd rfl ?_
      refine jr_v rfl rfl (Or.inl rfl) rfl rfl (by decide) rfl ⟨rfl, Nat.le_of_ble_eq_true rfl, Nat.le_of_ble_eq_true rfl⟩ rfl (jc.deep (r_takenTwo_x hI_M hH_M hS_M  (by omega)  (fun r8 z8 w8_0 => ?_)) (by decide))
      refine jr.icmp_ne rfl rfl (by omega) (by omega) (fun h70 => ?_) (fun h70 => ?_)
      · refine jr.iconst rfl ?_
        refine jr.pick [0, 1, 4, 3, 2] rfl rfl ?_
        exact r_haveLikeEnds_L138_x hI_M hH_M hS_M q (48 * b) (48 * a) b a 0 (by omega) (by omega) (by omega) (by omega) (by omega) (by unfold alg; have t7 := w7_0; have t8 := w8_0; first | exact Or.inl ⟨rfl, by omega⟩ | exact Or.inr ⟨rfl, by omega⟩) (by have bA := e1; have bB := e2; have bC := e3; have bD := e5; rw [bA, bB, bC, bD]; omega) (by omega) (by omega) (by omega) (by omega)
      · refine jr.aload_n rfl rfl ?_
        refine jr.iload_n rfl rfl ?_
        refine jr.iconst rfl ?_
        refine jr.iadd rfl ?_
        refine jr_v rfl rfl (Or.inl rfl) rfl rfl (by decide) rfl ⟨rfl, Nat.le_of_ble_eq_true rfl, Nat.le_of_ble_eq_true rfl⟩ rfl (jc.deep (r_takenTwo_x hI_M hH_M hS_M  (by omega)  (fun r9 z9 w9_0 => ?_)) (by decide))
        refine jr.aload_n rfl rfl ?_
        refine jr.iload rfl rfl ?_
        refine jr.iconst rfl ?_
        refine jr.iadd rfl ?_
        refine jr_v rfl rfl (Or.inl rfl) rfl rfl (by decide) rfl ⟨rfl, Nat.le_of_ble_eq_true rfl, Nat.le_of_ble_eq_true rfl⟩ rfl (jc.deep (r_takenTwo_x hI_M hH_M hS_M  (by omega)  (fun r10 z10 w10_0 => ?_)) (by decide))
        refine jr.icmp_ne rfl rfl (by omega) (by omega) (fun h88 => ?_) (fun h88 => ?_)
        · refine jr.iconst rfl ?_
          refine jr.pick [0, 1, 4, 3, 2] rfl rfl ?_
          exact r_haveLikeEnds_L138_x hI_M hH_M hS_M q (48 * b) (48 * a) b a 0 (by omega) (by omega) (by omega) (by omega) (by omega) (by unfold alg; have t7 := w7_0; have t8 := w8_0; have t9 := w9_0; have t10 := w10_0; first | exact Or.inl ⟨rfl, by omega⟩ | exact Or.inr ⟨rfl, by omega⟩) (by have bA := e1; have bB := e2; have bC := e3; have bD := e5; rw [bA, bB, bC, bD]; omega) (by omega) (by omega) (by omega) (by omega)
        · refine jr.aload_n rfl rfl ?_
          refine jr.iload_n rfl rfl ?_
          refine jr.bipush rfl (by decide) ?_
          refine jr.iadd rfl ?_
          refine jr_v rfl rfl (Or.inl rfl) rfl rfl (by decide) rfl ⟨rfl, Nat.le_of_ble_eq_true rfl, Nat.le_of_ble_eq_true rfl⟩ rfl (jc.deep (r_takenEight_x hI_M hH_M hS_M  (by omega)  (fun r11 z11 w11_0 => ?_)) (by decide))
          refine jr.aload_n rfl rfl ?_
          refine jr.iload rfl rfl ?_
          refine jr.bipush rfl (by decide) ?_
          refine jr.iadd rfl ?_
          refine jr_v rfl rfl (Or.inl rfl) rfl rfl (by decide) rfl ⟨rfl, Nat.le_of_ble_eq_true rfl, Nat.le_of_ble_eq_true rfl⟩ rfl (jc.deep (r_takenEight_x hI_M hH_M hS_M  (by omega)  (fun r12 z12 w12_0 => ?_)) (by decide))
          refine jr.lcmp_ne rfl rfl rfl (by omega) (by omega) (fun h108 => ?_) (fun h108 => ?_)
          · refine jr.iconst rfl ?_
            refine jr.pick [0, 1, 4, 3, 2] rfl rfl ?_
            exact r_haveLikeEnds_L138_x hI_M hH_M hS_M q (48 * b) (48 * a) b a 0 (by omega) (by omega) (by omega) (by omega) (by omega) (by unfold alg; have t7 := w7_0; have t8 := w8_0; have t9 := w9_0; have t10 := w10_0; have t11 := w11_0; have t12 := w12_0; first | exact Or.inl ⟨rfl, by omega⟩ | exact Or.inr ⟨rfl, by omega⟩) (by have bA := e1; have bB := e2; have bC := e3; have bD := e5; rw [bA, bB, bC, bD]; omega) (by omega) (by omega) (by omega) (by omega)
          · refine jr.aload_n rfl rfl ?_
            refine jr.iload_n rfl rfl ?_
            refine jr.bipush rfl (by decide) ?_
            refine jr.iadd rfl ?_
            refine jr_v rfl rfl (Or.inl rfl) rfl rfl (by decide) rfl ⟨rfl, Nat.le_of_ble_eq_true rfl, Nat.le_of_ble_eq_true rfl⟩ rfl (jc.deep (r_takenEight_x hI_M hH_M hS_M  (by omega)  (fun r13 z13 w13_0 => ?_)) (by decide))
            refine jr.aload_n rfl rfl ?_
            refine jr.iload rfl rfl ?_
            refine jr.bipush rfl (by decide) ?_
            refine jr.iadd rfl ?_
            refine jr_v rfl rfl (Or.inl rfl) rfl rfl (by decide) rfl ⟨rfl, Nat.le_of_ble_eq_true rfl, Nat.le_of_ble_eq_true rfl⟩ rfl (jc.deep (r_takenEight_x hI_M hH_M hS_M  (by omega)  (fun r14 z14 w14_0 => ?_)) (by decide))
            refine jr.lcmp_ne rfl rfl rfl (by omega) (by omega) (fun h129 => ?_) (fun h129 => ?_)
            · refine jr.iconst rfl ?_
              refine jr.pick [0, 1, 4, 3, 2] rfl rfl ?_
              exact r_haveLikeEnds_L138_x hI_M hH_M hS_M q (48 * b) (48 * a) b a 0 (by omega) (by omega) (by omega) (by omega) (by omega) (by unfold alg; have t7 := w7_0; have t8 := w8_0; have t9 := w9_0; have t10 := w10_0; have t11 := w11_0; have t12 := w12_0; have t13 := w13_0; have t14 := w14_0; first | exact Or.inl ⟨rfl, by omega⟩ | exact Or.inr ⟨rfl, by omega⟩) (by have bA := e1; have bB := e2; have bC := e3; have bD := e5; rw [bA, bB, bC, bD]; omega) (by omega) (by omega) (by omega) (by omega)
            · refine jr.iconst rfl ?_
              refine jr.goto rfl rfl ?_
              refine jr.pick [0, 1, 4, 3, 2] rfl rfl ?_
              exact r_haveLikeEnds_L138_x hI_M hH_M hS_M q (48 * b) (48 * a) b a 1 (by omega) (by omega) (by omega) (by omega) (by omega) (by unfold alg; have t7 := w7_0; have t8 := w8_0; have t9 := w9_0; have t10 := w10_0; have t11 := w11_0; have t12 := w12_0; have t13 := w13_0; have t14 := w14_0; first | exact Or.inl ⟨rfl, by omega⟩ | exact Or.inr ⟨rfl, by omega⟩) (by have bA := e1; have bB := e2; have bC := e3; have bD := e5; rw [bA, bB, bC, bD]; omega) (by omega) (by omega) (by omega) (by omega)
    · refine jr.iconst rfl ?_
      exact jr.ireturn rfl rfl rfl (q _ (by omega) (Or.inr ⟨rfl, fun u => by rw [rLike_x] at u; have u1 := u.1; rw [e1, e2, e3, e5] at u1; omega⟩))
theorem r_isRow_L228_x {A : Nat → Option (Nat × (Nat → Int32))} {Q : Option Value → jm → Prop} {o0 : Int} {n0 : Int} {M : jm} (hI_M : RI M) (hH_M : RH M) (hS_M : RF M) (q : ∀ (r : Int), 0 ≤ r ∧ r ≤ 1 → ((r = 1 ∧ okR (M 599) n0 o0) ∨ (r = 0 ∧ ¬ (okR (M 599) n0 o0))) → Q (some (.int (Int32.ofInt r))) M) : ∀ (nM : Nat) (k : Int) (w : Int) (n : Int) (o : Int), 0 ≤ k ∧ k ≤ 24 → 0 ≤ w ∧ w ≤ 1 → 0 ≤ n ∧ n ≤ 1600 → 0 ≤ o ∧ o ≤ 23 → ((w = 1 ∧ rGood (M 599) (48 * o) ∧ (∀ j : Int, 0 ≤ j → j < k → ¬ rLike (M 599) (48 * j) (48 * o))) ∨ (w = 0 ∧ ¬ okR (M 599) n o)) → 48 * o + 48 ≤ n → k ≤ o → o = o0 → n = n0 → 24 - k ≤ nM → jr A 4 xm_331 228 [(8, .int (Int32.ofInt (k))), (6, .int (Int32.ofInt (w))), (2, .int (Int32.ofInt (n))), (1, .int (Int32.ofInt (o))), (0, .ref (598))] [] M Q := by
  intro nM
  induction nM using Nat.strongRecOn with
  | ind nM ih =>
    intro k w n o h_k h_w h_n h_o hy0 hy1 hy2 hy3 hy4 hm
    subst hy3
    subst hy4
    refine jr.iload rfl rfl ?_
    refine jr.iload_n rfl rfl ?_
    refine jr.icmp_ge rfl rfl (by omega) (by omega) (fun h231 => ?_) (fun h231 => ?_)
    · refine jr.iload rfl rfl ?_
      exact jr.ireturn rfl rfl (j_zr (by omega)) (q _ (by omega) (by rcases hy0 with h9 | h9; (exact Or.inl ⟨h9.1, ⟨by omega, by omega⟩, h9.2.1, fun j j0 j1 => h9.2.2 j j0 (by omega)⟩); (exact Or.inr h9)))
    · refine jr.iload rfl rfl ?_
      refine jr.if_eq rfl rfl (by omega) (fun h236 => ?_) (fun h236 => ?_)
      · refine jr.iload rfl rfl ?_
        exact jr.ireturn rfl rfl (j_zr (by omega)) (q _ (by omega) (by rcases hy0 with h9 | h9; (exact Or.inl ⟨h9.1, ⟨by omega, by omega⟩, h9.2.1, fun j j0 j1 => h9.2.2 j j0 (by omega)⟩); (exact Or.inr h9)))
      · refine jr.aload_n rfl rfl ?_
        refine jr.iload rfl rfl ?_
        refine jr.iload_n rfl rfl ?_
        refine jr_v rfl rfl (Or.inl rfl) rfl rfl (by decide) rfl ⟨rfl, Nat.le_of_ble_eq_true rfl, Nat.le_of_ble_eq_true rfl⟩ rfl (jc.deep (r_haveLikeEnds_x hI_M hH_M hS_M  (by omega) (by omega)  (fun r1 z1 w1_0 => ?_)) (by decide))
        refine jr.if_ne rfl rfl (by omega) (fun h246 => ?_) (fun h246 => ?_)
        · refine jr.iconst rfl ?_
          refine jr.istore rfl (by decide) rfl ?_
          refine jr.iinc rfl rfl (by decide) rfl ?_
          refine jr.goto rfl rfl ?_
          refine jr.pick [0, 1, 2, 3, 4] rfl rfl ?_
          exact ih (nM - 1) (by omega) (k + 1) 0 n o (by omega) (by omega) (by omega) (by omega) (Or.inr ⟨rfl, fun u => u.2.2 k (by omega) (by omega) (w1_0.resolve_right (fun h => by omega)).2⟩) (by omega) (by omega) (by omega) (by omega) (by omega)
        · refine jr.iconst rfl ?_
          refine jr.goto rfl rfl ?_
          refine jr.istore rfl (by decide) rfl ?_
          refine jr.iinc rfl rfl (by decide) rfl ?_
          refine jr.goto rfl rfl ?_
          refine jr.pick [0, 1, 2, 3, 4] rfl rfl ?_
          exact ih (nM - 1) (by omega) (k + 1) 1 n o (by omega) (by omega) (by omega) (by omega) (Or.inl ⟨rfl, (hy0.resolve_right (fun h => by omega)).2.1, fun j j0 j1 => by by_cases e : j = k; (subst e; exact (w1_0.resolve_left (fun h => by omega)).2); (exact (hy0.resolve_right (fun h => by omega)).2.2 j j0 (by omega))⟩) (by omega) (by omega) (by omega) (by omega) (by omega)
theorem r_isRow_L225_x {A : Nat → Option (Nat × (Nat → Int32))} {Q : Option Value → jm → Prop} {o0 : Int} {n0 : Int} {M : jm} (hI_M : RI M) (hH_M : RH M) (hS_M : RF M) (q : ∀ (r : Int), 0 ≤ r ∧ r ≤ 1 → ((r = 1 ∧ okR (M 599) n0 o0) ∨ (r = 0 ∧ ¬ (okR (M 599) n0 o0))) → Q (some (.int (Int32.ofInt r))) M) : ∀ (w : Int) (n : Int) (o : Int), 0 ≤ w ∧ w ≤ 1 → 0 ≤ n ∧ n ≤ 1600 → 0 ≤ o ∧ o ≤ 23 → ((w = 1 ∧ (stOK (M 599 (48 * o)) (M 599 (48 * o + 1) % 16) ∧ adOK (M 599) (48 * o)) ∧ (1 ≤ nbs (M 599) (48 * o + 34) 4 ∧ nbs (M 599) (48 * o + 34) 4 ≤ 200)) ∨ (w = 0 ∧ ¬ ((stOK (M 599 (48 * o)) (M 599 (48 * o + 1) % 16) ∧ adOK (M 599) (48 * o)) ∧ (1 ≤ nbs (M 599) (48 * o + 34) 4 ∧ nbs (M 599) (48 * o + 34) 4 ≤ 200)))) → tw (M 599) (48 * o + 46) = tn (sb (M 599) (48 * o) 46) → 48 * o + 48 ≤ n → o = o0 → n = n0 → jr A 4 xm_331 225 [(6, .int (Int32.ofInt (w))), (2, .int (Int32.ofInt (n))), (1, .int (Int32.ofInt (o))), (3, .int (Int32.ofInt (48 * o))), (0, .ref (598))] [] M Q := by
    intro w n o h_w h_n h_o hy0 hy1 hy2 hy3 hy4
    subst hy3
    subst hy4
    refine jr.iconst rfl ?_
    refine jr.istore rfl (by decide) rfl ?_
    refine jr.pick [0, 1, 2, 3, 5] rfl rfl ?_
    exact r_isRow_L228_x hI_M hH_M hS_M q 24 0 w n o (by omega) (by omega) (by omega) (by omega) (by rcases hy0 with h9 | h9; (exact Or.inl ⟨h9.1, ⟨hy1, h9.2.1.1, h9.2.1.2, h9.2.2⟩, fun j j0 j1 => absurd j1 (by omega)⟩); (exact Or.inr ⟨h9.1, fun u => h9.2 ⟨⟨u.2.1.2.1, u.2.1.2.2.1⟩, u.2.1.2.2.2⟩⟩)) (by omega) (by omega) (by omega) (by omega) (by omega)
theorem r_isRow_L195_x {A : Nat → Option (Nat × (Nat → Int32))} {Q : Option Value → jm → Prop} {o0 : Int} {n0 : Int} {M : jm} (hI_M : RI M) (hH_M : RH M) (hS_M : RF M) (q : ∀ (r : Int), 0 ≤ r ∧ r ≤ 1 → ((r = 1 ∧ okR (M 599) n0 o0) ∨ (r = 0 ∧ ¬ (okR (M 599) n0 o0))) → Q (some (.int (Int32.ofInt r))) M) : ∀ (w : Int) (n : Int) (o : Int), 0 ≤ w ∧ w ≤ 1 → 0 ≤ n ∧ n ≤ 1600 → 0 ≤ o ∧ o ≤ 23 → ((w = 1 ∧ stOK (M 599 (48 * o)) (M 599 (48 * o + 1) % 16) ∧ adOK (M 599) (48 * o)) ∨ (w = 0 ∧ ¬ (stOK (M 599 (48 * o)) (M 599 (48 * o + 1) % 16) ∧ adOK (M 599) (48 * o)))) → tw (M 599) (48 * o + 46) = tn (sb (M 599) (48 * o) 46) → 48 * o + 48 ≤ n → o = o0 → n = n0 → jr A 4 xm_331 195 [(6, .int (Int32.ofInt (w))), (2, .int (Int32.ofInt (n))), (1, .int (Int32.ofInt (o))), (3, .int (Int32.ofInt (48 * o))), (0, .ref (598))] [] M Q := by
    intro w n o h_w h_n h_o hy0 hy1 hy2 hy3 hy4
    subst hy3
    subst hy4
    refine jr.iload rfl rfl ?_
    refine jr.if_eq rfl rfl (by omega) (fun h197 => ?_) (fun h197 => ?_)
    · refine jr.iconst rfl ?_
      refine jr.istore rfl (by decide) rfl ?_
      refine jr.pick [0, 1, 2, 3, 4] rfl rfl ?_
      exact r_isRow_L225_x hI_M hH_M hS_M q 0 n o (by omega) (by omega) (by omega) (by have hs := hy0; first | exact Or.inl ⟨rfl, (hs.resolve_right (fun h => by omega)).2, by omega⟩ | exact Or.inr ⟨rfl, fun u => by have u2 := u.2; omega⟩ | exact Or.inr ⟨rfl, fun u => (hs.resolve_left (fun h => by omega)).2 u.1⟩) hy1 (by omega) (by omega) (by omega)
    · refine jr.aload_n rfl rfl ?_
      refine jr.iload_n rfl rfl ?_
      refine jr.bipush rfl (by decide) ?_
      refine jr.iadd rfl ?_
      refine jr_v rfl rfl (Or.inl rfl) rfl rfl (by decide) rfl ⟨rfl, Nat.le_of_ble_eq_true rfl, Nat.le_of_ble_eq_true rfl⟩ rfl (jc.deep (r_takenFour_x hI_M hH_M hS_M  (by omega)  (fun r1 z1 w1_0 => ?_)) (by decide))
      refine jr.lconst (x := 1) rfl (by decide) ?_
      refine jr.ldc2 (x := 200) rfl rfl (by decide) ?_
      refine jr_s rfl rfl (Or.inl rfl) ⟨Nat.le_of_ble_eq_true rfl, Nat.le_of_ble_eq_true rfl⟩ rfl rfl (jc.deep (c_within (by omega) (by omega) (by omega) (fun l212 u212 => ?_) (fun n212 => ?_)) (by decide))
      · refine jr.if_eq rfl rfl (by omega) (fun h => absurd h (by decide)) (fun _ => ?_)
        refine jr.iconst rfl ?_
        refine jr.goto rfl rfl ?_
        refine jr.istore rfl (by decide) rfl ?_
        refine jr.pick [0, 1, 2, 3, 4] rfl rfl ?_
        exact r_isRow_L225_x hI_M hH_M hS_M q 1 n o (by omega) (by omega) (by omega) (by have hs := hy0; have t1 := w1_0; first | exact Or.inl ⟨rfl, (hs.resolve_right (fun h => by omega)).2, by omega⟩ | exact Or.inr ⟨rfl, fun u => by have u2 := u.2; omega⟩ | exact Or.inr ⟨rfl, fun u => (hs.resolve_left (fun h => by omega)).2 u.1⟩) hy1 (by omega) (by omega) (by omega)
      · refine jr.if_eq rfl rfl (by omega) (fun _ => ?_) (fun h => absurd (by decide) h)
        refine jr.iconst rfl ?_
        refine jr.istore rfl (by decide) rfl ?_
        refine jr.pick [0, 1, 2, 3, 4] rfl rfl ?_
        exact r_isRow_L225_x hI_M hH_M hS_M q 0 n o (by omega) (by omega) (by omega) (by have hs := hy0; have t1 := w1_0; first | exact Or.inl ⟨rfl, (hs.resolve_right (fun h => by omega)).2, by omega⟩ | exact Or.inr ⟨rfl, fun u => by have u2 := u.2; omega⟩ | exact Or.inr ⟨rfl, fun u => (hs.resolve_left (fun h => by omega)).2 u.1⟩) hy1 (by omega) (by omega) (by omega)
theorem r_isRow_L142_x {A : Nat → Option (Nat × (Nat → Int32))} {Q : Option Value → jm → Prop} {o0 : Int} {n0 : Int} {M : jm} (hI_M : RI M) (hH_M : RH M) (hS_M : RF M) (q : ∀ (r : Int), 0 ≤ r ∧ r ≤ 1 → ((r = 1 ∧ okR (M 599) n0 o0) ∨ (r = 0 ∧ ¬ (okR (M 599) n0 o0))) → Q (some (.int (Int32.ofInt r))) M) : ∀ (b : Int) (w : Int) (n : Int) (o : Int), 0 ≤ b ∧ b ≤ 1 → 0 ≤ w ∧ w ≤ 1 → 0 ≤ n ∧ n ≤ 1600 → 0 ≤ o ∧ o ≤ 23 → ((w = 1 ∧ stOK (M 599 (48 * o)) (M 599 (48 * o + 1) % 16)) ∨ (w = 0 ∧ ¬ (stOK (M 599 (48 * o)) (M 599 (48 * o + 1) % 16)))) → tw (M 599) (48 * o + 46) = tn (sb (M 599) (48 * o) 46) → 48 * o + 48 ≤ n → ((b = 1 ∧ M 599 (48 * o + 1) / 16 % 2 = 0) ∨ (b = 0 ∧ M 599 (48 * o + 1) / 16 % 2 = 1)) → o = o0 → n = n0 → jr A 4 xm_331 142 [(7, .int (Int32.ofInt (b))), (6, .int (Int32.ofInt (w))), (2, .int (Int32.ofInt (n))), (1, .int (Int32.ofInt (o))), (3, .int (Int32.ofInt (48 * o))), (0, .ref (598))] [] M Q := by
    intro b w n o h_b h_w h_n h_o hy0 hy1 hy2 hy3 hy4 hy5
    subst hy4
    subst hy5
    refine jr.iload rfl rfl ?_
    refine jr.if_eq rfl rfl (by omega) (fun h144 => ?_) (fun h144 => ?_)
    · refine jr.iconst rfl ?_
      refine jr.istore rfl (by decide) rfl ?_
      refine jr.pick [0, 2, 3, 4, 5] rfl rfl ?_
      exact r_isRow_L195_x hI_M hH_M hS_M q 0 n o (by omega) (by omega) (by omega) (by have hs := hy0; rw [adOK_x]; first | exact Or.inl ⟨rfl, (hs.resolve_right (fun h => by omega)).2, by omega⟩ | exact Or.inr ⟨rfl, fun u => by have u2 := u.2; omega⟩ | exact Or.inr ⟨rfl, fun u => (hs.resolve_left (fun h => by omega)).2 u.1⟩) hy1 (by omega) (by omega) (by omega)
    · refine jr.iload rfl rfl ?_
      refine jr.if_eq rfl rfl (by omega) (fun h149 => ?_) (fun h149 => ?_)
      · refine jr.iconst rfl ?_
        refine jr.goto rfl rfl ?_
        refine jr.istore rfl (by decide) rfl ?_
        refine jr.pick [0, 2, 3, 4, 5] rfl rfl ?_
        exact r_isRow_L195_x hI_M hH_M hS_M q 1 n o (by omega) (by omega) (by omega) (by have hs := hy0; rw [adOK_x]; first | exact Or.inl ⟨rfl, (hs.resolve_right (fun h => by omega)).2, by omega⟩ | exact Or.inr ⟨rfl, fun u => by have u2 := u.2; omega⟩ | exact Or.inr ⟨rfl, fun u => (hs.resolve_left (fun h => by omega)).2 u.1⟩) hy1 (by omega) (by omega) (by omega)
      · refine jr.aload_n rfl rfl ?_
        refine jr.iload_n rfl rfl ?_
        refine jr.bipush rfl (by decide) ?_
        refine jr.iadd rfl ?_
        refine jr_v rfl rfl (Or.inl rfl) rfl rfl (by decide) rfl ⟨rfl, Nat.le_of_ble_eq_true rfl, Nat.le_of_ble_eq_true rfl⟩ rfl (jc.deep (r_takenEight_x hI_M hH_M hS_M  (by omega)  (fun r1 z1 w1_0 => ?_)) (by decide))
        refine jr.lconst (x := 0) rfl (by decide) ?_
        refine jr.ldc2 (x := 4294967295) rfl rfl (by decide) ?_
        refine jr_s rfl rfl (Or.inl rfl) ⟨Nat.le_of_ble_eq_true rfl, Nat.le_of_ble_eq_true rfl⟩ rfl rfl (jc.deep (c_within (by omega) (by omega) (by omega) (fun l164 u164 => ?_) (fun n164 => ?_)) (by decide))
        · refine jr.if_eq rfl rfl (by omega) (fun h => absurd h (by decide)) (fun _ => ?_)
          refine jr.aload_n rfl rfl ?_
          refine jr.iload_n rfl rfl ?_
          refine jr.bipush rfl (by decide) ?_
          refine jr.iadd rfl ?_
          refine jr_v rfl rfl (Or.inl rfl) rfl rfl (by decide) rfl ⟨rfl, Nat.le_of_ble_eq_true rfl, Nat.le_of_ble_eq_true rfl⟩ rfl (jc.deep (r_takenEight_x hI_M hH_M hS_M  (by omega)  (fun r2 z2 w2_0 => ?_)) (by decide))
          refine jr.lconst (x := 0) rfl (by decide) ?_
          refine jr.ldc2 (x := 4294967295) rfl rfl (by decide) ?_
          refine jr_s rfl rfl (Or.inl rfl) ⟨Nat.le_of_ble_eq_true rfl, Nat.le_of_ble_eq_true rfl⟩ rfl rfl (jc.deep (c_within (by omega) (by omega) (by omega) (fun l182 u182 => ?_) (fun n182 => ?_)) (by decide))
          · refine jr.if_eq rfl rfl (by omega) (fun h => absurd h (by decide)) (fun _ => ?_)
            refine jr.iconst rfl ?_
            refine jr.goto rfl rfl ?_
            refine jr.istore rfl (by decide) rfl ?_
            refine jr.pick [0, 2, 3, 4, 5] rfl rfl ?_
            exact r_isRow_L195_x hI_M hH_M hS_M q 1 n o (by omega) (by omega) (by omega) (by have hs := hy0; rw [adOK_x]; have t1 := w1_0; have t2 := w2_0; first | exact Or.inl ⟨rfl, (hs.resolve_right (fun h => by omega)).2, by omega⟩ | exact Or.inr ⟨rfl, fun u => by have u2 := u.2; omega⟩ | exact Or.inr ⟨rfl, fun u => (hs.resolve_left (fun h => by omega)).2 u.1⟩) hy1 (by omega) (by omega) (by omega)
          · refine jr.if_eq rfl rfl (by omega) (fun _ => ?_) (fun h => absurd (by decide) h)
            refine jr.iconst rfl ?_
            refine jr.istore rfl (by decide) rfl ?_
            refine jr.pick [0, 2, 3, 4, 5] rfl rfl ?_
            exact r_isRow_L195_x hI_M hH_M hS_M q 0 n o (by omega) (by omega) (by omega) (by have hs := hy0; rw [adOK_x]; have t1 := w1_0; have t2 := w2_0; first | exact Or.inl ⟨rfl, (hs.resolve_right (fun h => by omega)).2, by omega⟩ | exact Or.inr ⟨rfl, fun u => by have u2 := u.2; omega⟩ | exact Or.inr ⟨rfl, fun u => (hs.resolve_left (fun h => by omega)).2 u.1⟩) hy1 (by omega) (by omega) (by omega)
        · refine jr.if_eq rfl rfl (by omega) (fun _ => ?_) (fun h => absurd (by decide) h)
          refine jr.iconst rfl ?_
          refine jr.istore rfl (by decide) rfl ?_
          refine jr.pick [0, 2, 3, 4, 5] rfl rfl ?_
          exact r_isRow_L195_x hI_M hH_M hS_M q 0 n o (by omega) (by omega) (by omega) (by have hs := hy0; rw [adOK_x]; have t1 := w1_0; first | exact Or.inl ⟨rfl, (hs.resolve_right (fun h => by omega)).2, by omega⟩ | exact Or.inr ⟨rfl, fun u => by have u2 := u.2; omega⟩ | exact Or.inr ⟨rfl, fun u => (hs.resolve_left (fun h => by omega)).2 u.1⟩) hy1 (by omega) (by omega) (by omega)
theorem r_isRow_L121_x {A : Nat → Option (Nat × (Nat → Int32))} {Q : Option Value → jm → Prop} {o0 : Int} {n0 : Int} {M : jm} (hI_M : RI M) (hH_M : RH M) (hS_M : RF M) (q : ∀ (r : Int), 0 ≤ r ∧ r ≤ 1 → ((r = 1 ∧ okR (M 599) n0 o0) ∨ (r = 0 ∧ ¬ (okR (M 599) n0 o0))) → Q (some (.int (Int32.ofInt r))) M) : ∀ (w : Int) (n : Int) (o : Int), 0 ≤ w ∧ w ≤ 1 → 0 ≤ n ∧ n ≤ 1600 → 0 ≤ o ∧ o ≤ 23 → ((w = 1 ∧ stOK (M 599 (48 * o)) (M 599 (48 * o + 1) % 16)) ∨ (w = 0 ∧ ¬ (stOK (M 599 (48 * o)) (M 599 (48 * o + 1) % 16)))) → tw (M 599) (48 * o + 46) = tn (sb (M 599) (48 * o) 46) → 48 * o + 48 ≤ n → o = o0 → n = n0 → jr A 4 xm_331 121 [(6, .int (Int32.ofInt (w))), (2, .int (Int32.ofInt (n))), (1, .int (Int32.ofInt (o))), (3, .int (Int32.ofInt (48 * o))), (0, .ref (598))] [] M Q := by
    intro w n o h_w h_n h_o hy0 hy1 hy2 hy3 hy4
    subst hy3
    subst hy4
    refine jr.aload_n rfl rfl ?_
    refine jr.getf (i := 0) (v := .ref 599) rfl rfl (by decide) rfl (by decide) rfl rfl rfl rfl ?_
    refine jr.iload_n rfl rfl ?_
    refine jr.iconst rfl ?_
    refine jr.iadd rfl ?_
    obtain ⟨v1, e1⟩ : ∃ z, M 599 ((48 * o) + 1) = z := ⟨_, rfl⟩
    have b1 : 0 ≤ v1 ∧ v1 ≤ 255 := by rw [← e1]; exact (by have q := hI_M 599 ((48 * o) + 1) (by decide); rw [xri_row rfl rfl] at q; exact q)
    refine jr.iald (i := ((48 * o) + 1)) (x := v1) rfl (by decide) rfl (by decide) (by omega) (by omega) e1 ?_
    refine jr.bipush rfl (by decide) ?_
    refine jr.iand rfl ?_
    have b2 : j_and v1 16 = v1 / 16 % 2 * 16 ∧ 0 ≤ j_and v1 16 ∧ j_and v1 16 ≤ 16 := ⟨(jbt (by omega)).2.2.2, by rw [(jbt (by omega)).2.2.2]; omega⟩
    generalize j_and v1 16 = v2 at b2 ⊢
    refine jr.if_ne rfl rfl (by omega) (fun h132 => ?_) (fun h132 => ?_)
    · refine jr.iconst rfl ?_
      refine jr.istore rfl (by decide) rfl ?_
      refine jr.pick [0, 1, 2, 3, 4, 5] rfl rfl ?_
      exact r_isRow_L142_x hI_M hH_M hS_M q 0 w n o (by omega) (by omega) (by omega) (by omega) hy0 hy1 (by omega) (by rw [e1]; first | exact Or.inl ⟨rfl, by omega⟩ | exact Or.inr ⟨rfl, by omega⟩) (by omega) (by omega)
    · refine jr.iconst rfl ?_
      refine jr.goto rfl rfl ?_
      refine jr.istore rfl (by decide) rfl ?_
      refine jr.pick [0, 1, 2, 3, 4, 5] rfl rfl ?_
      exact r_isRow_L142_x hI_M hH_M hS_M q 1 w n o (by omega) (by omega) (by omega) (by omega) hy0 hy1 (by omega) (by rw [e1]; first | exact Or.inl ⟨rfl, by omega⟩ | exact Or.inr ⟨rfl, by omega⟩) (by omega) (by omega)
theorem r_isRow_x {A : Nat → Option (Nat × (Nat → Int32))} {Q : Option Value → jm → Prop} {M : jm} (hI_M : RI M) (hH_M : RH M) (hS_M : RF M) {o : Int} (h_o : 0 ≤ o ∧ o ≤ 33) {n : Int} (h_n : 0 ≤ n ∧ n ≤ 1600) (q : ∀ (r : Int), 0 ≤ r ∧ r ≤ 1 → ((r = 1 ∧ okR (M 599) n o) ∨ (r = 0 ∧ ¬ (okR (M 599) n o))) → Q (some (.int (Int32.ofInt r))) M) : jc A 5 331 [.ref (598), .int (Int32.ofInt (o)), .int (Int32.ofInt (n))] M Q := by
  refine jc_of (m := xm_331) rfl (Nat.le_of_ble_eq_true rfl) rfl ?_
  refine jr.bipush rfl (by decide) ?_
  refine jr.iload_n rfl rfl ?_
  refine jr.imul rfl ?_
  refine jr.istore_n rfl (by decide) rfl ?_
  refine jr.iload_n rfl rfl ?_
  refine jr.bipush rfl (by decide) ?_
  refine jr.iadd rfl ?_
  refine jr.iload_n rfl rfl ?_
  refine jr.icmp_gt rfl rfl (by omega) (by omega) (fun h10 => ?_) (fun h10 => ?_)
  · refine jr.iconst rfl ?_
    exact jr.ireturn rfl rfl rfl (q _ (by omega) (Or.inr ⟨rfl, fun u => by have u1 := u.1; have u2 := u.2.1.1; omega⟩))
  · refine jr.iload_n rfl rfl ?_
    refine jr.bipush rfl (by decide) ?_
    refine jr.icmp_ge rfl rfl (by omega) (by omega) (fun h16 => ?_) (fun h16 => ?_)
    · refine jr.iconst rfl ?_
      exact jr.ireturn rfl rfl rfl (q _ (by omega) (Or.inr ⟨rfl, fun u => by have u1 := u.1; have u2 := u.2.1.1; omega⟩))
    · refine jr.aload_n rfl rfl ?_
      refine jr.iload_n rfl rfl ?_
      refine jr.iload_n rfl rfl ?_
      refine jr.bipush rfl (by decide) ?_
      refine jr.iadd rfl ?_
      refine jr_v rfl rfl (Or.inl rfl) rfl rfl (by decide) rfl ⟨rfl, Nat.le_of_ble_eq_true rfl, Nat.le_of_ble_eq_true rfl⟩ rfl (jc.deep (r_sumOfTape_x hI_M hH_M hS_M  (by omega) (by omega) (by omega) (fun r1 z1 w1_0 => ?_)) (by decide))
      refine jr.aload_n rfl rfl ?_
      refine jr.iload_n rfl rfl ?_
      refine jr.bipush rfl (by decide) ?_
      refine jr.iadd rfl ?_
      refine jr_v rfl rfl (Or.inl rfl) rfl rfl (by decide) rfl ⟨rfl, Nat.le_of_ble_eq_true rfl, Nat.le_of_ble_eq_true rfl⟩ rfl (jc.deep (r_takenTwo_x hI_M hH_M hS_M  (by omega)  (fun r2 z2 w2_0 => ?_)) (by decide))
      refine jr.icmp_eq rfl rfl (by omega) (by omega) (fun h36 => ?_) (fun h36 => ?_)
      · refine jr.aload_n rfl rfl ?_
        refine jr.getf (i := 0) (v := .ref 599) rfl rfl (by decide) rfl (by decide) rfl rfl rfl rfl ?_
        refine jr.iload_n rfl rfl ?_
        obtain ⟨v3, e3⟩ : ∃ z, M 599 (48 * o) = z := ⟨_, rfl⟩
        have b3 : 0 ≤ v3 ∧ v3 ≤ 255 := by rw [← e3]; exact (by have q := hI_M 599 (48 * o) (by decide); rw [xri_row rfl rfl] at q; exact q)
        refine jr.iald (i := (48 * o)) (x := v3) rfl (by decide) rfl (by decide) (by omega) (by omega) e3 ?_
        refine jr.istore rfl (by decide) rfl ?_
        refine jr.aload_n rfl rfl ?_
        refine jr.getf (i := 0) (v := .ref 599) rfl rfl (by decide) rfl (by decide) rfl rfl rfl rfl ?_
        refine jr.iload_n rfl rfl ?_
        refine jr.iconst rfl ?_
        refine jr.iadd rfl ?_
        obtain ⟨v4, e4⟩ : ∃ z, M 599 ((48 * o) + 1) = z := ⟨_, rfl⟩
        have b4 : 0 ≤ v4 ∧ v4 ≤ 255 := by rw [← e4]; exact (by have q := hI_M 599 ((48 * o) + 1) (by decide); rw [xri_row rfl rfl] at q; exact q)
        refine jr.iald (i := ((48 * o) + 1)) (x := v4) rfl (by decide) rfl (by decide) (by omega) (by omega) e4 ?_
        refine jr.bipush rfl (by decide) ?_
        refine jr.iand rfl ?_
        have b5 : j_and v4 15 = v4 % 16 := j_and_mask 4 (by decide) (by omega) (by omega)
        generalize j_and v4 15 = v5 at b5 ⊢
        refine jr.istore rfl (by decide) rfl ?_
        refine jr.iload rfl rfl ?_
        refine jr.iconst rfl ?_
        refine jr.icmp_ne rfl rfl (by omega) (by omega) (fun h65 => ?_) (fun h65 => ?_)
        · refine jr.iload rfl rfl ?_
          refine jr.bipush rfl (by decide) ?_
          refine jr.icmp_ne rfl rfl (by omega) (by omega) (fun h85 => ?_) (fun h85 => ?_)
          · refine jr.iload rfl rfl ?_
            refine jr.bipush rfl (by decide) ?_
            refine jr.icmp_ne rfl rfl (by omega) (by omega) (fun h105 => ?_) (fun h105 => ?_)
            · refine jr.iconst rfl ?_
              refine jr.istore rfl (by decide) rfl ?_
              refine jr.pick [0, 6, 5, 3, 4] rfl rfl ?_
              exact r_isRow_L121_x hI_M hH_M hS_M q 0 n o (by omega) (by omega) (by omega) (by unfold stOK; rw [e3, e4]; first | exact Or.inl ⟨rfl, by omega⟩ | exact Or.inr ⟨rfl, by omega⟩ | omega) (by have t1 := w1_0; have t2 := w2_0; rw [show ((48 * o) + 46 - (48 * o)).toNat = 46 from by omega] at t1; omega) (by omega) (by omega) (by omega)
            · refine jr.iload rfl rfl ?_
              refine jr.iconst rfl ?_
              refine jr.icmp_gt rfl rfl (by omega) (by omega) (fun h111 => ?_) (fun h111 => ?_)
              · refine jr.iconst rfl ?_
                refine jr.istore rfl (by decide) rfl ?_
                refine jr.pick [0, 6, 5, 3, 4] rfl rfl ?_
                exact r_isRow_L121_x hI_M hH_M hS_M q 0 n o (by omega) (by omega) (by omega) (by unfold stOK; rw [e3, e4]; first | exact Or.inl ⟨rfl, by omega⟩ | exact Or.inr ⟨rfl, by omega⟩ | omega) (by have t1 := w1_0; have t2 := w2_0; rw [show ((48 * o) + 46 - (48 * o)).toNat = 46 from by omega] at t1; omega) (by omega) (by omega) (by omega)
              · refine jr.iconst rfl ?_
                refine jr.goto rfl rfl ?_
                refine jr.istore rfl (by decide) rfl ?_
                refine jr.pick [0, 6, 5, 3, 4] rfl rfl ?_
                exact r_isRow_L121_x hI_M hH_M hS_M q 1 n o (by omega) (by omega) (by omega) (by unfold stOK; rw [e3, e4]; first | exact Or.inl ⟨rfl, by omega⟩ | exact Or.inr ⟨rfl, by omega⟩ | omega) (by have t1 := w1_0; have t2 := w2_0; rw [show ((48 * o) + 46 - (48 * o)).toNat = 46 from by omega] at t1; omega) (by omega) (by omega) (by omega)
          · refine jr.iload rfl rfl ?_
            refine jr.i2l rfl (by omega) ?_
            refine jr.lconst (x := 1) rfl (by decide) ?_
            refine jr.ldc2 (x := 10) rfl rfl (by decide) ?_
            refine jr_s rfl rfl (Or.inl rfl) ⟨Nat.le_of_ble_eq_true rfl, Nat.le_of_ble_eq_true rfl⟩ rfl rfl (jc.deep (c_within (by omega) (by omega) (by omega) (fun l95 u95 => ?_) (fun n95 => ?_)) (by decide))
            · refine jr.goto rfl rfl ?_
              refine jr.istore rfl (by decide) rfl ?_
              refine jr.pick [0, 6, 5, 3, 4] rfl rfl ?_
              exact r_isRow_L121_x hI_M hH_M hS_M q 1 n o (by omega) (by omega) (by omega) (by unfold stOK; rw [e3, e4]; first | exact Or.inl ⟨rfl, by omega⟩ | exact Or.inr ⟨rfl, by omega⟩ | omega) (by have t1 := w1_0; have t2 := w2_0; rw [show ((48 * o) + 46 - (48 * o)).toNat = 46 from by omega] at t1; omega) (by omega) (by omega) (by omega)
            · refine jr.goto rfl rfl ?_
              refine jr.istore rfl (by decide) rfl ?_
              refine jr.pick [0, 6, 5, 3, 4] rfl rfl ?_
              exact r_isRow_L121_x hI_M hH_M hS_M q 0 n o (by omega) (by omega) (by omega) (by unfold stOK; rw [e3, e4]; first | exact Or.inl ⟨rfl, by omega⟩ | exact Or.inr ⟨rfl, by omega⟩ | omega) (by have t1 := w1_0; have t2 := w2_0; rw [show ((48 * o) + 46 - (48 * o)).toNat = 46 from by omega] at t1; omega) (by omega) (by omega) (by omega)
        · refine jr.iload rfl rfl ?_
          refine jr.if_ne rfl rfl (by omega) (fun h70 => ?_) (fun h70 => ?_)
          · refine jr.iconst rfl ?_
            refine jr.goto rfl rfl ?_
            refine jr.istore rfl (by decide) rfl ?_
            refine jr.pick [0, 6, 5, 3, 4] rfl rfl ?_
            exact r_isRow_L121_x hI_M hH_M hS_M q 0 n o (by omega) (by omega) (by omega) (by unfold stOK; rw [e3, e4]; first | exact Or.inl ⟨rfl, by omega⟩ | exact Or.inr ⟨rfl, by omega⟩ | omega) (by have t1 := w1_0; have t2 := w2_0; rw [show ((48 * o) + 46 - (48 * o)).toNat = 46 from by omega] at t1; omega) (by omega) (by omega) (by omega)
          · refine jr.iconst rfl ?_
            refine jr.goto rfl rfl ?_
            refine jr.istore rfl (by decide) rfl ?_
            refine jr.pick [0, 6, 5, 3, 4] rfl rfl ?_
            exact r_isRow_L121_x hI_M hH_M hS_M q 1 n o (by omega) (by omega) (by omega) (by unfold stOK; rw [e3, e4]; first | exact Or.inl ⟨rfl, by omega⟩ | exact Or.inr ⟨rfl, by omega⟩ | omega) (by have t1 := w1_0; have t2 := w2_0; rw [show ((48 * o) + 46 - (48 * o)).toNat = 46 from by omega] at t1; omega) (by omega) (by omega) (by omega)
      · refine jr.iconst rfl ?_
        exact jr.ireturn rfl rfl rfl (q _ (by omega) (Or.inr ⟨rfl, fun u => by have t1 := w1_0; have t2 := w2_0; rw [show ((48 * o) + 46 - (48 * o)).toNat = 46 from by omega] at t1; have u1 := u.1; have u2 := u.2.1.1; omega⟩))
