section
theorem r_isRow_L142_x {A : Nat → Option (Nat × (Nat → Int32))} {Q : Option Value → jm → Prop} {o0 : Int} {n0 : Int} {M : jm} (hI_M : RI M) (hH_M : RH M) (hS_M : RF M) (q : ∀ (r : Int), 0 ≤ r ∧ r ≤ 1 → ((r = 1 ∧ okR (M 599) n0 o0) ∨ (r = 0 ∧ ¬ (okR (M 599) n0 o0))) → Q (some (.int (Int32.ofInt r))) M) : ∀ (b : Int) (w : Int) (n : Int) (o : Int), 0 ≤ b ∧ b ≤ 1 → 0 ≤ w ∧ w ≤ 1 → 0 ≤ n ∧ n ≤ 1600 → 0 ≤ o ∧ o ≤ 23 → ((w = 1 ∧ stOK (M 599 (48 * o)) (M 599 (48 * o + 1) % 16)) ∨ (w = 0 ∧ ¬ (stOK (M 599 (48 * o)) (M 599 (48 * o + 1) % 16)))) → tw (M 599) (48 * o + 46) = tn (sb (M 599) (48 * o) 46) → 48 * o + 48 ≤ n → ((b = 1 ∧ M 599 (48 * o + 1) / 16 % 2 = 0) ∨ (b = 0 ∧ M 599 (48 * o + 1) / 16 % 2 = 1)) → o = o0 → n = n0 → jr A 4 xm_331 142 [(7, .int (Int32.ofInt (b))), (6, .int (Int32.ofInt (w))), (2, .int (Int32.ofInt (n))), (1, .int (Int32.ofInt (o))), (3, .int (Int32.ofInt (48 * o))), (0, .ref (598))] [] M Q := by
    intro b w n o h_b h_w h_n h_o hy0 hy1 hy2 hy3 hy4 hy5
    subst hy4
    subst hy5
    refine jr.iload rfl rfl ?_
    refine jr.if_eq rfl rfl (by omega) (fun h144 => ?_) (fun h144 => ?_)
    · refine jr.iconst rfl ?_
      refine jr.istore (ls' := [_, _, _, _, _, _]) rfl (by decide) rfl ?_
      refine jr.pick (ls := [_, _, _, _, _]) [0, 2, 3, 4, 5] rfl rfl ?_
      exact r_isRow_L195_x hI_M hH_M hS_M q 0 n o (by omega) (by omega) (by omega) (by have hs := hy0; rw [adOK_x]; first | exact Or.inl ⟨rfl, (hs.resolve_right (fun h => by omega)).2, by omega⟩ | exact Or.inr ⟨rfl, fun u => by have u2 := u.2; omega⟩ | exact Or.inr ⟨rfl, fun u => (hs.resolve_left (fun h => by omega)).2 u.1⟩) hy1 (by omega) (by omega) (by omega)
    · have sx144 : (1 : Int) ≤ w := by omega
      clear h144
      refine jr.iload rfl rfl ?_
      refine jr.if_eq rfl rfl (by omega) (fun h149 => ?_) (fun h149 => ?_)
      · refine jr.iconst rfl ?_
        refine jr.goto rfl rfl ?_
        refine jr.istore (ls' := [_, _, _, _, _, _]) rfl (by decide) rfl ?_
        refine jr.pick (ls := [_, _, _, _, _]) [0, 2, 3, 4, 5] rfl rfl ?_
        exact r_isRow_L195_x hI_M hH_M hS_M q 1 n o (by omega) (by omega) (by omega) (by have hs := hy0; rw [adOK_x]; first | exact Or.inl ⟨rfl, (hs.resolve_right (fun h => by omega)).2, by omega⟩ | exact Or.inr ⟨rfl, fun u => by have u2 := u.2; omega⟩ | exact Or.inr ⟨rfl, fun u => (hs.resolve_left (fun h => by omega)).2 u.1⟩) hy1 (by omega) (by omega) (by omega)
      · have sx149 : (1 : Int) ≤ b := by omega
        clear h149
        refine jr.aload_n rfl rfl ?_
        refine jr.iload_n rfl rfl ?_
        refine jr.bipush rfl (by decide) ?_
        refine jr.iadd rfl ?_
        refine jr_v rfl rfl (Or.inl rfl) rfl rfl (by decide) rfl ⟨rfl, Nat.le_of_ble_eq_true rfl, Nat.le_of_ble_eq_true rfl⟩ rfl (jc.deep (r_takenEight_x hI_M hH_M hS_M  (by omega)  (fun r1 z1 w1_0 => ?_)) (by decide))
        refine jr.lconst (x := 0) rfl (by decide) ?_
        refine jr.ldc2 (x := 4294967295) rfl rfl (by decide) ?_
        refine jr_s rfl rfl (Or.inl rfl) ⟨Nat.le_of_ble_eq_true rfl, Nat.le_of_ble_eq_true rfl⟩ rfl rfl (jc.deep (c_within (by omega) (by omega) (by omega) (fun l164 u164 => ?_) (fun n164 => ?_)) (by decide))
        · refine jr.if_eq rfl rfl (by omega) (fun h => absurd h (by decide)) (fun _ => ?_)
          refine jr.aload_n rfl rfl ?_
          refine jr.iload_n rfl rfl ?_
          refine jr.bipush rfl (by decide) ?_
          refine jr.iadd rfl ?_
          refine jr_v rfl rfl (Or.inl rfl) rfl rfl (by decide) rfl ⟨rfl, Nat.le_of_ble_eq_true rfl, Nat.le_of_ble_eq_true rfl⟩ rfl (jc.deep (r_takenEight_x hI_M hH_M hS_M  (by omega)  (fun r2 z2 w2_0 => ?_)) (by decide))
          refine jr.lconst (x := 0) rfl (by decide) ?_
          refine jr.ldc2 (x := 4294967295) rfl rfl (by decide) ?_
          refine jr_s rfl rfl (Or.inl rfl) ⟨Nat.le_of_ble_eq_true rfl, Nat.le_of_ble_eq_true rfl⟩ rfl rfl (jc.deep (c_within (by omega) (by omega) (by omega) (fun l182 u182 => ?_) (fun n182 => ?_)) (by decide))
          · refine jr.if_eq rfl rfl (by omega) (fun h => absurd h (by decide)) (fun _ => ?_)
            refine jr.iconst rfl ?_
            refine jr.goto rfl rfl ?_
            refine jr.istore (ls' := [_, _, _, _, _, _]) rfl (by decide) rfl ?_
            refine jr.pick (ls := [_, _, _, _, _]) [0, 2, 3, 4, 5] rfl rfl ?_
            exact r_isRow_L195_x hI_M hH_M hS_M q 1 n o (by omega) (by omega) (by omega) (by have hs := hy0; rw [adOK_x]; have t1 := w1_0; have t2 := w2_0; first | exact Or.inl ⟨rfl, (hs.resolve_right (fun h => by omega)).2, by omega⟩ | exact Or.inr ⟨rfl, fun u => by have u2 := u.2; omega⟩ | exact Or.inr ⟨rfl, fun u => (hs.resolve_left (fun h => by omega)).2 u.1⟩) hy1 (by omega) (by omega) (by omega)
          · refine jr.if_eq rfl rfl (by omega) (fun _ => ?_) (fun h => absurd (by decide) h)
            refine jr.iconst rfl ?_
            refine jr.istore (ls' := [_, _, _, _, _, _]) rfl (by decide) rfl ?_
            refine jr.pick (ls := [_, _, _, _, _]) [0, 2, 3, 4, 5] rfl rfl ?_
            exact r_isRow_L195_x hI_M hH_M hS_M q 0 n o (by omega) (by omega) (by omega) (by have hs := hy0; rw [adOK_x]; have t1 := w1_0; have t2 := w2_0; first | exact Or.inl ⟨rfl, (hs.resolve_right (fun h => by omega)).2, by omega⟩ | exact Or.inr ⟨rfl, fun u => by have u2 := u.2; omega⟩ | exact Or.inr ⟨rfl, fun u => (hs.resolve_left (fun h => by omega)).2 u.1⟩) hy1 (by omega) (by omega) (by omega)
        · refine jr.if_eq rfl rfl (by omega) (fun _ => ?_) (fun h => absurd (by decide) h)
          refine jr.iconst rfl ?_
          refine jr.istore (ls' := [_, _, _, _, _, _]) rfl (by decide) rfl ?_
          refine jr.pick (ls := [_, _, _, _, _]) [0, 2, 3, 4, 5] rfl rfl ?_
          exact r_isRow_L195_x hI_M hH_M hS_M q 0 n o (by omega) (by omega) (by omega) (by have hs := hy0; rw [adOK_x]; have t1 := w1_0; first | exact Or.inl ⟨rfl, (hs.resolve_right (fun h => by omega)).2, by omega⟩ | exact Or.inr ⟨rfl, fun u => by have u2 := u.2; omega⟩ | exact Or.inr ⟨rfl, fun u => (hs.resolve_left (fun h => by omega)).2 u.1⟩) hy1 (by omega) (by omega) (by omega)
theorem r_isRow_L121_x {A : Nat → Option (Nat × (Nat → Int32))} {Q : Option Value → jm → Prop} {o0 : Int} {n0 : Int} {M : jm} (hI_M : RI M) (hH_M : RH M) (hS_M : RF M) (q : ∀ (r : Int), 0 ≤ r ∧ r ≤ 1 → ((r = 1 ∧ okR (M 599) n0 o0) ∨ (r = 0 ∧ ¬ (okR (M 599) n0 o0))) → Q (some (.int (Int32.ofInt r))) M) : ∀ (w : Int) (n : Int) (o : Int), 0 ≤ w ∧ w ≤ 1 → 0 ≤ n ∧ n ≤ 1600 → 0 ≤ o ∧ o ≤ 23 → ((w = 1 ∧ stOK (M 599 (48 * o)) (M 599 (48 * o + 1) % 16)) ∨ (w = 0 ∧ ¬ (stOK (M 599 (48 * o)) (M 599 (48 * o + 1) % 16)))) → tw (M 599) (48 * o + 46) = tn (sb (M 599) (48 * o) 46) → 48 * o + 48 ≤ n → o = o0 → n = n0 → jr A 4 xm_331 121 [(6, .int (Int32.ofInt (w))), (2, .int (Int32.ofInt (n))), (1, .int (Int32.ofInt (o))), (3, .int (Int32.ofInt (48 * o))), (0, .ref (598))] [] M Q := by
    intro w n o h_w h_n h_o hy0 hy1 hy2 hy3 hy4
    subst hy3
    subst hy4
    refine jr.aload_n rfl rfl ?_
    refine jr.getf (i := 0) (v := .ref 599) rfl rfl (by decide) rfl (by decide) rfl rfl rfl rfl ?_
    refine jr.iload_n rfl rfl ?_
    refine jr.iconst rfl ?_
    refine jr.iadd rfl ?_
    obtain ⟨v1, e1⟩ : ∃ z, M 599 ((48 * o) + 1) = z := ⟨_, rfl⟩
    have b1 : 0 ≤ v1 ∧ v1 ≤ 255 := by rw [← e1]; exact (by have q := hI_M 599 ((48 * o) + 1) (by decide); rw [xri_row rfl rfl] at q; exact q)
    refine jr.iald (i := ((48 * o) + 1)) (x := v1) rfl (by decide) rfl (by decide) (by omega) (by omega) e1 ?_
    refine jr.bipush rfl (by decide) ?_
    refine jr.iand rfl ?_
    have b2 : j_and v1 16 = v1 / 16 % 2 * 16 ∧ 0 ≤ j_and v1 16 ∧ j_and v1 16 ≤ 16 := ⟨(jbt (by omega)).2.2.2, by rw [(jbt (by omega)).2.2.2]; omega⟩
    generalize j_and v1 16 = v2 at b2 ⊢
    refine jr.if_ne rfl rfl (by omega) (fun h132 => ?_) (fun h132 => ?_)
    · have sx132 : (1 : Int) ≤ v2 := by omega
      clear h132
      refine jr.iconst rfl ?_
      refine jr.istore (ls' := [_, _, _, _, _, _]) rfl (by decide) rfl ?_
      refine jr.pick (ls := [_, _, _, _, _, _]) [0, 1, 2, 3, 4, 5] rfl rfl ?_
      exact r_isRow_L142_x hI_M hH_M hS_M q 0 w n o (by omega) (by omega) (by omega) (by omega) hy0 hy1 (by omega) (by rw [e1]; first | exact Or.inl ⟨rfl, by omega⟩ | exact Or.inr ⟨rfl, by omega⟩) (by omega) (by omega)
    · refine jr.iconst rfl ?_
      refine jr.goto rfl rfl ?_
      refine jr.istore (ls' := [_, _, _, _, _, _]) rfl (by decide) rfl ?_
      refine jr.pick (ls := [_, _, _, _, _, _]) [0, 1, 2, 3, 4, 5] rfl rfl ?_
      exact r_isRow_L142_x hI_M hH_M hS_M q 1 w n o (by omega) (by omega) (by omega) (by omega) hy0 hy1 (by omega) (by rw [e1]; first | exact Or.inl ⟨rfl, by omega⟩ | exact Or.inr ⟨rfl, by omega⟩) (by omega) (by omega)
end
