section
theorem r_isRow_L228_x {A : Nat → Option (Nat × (Nat → Int32))} {Q : Option Value → jm → Prop} {o0 : Int} {n0 : Int} {M : jm} (hI_M : RI M) (hH_M : RH M) (hS_M : RF M) (q : ∀ (r : Int), 0 ≤ r ∧ r ≤ 1 → ((r = 1 ∧ okR (M 599) n0 o0) ∨ (r = 0 ∧ ¬ (okR (M 599) n0 o0))) → Q (some (.int (Int32.ofInt r))) M) : ∀ (nM : Nat) (k : Int) (w : Int) (n : Int) (o : Int), 0 ≤ k ∧ k ≤ 24 → 0 ≤ w ∧ w ≤ 1 → 0 ≤ n ∧ n ≤ 1600 → 0 ≤ o ∧ o ≤ 23 → ((w = 1 ∧ rGood (M 599) (48 * o) ∧ (∀ j : Int, 0 ≤ j → j < k → ¬ rLike (M 599) (48 * j) (48 * o))) ∨ (w = 0 ∧ ¬ okR (M 599) n o)) → 48 * o + 48 ≤ n → k ≤ o → o = o0 → n = n0 → 24 - k ≤ nM → jr A 4 xm_331 228 [(8, .int (Int32.ofInt (k))), (6, .int (Int32.ofInt (w))), (2, .int (Int32.ofInt (n))), (1, .int (Int32.ofInt (o))), (0, .ref (598))] [] M Q := by
  intro nM
  induction nM using Nat.strongRecOn with
  | ind nM ih =>
    intro k w n o h_k h_w h_n h_o hy0 hy1 hy2 hy3 hy4 hm
    subst hy3
    subst hy4
    refine jr.iload rfl rfl ?_
    refine jr.iload_n rfl rfl ?_
    refine jr.icmp_ge rfl rfl (by omega) (by omega) (fun h231 => ?_) (fun h231 => ?_)
    · refine jr.iload rfl rfl ?_
      exact jr.ireturn rfl rfl (j_zr (by omega)) (q _ (by omega) (by rcases hy0 with h9 | h9; (exact Or.inl ⟨h9.1, ⟨by omega, by omega⟩, h9.2.1, fun j j0 j1 => h9.2.2 j j0 (by omega)⟩); (exact Or.inr h9)))
    · refine jr.iload rfl rfl ?_
      refine jr.if_eq rfl rfl (by omega) (fun h236 => ?_) (fun h236 => ?_)
      · refine jr.iload rfl rfl ?_
        exact jr.ireturn rfl rfl (j_zr (by omega)) (q _ (by omega) (by rcases hy0 with h9 | h9; (exact Or.inl ⟨h9.1, ⟨by omega, by omega⟩, h9.2.1, fun j j0 j1 => h9.2.2 j j0 (by omega)⟩); (exact Or.inr h9)))
      · have sx236 : (1 : Int) ≤ w := by omega
        clear h236
        refine jr.aload_n rfl rfl ?_
        refine jr.iload rfl rfl ?_
        refine jr.iload_n rfl rfl ?_
        refine jr_v rfl rfl (Or.inl rfl) rfl rfl (by decide) rfl ⟨rfl, Nat.le_of_ble_eq_true rfl, Nat.le_of_ble_eq_true rfl⟩ rfl (jc.deep (r_haveLikeEnds_x hI_M hH_M hS_M  (by omega) (by omega)  (fun r1 z1 w1_0 => ?_)) (by decide))
        refine jr.if_ne rfl rfl (by omega) (fun h246 => ?_) (fun h246 => ?_)
        · have sx246 : (1 : Int) ≤ r1 := by omega
          clear h246
          refine jr.iconst rfl ?_
          refine jr.istore (ls' := [_, _, _, _, _]) rfl (by decide) rfl ?_
          refine jr.iinc (ls' := [_, _, _, _, _]) rfl rfl (by decide) rfl ?_
          refine jr.goto rfl rfl ?_
          refine jr.pick (ls := [_, _, _, _, _]) [0, 1, 2, 3, 4] rfl rfl ?_
          exact ih (nM - 1) (by omega) (k + 1) 0 n o (by omega) (by omega) (by omega) (by omega) (Or.inr ⟨rfl, fun u => u.2.2 k (by omega) (by omega) (w1_0.resolve_right (fun h => by omega)).2⟩) (by omega) (by omega) (by omega) (by omega) (by omega)
        · refine jr.iconst rfl ?_
          refine jr.goto rfl rfl ?_
          refine jr.istore (ls' := [_, _, _, _, _]) rfl (by decide) rfl ?_
          refine jr.iinc (ls' := [_, _, _, _, _]) rfl rfl (by decide) rfl ?_
          refine jr.goto rfl rfl ?_
          refine jr.pick (ls := [_, _, _, _, _]) [0, 1, 2, 3, 4] rfl rfl ?_
          exact ih (nM - 1) (by omega) (k + 1) 1 n o (by omega) (by omega) (by omega) (by omega) (Or.inl ⟨rfl, (hy0.resolve_right (fun h => by omega)).2.1, fun j j0 j1 => by by_cases e : j = k; (subst e; exact (w1_0.resolve_left (fun h => by omega)).2); (exact (hy0.resolve_right (fun h => by omega)).2.2 j j0 (by omega))⟩) (by omega) (by omega) (by omega) (by omega) (by omega)
theorem r_isRow_L225_x {A : Nat → Option (Nat × (Nat → Int32))} {Q : Option Value → jm → Prop} {o0 : Int} {n0 : Int} {M : jm} (hI_M : RI M) (hH_M : RH M) (hS_M : RF M) (q : ∀ (r : Int), 0 ≤ r ∧ r ≤ 1 → ((r = 1 ∧ okR (M 599) n0 o0) ∨ (r = 0 ∧ ¬ (okR (M 599) n0 o0))) → Q (some (.int (Int32.ofInt r))) M) : ∀ (w : Int) (n : Int) (o : Int), 0 ≤ w ∧ w ≤ 1 → 0 ≤ n ∧ n ≤ 1600 → 0 ≤ o ∧ o ≤ 23 → ((w = 1 ∧ (stOK (M 599 (48 * o)) (M 599 (48 * o + 1) % 16) ∧ adOK (M 599) (48 * o)) ∧ (1 ≤ nbs (M 599) (48 * o + 34) 4 ∧ nbs (M 599) (48 * o + 34) 4 ≤ 200)) ∨ (w = 0 ∧ ¬ ((stOK (M 599 (48 * o)) (M 599 (48 * o + 1) % 16) ∧ adOK (M 599) (48 * o)) ∧ (1 ≤ nbs (M 599) (48 * o + 34) 4 ∧ nbs (M 599) (48 * o + 34) 4 ≤ 200)))) → tw (M 599) (48 * o + 46) = tn (sb (M 599) (48 * o) 46) → 48 * o + 48 ≤ n → o = o0 → n = n0 → jr A 4 xm_331 225 [(6, .int (Int32.ofInt (w))), (2, .int (Int32.ofInt (n))), (1, .int (Int32.ofInt (o))), (3, .int (Int32.ofInt (48 * o))), (0, .ref (598))] [] M Q := by
    intro w n o h_w h_n h_o hy0 hy1 hy2 hy3 hy4
    subst hy3
    subst hy4
    refine jr.iconst rfl ?_
    refine jr.istore (ls' := [_, _, _, _, _, _]) rfl (by decide) rfl ?_
    refine jr.pick (ls := [_, _, _, _, _]) [0, 1, 2, 3, 5] rfl rfl ?_
    exact r_isRow_L228_x hI_M hH_M hS_M q 24 0 w n o (by omega) (by omega) (by omega) (by omega) (by rcases hy0 with h9 | h9; (exact Or.inl ⟨h9.1, ⟨hy1, h9.2.1.1, h9.2.1.2, h9.2.2⟩, fun j j0 j1 => absurd j1 (by omega)⟩); (exact Or.inr ⟨h9.1, fun u => h9.2 ⟨⟨u.2.1.2.1, u.2.1.2.2.1⟩, u.2.1.2.2.2⟩⟩)) (by omega) (by omega) (by omega) (by omega) (by omega)
theorem r_isRow_L195_x {A : Nat → Option (Nat × (Nat → Int32))} {Q : Option Value → jm → Prop} {o0 : Int} {n0 : Int} {M : jm} (hI_M : RI M) (hH_M : RH M) (hS_M : RF M) (q : ∀ (r : Int), 0 ≤ r ∧ r ≤ 1 → ((r = 1 ∧ okR (M 599) n0 o0) ∨ (r = 0 ∧ ¬ (okR (M 599) n0 o0))) → Q (some (.int (Int32.ofInt r))) M) : ∀ (w : Int) (n : Int) (o : Int), 0 ≤ w ∧ w ≤ 1 → 0 ≤ n ∧ n ≤ 1600 → 0 ≤ o ∧ o ≤ 23 → ((w = 1 ∧ stOK (M 599 (48 * o)) (M 599 (48 * o + 1) % 16) ∧ adOK (M 599) (48 * o)) ∨ (w = 0 ∧ ¬ (stOK (M 599 (48 * o)) (M 599 (48 * o + 1) % 16) ∧ adOK (M 599) (48 * o)))) → tw (M 599) (48 * o + 46) = tn (sb (M 599) (48 * o) 46) → 48 * o + 48 ≤ n → o = o0 → n = n0 → jr A 4 xm_331 195 [(6, .int (Int32.ofInt (w))), (2, .int (Int32.ofInt (n))), (1, .int (Int32.ofInt (o))), (3, .int (Int32.ofInt (48 * o))), (0, .ref (598))] [] M Q := by
    intro w n o h_w h_n h_o hy0 hy1 hy2 hy3 hy4
    subst hy3
    subst hy4
    refine jr.iload rfl rfl ?_
    refine jr.if_eq rfl rfl (by omega) (fun h197 => ?_) (fun h197 => ?_)
    · refine jr.iconst rfl ?_
      refine jr.istore (ls' := [_, _, _, _, _]) rfl (by decide) rfl ?_
      refine jr.pick (ls := [_, _, _, _, _]) [0, 1, 2, 3, 4] rfl rfl ?_
      exact r_isRow_L225_x hI_M hH_M hS_M q 0 n o (by omega) (by omega) (by omega) (by have hs := hy0; first | exact Or.inl ⟨rfl, (hs.resolve_right (fun h => by omega)).2, by omega⟩ | exact Or.inr ⟨rfl, fun u => by have u2 := u.2; omega⟩ | exact Or.inr ⟨rfl, fun u => (hs.resolve_left (fun h => by omega)).2 u.1⟩) hy1 (by omega) (by omega) (by omega)
    · have sx197 : (1 : Int) ≤ w := by omega
      clear h197
      refine jr.aload_n rfl rfl ?_
      refine jr.iload_n rfl rfl ?_
      refine jr.bipush rfl (by decide) ?_
      refine jr.iadd rfl ?_
      refine jr_v rfl rfl (Or.inl rfl) rfl rfl (by decide) rfl ⟨rfl, Nat.le_of_ble_eq_true rfl, Nat.le_of_ble_eq_true rfl⟩ rfl (jc.deep (r_takenFour_x hI_M hH_M hS_M  (by omega)  (fun r1 z1 w1_0 => ?_)) (by decide))
      refine jr.lconst (x := 1) rfl (by decide) ?_
      refine jr.ldc2 (x := 200) rfl rfl (by decide) ?_
      refine jr_s rfl rfl (Or.inl rfl) ⟨Nat.le_of_ble_eq_true rfl, Nat.le_of_ble_eq_true rfl⟩ rfl rfl (jc.deep (c_within (by omega) (by omega) (by omega) (fun l212 u212 => ?_) (fun n212 => ?_)) (by decide))
      · refine jr.if_eq rfl rfl (by omega) (fun h => absurd h (by decide)) (fun _ => ?_)
        refine jr.iconst rfl ?_
        refine jr.goto rfl rfl ?_
        refine jr.istore (ls' := [_, _, _, _, _]) rfl (by decide) rfl ?_
        refine jr.pick (ls := [_, _, _, _, _]) [0, 1, 2, 3, 4] rfl rfl ?_
        exact r_isRow_L225_x hI_M hH_M hS_M q 1 n o (by omega) (by omega) (by omega) (by have hs := hy0; have t1 := w1_0; first | exact Or.inl ⟨rfl, (hs.resolve_right (fun h => by omega)).2, by omega⟩ | exact Or.inr ⟨rfl, fun u => by have u2 := u.2; omega⟩ | exact Or.inr ⟨rfl, fun u => (hs.resolve_left (fun h => by omega)).2 u.1⟩) hy1 (by omega) (by omega) (by omega)
      · refine jr.if_eq rfl rfl (by omega) (fun _ => ?_) (fun h => absurd (by decide) h)
        refine jr.iconst rfl ?_
        refine jr.istore (ls' := [_, _, _, _, _]) rfl (by decide) rfl ?_
        refine jr.pick (ls := [_, _, _, _, _]) [0, 1, 2, 3, 4] rfl rfl ?_
        exact r_isRow_L225_x hI_M hH_M hS_M q 0 n o (by omega) (by omega) (by omega) (by have hs := hy0; have t1 := w1_0; first | exact Or.inl ⟨rfl, (hs.resolve_right (fun h => by omega)).2, by omega⟩ | exact Or.inr ⟨rfl, fun u => by have u2 := u.2; omega⟩ | exact Or.inr ⟨rfl, fun u => (hs.resolve_left (fun h => by omega)).2 u.1⟩) hy1 (by omega) (by omega) (by omega)
end
