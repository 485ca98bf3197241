section
theorem r_gathering_L6_x {A : Nat → Option (Nat × (Nat → Int32))} {Q : Option Value → jm → Prop} {k0 : Int} {a0 : Int} {b0 : Int} {c0 : Int} {o0 : Int} {M : jm} (hI_M : RI M) (hH_M : RH M) (hS_M : RF M) (q : ∀ (r : Int), (-1) ≤ r ∧ r ≤ 7 → (r = -1 ∨ (0 ≤ r ∧ M 606 r ≠ 0 ∧ M 607 r = k0)) → r = gL M k0 a0 b0 c0 o0 8 → Q (some (.int (Int32.ofInt r))) M) : ∀ (nM : Nat) (g : Int) (f : Int) (o : Int) (c : Int) (b : Int) (a : Int) (k : Int), 0 ≤ g ∧ g ≤ 8 → (-1) ≤ f ∧ f ≤ 7 → (-2147483648) ≤ o ∧ o ≤ 2147483647 → (-9223372036854775808) ≤ c ∧ c ≤ 9223372036854775807 → (-9223372036854775808) ≤ b ∧ b ≤ 9223372036854775807 → (-9223372036854775808) ≤ a ∧ a ≤ 9223372036854775807 → (-2147483648) ≤ k ∧ k ≤ 2147483647 → (f = -1 ∨ (0 ≤ f ∧ M 606 f ≠ 0 ∧ M 607 f = k)) → f = gL M k a b c o g.toNat → k = k0 → a = a0 → b = b0 → c = c0 → o = o0 → 8 - g ≤ nM → jr A 0 xm_288 6 [(10, .int (Int32.ofInt (g))), (9, .int (Int32.ofInt (f))), (8, .int (Int32.ofInt (o))), (6, .long (Int64.ofInt (c))), (4, .long (Int64.ofInt (b))), (2, .long (Int64.ofInt (a))), (1, .int (Int32.ofInt (k))), (0, .ref (598))] [] M Q := by
  intro nM
  induction nM using Nat.strongRecOn with
  | ind nM ih =>
    intro g f o c b a k h_g h_f h_o h_c h_b h_a h_k hy0 hy1 hy2 hy3 hy4 hy5 hy6 hm
    subst hy2
    subst hy3
    subst hy4
    subst hy5
    subst hy6
    refine jr.iload rfl rfl ?_
    refine jr.bipush rfl (by decide) ?_
    refine jr.icmp_ge rfl rfl (by omega) (by omega) (fun h10 => ?_) (fun h10 => ?_)
    · refine jr.iload rfl rfl ?_
      exact jr.ireturn rfl rfl rfl (q _ (by omega) (by omega) (by have h9 := hy1; rw [show g = 8 from by omega] at h9; exact h9))
    · refine jr.aload_n rfl rfl ?_
      refine jr.getf (i := 17) (v := .ref 606) rfl rfl (by decide) rfl (by decide) rfl rfl rfl rfl ?_
      refine jr.iload rfl rfl ?_
      obtain ⟨v1, e1⟩ : ∃ z, M 606 g = z := ⟨_, rfl⟩
      have b1 : 0 ≤ v1 ∧ v1 ≤ 1 := by rw [← e1]; exact (by have q := hI_M 606 g (by decide); rw [xri_row rfl rfl] at q; exact q)
      refine jr.zald (i := g) (x := v1) rfl (by decide) rfl (by decide) (by omega) (by omega) e1 ?_
      refine jr.if_eq rfl rfl (by omega) (fun h20 => ?_) (fun h20 => ?_)
      · refine jr.iload rfl rfl ?_
        refine jr.istore (ls' := [_, _, _, _, _, _, _, _]) rfl (by decide) rfl ?_
        refine jr.iinc (ls' := [_, _, _, _, _, _, _, _]) rfl rfl (by decide) rfl ?_
        refine jr.goto rfl rfl ?_
        refine jr.pick (ls := [_, _, _, _, _, _, _, _]) [0, 1, 2, 3, 4, 5, 6, 7] rfl rfl ?_
        exact ih (nM - 1) (by omega) (g + 1) f o c b a k (by omega) (by omega) (by omega) (by omega) (by omega) (by omega) (by omega) (by omega) (by rw [gL_s (by omega)]; first | (rw [if_pos (by omega)]; done) | (rw [if_neg (by omega)]; exact hy1)) (by omega) (by omega) (by omega) (by omega) (by omega) (by omega)
      · refine jr.aload_n rfl rfl ?_
        refine jr.getf (i := 18) (v := .ref 607) rfl rfl (by decide) rfl (by decide) rfl rfl rfl rfl ?_
        refine jr.iload rfl rfl ?_
        obtain ⟨v2, e2⟩ : ∃ z, M 607 g = z := ⟨_, rfl⟩
        have b2 : 0 ≤ v2 ∧ v2 ≤ 11 := by rw [← e2]; exact (by have q := hI_M 607 g (by decide); rw [xri_row rfl rfl] at q; exact q)
        refine jr.iald (i := g) (x := v2) rfl (by decide) rfl (by decide) (by omega) (by omega) e2 ?_
        refine jr.iload_n rfl rfl ?_
        refine jr.icmp_ne rfl rfl (by omega) (by omega) (fun h31 => ?_) (fun h31 => ?_)
        · refine jr.iload rfl rfl ?_
          refine jr.istore (ls' := [_, _, _, _, _, _, _, _]) rfl (by decide) rfl ?_
          refine jr.iinc (ls' := [_, _, _, _, _, _, _, _]) rfl rfl (by decide) rfl ?_
          refine jr.goto rfl rfl ?_
          refine jr.pick (ls := [_, _, _, _, _, _, _, _]) [0, 1, 2, 3, 4, 5, 6, 7] rfl rfl ?_
          exact ih (nM - 1) (by omega) (g + 1) f o c b a k (by omega) (by omega) (by omega) (by omega) (by omega) (by omega) (by omega) (by omega) (by rw [gL_s (by omega)]; first | (rw [if_pos (by omega)]; done) | (rw [if_neg (by omega)]; exact hy1)) (by omega) (by omega) (by omega) (by omega) (by omega) (by omega)
        · refine jr.aload_n rfl rfl ?_
          refine jr.getf (i := 19) (v := .ref 608) rfl rfl (by decide) rfl (by decide) rfl rfl rfl rfl ?_
          refine jr.iload rfl rfl ?_
          obtain ⟨v3, e3⟩ : ∃ z, M 608 g = z := ⟨_, rfl⟩
          have b3 : (-9223372036854775808) ≤ v3 ∧ v3 ≤ 9223372036854775807 := by rw [← e3]; exact (by have q := hI_M 608 g (by decide); rw [xri_row rfl rfl] at q; exact q)
          refine jr.lald (i := g) (x := v3) rfl (by decide) rfl (by decide) (by omega) (by omega) e3 ?_
          refine jr.lload_n rfl rfl ?_
          refine jr.lcmp_ne rfl rfl rfl (by omega) (by omega) (fun h42 => ?_) (fun h42 => ?_)
          · refine jr.iload rfl rfl ?_
            refine jr.istore (ls' := [_, _, _, _, _, _, _, _]) rfl (by decide) rfl ?_
            refine jr.iinc (ls' := [_, _, _, _, _, _, _, _]) rfl rfl (by decide) rfl ?_
            refine jr.goto rfl rfl ?_
            refine jr.pick (ls := [_, _, _, _, _, _, _, _]) [0, 1, 2, 3, 4, 5, 6, 7] rfl rfl ?_
            exact ih (nM - 1) (by omega) (g + 1) f o c b a k (by omega) (by omega) (by omega) (by omega) (by omega) (by omega) (by omega) (by omega) (by rw [gL_s (by omega)]; first | (rw [if_pos (by omega)]; done) | (rw [if_neg (by omega)]; exact hy1)) (by omega) (by omega) (by omega) (by omega) (by omega) (by omega)
          · refine jr.aload_n rfl rfl ?_
            refine jr.getf (i := 20) (v := .ref 609) rfl rfl (by decide) rfl (by decide) rfl rfl rfl rfl ?_
            refine jr.iload rfl rfl ?_
            obtain ⟨v4, e4⟩ : ∃ z, M 609 g = z := ⟨_, rfl⟩
            have b4 : (-9223372036854775808) ≤ v4 ∧ v4 ≤ 9223372036854775807 := by rw [← e4]; exact (by have q := hI_M 609 g (by decide); rw [xri_row rfl rfl] at q; exact q)
            refine jr.lald (i := g) (x := v4) rfl (by decide) rfl (by decide) (by omega) (by omega) e4 ?_
            refine jr.lload rfl rfl ?_
            refine jr.lcmp_ne rfl rfl rfl (by omega) (by omega) (fun h55 => ?_) (fun h55 => ?_)
            · refine jr.iload rfl rfl ?_
              refine jr.istore (ls' := [_, _, _, _, _, _, _, _]) rfl (by decide) rfl ?_
              refine jr.iinc (ls' := [_, _, _, _, _, _, _, _]) rfl rfl (by decide) rfl ?_
              refine jr.goto rfl rfl ?_
              refine jr.pick (ls := [_, _, _, _, _, _, _, _]) [0, 1, 2, 3, 4, 5, 6, 7] rfl rfl ?_
              exact ih (nM - 1) (by omega) (g + 1) f o c b a k (by omega) (by omega) (by omega) (by omega) (by omega) (by omega) (by omega) (by omega) (by rw [gL_s (by omega)]; first | (rw [if_pos (by omega)]; done) | (rw [if_neg (by omega)]; exact hy1)) (by omega) (by omega) (by omega) (by omega) (by omega) (by omega)
            · refine jr.aload_n rfl rfl ?_
              refine jr.getf (i := 21) (v := .ref 610) rfl rfl (by decide) rfl (by decide) rfl rfl rfl rfl ?_
              refine jr.iload rfl rfl ?_
              obtain ⟨v5, e5⟩ : ∃ z, M 610 g = z := ⟨_, rfl⟩
              have b5 : (-9223372036854775808) ≤ v5 ∧ v5 ≤ 9223372036854775807 := by rw [← e5]; exact (by have q := hI_M 610 g (by decide); rw [xri_row rfl rfl] at q; exact q)
              refine jr.lald (i := g) (x := v5) rfl (by decide) rfl (by decide) (by omega) (by omega) e5 ?_
              refine jr.lload rfl rfl ?_
              refine jr.lcmp_ne rfl rfl rfl (by omega) (by omega) (fun h68 => ?_) (fun h68 => ?_)
              · refine jr.iload rfl rfl ?_
                refine jr.istore (ls' := [_, _, _, _, _, _, _, _]) rfl (by decide) rfl ?_
                refine jr.iinc (ls' := [_, _, _, _, _, _, _, _]) rfl rfl (by decide) rfl ?_
                refine jr.goto rfl rfl ?_
                refine jr.pick (ls := [_, _, _, _, _, _, _, _]) [0, 1, 2, 3, 4, 5, 6, 7] rfl rfl ?_
                exact ih (nM - 1) (by omega) (g + 1) f o c b a k (by omega) (by omega) (by omega) (by omega) (by omega) (by omega) (by omega) (by omega) (by rw [gL_s (by omega)]; first | (rw [if_pos (by omega)]; done) | (rw [if_neg (by omega)]; exact hy1)) (by omega) (by omega) (by omega) (by omega) (by omega) (by omega)
              · refine jr.aload_n rfl rfl ?_
                refine jr.getf (i := 22) (v := .ref 611) rfl rfl (by decide) rfl (by decide) rfl rfl rfl rfl ?_
                refine jr.iload rfl rfl ?_
                obtain ⟨v6, e6⟩ : ∃ z, M 611 g = z := ⟨_, rfl⟩
                have b6 : 0 ≤ v6 ∧ v6 ≤ 255 := by rw [← e6]; exact (by have q := hI_M 611 g (by decide); rw [xri_row rfl rfl] at q; exact q)
                refine jr.iald (i := g) (x := v6) rfl (by decide) rfl (by decide) (by omega) (by omega) e6 ?_
                refine jr.iload rfl rfl ?_
                refine jr.icmp_ne rfl rfl (by omega) (by omega) (fun h81 => ?_) (fun h81 => ?_)
                · refine jr.iload rfl rfl ?_
                  refine jr.istore (ls' := [_, _, _, _, _, _, _, _]) rfl (by decide) rfl ?_
                  refine jr.iinc (ls' := [_, _, _, _, _, _, _, _]) rfl rfl (by decide) rfl ?_
                  refine jr.goto rfl rfl ?_
                  refine jr.pick (ls := [_, _, _, _, _, _, _, _]) [0, 1, 2, 3, 4, 5, 6, 7] rfl rfl ?_
                  exact ih (nM - 1) (by omega) (g + 1) f o c b a k (by omega) (by omega) (by omega) (by omega) (by omega) (by omega) (by omega) (by omega) (by rw [gL_s (by omega)]; first | (rw [if_pos (by omega)]; done) | (rw [if_neg (by omega)]; exact hy1)) (by omega) (by omega) (by omega) (by omega) (by omega) (by omega)
                · refine jr.iload rfl rfl ?_
                  refine jr.goto rfl rfl ?_
                  refine jr.istore (ls' := [_, _, _, _, _, _, _, _]) rfl (by decide) rfl ?_
                  refine jr.iinc (ls' := [_, _, _, _, _, _, _, _]) rfl rfl (by decide) rfl ?_
                  refine jr.goto rfl rfl ?_
                  refine jr.pick (ls := [_, _, _, _, _, _, _, _]) [0, 1, 2, 3, 4, 5, 6, 7] rfl rfl ?_
                  exact ih (nM - 1) (by omega) (g + 1) g o c b a k (by omega) (by omega) (by omega) (by omega) (by omega) (by omega) (by omega) (by omega) (by rw [gL_s (by omega)]; first | (rw [if_pos (by omega)]; done) | (rw [if_neg (by omega)]; exact hy1)) (by omega) (by omega) (by omega) (by omega) (by omega) (by omega)
theorem r_gathering_x {A : Nat → Option (Nat × (Nat → Int32))} {Q : Option Value → jm → Prop} {M : jm} (hI_M : RI M) (hH_M : RH M) (hS_M : RF M) {k : Int} (h_k : (-2147483648) ≤ k ∧ k ≤ 2147483647) {a : Int} (h_a : (-9223372036854775808) ≤ a ∧ a ≤ 9223372036854775807) {b : Int} (h_b : (-9223372036854775808) ≤ b ∧ b ≤ 9223372036854775807) {c : Int} (h_c : (-9223372036854775808) ≤ c ∧ c ≤ 9223372036854775807) {o : Int} (h_o : (-2147483648) ≤ o ∧ o ≤ 2147483647) (q : ∀ (r : Int), (-1) ≤ r ∧ r ≤ 7 → (r = -1 ∨ (0 ≤ r ∧ M 606 r ≠ 0 ∧ M 607 r = k)) → r = gL M k a b c o 8 → Q (some (.int (Int32.ofInt r))) M) : jc A 1 288 [.ref (598), .int (Int32.ofInt (k)), .long (Int64.ofInt (a)), .long (Int64.ofInt (b)), .long (Int64.ofInt (c)), .int (Int32.ofInt (o))] M Q := by
  refine jc_of (m := xm_288) rfl (Nat.le_of_ble_eq_true rfl) rfl ?_
  refine jr.iconst rfl ?_
  refine jr.istore (ls' := [_, _, _, _, _, _, _]) rfl (by decide) rfl ?_
  refine jr.iconst rfl ?_
  refine jr.istore (ls' := [_, _, _, _, _, _, _, _]) rfl (by decide) rfl ?_
  refine jr.pick (ls := [_, _, _, _, _, _, _, _]) [0, 1, 7, 6, 5, 4, 3, 2] rfl rfl ?_
  exact r_gathering_L6_x hI_M hH_M hS_M q 8 0 (-1) o c b a k (by omega) (by omega) (by omega) (by omega) (by omega) (by omega) (by omega) (by omega) rfl (by omega) (by omega) (by omega) (by omega) (by omega) (by omega)
end
