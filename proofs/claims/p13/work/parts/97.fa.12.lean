section
theorem r_isTaken_L6_x {A : Nat → Option (Nat × (Nat → Int32))} {Q : Option Value → jm → Prop} {a0 : Int} {o0 : Int} {M : jm} (hI_M : RI M) (hH_M : RH M) (hS_M : RF M) (q : ∀ (r : Int), 0 ≤ r ∧ r ≤ 1 → r = tk6 M a0 o0 24 0 → Q (some (.int (Int32.ofInt r))) M) : ∀ (nM : Nat) (f : Int) (b : Int) (o : Int) (a : Int), 0 ≤ f ∧ f ≤ 24 → 0 ≤ b ∧ b ≤ 1 → (-2147483648) ≤ o ∧ o ≤ 2147483647 → (-9223372036854775808) ≤ a ∧ a ≤ 9223372036854775807 → ((b = 1 ∧ tk6 M a o 24 0 = 1) ∨ (b = 0 ∧ tk6 M a o 24 0 = tk6 M a o (24 - f).toNat f)) → a = a0 → o = o0 → 24 - f ≤ nM → jr A 0 xm_320 6 [(5, .int (Int32.ofInt (f))), (4, .int (Int32.ofInt (b))), (3, .int (Int32.ofInt (o))), (1, .long (Int64.ofInt (a))), (0, .ref (598))] [] M Q := by
  intro nM
  induction nM using Nat.strongRecOn with
  | ind nM ih =>
    intro f b o a h_f h_b h_o h_a hy0 hy1 hy2 hm
    subst hy1
    subst hy2
    refine jr.iload rfl rfl ?_
    refine jr.bipush rfl (by decide) ?_
    refine jr.icmp_ge rfl rfl (by omega) (by omega) (fun h10 => ?_) (fun h10 => ?_)
    · refine jr.iload rfl rfl ?_
      exact jr.ireturn rfl rfl (j_zr (by omega)) (q _ (by omega) (by have h9 := hy0; rcases h9 with h9 | h9; (omega); (rw [h9.2, show (24 - f).toNat = 0 from by omega]; exact h9.1)))
    · refine jr.iload rfl rfl ?_
      refine jr.if_ne rfl rfl (by omega) (fun h15 => ?_) (fun h15 => ?_)
      · refine jr.iconst rfl ?_
        refine jr.goto rfl rfl ?_
        refine jr.istore (ls' := [_, _, _, _, _]) rfl (by decide) rfl ?_
        refine jr.iinc (ls' := [_, _, _, _, _]) rfl rfl (by decide) rfl ?_
        refine jr.goto rfl rfl ?_
        refine jr.pick (ls := [_, _, _, _, _]) [0, 1, 2, 3, 4] rfl rfl ?_
        exact ih (nM - 1) (by omega) (f + 1) 1 o a (by omega) (by omega) (by omega) (by omega) (by have h9 := hy0; first | exact Or.inl ⟨rfl, by omega⟩ | exact Or.inl ⟨rfl, by rw [(h9.resolve_left (by omega)).2, tk6_s (by omega), if_pos (by omega)]⟩ | exact Or.inr ⟨rfl, by rw [(h9.resolve_left (by omega)).2, tk6_s (by omega), if_neg (by omega)]⟩) (by omega) (by omega) (by omega)
      · refine jr.aload_n rfl rfl ?_
        refine jr.getf (i := 39) (v := .ref 627) rfl rfl (by decide) rfl (by decide) rfl rfl rfl rfl ?_
        refine jr.iload rfl rfl ?_
        obtain ⟨v1, e1⟩ : ∃ z, M 627 f = z := ⟨_, rfl⟩
        have b1 : 0 ≤ v1 ∧ v1 ≤ 1 := by rw [← e1]; exact (by have q := hI_M 627 f (by decide); rw [xri_row rfl rfl] at q; exact q)
        refine jr.zald (i := f) (x := v1) rfl (by decide) rfl (by decide) (by omega) (by omega) e1 ?_
        refine jr.if_eq rfl rfl (by omega) (fun h25 => ?_) (fun h25 => ?_)
        · refine jr.iconst rfl ?_
          refine jr.istore (ls' := [_, _, _, _, _]) rfl (by decide) rfl ?_
          refine jr.iinc (ls' := [_, _, _, _, _]) rfl rfl (by decide) rfl ?_
          refine jr.goto rfl rfl ?_
          refine jr.pick (ls := [_, _, _, _, _]) [0, 1, 2, 3, 4] rfl rfl ?_
          exact ih (nM - 1) (by omega) (f + 1) 0 o a (by omega) (by omega) (by omega) (by omega) (by have h9 := hy0; first | exact Or.inl ⟨rfl, by omega⟩ | exact Or.inl ⟨rfl, by rw [(h9.resolve_left (by omega)).2, tk6_s (by omega), if_pos (by omega)]⟩ | exact Or.inr ⟨rfl, by rw [(h9.resolve_left (by omega)).2, tk6_s (by omega), if_neg (by omega)]⟩) (by omega) (by omega) (by omega)
        · refine jr.aload_n rfl rfl ?_
          refine jr.getf (i := 52) (v := .ref 640) rfl rfl (by decide) rfl (by decide) rfl rfl rfl rfl ?_
          refine jr.iload rfl rfl ?_
          obtain ⟨v2, e2⟩ : ∃ z, M 640 f = z := ⟨_, rfl⟩
          have b2 : (-1) ≤ v2 ∧ v2 ≤ 3 := by rw [← e2]; exact (by have q := hI_M 640 f (by decide); rw [xri_row rfl rfl] at q; exact q)
          refine jr.iald (i := f) (x := v2) rfl (by decide) rfl (by decide) (by omega) (by omega) e2 ?_
          refine jr.iconst rfl ?_
          refine jr.icmp_eq rfl rfl (by omega) (by omega) (fun h36 => ?_) (fun h36 => ?_)
          · refine jr.iconst rfl ?_
            refine jr.istore (ls' := [_, _, _, _, _]) rfl (by decide) rfl ?_
            refine jr.iinc (ls' := [_, _, _, _, _]) rfl rfl (by decide) rfl ?_
            refine jr.goto rfl rfl ?_
            refine jr.pick (ls := [_, _, _, _, _]) [0, 1, 2, 3, 4] rfl rfl ?_
            exact ih (nM - 1) (by omega) (f + 1) 0 o a (by omega) (by omega) (by omega) (by omega) (by have h9 := hy0; first | exact Or.inl ⟨rfl, by omega⟩ | exact Or.inl ⟨rfl, by rw [(h9.resolve_left (by omega)).2, tk6_s (by omega), if_pos (by omega)]⟩ | exact Or.inr ⟨rfl, by rw [(h9.resolve_left (by omega)).2, tk6_s (by omega), if_neg (by omega)]⟩) (by omega) (by omega) (by omega)
          · refine jr.aload_n rfl rfl ?_
            refine jr.getf (i := 53) (v := .ref 641) rfl rfl (by decide) rfl (by decide) rfl rfl rfl rfl ?_
            refine jr.iload rfl rfl ?_
            obtain ⟨v3, e3⟩ : ∃ z, M 641 f = z := ⟨_, rfl⟩
            have b3 : (-9223372036854775808) ≤ v3 ∧ v3 ≤ 9223372036854775807 := by rw [← e3]; exact (by have q := hI_M 641 f (by decide); rw [xri_row rfl rfl] at q; exact q)
            refine jr.lald (i := f) (x := v3) rfl (by decide) rfl (by decide) (by omega) (by omega) e3 ?_
            refine jr.lload_n rfl rfl ?_
            refine jr.lcmp_ne rfl rfl rfl (by omega) (by omega) (fun h47 => ?_) (fun h47 => ?_)
            · refine jr.iconst rfl ?_
              refine jr.istore (ls' := [_, _, _, _, _]) rfl (by decide) rfl ?_
              refine jr.iinc (ls' := [_, _, _, _, _]) rfl rfl (by decide) rfl ?_
              refine jr.goto rfl rfl ?_
              refine jr.pick (ls := [_, _, _, _, _]) [0, 1, 2, 3, 4] rfl rfl ?_
              exact ih (nM - 1) (by omega) (f + 1) 0 o a (by omega) (by omega) (by omega) (by omega) (by have h9 := hy0; first | exact Or.inl ⟨rfl, by omega⟩ | exact Or.inl ⟨rfl, by rw [(h9.resolve_left (by omega)).2, tk6_s (by omega), if_pos (by omega)]⟩ | exact Or.inr ⟨rfl, by rw [(h9.resolve_left (by omega)).2, tk6_s (by omega), if_neg (by omega)]⟩) (by omega) (by omega) (by omega)
            · refine jr.aload_n rfl rfl ?_
              refine jr.getf (i := 54) (v := .ref 642) rfl rfl (by decide) rfl (by decide) rfl rfl rfl rfl ?_
              refine jr.iload rfl rfl ?_
              obtain ⟨v4, e4⟩ : ∃ z, M 642 f = z := ⟨_, rfl⟩
              have b4 : 0 ≤ v4 ∧ v4 ≤ 70000 := by rw [← e4]; exact (by have q := hI_M 642 f (by decide); rw [xri_row rfl rfl] at q; exact q)
              refine jr.iald (i := f) (x := v4) rfl (by decide) rfl (by decide) (by omega) (by omega) e4 ?_
              refine jr.iload_n rfl rfl ?_
              refine jr.icmp_ne rfl rfl (by omega) (by omega) (fun h59 => ?_) (fun h59 => ?_)
              · refine jr.iconst rfl ?_
                refine jr.istore (ls' := [_, _, _, _, _]) rfl (by decide) rfl ?_
                refine jr.iinc (ls' := [_, _, _, _, _]) rfl rfl (by decide) rfl ?_
                refine jr.goto rfl rfl ?_
                refine jr.pick (ls := [_, _, _, _, _]) [0, 1, 2, 3, 4] rfl rfl ?_
                exact ih (nM - 1) (by omega) (f + 1) 0 o a (by omega) (by omega) (by omega) (by omega) (by have h9 := hy0; first | exact Or.inl ⟨rfl, by omega⟩ | exact Or.inl ⟨rfl, by rw [(h9.resolve_left (by omega)).2, tk6_s (by omega), if_pos (by omega)]⟩ | exact Or.inr ⟨rfl, by rw [(h9.resolve_left (by omega)).2, tk6_s (by omega), if_neg (by omega)]⟩) (by omega) (by omega) (by omega)
              · refine jr.iconst rfl ?_
                refine jr.goto rfl rfl ?_
                refine jr.istore (ls' := [_, _, _, _, _]) rfl (by decide) rfl ?_
                refine jr.iinc (ls' := [_, _, _, _, _]) rfl rfl (by decide) rfl ?_
                refine jr.goto rfl rfl ?_
                refine jr.pick (ls := [_, _, _, _, _]) [0, 1, 2, 3, 4] rfl rfl ?_
                exact ih (nM - 1) (by omega) (f + 1) 1 o a (by omega) (by omega) (by omega) (by omega) (by have h9 := hy0; first | exact Or.inl ⟨rfl, by omega⟩ | exact Or.inl ⟨rfl, by rw [(h9.resolve_left (by omega)).2, tk6_s (by omega), if_pos (by omega)]⟩ | exact Or.inr ⟨rfl, by rw [(h9.resolve_left (by omega)).2, tk6_s (by omega), if_neg (by omega)]⟩) (by omega) (by omega) (by omega)
theorem r_isTaken_x {A : Nat → Option (Nat × (Nat → Int32))} {Q : Option Value → jm → Prop} {M : jm} (hI_M : RI M) (hH_M : RH M) (hS_M : RF M) {a : Int} (h_a : (-9223372036854775808) ≤ a ∧ a ≤ 9223372036854775807) {o : Int} (h_o : (-2147483648) ≤ o ∧ o ≤ 2147483647) (q : ∀ (r : Int), 0 ≤ r ∧ r ≤ 1 → r = tk6 M a o 24 0 → Q (some (.int (Int32.ofInt r))) M) : jc A 1 320 [.ref (598), .long (Int64.ofInt (a)), .int (Int32.ofInt (o))] M Q := by
  refine jc_of (m := xm_320) rfl (Nat.le_of_ble_eq_true rfl) rfl ?_
  refine jr.iconst rfl ?_
  refine jr.istore (ls' := [_, _, _, _]) rfl (by decide) rfl ?_
  refine jr.iconst rfl ?_
  refine jr.istore (ls' := [_, _, _, _, _]) rfl (by decide) rfl ?_
  refine jr.pick (ls := [_, _, _, _, _]) [0, 1, 4, 3, 2] rfl rfl ?_
  exact r_isTaken_L6_x hI_M hH_M hS_M q 24 0 0 o a (by omega) (by omega) (by omega) (by omega) (Or.inr ⟨rfl, rfl⟩) (by omega) (by omega) (by omega)
noncomputable def ch6 (M : jm) (a p : Int) : Nat → Int → Int
  | 0, _ => -1
  | n + 1, i => if tk6 M a (p + i) 24 0 = 0 then i else ch6 M a p n (i + 1)
theorem ch6_s {M : jm} {a p L i : Int} (h : i < L) : ch6 M a p (L - i).toNat i = if tk6 M a (p + i) 24 0 = 0 then i else ch6 M a p (L - (i + 1)).toNat (i + 1) := by
  obtain ⟨n, hn⟩ : ∃ n : Nat, L = i + 1 + n := ⟨(L - i - 1).toNat, by omega⟩
  subst hn
  rw [show (i + 1 + (n : Int) - i).toNat = n + 1 by omega, show (i + 1 + (n : Int) - (i + 1)).toNat = n by omega]
  rfl
theorem ch6_e {M : jm} {a p L i : Int} (h : L ≤ i) : ch6 M a p (L - i).toNat i = -1 := by
  rw [show (L - i).toNat = 0 by omega]
  rfl
end
