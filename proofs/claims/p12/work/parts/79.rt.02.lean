section
theorem r_turned_x {A : Nat → Option (Nat × (Nat → Int32))} {Q : Option Value → jm → Prop} {M : jm} (hI_M : RI M) (hH_M : RH M) (hS_M : RF M) {w : Int} (h_w : 0 ≤ w ∧ w ≤ 4294967295) (q : ∀ (r : Int), 0 ≤ r ∧ r ≤ 65535 → r = tn w → Q (some (.int (Int32.ofInt r))) M) : jc A 1 280 [.long (Int64.ofInt (w))] M Q := by
  refine jc_of (m := xm_280) rfl (Nat.le_of_ble_eq_true rfl) rfl ?_
  refine jr.lload_n rfl rfl ?_
  refine jr.lstore_n (ls' := [_, _]) rfl (by decide) rfl ?_
  refine jr.pick (ls := [_, _]) [0, 1] rfl rfl ?_
  exact r_turned_L2_x hI_M hH_M hS_M q 4294967295 w w (by omega) (by omega) rfl (by omega) (by omega)
end
section
/-! ===== the reference: sumOf, right, repair ===== -/
/-- headers of f, N stand in the reference, C of them -/
noncomputable def HT (M : jm) (f : Int → Int) (N C : Int) : Prop := M 598 6 = C ∧ HR M 602 f N C ∧ (0 ≤ N ∧ N ≤ 400) ∧ ∀ i : Int, 0 ≤ i → i < 400 → 0 ≤ f i ∧ f i ≤ 255
theorem HQ6.t {M : jm} {f : Int → Int} {N : Int} (h : HQ6 M f N) (hN : 0 ≤ N ∧ N ≤ 400) (hf : ∀ i : Int, 0 ≤ i → i < 400 → 0 ≤ f i ∧ f i ≤ 255) : HT M f N (M 598 6) := ⟨rfl, h.2.1, hN, hf⟩
theorem HT.f {M : jm} {f : Int → Int} {N C x : Int} (h : HT M f N C) (hx : 0 ≤ x ∧ x < C) : M 603 x = hX f N x ∧ M 604 x = hY f N x ∧ M 605 x = hZ f N x ∧ hY f N x + lst (hX f N x) ≤ N ∧ hY f N x + hZ f N x ≤ N ∧ 0 ≤ hZ f N x ∧ ¬ ((hX f N x = 2 ∨ hX f N x = 8) ∧ hZ f N x < 20) := by
  have hr := h.2.1 x hx.1 hx.2
  have hl := hok_l hr.1 h.2.2.2 h.2.2.1.2
  exact ⟨hr.2.1, hr.2.2.1, hr.2.2.2, hl.1, hl.2.1, hl.2.2.1, hl.2.2.2⟩
theorem HT.o {M M1 : jm} {f : Int → Int} {N C : Int} (h : HT M f N C) (g : ∀ (b : Nat) (i : Int), b ≠ 601 → M1 b i = M b i) : HT M1 f N C := by
  refine ⟨by rw [g 598 6 (by decide)]; exact h.1, fun i h0 h1 => ?_, h.2.2.1, h.2.2.2⟩
  have q := h.2.1 i h0 h1
  rw [g (602 + 1) i (by decide), g (602 + 2) i (by decide), g (602 + 3) i (by decide)]
  exact q
theorem dS_2 {f f1 : Int → Int} {N C x Y Z : Int} (hx : 0 ≤ x ∧ x < C) (hk : hX f N x = 2) (hy : hY f N x = Y) (hz : hZ f N x = Z) : dS f f1 N C x = tn (sb (fz f1 (Y + 10)) Y (Y + Z - Y).toNat) := by
  unfold dS dS0
  rw [kA_i hx, hk, if_pos (Or.inl rfl), if_pos rfl, hy, hz]
  rfl
theorem dS_7 {f f1 : Int → Int} {N C x Y : Int} (hx : 0 ≤ x ∧ x < C) (hk : hX f N x = 7) (hy : hY f N x = Y) : dS f f1 N C x = tn (sb (fz f1 (Y + sof 7)) Y (N - Y).toNat) := by
  unfold dS dS0
  rw [kA_i hx, hk, if_pos (Or.inr rfl), if_neg (by decide), hy]
theorem dS_n {f f1 : Int → Int} {N C x k : Int} (hx : 0 ≤ x ∧ x < C) (hk : hX f N x = k) (h8 : k = 8 ∨ k = 9) (hn : nxD f N x.toNat = -1) : dS f f1 N C x = -1 := by
  unfold dS
  rw [kA_i hx, hk, if_neg (by omega), if_pos h8, if_pos hn]
theorem dS_8 {f f1 : Int → Int} {N C x k n Y s : Int} (hx : 0 ≤ x ∧ x < C) (hk : hX f N x = k) (h8 : k = 8 ∨ k = 9) (hn : nxD f N x.toNat = n) (h1 : n ≠ -1) (hy : hY f N x = Y) (hs : s = sb (fz f1 (Y + sof k)) Y (N - Y).toNat + aD f f1 N n + (N - Y + (if k = 8 then 6 else 17))) : dS f f1 N C x = dsu k (tn s) := by
  unfold dS dS0
  rw [kA_i hx, hk, if_neg (by omega), if_pos h8, hn, if_neg h1, if_neg (by omega), hy, hs]
  congr 2
  omega
theorem dS_o {f f1 : Int → Int} {N C x k : Int} (hx : 0 ≤ x ∧ x < C) (hk : hX f N x = k) (h8 : ¬ (k = 2 ∨ k = 7 ∨ k = 8 ∨ k = 9)) : dS f f1 N C x = -1 := by
  unfold dS
  rw [kA_i hx, hk, if_neg (by omega), if_neg (by omega)]
theorem r_sumAt_x {A : Nat → Option (Nat × (Nat → Int32))} {Q : Option Value → jm → Prop} {M : jm} (hI_M : RI M) (hH_M : RH M) (hS_M : RF M) {h : Int} (h_h : 0 ≤ h ∧ h ≤ 11) (q : ∀ (r : Int), (-1) ≤ r ∧ r ≤ 398 → (((M 603 h = 2 ∨ M 603 h = 7 ∨ M 603 h = 8 ∨ M 603 h = 9) ∧ 0 ≤ r ∧ r = M 604 h + sof (M 603 h)) ∨ (¬ (M 603 h = 2 ∨ M 603 h = 7 ∨ M 603 h = 8 ∨ M 603 h = 9) ∧ r = -1)) → Q (some (.int (Int32.ofInt r))) M) : jc A 1 281 [.ref (598), .int (Int32.ofInt (h))] M Q := by
  have rh := hH_M h
  have lk := lst_k (M 603 h)
  have so := sof_r (M 603 h)
  refine jc_of (m := xm_281) rfl (Nat.le_of_ble_eq_true rfl) rfl ?_
  refine jr.aload_n rfl rfl ?_
  refine jr.getf (i := 7) (v := .ref 603) rfl rfl (by decide) rfl (by decide) rfl rfl rfl rfl ?_
  refine jr.iload_n rfl rfl ?_
  obtain ⟨v1, e1⟩ : ∃ z, M 603 h = z := ⟨_, rfl⟩
  have b1 : 0 ≤ v1 ∧ v1 ≤ 11 := by rw [← e1]; exact (by have q := hI_M 603 h (by decide); rw [xri_row rfl rfl] at q; exact q)
  refine jr.iald (i := h) (x := v1) rfl (by decide) rfl (by decide) (by omega) (by omega) e1 ?_
  refine jr.istore_n (ls' := [_, _, _]) rfl (by decide) rfl ?_
  refine jr.iload_n rfl rfl ?_
  refine jr.iconst rfl ?_
  refine jr.icmp_ne rfl rfl (by omega) (by omega) (fun h9 => ?_) (fun h9 => ?_)
  · refine jr.iload_n rfl rfl ?_
    refine jr.bipush rfl (by decide) ?_
    refine jr.icmp_ne rfl rfl (by omega) (by omega) (fun h27 => ?_) (fun h27 => ?_)
    · refine jr.iload_n rfl rfl ?_
      refine jr.bipush rfl (by decide) ?_
      refine jr.icmp_ne rfl rfl (by omega) (by omega) (fun h44 => ?_) (fun h44 => ?_)
      · refine jr.iload_n rfl rfl ?_
        refine jr.bipush rfl (by decide) ?_
        refine jr.icmp_ne rfl rfl (by omega) (by omega) (fun h62 => ?_) (fun h62 => ?_)
        · refine jr.iconst rfl ?_
          exact jr.ireturn rfl rfl rfl (q _ (by omega) (by omega))
        · refine jr.aload_n rfl rfl ?_
          refine jr.getf (i := 8) (v := .ref 604) rfl rfl (by decide) rfl (by decide) rfl rfl rfl rfl ?_
          refine jr.iload_n rfl rfl ?_
          obtain ⟨v2, e2⟩ : ∃ z, M 604 h = z := ⟨_, rfl⟩
          have b2 : 0 ≤ v2 ∧ v2 ≤ 400 := by rw [← e2]; exact (by have q := hI_M 604 h (by decide); rw [xri_row rfl rfl] at q; exact q)
          refine jr.iald (i := h) (x := v2) rfl (by decide) rfl (by decide) (by omega) (by omega) e2 ?_
          refine jr.bipush rfl (by decide) ?_
          refine jr.iadd rfl ?_
          refine jr.goto rfl rfl ?_
          exact jr.ireturn rfl rfl rfl (q _ (by omega) (by omega))
      · refine jr.aload_n rfl rfl ?_
        refine jr.getf (i := 8) (v := .ref 604) rfl rfl (by decide) rfl (by decide) rfl rfl rfl rfl ?_
        refine jr.iload_n rfl rfl ?_
        obtain ⟨v3, e3⟩ : ∃ z, M 604 h = z := ⟨_, rfl⟩
        have b3 : 0 ≤ v3 ∧ v3 ≤ 400 := by rw [← e3]; exact (by have q := hI_M 604 h (by decide); rw [xri_row rfl rfl] at q; exact q)
        refine jr.iald (i := h) (x := v3) rfl (by decide) rfl (by decide) (by omega) (by omega) e3 ?_
        refine jr.bipush rfl (by decide) ?_
        refine jr.iadd rfl ?_
        refine jr.goto rfl rfl ?_
        exact jr.ireturn rfl rfl rfl (q _ (by omega) (by omega))
    · refine jr.aload_n rfl rfl ?_
      refine jr.getf (i := 8) (v := .ref 604) rfl rfl (by decide) rfl (by decide) rfl rfl rfl rfl ?_
      refine jr.iload_n rfl rfl ?_
      obtain ⟨v4, e4⟩ : ∃ z, M 604 h = z := ⟨_, rfl⟩
      have b4 : 0 ≤ v4 ∧ v4 ≤ 400 := by rw [← e4]; exact (by have q := hI_M 604 h (by decide); rw [xri_row rfl rfl] at q; exact q)
      refine jr.iald (i := h) (x := v4) rfl (by decide) rfl (by decide) (by omega) (by omega) e4 ?_
      refine jr.iconst rfl ?_
      refine jr.iadd rfl ?_
      refine jr.goto rfl rfl ?_
      exact jr.ireturn rfl rfl rfl (q _ (by omega) (by omega))
  · refine jr.aload_n rfl rfl ?_
    refine jr.getf (i := 8) (v := .ref 604) rfl rfl (by decide) rfl (by decide) rfl rfl rfl rfl ?_
    refine jr.iload_n rfl rfl ?_
    obtain ⟨v5, e5⟩ : ∃ z, M 604 h = z := ⟨_, rfl⟩
    have b5 : 0 ≤ v5 ∧ v5 ≤ 400 := by rw [← e5]; exact (by have q := hI_M 604 h (by decide); rw [xri_row rfl rfl] at q; exact q)
    refine jr.iald (i := h) (x := v5) rfl (by decide) rfl (by decide) (by omega) (by omega) e5 ?_
    refine jr.bipush rfl (by decide) ?_
    refine jr.iadd rfl ?_
    refine jr.goto rfl rfl ?_
    exact jr.ireturn rfl rfl rfl (q _ (by omega) (by omega))
end
