/-! ===== the reference: contracts, 33.ri ===== -/
theorem r_isRow_L228 {A : Nat → Option (Nat × (Nat → Int32))} {Q : Option Value → jm → Prop} {T : jm} {o0 : Int} {n0 : Int} {M : jm} (hI_M : RI M) (hH_M : RH M) (hS_M : RF M) (ht_M : Kp T M) (q : ∀ (r : Int), 0 ≤ r ∧ r ≤ 1 → (r = 1 → (48 * o0 + 48 ≤ n0 ∧ o0 ≤ 23 ∧ (M 599 (48 * o0) = 6 → 1 ≤ M 599 (48 * o0 + 1) % 16 ∧ M 599 (48 * o0 + 1) % 16 ≤ 10))) → Q (some (.int (Int32.ofInt r))) M) : ∀ (nM : Nat) (k : Int) (w : Int) (n : Int) (o : Int), 0 ≤ k ∧ k ≤ 24 → 0 ≤ w ∧ w ≤ 1 → 0 ≤ n ∧ n ≤ 1600 → 0 ≤ o ∧ o ≤ 23 → (w = 1 → (48 * o + 48 ≤ n ∧ o ≤ 23 ∧ (M 599 (48 * o) = 6 → 1 ≤ M 599 (48 * o + 1) % 16 ∧ M 599 (48 * o + 1) % 16 ≤ 10))) → 48 * o + 48 ≤ n → o = o0 → n = n0 → 24 - k ≤ nM → jr A 4 xm_331 228 [(8, .int (Int32.ofInt (k))), (6, .int (Int32.ofInt (w))), (2, .int (Int32.ofInt (n))), (1, .int (Int32.ofInt (o))), (0, .ref (598))] [] M Q := by
  intro nM
  induction nM using Nat.strongRecOn with
  | ind nM ih =>
    intro k w n o h_k h_w h_n h_o hy0 hy1 hy2 hy3 hm
    subst hy2
    subst hy3
    refine jr.iload rfl rfl ?_
    refine jr.iload_n rfl rfl ?_
    refine jr.icmp_ge rfl rfl (by omega) (by omega) (fun h231 => ?_) (fun h231 => ?_)
    · refine jr.iload rfl rfl ?_
      exact jr.ireturn rfl rfl (j_zr (by omega)) (q _ (by omega) (by omega))
    · refine jr.iload rfl rfl ?_
      refine jr.if_eq rfl rfl (by omega) (fun h236 => ?_) (fun h236 => ?_)
      · refine jr.iload rfl rfl ?_
        exact jr.ireturn rfl rfl (j_zr (by omega)) (q _ (by omega) (by omega))
      · refine jr.aload_n rfl rfl ?_
        refine jr.iload rfl rfl ?_
        refine jr.iload_n rfl rfl ?_
        refine jr_v rfl rfl (Or.inl rfl) rfl rfl (by decide) rfl ⟨rfl, Nat.le_of_ble_eq_true rfl, Nat.le_of_ble_eq_true rfl⟩ rfl (jc.deep (r_haveLikeEnds hI_M hH_M hS_M ht_M (by omega) (by omega)  (fun r1 z1  => ?_)) (by decide))
        refine jr.if_ne rfl rfl (by omega) (fun h246 => ?_) (fun h246 => ?_)
        · refine jr.iconst rfl ?_
          refine jr.istore rfl (by decide) rfl ?_
          refine jr.iinc rfl rfl (by decide) rfl ?_
          refine jr.goto rfl rfl ?_
          refine jr.pick [0, 1, 2, 3, 4] rfl rfl ?_
          exact ih (nM - 1) (by omega) (k + 1) 0 n o (by omega) (by omega) (by omega) (by omega) (by omega) (by omega) (by omega) (by omega) (by omega)
        · refine jr.iconst rfl ?_
          refine jr.goto rfl rfl ?_
          refine jr.istore rfl (by decide) rfl ?_
          refine jr.iinc rfl rfl (by decide) rfl ?_
          refine jr.goto rfl rfl ?_
          refine jr.pick [0, 1, 2, 3, 4] rfl rfl ?_
          exact ih (nM - 1) (by omega) (k + 1) 1 n o (by omega) (by omega) (by omega) (by omega) (by omega) (by omega) (by omega) (by omega) (by omega)
theorem r_isRow_L225 {A : Nat → Option (Nat × (Nat → Int32))} {Q : Option Value → jm → Prop} {T : jm} {o0 : Int} {n0 : Int} {M : jm} (hI_M : RI M) (hH_M : RH M) (hS_M : RF M) (ht_M : Kp T M) (q : ∀ (r : Int), 0 ≤ r ∧ r ≤ 1 → (r = 1 → (48 * o0 + 48 ≤ n0 ∧ o0 ≤ 23 ∧ (M 599 (48 * o0) = 6 → 1 ≤ M 599 (48 * o0 + 1) % 16 ∧ M 599 (48 * o0 + 1) % 16 ≤ 10))) → Q (some (.int (Int32.ofInt r))) M) : ∀ (w : Int) (n : Int) (o : Int), 0 ≤ w ∧ w ≤ 1 → 0 ≤ n ∧ n ≤ 1600 → 0 ≤ o ∧ o ≤ 23 → (w = 1 → (48 * o + 48 ≤ n ∧ o ≤ 23 ∧ (M 599 (48 * o) = 6 → 1 ≤ M 599 (48 * o + 1) % 16 ∧ M 599 (48 * o + 1) % 16 ≤ 10))) → 48 * o + 48 ≤ n → o = o0 → n = n0 → jr A 4 xm_331 225 [(6, .int (Int32.ofInt (w))), (2, .int (Int32.ofInt (n))), (1, .int (Int32.ofInt (o))), (3, .int (Int32.ofInt (48 * o))), (0, .ref (598))] [] M Q := by
    intro w n o h_w h_n h_o hy0 hy1 hy2 hy3
    subst hy2
    subst hy3
    refine jr.iconst rfl ?_
    refine jr.istore rfl (by decide) rfl ?_
    refine jr.pick [0, 1, 2, 3, 5] rfl rfl ?_
    exact r_isRow_L228 hI_M hH_M hS_M ht_M q 24 0 w n o (by omega) (by omega) (by omega) (by omega) (by omega) (by omega) (by omega) (by omega) (by omega)
theorem r_isRow_L195 {A : Nat → Option (Nat × (Nat → Int32))} {Q : Option Value → jm → Prop} {T : jm} {o0 : Int} {n0 : Int} {M : jm} (hI_M : RI M) (hH_M : RH M) (hS_M : RF M) (ht_M : Kp T M) (q : ∀ (r : Int), 0 ≤ r ∧ r ≤ 1 → (r = 1 → (48 * o0 + 48 ≤ n0 ∧ o0 ≤ 23 ∧ (M 599 (48 * o0) = 6 → 1 ≤ M 599 (48 * o0 + 1) % 16 ∧ M 599 (48 * o0 + 1) % 16 ≤ 10))) → Q (some (.int (Int32.ofInt r))) M) : ∀ (w : Int) (n : Int) (o : Int), 0 ≤ w ∧ w ≤ 1 → 0 ≤ n ∧ n ≤ 1600 → 0 ≤ o ∧ o ≤ 23 → (w = 1 → (48 * o + 48 ≤ n ∧ o ≤ 23 ∧ (M 599 (48 * o) = 6 → 1 ≤ M 599 (48 * o + 1) % 16 ∧ M 599 (48 * o + 1) % 16 ≤ 10))) → 48 * o + 48 ≤ n → o = o0 → n = n0 → jr A 4 xm_331 195 [(6, .int (Int32.ofInt (w))), (2, .int (Int32.ofInt (n))), (1, .int (Int32.ofInt (o))), (3, .int (Int32.ofInt (48 * o))), (0, .ref (598))] [] M Q := by
    intro w n o h_w h_n h_o hy0 hy1 hy2 hy3
    subst hy2
    subst hy3
    refine jr.iload rfl rfl ?_
    refine jr.if_eq rfl rfl (by omega) (fun h197 => ?_) (fun h197 => ?_)
    · refine jr.iconst rfl ?_
      refine jr.istore rfl (by decide) rfl ?_
      refine jr.pick [0, 1, 2, 3, 4] rfl rfl ?_
      exact r_isRow_L225 hI_M hH_M hS_M ht_M q 0 n o (by omega) (by omega) (by omega) (by omega) (by omega) (by omega) (by omega)
    · refine jr.aload_n rfl rfl ?_
      refine jr.iload_n rfl rfl ?_
      refine jr.bipush rfl (by decide) ?_
      refine jr.iadd rfl ?_
      refine jr_v rfl rfl (Or.inl rfl) rfl rfl (by decide) rfl ⟨rfl, Nat.le_of_ble_eq_true rfl, Nat.le_of_ble_eq_true rfl⟩ rfl (jc.deep (r_takenFour hI_M hH_M hS_M ht_M (by omega)  (fun r1 z1  => ?_)) (by decide))
      refine jr.lconst (x := 1) rfl (by decide) ?_
      refine jr.ldc2 (x := 200) rfl rfl (by decide) ?_
      refine jr_s rfl rfl (Or.inl rfl) ⟨Nat.le_of_ble_eq_true rfl, Nat.le_of_ble_eq_true rfl⟩ rfl rfl (jc.deep (c_within (by omega) (by omega) (by omega) (fun l212 u212 => ?_) (fun n212 => ?_)) (by decide))
      · refine jr.if_eq rfl rfl (by omega) (fun h => absurd h (by decide)) (fun _ => ?_)
        refine jr.iconst rfl ?_
        refine jr.goto rfl rfl ?_
        refine jr.istore rfl (by decide) rfl ?_
        refine jr.pick [0, 1, 2, 3, 4] rfl rfl ?_
        exact r_isRow_L225 hI_M hH_M hS_M ht_M q 1 n o (by omega) (by omega) (by omega) (by omega) (by omega) (by omega) (by omega)
      · refine jr.if_eq rfl rfl (by omega) (fun _ => ?_) (fun h => absurd (by decide) h)
        refine jr.iconst rfl ?_
        refine jr.istore rfl (by decide) rfl ?_
        refine jr.pick [0, 1, 2, 3, 4] rfl rfl ?_
        exact r_isRow_L225 hI_M hH_M hS_M ht_M q 0 n o (by omega) (by omega) (by omega) (by omega) (by omega) (by omega) (by omega)
theorem r_isRow_L142 {A : Nat → Option (Nat × (Nat → Int32))} {Q : Option Value → jm → Prop} {T : jm} {o0 : Int} {n0 : Int} {M : jm} (hI_M : RI M) (hH_M : RH M) (hS_M : RF M) (ht_M : Kp T M) (q : ∀ (r : Int), 0 ≤ r ∧ r ≤ 1 → (r = 1 → (48 * o0 + 48 ≤ n0 ∧ o0 ≤ 23 ∧ (M 599 (48 * o0) = 6 → 1 ≤ M 599 (48 * o0 + 1) % 16 ∧ M 599 (48 * o0 + 1) % 16 ≤ 10))) → Q (some (.int (Int32.ofInt r))) M) : ∀ (b : Int) (w : Int) (n : Int) (o : Int), 0 ≤ b ∧ b ≤ 1 → 0 ≤ w ∧ w ≤ 1 → 0 ≤ n ∧ n ≤ 1600 → 0 ≤ o ∧ o ≤ 23 → (w = 1 → (48 * o + 48 ≤ n ∧ o ≤ 23 ∧ (M 599 (48 * o) = 6 → 1 ≤ M 599 (48 * o + 1) % 16 ∧ M 599 (48 * o + 1) % 16 ≤ 10))) → 48 * o + 48 ≤ n → o = o0 → n = n0 → jr A 4 xm_331 142 [(7, .int (Int32.ofInt (b))), (6, .int (Int32.ofInt (w))), (2, .int (Int32.ofInt (n))), (1, .int (Int32.ofInt (o))), (3, .int (Int32.ofInt (48 * o))), (0, .ref (598))] [] M Q := by
    intro b w n o h_b h_w h_n h_o hy0 hy1 hy2 hy3
    subst hy2
    subst hy3
    refine jr.iload rfl rfl ?_
    refine jr.if_eq rfl rfl (by omega) (fun h144 => ?_) (fun h144 => ?_)
    · refine jr.iconst rfl ?_
      refine jr.istore rfl (by decide) rfl ?_
      refine jr.pick [0, 2, 3, 4, 5] rfl rfl ?_
      exact r_isRow_L195 hI_M hH_M hS_M ht_M q 0 n o (by omega) (by omega) (by omega) (by omega) (by omega) (by omega) (by omega)
    · refine jr.iload rfl rfl ?_
      refine jr.if_eq rfl rfl (by omega) (fun h149 => ?_) (fun h149 => ?_)
      · refine jr.iconst rfl ?_
        refine jr.goto rfl rfl ?_
        refine jr.istore rfl (by decide) rfl ?_
        refine jr.pick [0, 2, 3, 4, 5] rfl rfl ?_
        exact r_isRow_L195 hI_M hH_M hS_M ht_M q 1 n o (by omega) (by omega) (by omega) (by omega) (by omega) (by omega) (by omega)
      · refine jr.aload_n rfl rfl ?_
        refine jr.iload_n rfl rfl ?_
        refine jr.bipush rfl (by decide) ?_
        refine jr.iadd rfl ?_
        refine jr_v rfl rfl (Or.inl rfl) rfl rfl (by decide) rfl ⟨rfl, Nat.le_of_ble_eq_true rfl, Nat.le_of_ble_eq_true rfl⟩ rfl (jc.deep (r_takenEight hI_M hH_M hS_M ht_M (by omega)  (fun r1 z1  => ?_)) (by decide))
        refine jr.lconst (x := 0) rfl (by decide) ?_
        refine jr.ldc2 (x := 4294967295) rfl rfl (by decide) ?_
        refine jr_s rfl rfl (Or.inl rfl) ⟨Nat.le_of_ble_eq_true rfl, Nat.le_of_ble_eq_true rfl⟩ rfl rfl (jc.deep (c_within (by omega) (by omega) (by omega) (fun l164 u164 => ?_) (fun n164 => ?_)) (by decide))
        · refine jr.if_eq rfl rfl (by omega) (fun h => absurd h (by decide)) (fun _ => ?_)
          refine jr.aload_n rfl rfl ?_
          refine jr.iload_n rfl rfl ?_
          refine jr.bipush rfl (by decide) ?_
          refine jr.iadd rfl ?_
          refine jr_v rfl rfl (Or.inl rfl) rfl rfl (by decide) rfl ⟨rfl, Nat.le_of_ble_eq_true rfl, Nat.le_of_ble_eq_true rfl⟩ rfl (jc.deep (r_takenEight hI_M hH_M hS_M ht_M (by omega)  (fun r2 z2  => ?_)) (by decide))
          refine jr.lconst (x := 0) rfl (by decide) ?_
          refine jr.ldc2 (x := 4294967295) rfl rfl (by decide) ?_
          refine jr_s rfl rfl (Or.inl rfl) ⟨Nat.le_of_ble_eq_true rfl, Nat.le_of_ble_eq_true rfl⟩ rfl rfl (jc.deep (c_within (by omega) (by omega) (by omega) (fun l182 u182 => ?_) (fun n182 => ?_)) (by decide))
          · refine jr.if_eq rfl rfl (by omega) (fun h => absurd h (by decide)) (fun _ => ?_)
            refine jr.iconst rfl ?_
            refine jr.goto rfl rfl ?_
            refine jr.istore rfl (by decide) rfl ?_
            refine jr.pick [0, 2, 3, 4, 5] rfl rfl ?_
            exact r_isRow_L195 hI_M hH_M hS_M ht_M q 1 n o (by omega) (by omega) (by omega) (by omega) (by omega) (by omega) (by omega)
          · refine jr.if_eq rfl rfl (by omega) (fun _ => ?_) (fun h => absurd (by decide) h)
            refine jr.iconst rfl ?_
            refine jr.istore rfl (by decide) rfl ?_
            refine jr.pick [0, 2, 3, 4, 5] rfl rfl ?_
            exact r_isRow_L195 hI_M hH_M hS_M ht_M q 0 n o (by omega) (by omega) (by omega) (by omega) (by omega) (by omega) (by omega)
        · refine jr.if_eq rfl rfl (by omega) (fun _ => ?_) (fun h => absurd (by decide) h)
          refine jr.iconst rfl ?_
          refine jr.istore rfl (by decide) rfl ?_
          refine jr.pick [0, 2, 3, 4, 5] rfl rfl ?_
          exact r_isRow_L195 hI_M hH_M hS_M ht_M q 0 n o (by omega) (by omega) (by omega) (by omega) (by omega) (by omega) (by omega)
theorem r_isRow_L121 {A : Nat → Option (Nat × (Nat → Int32))} {Q : Option Value → jm → Prop} {T : jm} {o0 : Int} {n0 : Int} {M : jm} (hI_M : RI M) (hH_M : RH M) (hS_M : RF M) (ht_M : Kp T M) (q : ∀ (r : Int), 0 ≤ r ∧ r ≤ 1 → (r = 1 → (48 * o0 + 48 ≤ n0 ∧ o0 ≤ 23 ∧ (M 599 (48 * o0) = 6 → 1 ≤ M 599 (48 * o0 + 1) % 16 ∧ M 599 (48 * o0 + 1) % 16 ≤ 10))) → Q (some (.int (Int32.ofInt r))) M) : ∀ (w : Int) (n : Int) (o : Int), 0 ≤ w ∧ w ≤ 1 → 0 ≤ n ∧ n ≤ 1600 → 0 ≤ o ∧ o ≤ 23 → (w = 1 → (48 * o + 48 ≤ n ∧ o ≤ 23 ∧ (M 599 (48 * o) = 6 → 1 ≤ M 599 (48 * o + 1) % 16 ∧ M 599 (48 * o + 1) % 16 ≤ 10))) → 48 * o + 48 ≤ n → o = o0 → n = n0 → jr A 4 xm_331 121 [(6, .int (Int32.ofInt (w))), (2, .int (Int32.ofInt (n))), (1, .int (Int32.ofInt (o))), (3, .int (Int32.ofInt (48 * o))), (0, .ref (598))] [] M Q := by
    intro w n o h_w h_n h_o hy0 hy1 hy2 hy3
    subst hy2
    subst hy3
    refine jr.aload_n rfl rfl ?_
    refine jr.getf (i := 0) (v := .ref 599) rfl rfl (by decide) rfl (by decide) rfl rfl rfl rfl ?_
    refine jr.iload_n rfl rfl ?_
    refine jr.iconst rfl ?_
    refine jr.iadd rfl ?_
    obtain ⟨v1, e1⟩ : ∃ z, M 599 ((48 * o) + 1) = z := ⟨_, rfl⟩
    have b1 : 0 ≤ v1 ∧ v1 ≤ 255 := by rw [← e1]; exact (by have q := hI_M 599 ((48 * o) + 1) (by decide); rw [xri_row rfl rfl] at q; exact q)
    refine jr.iald (i := ((48 * o) + 1)) (x := v1) rfl (by decide) rfl (by decide) (by omega) (by omega) e1 ?_
    refine jr.bipush rfl (by decide) ?_
    refine jr.iand rfl ?_
    have b2 : 0 ≤ j_and v1 16 ∧ j_and v1 16 ≤ 16 := j_and_le (by decide)
    generalize j_and v1 16 = v2 at b2 ⊢
    refine jr.if_ne rfl rfl (by omega) (fun h132 => ?_) (fun h132 => ?_)
    · refine jr.iconst rfl ?_
      refine jr.istore rfl (by decide) rfl ?_
      refine jr.pick [0, 1, 2, 3, 4, 5] rfl rfl ?_
      exact r_isRow_L142 hI_M hH_M hS_M ht_M q 0 w n o (by omega) (by omega) (by omega) (by omega) (by omega) (by omega) (by omega) (by omega)
    · refine jr.iconst rfl ?_
      refine jr.goto rfl rfl ?_
      refine jr.istore rfl (by decide) rfl ?_
      refine jr.pick [0, 1, 2, 3, 4, 5] rfl rfl ?_
      exact r_isRow_L142 hI_M hH_M hS_M ht_M q 1 w n o (by omega) (by omega) (by omega) (by omega) (by omega) (by omega) (by omega) (by omega)
theorem r_isRow {A : Nat → Option (Nat × (Nat → Int32))} {Q : Option Value → jm → Prop} {T : jm} {M : jm} (hI_M : RI M) (hH_M : RH M) (hS_M : RF M) (ht_M : Kp T M) {o : Int} (h_o : 0 ≤ o ∧ o ≤ 33) {n : Int} (h_n : 0 ≤ n ∧ n ≤ 1600) (q : ∀ (r : Int), 0 ≤ r ∧ r ≤ 1 → (r = 1 → (48 * o + 48 ≤ n ∧ o ≤ 23 ∧ (M 599 (48 * o) = 6 → 1 ≤ M 599 (48 * o + 1) % 16 ∧ M 599 (48 * o + 1) % 16 ≤ 10))) → Q (some (.int (Int32.ofInt r))) M) : jc A 5 331 [.ref (598), .int (Int32.ofInt (o)), .int (Int32.ofInt (n))] M Q := by
  refine jc_of (m := xm_331) rfl (Nat.le_of_ble_eq_true rfl) rfl ?_
  refine jr.bipush rfl (by decide) ?_
  refine jr.iload_n rfl rfl ?_
  refine jr.imul rfl ?_
  refine jr.istore_n rfl (by decide) rfl ?_
  refine jr.iload_n rfl rfl ?_
  refine jr.bipush rfl (by decide) ?_
  refine jr.iadd rfl ?_
  refine jr.iload_n rfl rfl ?_
  refine jr.icmp_gt rfl rfl (by omega) (by omega) (fun h10 => ?_) (fun h10 => ?_)
  · refine jr.iconst rfl ?_
    exact jr.ireturn rfl rfl rfl (q _ (by omega) (by omega))
  · refine jr.iload_n rfl rfl ?_
    refine jr.bipush rfl (by decide) ?_
    refine jr.icmp_ge rfl rfl (by omega) (by omega) (fun h16 => ?_) (fun h16 => ?_)
    · refine jr.iconst rfl ?_
      exact jr.ireturn rfl rfl rfl (q _ (by omega) (by omega))
    · refine jr.aload_n rfl rfl ?_
      refine jr.iload_n rfl rfl ?_
      refine jr.iload_n rfl rfl ?_
      refine jr.bipush rfl (by decide) ?_
      refine jr.iadd rfl ?_
      refine jr_v rfl rfl (Or.inl rfl) rfl rfl (by decide) rfl ⟨rfl, Nat.le_of_ble_eq_true rfl, Nat.le_of_ble_eq_true rfl⟩ rfl (jc.deep (r_sumOfTape hI_M hH_M hS_M ht_M (by omega) (by omega) (by omega) (fun r1 z1  => ?_)) (by decide))
      refine jr.aload_n rfl rfl ?_
      refine jr.iload_n rfl rfl ?_
      refine jr.bipush rfl (by decide) ?_
      refine jr.iadd rfl ?_
      refine jr_v rfl rfl (Or.inl rfl) rfl rfl (by decide) rfl ⟨rfl, Nat.le_of_ble_eq_true rfl, Nat.le_of_ble_eq_true rfl⟩ rfl (jc.deep (r_takenTwo hI_M hH_M hS_M ht_M (by omega)  (fun r2 z2  => ?_)) (by decide))
      refine jr.icmp_eq rfl rfl (by omega) (by omega) (fun h36 => ?_) (fun h36 => ?_)
      · refine jr.aload_n rfl rfl ?_
        refine jr.getf (i := 0) (v := .ref 599) rfl rfl (by decide) rfl (by decide) rfl rfl rfl rfl ?_
        refine jr.iload_n rfl rfl ?_
        obtain ⟨v3, e3⟩ : ∃ z, M 599 (48 * o) = z := ⟨_, rfl⟩
        have b3 : 0 ≤ v3 ∧ v3 ≤ 255 := by rw [← e3]; exact (by have q := hI_M 599 (48 * o) (by decide); rw [xri_row rfl rfl] at q; exact q)
        refine jr.iald (i := (48 * o)) (x := v3) rfl (by decide) rfl (by decide) (by omega) (by omega) e3 ?_
        refine jr.istore rfl (by decide) rfl ?_
        refine jr.aload_n rfl rfl ?_
        refine jr.getf (i := 0) (v := .ref 599) rfl rfl (by decide) rfl (by decide) rfl rfl rfl rfl ?_
        refine jr.iload_n rfl rfl ?_
        refine jr.iconst rfl ?_
        refine jr.iadd rfl ?_
        obtain ⟨v4, e4⟩ : ∃ z, M 599 ((48 * o) + 1) = z := ⟨_, rfl⟩
        have b4 : 0 ≤ v4 ∧ v4 ≤ 255 := by rw [← e4]; exact (by have q := hI_M 599 ((48 * o) + 1) (by decide); rw [xri_row rfl rfl] at q; exact q)
        refine jr.iald (i := ((48 * o) + 1)) (x := v4) rfl (by decide) rfl (by decide) (by omega) (by omega) e4 ?_
        refine jr.bipush rfl (by decide) ?_
        refine jr.iand rfl ?_
        have b5 : j_and v4 15 = v4 % 16 := j_and_mask 4 (by decide) (by omega) (by omega)
        generalize j_and v4 15 = v5 at b5 ⊢
        refine jr.istore rfl (by decide) rfl ?_
        refine jr.iload rfl rfl ?_
        refine jr.iconst rfl ?_
        refine jr.icmp_ne rfl rfl (by omega) (by omega) (fun h65 => ?_) (fun h65 => ?_)
        · refine jr.iload rfl rfl ?_
          refine jr.bipush rfl (by decide) ?_
          refine jr.icmp_ne rfl rfl (by omega) (by omega) (fun h85 => ?_) (fun h85 => ?_)
          · refine jr.iload rfl rfl ?_
            refine jr.bipush rfl (by decide) ?_
            refine jr.icmp_ne rfl rfl (by omega) (by omega) (fun h105 => ?_) (fun h105 => ?_)
            · refine jr.iconst rfl ?_
              refine jr.istore rfl (by decide) rfl ?_
              refine jr.pick [0, 6, 5, 3, 4] rfl rfl ?_
              exact r_isRow_L121 hI_M hH_M hS_M ht_M q 0 n o (by omega) (by omega) (by omega) (by omega) (by omega) (by omega) (by omega)
            · refine jr.iload rfl rfl ?_
              refine jr.iconst rfl ?_
              refine jr.icmp_gt rfl rfl (by omega) (by omega) (fun h111 => ?_) (fun h111 => ?_)
              · refine jr.iconst rfl ?_
                refine jr.istore rfl (by decide) rfl ?_
                refine jr.pick [0, 6, 5, 3, 4] rfl rfl ?_
                exact r_isRow_L121 hI_M hH_M hS_M ht_M q 0 n o (by omega) (by omega) (by omega) (by omega) (by omega) (by omega) (by omega)
              · refine jr.iconst rfl ?_
                refine jr.goto rfl rfl ?_
                refine jr.istore rfl (by decide) rfl ?_
                refine jr.pick [0, 6, 5, 3, 4] rfl rfl ?_
                exact r_isRow_L121 hI_M hH_M hS_M ht_M q 1 n o (by omega) (by omega) (by omega) (by omega) (by omega) (by omega) (by omega)
          · refine jr.iload rfl rfl ?_
            refine jr.i2l rfl (by omega) ?_
            refine jr.lconst (x := 1) rfl (by decide) ?_
            refine jr.ldc2 (x := 10) rfl rfl (by decide) ?_
            refine jr_s rfl rfl (Or.inl rfl) ⟨Nat.le_of_ble_eq_true rfl, Nat.le_of_ble_eq_true rfl⟩ rfl rfl (jc.deep (c_within (by omega) (by omega) (by omega) (fun l95 u95 => ?_) (fun n95 => ?_)) (by decide))
            · refine jr.goto rfl rfl ?_
              refine jr.istore rfl (by decide) rfl ?_
              refine jr.pick [0, 6, 5, 3, 4] rfl rfl ?_
              exact r_isRow_L121 hI_M hH_M hS_M ht_M q 1 n o (by omega) (by omega) (by omega) (by omega) (by omega) (by omega) (by omega)
            · refine jr.goto rfl rfl ?_
              refine jr.istore rfl (by decide) rfl ?_
              refine jr.pick [0, 6, 5, 3, 4] rfl rfl ?_
              exact r_isRow_L121 hI_M hH_M hS_M ht_M q 0 n o (by omega) (by omega) (by omega) (by omega) (by omega) (by omega) (by omega)
        · refine jr.iload rfl rfl ?_
          refine jr.if_ne rfl rfl (by omega) (fun h70 => ?_) (fun h70 => ?_)
          · refine jr.iconst rfl ?_
            refine jr.goto rfl rfl ?_
            refine jr.istore rfl (by decide) rfl ?_
            refine jr.pick [0, 6, 5, 3, 4] rfl rfl ?_
            exact r_isRow_L121 hI_M hH_M hS_M ht_M q 0 n o (by omega) (by omega) (by omega) (by omega) (by omega) (by omega) (by omega)
          · refine jr.iconst rfl ?_
            refine jr.goto rfl rfl ?_
            refine jr.istore rfl (by decide) rfl ?_
            refine jr.pick [0, 6, 5, 3, 4] rfl rfl ?_
            exact r_isRow_L121 hI_M hH_M hS_M ht_M q 1 n o (by omega) (by omega) (by omega) (by omega) (by omega) (by omega) (by omega)
      · refine jr.iconst rfl ?_
        exact jr.ireturn rfl rfl rfl (q _ (by omega) (by omega))
theorem r_takeRow_L73 {A : Nat → Option (Nat × (Nat → Int32))} {Q : Option Value → jm → Prop} {T : jm} {M0 : jm} (q : ∀ (M' : jm), RI M' → RH M' → RF M' → Kp T M' → (∀ (a : Nat) (i : Int), a ≠ 628 → a ≠ 629 → a ≠ 630 → a ≠ 631 → a ≠ 632 → a ≠ 633 → a ≠ 634 → a ≠ 635 → a ≠ 636 → a ≠ 637 → a ≠ 638 → a ≠ 639 → a ≠ 640 → M' a i = M0 a i) → Q none M') : ∀ (nM : Nat) (M : jm) (s : Int) (f : Int), RI M → RH M → RF M → Kp T M → (∀ (a : Nat) (i : Int), a ≠ 628 → a ≠ 629 → a ≠ 630 → a ≠ 631 → a ≠ 632 → a ≠ 633 → a ≠ 634 → a ≠ 635 → a ≠ 636 → a ≠ 637 → a ≠ 638 → a ≠ 639 → a ≠ 640 → M a i = M0 a i) → 0 ≤ s ∧ s ≤ 2 → 0 ≤ f ∧ f ≤ 23 → 2 - s ≤ nM → jr A 3 xm_333 73 [(3, .int (Int32.ofInt (s))), (1, .int (Int32.ofInt (f))), (2, .int (Int32.ofInt (48 * f))), (0, .ref (598))] [] M Q := by
  intro nM
  induction nM using Nat.strongRecOn with
  | ind nM ih =>
    intro M s f hI_M hH_M hS_M ht_M hF_M h_s h_f hm
    refine jr.iload_n rfl rfl ?_
    refine jr.iconst rfl ?_
    refine jr.icmp_ge rfl rfl (by omega) (by omega) (fun h75 => ?_) (fun h75 => ?_)
    · refine jr.aload_n rfl rfl ?_
      refine jr.getf (i := 51) (v := .ref 639) rfl rfl (by decide) rfl (by decide) rfl rfl rfl rfl ?_
      refine jr.iload_n rfl rfl ?_
      refine jr.aload_n rfl rfl ?_
      obtain ⟨v1, e1⟩ : ∃ z, M 598 2 = z := ⟨_, rfl⟩
      have b1 : 0 ≤ v1 ∧ v1 ≤ 2000000 := by rw [← e1]; exact hI_M 598 2 (by decide)
      refine jr.getf (i := 2) (x := v1) (v := .int (Int32.ofInt (v1))) rfl rfl (by decide) rfl (by decide) rfl rfl e1 rfl ?_
      refine jr.aload_n rfl rfl ?_
      refine jr.iload_n rfl rfl ?_
      refine jr.bipush rfl (by decide) ?_
      refine jr.iadd rfl ?_
      refine jr_v rfl rfl (Or.inl rfl) rfl rfl (by decide) rfl ⟨rfl, Nat.le_of_ble_eq_true rfl, Nat.le_of_ble_eq_true rfl⟩ rfl (jc.deep (r_takenFour hI_M hH_M hS_M ht_M (by omega)  (fun r2 z2  => ?_)) (by decide))
      refine jr.l2i rfl ?_
      refine jr.iw (j_w r2) (j_w_eq _) ?_
      have b3 : -2147483648 ≤ j_w r2 ∧ j_w r2 ≤ 2147483647 := jb_any _
      generalize j_w r2 = v3 at b3 ⊢
      refine jr.iadd rfl ?_
      refine jr.iw (j_w (v1 + v3)) (j_w_eq _) ?_
      have b4 : -2147483648 ≤ j_w (v1 + v3) ∧ j_w (v1 + v3) ≤ 2147483647 := jb_any _
      generalize j_w (v1 + v3) = v4 at b4 ⊢
      refine jr.iast (i := f) (x := v4) rfl (by decide) rfl (by decide) (by omega) (by omega) ?_
      refine jr.aload_n rfl rfl ?_
      refine jr.getf (i := 48) (v := .ref 636) rfl rfl (by decide) rfl (by decide) rfl rfl rfl rfl ?_
      refine jr.iconst rfl ?_
      refine jr.iload_n rfl rfl ?_
      refine jr.imul rfl ?_
      refine jr.aload_n rfl rfl ?_
      refine jr.iload_n rfl rfl ?_
      refine jr.bipush rfl (by decide) ?_
      refine jr.iadd rfl ?_
      refine jr_v rfl rfl (Or.inl rfl) rfl rfl (by decide) rfl ⟨rfl, Nat.le_of_ble_eq_true rfl, Nat.le_of_ble_eq_true rfl⟩ rfl (jc.deep (r_takenFour (RI.u hI_M (a := 639) (i := f) (by rw [xri_row rfl rfl]; show (-2147483648 : Int) ≤ _ ∧ _ ≤ (2147483647 : Int); omega)) (RH.o hH_M (by decide) (by decide) (by decide)) (RF.o hS_M (by decide) (by decide)) (Kp.o ht_M rfl) (by omega)  (fun r5 z5  => ?_)) (by decide))
      refine jr.last (i := (2 * f)) (x := r5) rfl (by decide) rfl (by decide) (by omega) (by omega) ?_
      refine jr.aload_n rfl rfl ?_
      refine jr.getf (i := 49) (v := .ref 637) rfl rfl (by decide) rfl (by decide) rfl rfl rfl rfl ?_
      refine jr.iconst rfl ?_
      refine jr.iload_n rfl rfl ?_
      refine jr.imul rfl ?_
      refine jr.aload_n rfl rfl ?_
      refine jr.iload_n rfl rfl ?_
      refine jr.bipush rfl (by decide) ?_
      refine jr.iadd rfl ?_
      refine jr_v rfl rfl (Or.inl rfl) rfl rfl (by decide) rfl ⟨rfl, Nat.le_of_ble_eq_true rfl, Nat.le_of_ble_eq_true rfl⟩ rfl (jc.deep (r_takenFour (RI.u (RI.u hI_M (a := 639) (i := f) (by rw [xri_row rfl rfl]; show (-2147483648 : Int) ≤ _ ∧ _ ≤ (2147483647 : Int); omega)) (a := 636) (i := (2 * f)) (by rw [xri_row rfl rfl]; show (-9223372036854775808 : Int) ≤ _ ∧ _ ≤ (9223372036854775807 : Int); omega)) (RH.o (RH.o hH_M (by decide) (by decide) (by decide)) (by decide) (by decide) (by decide)) (RF.o (RF.o hS_M (by decide) (by decide)) (by decide) (by decide)) (Kp.o (Kp.o ht_M rfl) rfl) (by omega)  (fun r6 z6  => ?_)) (by decide))
      refine jr.last (i := (2 * f)) (x := r6) rfl (by decide) rfl (by decide) (by omega) (by omega) ?_
      exact jr.vreturn rfl rfl (q _ (RI.u (RI.u (RI.u hI_M (a := 639) (i := f) (by rw [xri_row rfl rfl]; show (-2147483648 : Int) ≤ _ ∧ _ ≤ (2147483647 : Int); omega)) (a := 636) (i := (2 * f)) (by rw [xri_row rfl rfl]; show (-9223372036854775808 : Int) ≤ _ ∧ _ ≤ (9223372036854775807 : Int); omega)) (a := 637) (i := (2 * f)) (by rw [xri_row rfl rfl]; show (-9223372036854775808 : Int) ≤ _ ∧ _ ≤ (9223372036854775807 : Int); omega)) (RH.o (RH.o (RH.o hH_M (by decide) (by decide) (by decide)) (by decide) (by decide) (by decide)) (by decide) (by decide) (by decide)) (RF.o (RF.o (RF.o hS_M (by decide) (by decide)) (by decide) (by decide)) (by decide) (by decide)) (Kp.o (Kp.o (Kp.o ht_M rfl) rfl) rfl) (fun a i f628 f629 f630 f631 f632 f633 f634 f635 f636 f637 f638 f639 f640 => ((ju_c _ _ f637).trans ((ju_c _ _ f636).trans ((ju_c _ _ f639).trans (hF_M a i f628 f629 f630 f631 f632 f633 f634 f635 f636 f637 f638 f639 f640))))))
    · refine jr.aload_n rfl rfl ?_
      refine jr.getf (i := 44) (v := .ref 632) rfl rfl (by decide) rfl (by decide) rfl rfl rfl rfl ?_
      refine jr.iconst rfl ?_
      refine jr.iload_n rfl rfl ?_
      refine jr.imul rfl ?_
      refine jr.iload_n rfl rfl ?_
      refine jr.iadd rfl ?_
      refine jr.aload_n rfl rfl ?_
      refine jr.getf (i := 0) (v := .ref 599) rfl rfl (by decide) rfl (by decide) rfl rfl rfl rfl ?_
      refine jr.iload_n rfl rfl ?_
      refine jr.iconst rfl ?_
      refine jr.iadd rfl ?_
      obtain ⟨v7, e7⟩ : ∃ z, M 599 ((48 * f) + 1) = z := ⟨_, rfl⟩
      have b7 : 0 ≤ v7 ∧ v7 ≤ 255 := by rw [← e7]; exact (by have q := hI_M 599 ((48 * f) + 1) (by decide); rw [xri_row rfl rfl] at q; exact q)
      refine jr.iald (i := ((48 * f) + 1)) (x := v7) rfl (by decide) rfl (by decide) (by omega) (by omega) e7 ?_
      refine jr.iload_n rfl rfl ?_
      refine jr.if_ne rfl rfl (by omega) (fun h96 => ?_) (fun h96 => ?_)
      · refine jr.bipush rfl (by decide) ?_
        refine jr.iand rfl ?_
        have b8 : 0 ≤ j_and v7 64 ∧ j_and v7 64 ≤ 64 := j_and_le (by decide)
        generalize j_and v7 64 = v8 at b8 ⊢
        refine jr.if_eq rfl rfl (by omega) (fun h107 => ?_) (fun h107 => ?_)
        · refine jr.iconst rfl ?_
          refine jr.zast (i := ((2 * f) + s)) (x := 0) rfl (by decide) rfl (by decide) (by omega) (by omega) (j_zn (by omega)) ?_
          refine jr.aload_n rfl rfl ?_
          refine jr.getf (i := 46) (v := .ref 634) rfl rfl (by decide) rfl (by decide) rfl rfl rfl rfl ?_
          refine jr.iconst rfl ?_
          refine jr.iload_n rfl rfl ?_
          refine jr.imul rfl ?_
          refine jr.iload_n rfl rfl ?_
          refine jr.iadd rfl ?_
          refine jr.iload_n rfl rfl ?_
          refine jr.if_eq rfl rfl (by omega) (fun h126 => ?_) (fun h126 => ?_)
          · exact absurd h126 (by omega)
          · refine jr.aload_n rfl rfl ?_
            refine jr.getf (i := 0) (v := .ref 599) rfl rfl (by decide) rfl (by decide) rfl rfl rfl rfl ?_
            refine jr.iload_n rfl rfl ?_
            refine jr.iconst rfl ?_
            refine jr.iadd rfl ?_
            refine jr.iald (i := ((48 * f) + 1)) (x := v7) rfl (by decide) rfl (by decide) (by omega) (by omega) ((ju_c _ _ (by decide)).trans e7) ?_
            refine jr.sipush rfl (by decide) ?_
            refine jr.iand rfl ?_
            have b9 : 0 ≤ j_and v7 128 ∧ j_and v7 128 ≤ 128 := j_and_le (by decide)
            generalize j_and v7 128 = v9 at b9 ⊢
            refine jr.if_eq rfl rfl (by omega) (fun h141 => ?_) (fun h141 => ?_)
            · refine jr.iconst rfl ?_
              refine jr.zast (i := ((2 * f) + s)) (x := 0) rfl (by decide) rfl (by decide) (by omega) (by omega) (j_zn (by omega)) ?_
              refine jr.aload_n rfl rfl ?_
              refine jr.getf (i := 43) (v := .ref 631) rfl rfl (by decide) rfl (by decide) rfl rfl rfl rfl ?_
              refine jr.iconst rfl ?_
              refine jr.iload_n rfl rfl ?_
              refine jr.imul rfl ?_
              refine jr.iload_n rfl rfl ?_
              refine jr.iadd rfl ?_
              refine jr.aload_n rfl rfl ?_
              refine jr.iload_n rfl rfl ?_
              refine jr.iconst rfl ?_
              refine jr.iadd rfl ?_
              refine jr.iconst rfl ?_
              refine jr.iload_n rfl rfl ?_
              refine jr.imul rfl ?_
              refine jr.iadd rfl ?_
              refine jr_v rfl rfl (Or.inl rfl) rfl rfl (by decide) rfl ⟨rfl, Nat.le_of_ble_eq_true rfl, Nat.le_of_ble_eq_true rfl⟩ rfl (jc.deep (r_takenTwo (RI.u (RI.u hI_M (a := 632) (i := ((2 * f) + s)) (by rw [xri_row rfl rfl]; show (0 : Int) ≤ _ ∧ _ ≤ (1 : Int); omega)) (a := 634) (i := ((2 * f) + s)) (by rw [xri_row rfl rfl]; show (0 : Int) ≤ _ ∧ _ ≤ (1 : Int); omega)) (RH.o (RH.o hH_M (by decide) (by decide) (by decide)) (by decide) (by decide) (by decide)) (RF.o (RF.o hS_M (by decide) (by decide)) (by decide) (by decide)) (Kp.o (Kp.o ht_M rfl) rfl) (by omega)  (fun r10 z10  => ?_)) (by decide))
              refine jr.iast (i := ((2 * f) + s)) (x := r10) rfl (by decide) rfl (by decide) (by omega) (by omega) ?_
              refine jr.aload_n rfl rfl ?_
              refine jr.getf (i := 47) (v := .ref 635) rfl rfl (by decide) rfl (by decide) rfl rfl rfl rfl ?_
              refine jr.iconst rfl ?_
              refine jr.iload_n rfl rfl ?_
              refine jr.imul rfl ?_
              refine jr.iload_n rfl rfl ?_
              refine jr.iadd rfl ?_
              refine jr.aload_n rfl rfl ?_
              refine jr.iload_n rfl rfl ?_
              refine jr.bipush rfl (by decide) ?_
              refine jr.iadd rfl ?_
              refine jr.iconst rfl ?_
              refine jr.iload_n rfl rfl ?_
              refine jr.imul rfl ?_
              refine jr.iadd rfl ?_
              refine jr_v rfl rfl (Or.inl rfl) rfl rfl (by decide) rfl ⟨rfl, Nat.le_of_ble_eq_true rfl, Nat.le_of_ble_eq_true rfl⟩ rfl (jc.deep (r_takenTwo (RI.u (RI.u (RI.u hI_M (a := 632) (i := ((2 * f) + s)) (by rw [xri_row rfl rfl]; show (0 : Int) ≤ _ ∧ _ ≤ (1 : Int); omega)) (a := 634) (i := ((2 * f) + s)) (by rw [xri_row rfl rfl]; show (0 : Int) ≤ _ ∧ _ ≤ (1 : Int); omega)) (a := 631) (i := ((2 * f) + s)) (by rw [xri_row rfl rfl]; show (0 : Int) ≤ _ ∧ _ ≤ (65535 : Int); omega)) (RH.o (RH.o (RH.o hH_M (by decide) (by decide) (by decide)) (by decide) (by decide) (by decide)) (by decide) (by decide) (by decide)) (RF.o (RF.o (RF.o hS_M (by decide) (by decide)) (by decide) (by decide)) (by decide) (by decide)) (Kp.o (Kp.o (Kp.o ht_M rfl) rfl) rfl) (by omega)  (fun r11 z11  => ?_)) (by decide))
              refine jr.iast (i := ((2 * f) + s)) (x := r11) rfl (by decide) rfl (by decide) (by omega) (by omega) ?_
              refine jr.aload_n rfl rfl ?_
              refine jr.getf (i := 42) (v := .ref 630) rfl rfl (by decide) rfl (by decide) rfl rfl rfl rfl ?_
              refine jr.iconst rfl ?_
              refine jr.iload_n rfl rfl ?_
              refine jr.imul rfl ?_
              refine jr.iload_n rfl rfl ?_
              refine jr.iadd rfl ?_
              refine jr.aload_n rfl rfl ?_
              refine jr.iload_n rfl rfl ?_
              refine jr.bipush rfl (by decide) ?_
              refine jr.iadd rfl ?_
              refine jr.bipush rfl (by decide) ?_
              refine jr.iload_n rfl rfl ?_
              refine jr.imul rfl ?_
              refine jr.iadd rfl ?_
              refine jr_v rfl rfl (Or.inl rfl) rfl rfl (by decide) rfl ⟨rfl, Nat.le_of_ble_eq_true rfl, Nat.le_of_ble_eq_true rfl⟩ rfl (jc.deep (r_takenEight (RI.u (RI.u (RI.u (RI.u hI_M (a := 632) (i := ((2 * f) + s)) (by rw [xri_row rfl rfl]; show (0 : Int) ≤ _ ∧ _ ≤ (1 : Int); omega)) (a := 634) (i := ((2 * f) + s)) (by rw [xri_row rfl rfl]; show (0 : Int) ≤ _ ∧ _ ≤ (1 : Int); omega)) (a := 631) (i := ((2 * f) + s)) (by rw [xri_row rfl rfl]; show (0 : Int) ≤ _ ∧ _ ≤ (65535 : Int); omega)) (a := 635) (i := ((2 * f) + s)) (by rw [xri_row rfl rfl]; show (0 : Int) ≤ _ ∧ _ ≤ (65535 : Int); omega)) (RH.o (RH.o (RH.o (RH.o hH_M (by decide) (by decide) (by decide)) (by decide) (by decide) (by decide)) (by decide) (by decide) (by decide)) (by decide) (by decide) (by decide)) (RF.o (RF.o (RF.o (RF.o hS_M (by decide) (by decide)) (by decide) (by decide)) (by decide) (by decide)) (by decide) (by decide)) (Kp.o (Kp.o (Kp.o (Kp.o ht_M rfl) rfl) rfl) rfl) (by omega)  (fun r12 z12  => ?_)) (by decide))
              refine jr.last (i := ((2 * f) + s)) (x := r12) rfl (by decide) rfl (by decide) (by omega) (by omega) ?_
              refine jr.aload_n rfl rfl ?_
              refine jr.getf (i := 45) (v := .ref 633) rfl rfl (by decide) rfl (by decide) rfl rfl rfl rfl ?_
              refine jr.iconst rfl ?_
              refine jr.iload_n rfl rfl ?_
              refine jr.imul rfl ?_
              refine jr.iload_n rfl rfl ?_
              refine jr.iadd rfl ?_
              refine jr.aload_n rfl rfl ?_
              refine jr.iload_n rfl rfl ?_
              refine jr.bipush rfl (by decide) ?_
              refine jr.iadd rfl ?_
              refine jr.iconst rfl ?_
              refine jr.iload_n rfl rfl ?_
              refine jr.imul rfl ?_
              refine jr.iadd rfl ?_
              refine jr_v rfl rfl (Or.inl rfl) rfl rfl (by decide) rfl ⟨rfl, Nat.le_of_ble_eq_true rfl, Nat.le_of_ble_eq_true rfl⟩ rfl (jc.deep (r_takenFour (RI.u (RI.u (RI.u (RI.u (RI.u hI_M (a := 632) (i := ((2 * f) + s)) (by rw [xri_row rfl rfl]; show (0 : Int) ≤ _ ∧ _ ≤ (1 : Int); omega)) (a := 634) (i := ((2 * f) + s)) (by rw [xri_row rfl rfl]; show (0 : Int) ≤ _ ∧ _ ≤ (1 : Int); omega)) (a := 631) (i := ((2 * f) + s)) (by rw [xri_row rfl rfl]; show (0 : Int) ≤ _ ∧ _ ≤ (65535 : Int); omega)) (a := 635) (i := ((2 * f) + s)) (by rw [xri_row rfl rfl]; show (0 : Int) ≤ _ ∧ _ ≤ (65535 : Int); omega)) (a := 630) (i := ((2 * f) + s)) (by rw [xri_row rfl rfl]; show (-9223372036854775808 : Int) ≤ _ ∧ _ ≤ (9223372036854775807 : Int); omega)) (RH.o (RH.o (RH.o (RH.o (RH.o hH_M (by decide) (by decide) (by decide)) (by decide) (by decide) (by decide)) (by decide) (by decide) (by decide)) (by decide) (by decide) (by decide)) (by decide) (by decide) (by decide)) (RF.o (RF.o (RF.o (RF.o (RF.o hS_M (by decide) (by decide)) (by decide) (by decide)) (by decide) (by decide)) (by decide) (by decide)) (by decide) (by decide)) (Kp.o (Kp.o (Kp.o (Kp.o (Kp.o ht_M rfl) rfl) rfl) rfl) rfl) (by omega)  (fun r13 z13  => ?_)) (by decide))
              refine jr.l2i rfl ?_
              refine jr.iw (j_w r13) (j_w_eq _) ?_
              have b14 : -2147483648 ≤ j_w r13 ∧ j_w r13 ≤ 2147483647 := jb_any _
              generalize j_w r13 = v14 at b14 ⊢
              refine jr.iast (i := ((2 * f) + s)) (x := v14) rfl (by decide) rfl (by decide) (by omega) (by omega) ?_
              refine jr.iinc rfl rfl (by decide) rfl ?_
              refine jr.goto rfl rfl ?_
              refine jr.pick [0, 1, 2, 3] rfl rfl ?_
              exact ih (nM - 1) (by omega) (ju (ju (ju (ju (ju (ju M 632 ((2 * f) + s) 0) 634 ((2 * f) + s) 0) 631 ((2 * f) + s) r10) 635 ((2 * f) + s) r11) 630 ((2 * f) + s) r12) 633 ((2 * f) + s) v14) (s + 1) f (RI.u (RI.u (RI.u (RI.u (RI.u (RI.u hI_M (a := 632) (i := ((2 * f) + s)) (by rw [xri_row rfl rfl]; show (0 : Int) ≤ _ ∧ _ ≤ (1 : Int); omega)) (a := 634) (i := ((2 * f) + s)) (by rw [xri_row rfl rfl]; show (0 : Int) ≤ _ ∧ _ ≤ (1 : Int); omega)) (a := 631) (i := ((2 * f) + s)) (by rw [xri_row rfl rfl]; show (0 : Int) ≤ _ ∧ _ ≤ (65535 : Int); omega)) (a := 635) (i := ((2 * f) + s)) (by rw [xri_row rfl rfl]; show (0 : Int) ≤ _ ∧ _ ≤ (65535 : Int); omega)) (a := 630) (i := ((2 * f) + s)) (by rw [xri_row rfl rfl]; show (-9223372036854775808 : Int) ≤ _ ∧ _ ≤ (9223372036854775807 : Int); omega)) (a := 633) (i := ((2 * f) + s)) (by rw [xri_row rfl rfl]; show (-2147483648 : Int) ≤ _ ∧ _ ≤ (2147483647 : Int); omega)) (RH.o (RH.o (RH.o (RH.o (RH.o (RH.o hH_M (by decide) (by decide) (by decide)) (by decide) (by decide) (by decide)) (by decide) (by decide) (by decide)) (by decide) (by decide) (by decide)) (by decide) (by decide) (by decide)) (by decide) (by decide) (by decide)) (RF.o (RF.o (RF.o (RF.o (RF.o (RF.o hS_M (by decide) (by decide)) (by decide) (by decide)) (by decide) (by decide)) (by decide) (by decide)) (by decide) (by decide)) (by decide) (by decide)) (Kp.o (Kp.o (Kp.o (Kp.o (Kp.o (Kp.o ht_M rfl) rfl) rfl) rfl) rfl) rfl) (fun a i f628 f629 f630 f631 f632 f633 f634 f635 f636 f637 f638 f639 f640 => ((ju_c _ _ f633).trans ((ju_c _ _ f630).trans ((ju_c _ _ f635).trans ((ju_c _ _ f631).trans ((ju_c _ _ f634).trans ((ju_c _ _ f632).trans (hF_M a i f628 f629 f630 f631 f632 f633 f634 f635 f636 f637 f638 f639 f640)))))))) (by omega) (by omega)  (by omega)
            · refine jr.iconst rfl ?_
              refine jr.goto rfl rfl ?_
              refine jr.zast (i := ((2 * f) + s)) (x := 1) rfl (by decide) rfl (by decide) (by omega) (by omega) (j_zn (by omega)) ?_
              refine jr.aload_n rfl rfl ?_
              refine jr.getf (i := 43) (v := .ref 631) rfl rfl (by decide) rfl (by decide) rfl rfl rfl rfl ?_
              refine jr.iconst rfl ?_
              refine jr.iload_n rfl rfl ?_
              refine jr.imul rfl ?_
              refine jr.iload_n rfl rfl ?_
              refine jr.iadd rfl ?_
              refine jr.aload_n rfl rfl ?_
              refine jr.iload_n rfl rfl ?_
              refine jr.iconst rfl ?_
              refine jr.iadd rfl ?_
              refine jr.iconst rfl ?_
              refine jr.iload_n rfl rfl ?_
              refine jr.imul rfl ?_
              refine jr.iadd rfl ?_
              refine jr_v rfl rfl (Or.inl rfl) rfl rfl (by decide) rfl ⟨rfl, Nat.le_of_ble_eq_true rfl, Nat.le_of_ble_eq_true rfl⟩ rfl (jc.deep (r_takenTwo (RI.u (RI.u hI_M (a := 632) (i := ((2 * f) + s)) (by rw [xri_row rfl rfl]; show (0 : Int) ≤ _ ∧ _ ≤ (1 : Int); omega)) (a := 634) (i := ((2 * f) + s)) (by rw [xri_row rfl rfl]; show (0 : Int) ≤ _ ∧ _ ≤ (1 : Int); omega)) (RH.o (RH.o hH_M (by decide) (by decide) (by decide)) (by decide) (by decide) (by decide)) (RF.o (RF.o hS_M (by decide) (by decide)) (by decide) (by decide)) (Kp.o (Kp.o ht_M rfl) rfl) (by omega)  (fun r15 z15  => ?_)) (by decide))
              refine jr.iast (i := ((2 * f) + s)) (x := r15) rfl (by decide) rfl (by decide) (by omega) (by omega) ?_
              refine jr.aload_n rfl rfl ?_
              refine jr.getf (i := 47) (v := .ref 635) rfl rfl (by decide) rfl (by decide) rfl rfl rfl rfl ?_
              refine jr.iconst rfl ?_
              refine jr.iload_n rfl rfl ?_
              refine jr.imul rfl ?_
              refine jr.iload_n rfl rfl ?_
              refine jr.iadd rfl ?_
              refine jr.aload_n rfl rfl ?_
              refine jr.iload_n rfl rfl ?_
              refine jr.bipush rfl (by decide) ?_
              refine jr.iadd rfl ?_
              refine jr.iconst rfl ?_
              refine jr.iload_n rfl rfl ?_
              refine jr.imul rfl ?_
              refine jr.iadd rfl ?_
              refine jr_v rfl rfl (Or.inl rfl) rfl rfl (by decide) rfl ⟨rfl, Nat.le_of_ble_eq_true rfl, Nat.le_of_ble_eq_true rfl⟩ rfl (jc.deep (r_takenTwo (RI.u (RI.u (RI.u hI_M (a := 632) (i := ((2 * f) + s)) (by rw [xri_row rfl rfl]; show (0 : Int) ≤ _ ∧ _ ≤ (1 : Int); omega)) (a := 634) (i := ((2 * f) + s)) (by rw [xri_row rfl rfl]; show (0 : Int) ≤ _ ∧ _ ≤ (1 : Int); omega)) (a := 631) (i := ((2 * f) + s)) (by rw [xri_row rfl rfl]; show (0 : Int) ≤ _ ∧ _ ≤ (65535 : Int); omega)) (RH.o (RH.o (RH.o hH_M (by decide) (by decide) (by decide)) (by decide) (by decide) (by decide)) (by decide) (by decide) (by decide)) (RF.o (RF.o (RF.o hS_M (by decide) (by decide)) (by decide) (by decide)) (by decide) (by decide)) (Kp.o (Kp.o (Kp.o ht_M rfl) rfl) rfl) (by omega)  (fun r16 z16  => ?_)) (by decide))
              refine jr.iast (i := ((2 * f) + s)) (x := r16) rfl (by decide) rfl (by decide) (by omega) (by omega) ?_
              refine jr.aload_n rfl rfl ?_
              refine jr.getf (i := 42) (v := .ref 630) rfl rfl (by decide) rfl (by decide) rfl rfl rfl rfl ?_
              refine jr.iconst rfl ?_
              refine jr.iload_n rfl rfl ?_
              refine jr.imul rfl ?_
              refine jr.iload_n rfl rfl ?_
              refine jr.iadd rfl ?_
              refine jr.aload_n rfl rfl ?_
              refine jr.iload_n rfl rfl ?_
              refine jr.bipush rfl (by decide) ?_
              refine jr.iadd rfl ?_
              refine jr.bipush rfl (by decide) ?_
              refine jr.iload_n rfl rfl ?_
              refine jr.imul rfl ?_
              refine jr.iadd rfl ?_
              refine jr_v rfl rfl (Or.inl rfl) rfl rfl (by decide) rfl ⟨rfl, Nat.le_of_ble_eq_true rfl, Nat.le_of_ble_eq_true rfl⟩ rfl (jc.deep (r_takenEight (RI.u (RI.u (RI.u (RI.u hI_M (a := 632) (i := ((2 * f) + s)) (by rw [xri_row rfl rfl]; show (0 : Int) ≤ _ ∧ _ ≤ (1 : Int); omega)) (a := 634) (i := ((2 * f) + s)) (by rw [xri_row rfl rfl]; show (0 : Int) ≤ _ ∧ _ ≤ (1 : Int); omega)) (a := 631) (i := ((2 * f) + s)) (by rw [xri_row rfl rfl]; show (0 : Int) ≤ _ ∧ _ ≤ (65535 : Int); omega)) (a := 635) (i := ((2 * f) + s)) (by rw [xri_row rfl rfl]; show (0 : Int) ≤ _ ∧ _ ≤ (65535 : Int); omega)) (RH.o (RH.o (RH.o (RH.o hH_M (by decide) (by decide) (by decide)) (by decide) (by decide) (by decide)) (by decide) (by decide) (by decide)) (by decide) (by decide) (by decide)) (RF.o (RF.o (RF.o (RF.o hS_M (by decide) (by decide)) (by decide) (by decide)) (by decide) (by decide)) (by decide) (by decide)) (Kp.o (Kp.o (Kp.o (Kp.o ht_M rfl) rfl) rfl) rfl) (by omega)  (fun r17 z17  => ?_)) (by decide))
              refine jr.last (i := ((2 * f) + s)) (x := r17) rfl (by decide) rfl (by decide) (by omega) (by omega) ?_
              refine jr.aload_n rfl rfl ?_
              refine jr.getf (i := 45) (v := .ref 633) rfl rfl (by decide) rfl (by decide) rfl rfl rfl rfl ?_
              refine jr.iconst rfl ?_
              refine jr.iload_n rfl rfl ?_
              refine jr.imul rfl ?_
              refine jr.iload_n rfl rfl ?_
              refine jr.iadd rfl ?_
              refine jr.aload_n rfl rfl ?_
              refine jr.iload_n rfl rfl ?_
              refine jr.bipush rfl (by decide) ?_
              refine jr.iadd rfl ?_
              refine jr.iconst rfl ?_
              refine jr.iload_n rfl rfl ?_
              refine jr.imul rfl ?_
              refine jr.iadd rfl ?_
              refine jr_v rfl rfl (Or.inl rfl) rfl rfl (by decide) rfl ⟨rfl, Nat.le_of_ble_eq_true rfl, Nat.le_of_ble_eq_true rfl⟩ rfl (jc.deep (r_takenFour (RI.u (RI.u (RI.u (RI.u (RI.u hI_M (a := 632) (i := ((2 * f) + s)) (by rw [xri_row rfl rfl]; show (0 : Int) ≤ _ ∧ _ ≤ (1 : Int); omega)) (a := 634) (i := ((2 * f) + s)) (by rw [xri_row rfl rfl]; show (0 : Int) ≤ _ ∧ _ ≤ (1 : Int); omega)) (a := 631) (i := ((2 * f) + s)) (by rw [xri_row rfl rfl]; show (0 : Int) ≤ _ ∧ _ ≤ (65535 : Int); omega)) (a := 635) (i := ((2 * f) + s)) (by rw [xri_row rfl rfl]; show (0 : Int) ≤ _ ∧ _ ≤ (65535 : Int); omega)) (a := 630) (i := ((2 * f) + s)) (by rw [xri_row rfl rfl]; show (-9223372036854775808 : Int) ≤ _ ∧ _ ≤ (9223372036854775807 : Int); omega)) (RH.o (RH.o (RH.o (RH.o (RH.o hH_M (by decide) (by decide) (by decide)) (by decide) (by decide) (by decide)) (by decide) (by decide) (by decide)) (by decide) (by decide) (by decide)) (by decide) (by decide) (by decide)) (RF.o (RF.o (RF.o (RF.o (RF.o hS_M (by decide) (by decide)) (by decide) (by decide)) (by decide) (by decide)) (by decide) (by decide)) (by decide) (by decide)) (Kp.o (Kp.o (Kp.o (Kp.o (Kp.o ht_M rfl) rfl) rfl) rfl) rfl) (by omega)  (fun r18 z18  => ?_)) (by decide))
              refine jr.l2i rfl ?_
              refine jr.iw (j_w r18) (j_w_eq _) ?_
              have b19 : -2147483648 ≤ j_w r18 ∧ j_w r18 ≤ 2147483647 := jb_any _
              generalize j_w r18 = v19 at b19 ⊢
              refine jr.iast (i := ((2 * f) + s)) (x := v19) rfl (by decide) rfl (by decide) (by omega) (by omega) ?_
              refine jr.iinc rfl rfl (by decide) rfl ?_
              refine jr.goto rfl rfl ?_
              refine jr.pick [0, 1, 2, 3] rfl rfl ?_
              exact ih (nM - 1) (by omega) (ju (ju (ju (ju (ju (ju M 632 ((2 * f) + s) 0) 634 ((2 * f) + s) 1) 631 ((2 * f) + s) r15) 635 ((2 * f) + s) r16) 630 ((2 * f) + s) r17) 633 ((2 * f) + s) v19) (s + 1) f (RI.u (RI.u (RI.u (RI.u (RI.u (RI.u hI_M (a := 632) (i := ((2 * f) + s)) (by rw [xri_row rfl rfl]; show (0 : Int) ≤ _ ∧ _ ≤ (1 : Int); omega)) (a := 634) (i := ((2 * f) + s)) (by rw [xri_row rfl rfl]; show (0 : Int) ≤ _ ∧ _ ≤ (1 : Int); omega)) (a := 631) (i := ((2 * f) + s)) (by rw [xri_row rfl rfl]; show (0 : Int) ≤ _ ∧ _ ≤ (65535 : Int); omega)) (a := 635) (i := ((2 * f) + s)) (by rw [xri_row rfl rfl]; show (0 : Int) ≤ _ ∧ _ ≤ (65535 : Int); omega)) (a := 630) (i := ((2 * f) + s)) (by rw [xri_row rfl rfl]; show (-9223372036854775808 : Int) ≤ _ ∧ _ ≤ (9223372036854775807 : Int); omega)) (a := 633) (i := ((2 * f) + s)) (by rw [xri_row rfl rfl]; show (-2147483648 : Int) ≤ _ ∧ _ ≤ (2147483647 : Int); omega)) (RH.o (RH.o (RH.o (RH.o (RH.o (RH.o hH_M (by decide) (by decide) (by decide)) (by decide) (by decide) (by decide)) (by decide) (by decide) (by decide)) (by decide) (by decide) (by decide)) (by decide) (by decide) (by decide)) (by decide) (by decide) (by decide)) (RF.o (RF.o (RF.o (RF.o (RF.o (RF.o hS_M (by decide) (by decide)) (by decide) (by decide)) (by decide) (by decide)) (by decide) (by decide)) (by decide) (by decide)) (by decide) (by decide)) (Kp.o (Kp.o (Kp.o (Kp.o (Kp.o (Kp.o ht_M rfl) rfl) rfl) rfl) rfl) rfl) (fun a i f628 f629 f630 f631 f632 f633 f634 f635 f636 f637 f638 f639 f640 => ((ju_c _ _ f633).trans ((ju_c _ _ f630).trans ((ju_c _ _ f635).trans ((ju_c _ _ f631).trans ((ju_c _ _ f634).trans ((ju_c _ _ f632).trans (hF_M a i f628 f629 f630 f631 f632 f633 f634 f635 f636 f637 f638 f639 f640)))))))) (by omega) (by omega)  (by omega)
        · refine jr.iconst rfl ?_
          refine jr.goto rfl rfl ?_
          refine jr.zast (i := ((2 * f) + s)) (x := 1) rfl (by decide) rfl (by decide) (by omega) (by omega) (j_zn (by omega)) ?_
          refine jr.aload_n rfl rfl ?_
          refine jr.getf (i := 46) (v := .ref 634) rfl rfl (by decide) rfl (by decide) rfl rfl rfl rfl ?_
          refine jr.iconst rfl ?_
          refine jr.iload_n rfl rfl ?_
          refine jr.imul rfl ?_
          refine jr.iload_n rfl rfl ?_
          refine jr.iadd rfl ?_
          refine jr.iload_n rfl rfl ?_
          refine jr.if_eq rfl rfl (by omega) (fun h126 => ?_) (fun h126 => ?_)
          · exact absurd h126 (by omega)
          · refine jr.aload_n rfl rfl ?_
            refine jr.getf (i := 0) (v := .ref 599) rfl rfl (by decide) rfl (by decide) rfl rfl rfl rfl ?_
            refine jr.iload_n rfl rfl ?_
            refine jr.iconst rfl ?_
            refine jr.iadd rfl ?_
            refine jr.iald (i := ((48 * f) + 1)) (x := v7) rfl (by decide) rfl (by decide) (by omega) (by omega) ((ju_c _ _ (by decide)).trans e7) ?_
            refine jr.sipush rfl (by decide) ?_
            refine jr.iand rfl ?_
            have b20 : 0 ≤ j_and v7 128 ∧ j_and v7 128 ≤ 128 := j_and_le (by decide)
            generalize j_and v7 128 = v20 at b20 ⊢
            refine jr.if_eq rfl rfl (by omega) (fun h141 => ?_) (fun h141 => ?_)
            · refine jr.iconst rfl ?_
              refine jr.zast (i := ((2 * f) + s)) (x := 0) rfl (by decide) rfl (by decide) (by omega) (by omega) (j_zn (by omega)) ?_
              refine jr.aload_n rfl rfl ?_
              refine jr.getf (i := 43) (v := .ref 631) rfl rfl (by decide) rfl (by decide) rfl rfl rfl rfl ?_
              refine jr.iconst rfl ?_
              refine jr.iload_n rfl rfl ?_
              refine jr.imul rfl ?_
              refine jr.iload_n rfl rfl ?_
              refine jr.iadd rfl ?_
              refine jr.aload_n rfl rfl ?_
              refine jr.iload_n rfl rfl ?_
              refine jr.iconst rfl ?_
              refine jr.iadd rfl ?_
              refine jr.iconst rfl ?_
              refine jr.iload_n rfl rfl ?_
              refine jr.imul rfl ?_
              refine jr.iadd rfl ?_
              refine jr_v rfl rfl (Or.inl rfl) rfl rfl (by decide) rfl ⟨rfl, Nat.le_of_ble_eq_true rfl, Nat.le_of_ble_eq_true rfl⟩ rfl (jc.deep (r_takenTwo (RI.u (RI.u hI_M (a := 632) (i := ((2 * f) + s)) (by rw [xri_row rfl rfl]; show (0 : Int) ≤ _ ∧ _ ≤ (1 : Int); omega)) (a := 634) (i := ((2 * f) + s)) (by rw [xri_row rfl rfl]; show (0 : Int) ≤ _ ∧ _ ≤ (1 : Int); omega)) (RH.o (RH.o hH_M (by decide) (by decide) (by decide)) (by decide) (by decide) (by decide)) (RF.o (RF.o hS_M (by decide) (by decide)) (by decide) (by decide)) (Kp.o (Kp.o ht_M rfl) rfl) (by omega)  (fun r21 z21  => ?_)) (by decide))
              refine jr.iast (i := ((2 * f) + s)) (x := r21) rfl (by decide) rfl (by decide) (by omega) (by omega) ?_
              refine jr.aload_n rfl rfl ?_
              refine jr.getf (i := 47) (v := .ref 635) rfl rfl (by decide) rfl (by decide) rfl rfl rfl rfl ?_
              refine jr.iconst rfl ?_
              refine jr.iload_n rfl rfl ?_
              refine jr.imul rfl ?_
              refine jr.iload_n rfl rfl ?_
              refine jr.iadd rfl ?_
              refine jr.aload_n rfl rfl ?_
              refine jr.iload_n rfl rfl ?_
              refine jr.bipush rfl (by decide) ?_
              refine jr.iadd rfl ?_
              refine jr.iconst rfl ?_
              refine jr.iload_n rfl rfl ?_
              refine jr.imul rfl ?_
              refine jr.iadd rfl ?_
              refine jr_v rfl rfl (Or.inl rfl) rfl rfl (by decide) rfl ⟨rfl, Nat.le_of_ble_eq_true rfl, Nat.le_of_ble_eq_true rfl⟩ rfl (jc.deep (r_takenTwo (RI.u (RI.u (RI.u hI_M (a := 632) (i := ((2 * f) + s)) (by rw [xri_row rfl rfl]; show (0 : Int) ≤ _ ∧ _ ≤ (1 : Int); omega)) (a := 634) (i := ((2 * f) + s)) (by rw [xri_row rfl rfl]; show (0 : Int) ≤ _ ∧ _ ≤ (1 : Int); omega)) (a := 631) (i := ((2 * f) + s)) (by rw [xri_row rfl rfl]; show (0 : Int) ≤ _ ∧ _ ≤ (65535 : Int); omega)) (RH.o (RH.o (RH.o hH_M (by decide) (by decide) (by decide)) (by decide) (by decide) (by decide)) (by decide) (by decide) (by decide)) (RF.o (RF.o (RF.o hS_M (by decide) (by decide)) (by decide) (by decide)) (by decide) (by decide)) (Kp.o (Kp.o (Kp.o ht_M rfl) rfl) rfl) (by omega)  (fun r22 z22  => ?_)) (by decide))
              refine jr.iast (i := ((2 * f) + s)) (x := r22) rfl (by decide) rfl (by decide) (by omega) (by omega) ?_
              refine jr.aload_n rfl rfl ?_
              refine jr.getf (i := 42) (v := .ref 630) rfl rfl (by decide) rfl (by decide) rfl rfl rfl rfl ?_
              refine jr.iconst rfl ?_
              refine jr.iload_n rfl rfl ?_
              refine jr.imul rfl ?_
              refine jr.iload_n rfl rfl ?_
              refine jr.iadd rfl ?_
              refine jr.aload_n rfl rfl ?_
              refine jr.iload_n rfl rfl ?_
              refine jr.bipush rfl (by decide) ?_
              refine jr.iadd rfl ?_
              refine jr.bipush rfl (by decide) ?_
              refine jr.iload_n rfl rfl ?_
              refine jr.imul rfl ?_
              refine jr.iadd rfl ?_
              refine jr_v rfl rfl (Or.inl rfl) rfl rfl (by decide) rfl ⟨rfl, Nat.le_of_ble_eq_true rfl, Nat.le_of_ble_eq_true rfl⟩ rfl (jc.deep (r_takenEight (RI.u (RI.u (RI.u (RI.u hI_M (a := 632) (i := ((2 * f) + s)) (by rw [xri_row rfl rfl]; show (0 : Int) ≤ _ ∧ _ ≤ (1 : Int); omega)) (a := 634) (i := ((2 * f) + s)) (by rw [xri_row rfl rfl]; show (0 : Int) ≤ _ ∧ _ ≤ (1 : Int); omega)) (a := 631) (i := ((2 * f) + s)) (by rw [xri_row rfl rfl]; show (0 : Int) ≤ _ ∧ _ ≤ (65535 : Int); omega)) (a := 635) (i := ((2 * f) + s)) (by rw [xri_row rfl rfl]; show (0 : Int) ≤ _ ∧ _ ≤ (65535 : Int); omega)) (RH.o (RH.o (RH.o (RH.o hH_M (by decide) (by decide) (by decide)) (by decide) (by decide) (by decide)) (by decide) (by decide) (by decide)) (by decide) (by decide) (by decide)) (RF.o (RF.o (RF.o (RF.o hS_M (by decide) (by decide)) (by decide) (by decide)) (by decide) (by decide)) (by decide) (by decide)) (Kp.o (Kp.o (Kp.o (Kp.o ht_M rfl) rfl) rfl) rfl) (by omega)  (fun r23 z23  => ?_)) (by decide))
              refine jr.last (i := ((2 * f) + s)) (x := r23) rfl (by decide) rfl (by decide) (by omega) (by omega) ?_
              refine jr.aload_n rfl rfl ?_
              refine jr.getf (i := 45) (v := .ref 633) rfl rfl (by decide) rfl (by decide) rfl rfl rfl rfl ?_
              refine jr.iconst rfl ?_
              refine jr.iload_n rfl rfl ?_
              refine jr.imul rfl ?_
              refine jr.iload_n rfl rfl ?_
              refine jr.iadd rfl ?_
              refine jr.aload_n rfl rfl ?_
              refine jr.iload_n rfl rfl ?_
              refine jr.bipush rfl (by decide) ?_
              refine jr.iadd rfl ?_
              refine jr.iconst rfl ?_
              refine jr.iload_n rfl rfl ?_
              refine jr.imul rfl ?_
              refine jr.iadd rfl ?_
              refine jr_v rfl rfl (Or.inl rfl) rfl rfl (by decide) rfl ⟨rfl, Nat.le_of_ble_eq_true rfl, Nat.le_of_ble_eq_true rfl⟩ rfl (jc.deep (r_takenFour (RI.u (RI.u (RI.u (RI.u (RI.u hI_M (a := 632) (i := ((2 * f) + s)) (by rw [xri_row rfl rfl]; show (0 : Int) ≤ _ ∧ _ ≤ (1 : Int); omega)) (a := 634) (i := ((2 * f) + s)) (by rw [xri_row rfl rfl]; show (0 : Int) ≤ _ ∧ _ ≤ (1 : Int); omega)) (a := 631) (i := ((2 * f) + s)) (by rw [xri_row rfl rfl]; show (0 : Int) ≤ _ ∧ _ ≤ (65535 : Int); omega)) (a := 635) (i := ((2 * f) + s)) (by rw [xri_row rfl rfl]; show (0 : Int) ≤ _ ∧ _ ≤ (65535 : Int); omega)) (a := 630) (i := ((2 * f) + s)) (by rw [xri_row rfl rfl]; show (-9223372036854775808 : Int) ≤ _ ∧ _ ≤ (9223372036854775807 : Int); omega)) (RH.o (RH.o (RH.o (RH.o (RH.o hH_M (by decide) (by decide) (by decide)) (by decide) (by decide) (by decide)) (by decide) (by decide) (by decide)) (by decide) (by decide) (by decide)) (by decide) (by decide) (by decide)) (RF.o (RF.o (RF.o (RF.o (RF.o hS_M (by decide) (by decide)) (by decide) (by decide)) (by decide) (by decide)) (by decide) (by decide)) (by decide) (by decide)) (Kp.o (Kp.o (Kp.o (Kp.o (Kp.o ht_M rfl) rfl) rfl) rfl) rfl) (by omega)  (fun r24 z24  => ?_)) (by decide))
              refine jr.l2i rfl ?_
              refine jr.iw (j_w r24) (j_w_eq _) ?_
              have b25 : -2147483648 ≤ j_w r24 ∧ j_w r24 ≤ 2147483647 := jb_any _
              generalize j_w r24 = v25 at b25 ⊢
              refine jr.iast (i := ((2 * f) + s)) (x := v25) rfl (by decide) rfl (by decide) (by omega) (by omega) ?_
              refine jr.iinc rfl rfl (by decide) rfl ?_
              refine jr.goto rfl rfl ?_
              refine jr.pick [0, 1, 2, 3] rfl rfl ?_
              exact ih (nM - 1) (by omega) (ju (ju (ju (ju (ju (ju M 632 ((2 * f) + s) 1) 634 ((2 * f) + s) 0) 631 ((2 * f) + s) r21) 635 ((2 * f) + s) r22) 630 ((2 * f) + s) r23) 633 ((2 * f) + s) v25) (s + 1) f (RI.u (RI.u (RI.u (RI.u (RI.u (RI.u hI_M (a := 632) (i := ((2 * f) + s)) (by rw [xri_row rfl rfl]; show (0 : Int) ≤ _ ∧ _ ≤ (1 : Int); omega)) (a := 634) (i := ((2 * f) + s)) (by rw [xri_row rfl rfl]; show (0 : Int) ≤ _ ∧ _ ≤ (1 : Int); omega)) (a := 631) (i := ((2 * f) + s)) (by rw [xri_row rfl rfl]; show (0 : Int) ≤ _ ∧ _ ≤ (65535 : Int); omega)) (a := 635) (i := ((2 * f) + s)) (by rw [xri_row rfl rfl]; show (0 : Int) ≤ _ ∧ _ ≤ (65535 : Int); omega)) (a := 630) (i := ((2 * f) + s)) (by rw [xri_row rfl rfl]; show (-9223372036854775808 : Int) ≤ _ ∧ _ ≤ (9223372036854775807 : Int); omega)) (a := 633) (i := ((2 * f) + s)) (by rw [xri_row rfl rfl]; show (-2147483648 : Int) ≤ _ ∧ _ ≤ (2147483647 : Int); omega)) (RH.o (RH.o (RH.o (RH.o (RH.o (RH.o hH_M (by decide) (by decide) (by decide)) (by decide) (by decide) (by decide)) (by decide) (by decide) (by decide)) (by decide) (by decide) (by decide)) (by decide) (by decide) (by decide)) (by decide) (by decide) (by decide)) (RF.o (RF.o (RF.o (RF.o (RF.o (RF.o hS_M (by decide) (by decide)) (by decide) (by decide)) (by decide) (by decide)) (by decide) (by decide)) (by decide) (by decide)) (by decide) (by decide)) (Kp.o (Kp.o (Kp.o (Kp.o (Kp.o (Kp.o ht_M rfl) rfl) rfl) rfl) rfl) rfl) (fun a i f628 f629 f630 f631 f632 f633 f634 f635 f636 f637 f638 f639 f640 => ((ju_c _ _ f633).trans ((ju_c _ _ f630).trans ((ju_c _ _ f635).trans ((ju_c _ _ f631).trans ((ju_c _ _ f634).trans ((ju_c _ _ f632).trans (hF_M a i f628 f629 f630 f631 f632 f633 f634 f635 f636 f637 f638 f639 f640)))))))) (by omega) (by omega)  (by omega)
            · refine jr.iconst rfl ?_
              refine jr.goto rfl rfl ?_
              refine jr.zast (i := ((2 * f) + s)) (x := 1) rfl (by decide) rfl (by decide) (by omega) (by omega) (j_zn (by omega)) ?_
              refine jr.aload_n rfl rfl ?_
              refine jr.getf (i := 43) (v := .ref 631) rfl rfl (by decide) rfl (by decide) rfl rfl rfl rfl ?_
              refine jr.iconst rfl ?_
              refine jr.iload_n rfl rfl ?_
              refine jr.imul rfl ?_
              refine jr.iload_n rfl rfl ?_
              refine jr.iadd rfl ?_
              refine jr.aload_n rfl rfl ?_
              refine jr.iload_n rfl rfl ?_
              refine jr.iconst rfl ?_
              refine jr.iadd rfl ?_
              refine jr.iconst rfl ?_
              refine jr.iload_n rfl rfl ?_
              refine jr.imul rfl ?_
              refine jr.iadd rfl ?_
              refine jr_v rfl rfl (Or.inl rfl) rfl rfl (by decide) rfl ⟨rfl, Nat.le_of_ble_eq_true rfl, Nat.le_of_ble_eq_true rfl⟩ rfl (jc.deep (r_takenTwo (RI.u (RI.u hI_M (a := 632) (i := ((2 * f) + s)) (by rw [xri_row rfl rfl]; show (0 : Int) ≤ _ ∧ _ ≤ (1 : Int); omega)) (a := 634) (i := ((2 * f) + s)) (by rw [xri_row rfl rfl]; show (0 : Int) ≤ _ ∧ _ ≤ (1 : Int); omega)) (RH.o (RH.o hH_M (by decide) (by decide) (by decide)) (by decide) (by decide) (by decide)) (RF.o (RF.o hS_M (by decide) (by decide)) (by decide) (by decide)) (Kp.o (Kp.o ht_M rfl) rfl) (by omega)  (fun r26 z26  => ?_)) (by decide))
              refine jr.iast (i := ((2 * f) + s)) (x := r26) rfl (by decide) rfl (by decide) (by omega) (by omega) ?_
              refine jr.aload_n rfl rfl ?_
              refine jr.getf (i := 47) (v := .ref 635) rfl rfl (by decide) rfl (by decide) rfl rfl rfl rfl ?_
              refine jr.iconst rfl ?_
              refine jr.iload_n rfl rfl ?_
              refine jr.imul rfl ?_
              refine jr.iload_n rfl rfl ?_
              refine jr.iadd rfl ?_
              refine jr.aload_n rfl rfl ?_
              refine jr.iload_n rfl rfl ?_
              refine jr.bipush rfl (by decide) ?_
              refine jr.iadd rfl ?_
              refine jr.iconst rfl ?_
              refine jr.iload_n rfl rfl ?_
              refine jr.imul rfl ?_
              refine jr.iadd rfl ?_
              refine jr_v rfl rfl (Or.inl rfl) rfl rfl (by decide) rfl ⟨rfl, Nat.le_of_ble_eq_true rfl, Nat.le_of_ble_eq_true rfl⟩ rfl (jc.deep (r_takenTwo (RI.u (RI.u (RI.u hI_M (a := 632) (i := ((2 * f) + s)) (by rw [xri_row rfl rfl]; show (0 : Int) ≤ _ ∧ _ ≤ (1 : Int); omega)) (a := 634) (i := ((2 * f) + s)) (by rw [xri_row rfl rfl]; show (0 : Int) ≤ _ ∧ _ ≤ (1 : Int); omega)) (a := 631) (i := ((2 * f) + s)) (by rw [xri_row rfl rfl]; show (0 : Int) ≤ _ ∧ _ ≤ (65535 : Int); omega)) (RH.o (RH.o (RH.o hH_M (by decide) (by decide) (by decide)) (by decide) (by decide) (by decide)) (by decide) (by decide) (by decide)) (RF.o (RF.o (RF.o hS_M (by decide) (by decide)) (by decide) (by decide)) (by decide) (by decide)) (Kp.o (Kp.o (Kp.o ht_M rfl) rfl) rfl) (by omega)  (fun r27 z27  => ?_)) (by decide))
              refine jr.iast (i := ((2 * f) + s)) (x := r27) rfl (by decide) rfl (by decide) (by omega) (by omega) ?_
              refine jr.aload_n rfl rfl ?_
              refine jr.getf (i := 42) (v := .ref 630) rfl rfl (by decide) rfl (by decide) rfl rfl rfl rfl ?_
              refine jr.iconst rfl ?_
              refine jr.iload_n rfl rfl ?_
              refine jr.imul rfl ?_
              refine jr.iload_n rfl rfl ?_
              refine jr.iadd rfl ?_
              refine jr.aload_n rfl rfl ?_
              refine jr.iload_n rfl rfl ?_
              refine jr.bipush rfl (by decide) ?_
              refine jr.iadd rfl ?_
              refine jr.bipush rfl (by decide) ?_
              refine jr.iload_n rfl rfl ?_
              refine jr.imul rfl ?_
              refine jr.iadd rfl ?_
              refine jr_v rfl rfl (Or.inl rfl) rfl rfl (by decide) rfl ⟨rfl, Nat.le_of_ble_eq_true rfl, Nat.le_of_ble_eq_true rfl⟩ rfl (jc.deep (r_takenEight (RI.u (RI.u (RI.u (RI.u hI_M (a := 632) (i := ((2 * f) + s)) (by rw [xri_row rfl rfl]; show (0 : Int) ≤ _ ∧ _ ≤ (1 : Int); omega)) (a := 634) (i := ((2 * f) + s)) (by rw [xri_row rfl rfl]; show (0 : Int) ≤ _ ∧ _ ≤ (1 : Int); omega)) (a := 631) (i := ((2 * f) + s)) (by rw [xri_row rfl rfl]; show (0 : Int) ≤ _ ∧ _ ≤ (65535 : Int); omega)) (a := 635) (i := ((2 * f) + s)) (by rw [xri_row rfl rfl]; show (0 : Int) ≤ _ ∧ _ ≤ (65535 : Int); omega)) (RH.o (RH.o (RH.o (RH.o hH_M (by decide) (by decide) (by decide)) (by decide) (by decide) (by decide)) (by decide) (by decide) (by decide)) (by decide) (by decide) (by decide)) (RF.o (RF.o (RF.o (RF.o hS_M (by decide) (by decide)) (by decide) (by decide)) (by decide) (by decide)) (by decide) (by decide)) (Kp.o (Kp.o (Kp.o (Kp.o ht_M rfl) rfl) rfl) rfl) (by omega)  (fun r28 z28  => ?_)) (by decide))
              refine jr.last (i := ((2 * f) + s)) (x := r28) rfl (by decide) rfl (by decide) (by omega) (by omega) ?_
              refine jr.aload_n rfl rfl ?_
              refine jr.getf (i := 45) (v := .ref 633) rfl rfl (by decide) rfl (by decide) rfl rfl rfl rfl ?_
              refine jr.iconst rfl ?_
              refine jr.iload_n rfl rfl ?_
              refine jr.imul rfl ?_
              refine jr.iload_n rfl rfl ?_
              refine jr.iadd rfl ?_
              refine jr.aload_n rfl rfl ?_
              refine jr.iload_n rfl rfl ?_
              refine jr.bipush rfl (by decide) ?_
              refine jr.iadd rfl ?_
              refine jr.iconst rfl ?_
              refine jr.iload_n rfl rfl ?_
              refine jr.imul rfl ?_
              refine jr.iadd rfl ?_
              refine jr_v rfl rfl (Or.inl rfl) rfl rfl (by decide) rfl ⟨rfl, Nat.le_of_ble_eq_true rfl, Nat.le_of_ble_eq_true rfl⟩ rfl (jc.deep (r_takenFour (RI.u (RI.u (RI.u (RI.u (RI.u hI_M (a := 632) (i := ((2 * f) + s)) (by rw [xri_row rfl rfl]; show (0 : Int) ≤ _ ∧ _ ≤ (1 : Int); omega)) (a := 634) (i := ((2 * f) + s)) (by rw [xri_row rfl rfl]; show (0 : Int) ≤ _ ∧ _ ≤ (1 : Int); omega)) (a := 631) (i := ((2 * f) + s)) (by rw [xri_row rfl rfl]; show (0 : Int) ≤ _ ∧ _ ≤ (65535 : Int); omega)) (a := 635) (i := ((2 * f) + s)) (by rw [xri_row rfl rfl]; show (0 : Int) ≤ _ ∧ _ ≤ (65535 : Int); omega)) (a := 630) (i := ((2 * f) + s)) (by rw [xri_row rfl rfl]; show (-9223372036854775808 : Int) ≤ _ ∧ _ ≤ (9223372036854775807 : Int); omega)) (RH.o (RH.o (RH.o (RH.o (RH.o hH_M (by decide) (by decide) (by decide)) (by decide) (by decide) (by decide)) (by decide) (by decide) (by decide)) (by decide) (by decide) (by decide)) (by decide) (by decide) (by decide)) (RF.o (RF.o (RF.o (RF.o (RF.o hS_M (by decide) (by decide)) (by decide) (by decide)) (by decide) (by decide)) (by decide) (by decide)) (by decide) (by decide)) (Kp.o (Kp.o (Kp.o (Kp.o (Kp.o ht_M rfl) rfl) rfl) rfl) rfl) (by omega)  (fun r29 z29  => ?_)) (by decide))
              refine jr.l2i rfl ?_
              refine jr.iw (j_w r29) (j_w_eq _) ?_
              have b30 : -2147483648 ≤ j_w r29 ∧ j_w r29 ≤ 2147483647 := jb_any _
              generalize j_w r29 = v30 at b30 ⊢
              refine jr.iast (i := ((2 * f) + s)) (x := v30) rfl (by decide) rfl (by decide) (by omega) (by omega) ?_
              refine jr.iinc rfl rfl (by decide) rfl ?_
              refine jr.goto rfl rfl ?_
              refine jr.pick [0, 1, 2, 3] rfl rfl ?_
              exact ih (nM - 1) (by omega) (ju (ju (ju (ju (ju (ju M 632 ((2 * f) + s) 1) 634 ((2 * f) + s) 1) 631 ((2 * f) + s) r26) 635 ((2 * f) + s) r27) 630 ((2 * f) + s) r28) 633 ((2 * f) + s) v30) (s + 1) f (RI.u (RI.u (RI.u (RI.u (RI.u (RI.u hI_M (a := 632) (i := ((2 * f) + s)) (by rw [xri_row rfl rfl]; show (0 : Int) ≤ _ ∧ _ ≤ (1 : Int); omega)) (a := 634) (i := ((2 * f) + s)) (by rw [xri_row rfl rfl]; show (0 : Int) ≤ _ ∧ _ ≤ (1 : Int); omega)) (a := 631) (i := ((2 * f) + s)) (by rw [xri_row rfl rfl]; show (0 : Int) ≤ _ ∧ _ ≤ (65535 : Int); omega)) (a := 635) (i := ((2 * f) + s)) (by rw [xri_row rfl rfl]; show (0 : Int) ≤ _ ∧ _ ≤ (65535 : Int); omega)) (a := 630) (i := ((2 * f) + s)) (by rw [xri_row rfl rfl]; show (-9223372036854775808 : Int) ≤ _ ∧ _ ≤ (9223372036854775807 : Int); omega)) (a := 633) (i := ((2 * f) + s)) (by rw [xri_row rfl rfl]; show (-2147483648 : Int) ≤ _ ∧ _ ≤ (2147483647 : Int); omega)) (RH.o (RH.o (RH.o (RH.o (RH.o (RH.o hH_M (by decide) (by decide) (by decide)) (by decide) (by decide) (by decide)) (by decide) (by decide) (by decide)) (by decide) (by decide) (by decide)) (by decide) (by decide) (by decide)) (by decide) (by decide) (by decide)) (RF.o (RF.o (RF.o (RF.o (RF.o (RF.o hS_M (by decide) (by decide)) (by decide) (by decide)) (by decide) (by decide)) (by decide) (by decide)) (by decide) (by decide)) (by decide) (by decide)) (Kp.o (Kp.o (Kp.o (Kp.o (Kp.o (Kp.o ht_M rfl) rfl) rfl) rfl) rfl) rfl) (fun a i f628 f629 f630 f631 f632 f633 f634 f635 f636 f637 f638 f639 f640 => ((ju_c _ _ f633).trans ((ju_c _ _ f630).trans ((ju_c _ _ f635).trans ((ju_c _ _ f631).trans ((ju_c _ _ f634).trans ((ju_c _ _ f632).trans (hF_M a i f628 f629 f630 f631 f632 f633 f634 f635 f636 f637 f638 f639 f640)))))))) (by omega) (by omega)  (by omega)
      · refine jr.bipush rfl (by decide) ?_
        refine jr.goto rfl rfl ?_
        refine jr.iand rfl ?_
        have b31 : 0 ≤ j_and v7 32 ∧ j_and v7 32 ≤ 32 := j_and_le (by decide)
        generalize j_and v7 32 = v31 at b31 ⊢
        refine jr.if_eq rfl rfl (by omega) (fun h107 => ?_) (fun h107 => ?_)
        · refine jr.iconst rfl ?_
          refine jr.zast (i := ((2 * f) + s)) (x := 0) rfl (by decide) rfl (by decide) (by omega) (by omega) (j_zn (by omega)) ?_
          refine jr.aload_n rfl rfl ?_
          refine jr.getf (i := 46) (v := .ref 634) rfl rfl (by decide) rfl (by decide) rfl rfl rfl rfl ?_
          refine jr.iconst rfl ?_
          refine jr.iload_n rfl rfl ?_
          refine jr.imul rfl ?_
          refine jr.iload_n rfl rfl ?_
          refine jr.iadd rfl ?_
          refine jr.iload_n rfl rfl ?_
          refine jr.if_eq rfl rfl (by omega) (fun h126 => ?_) (fun h126 => ?_)
          · refine jr.iconst rfl ?_
            refine jr.goto rfl rfl ?_
            refine jr.zast (i := ((2 * f) + s)) (x := 1) rfl (by decide) rfl (by decide) (by omega) (by omega) (j_zn (by omega)) ?_
            refine jr.aload_n rfl rfl ?_
            refine jr.getf (i := 43) (v := .ref 631) rfl rfl (by decide) rfl (by decide) rfl rfl rfl rfl ?_
            refine jr.iconst rfl ?_
            refine jr.iload_n rfl rfl ?_
            refine jr.imul rfl ?_
            refine jr.iload_n rfl rfl ?_
            refine jr.iadd rfl ?_
            refine jr.aload_n rfl rfl ?_
            refine jr.iload_n rfl rfl ?_
            refine jr.iconst rfl ?_
            refine jr.iadd rfl ?_
            refine jr.iconst rfl ?_
            refine jr.iload_n rfl rfl ?_
            refine jr.imul rfl ?_
            refine jr.iadd rfl ?_
            refine jr_v rfl rfl (Or.inl rfl) rfl rfl (by decide) rfl ⟨rfl, Nat.le_of_ble_eq_true rfl, Nat.le_of_ble_eq_true rfl⟩ rfl (jc.deep (r_takenTwo (RI.u (RI.u hI_M (a := 632) (i := ((2 * f) + s)) (by rw [xri_row rfl rfl]; show (0 : Int) ≤ _ ∧ _ ≤ (1 : Int); omega)) (a := 634) (i := ((2 * f) + s)) (by rw [xri_row rfl rfl]; show (0 : Int) ≤ _ ∧ _ ≤ (1 : Int); omega)) (RH.o (RH.o hH_M (by decide) (by decide) (by decide)) (by decide) (by decide) (by decide)) (RF.o (RF.o hS_M (by decide) (by decide)) (by decide) (by decide)) (Kp.o (Kp.o ht_M rfl) rfl) (by omega)  (fun r32 z32  => ?_)) (by decide))
            refine jr.iast (i := ((2 * f) + s)) (x := r32) rfl (by decide) rfl (by decide) (by omega) (by omega) ?_
            refine jr.aload_n rfl rfl ?_
            refine jr.getf (i := 47) (v := .ref 635) rfl rfl (by decide) rfl (by decide) rfl rfl rfl rfl ?_
            refine jr.iconst rfl ?_
            refine jr.iload_n rfl rfl ?_
            refine jr.imul rfl ?_
            refine jr.iload_n rfl rfl ?_
            refine jr.iadd rfl ?_
            refine jr.aload_n rfl rfl ?_
            refine jr.iload_n rfl rfl ?_
            refine jr.bipush rfl (by decide) ?_
            refine jr.iadd rfl ?_
            refine jr.iconst rfl ?_
            refine jr.iload_n rfl rfl ?_
            refine jr.imul rfl ?_
            refine jr.iadd rfl ?_
            refine jr_v rfl rfl (Or.inl rfl) rfl rfl (by decide) rfl ⟨rfl, Nat.le_of_ble_eq_true rfl, Nat.le_of_ble_eq_true rfl⟩ rfl (jc.deep (r_takenTwo (RI.u (RI.u (RI.u hI_M (a := 632) (i := ((2 * f) + s)) (by rw [xri_row rfl rfl]; show (0 : Int) ≤ _ ∧ _ ≤ (1 : Int); omega)) (a := 634) (i := ((2 * f) + s)) (by rw [xri_row rfl rfl]; show (0 : Int) ≤ _ ∧ _ ≤ (1 : Int); omega)) (a := 631) (i := ((2 * f) + s)) (by rw [xri_row rfl rfl]; show (0 : Int) ≤ _ ∧ _ ≤ (65535 : Int); omega)) (RH.o (RH.o (RH.o hH_M (by decide) (by decide) (by decide)) (by decide) (by decide) (by decide)) (by decide) (by decide) (by decide)) (RF.o (RF.o (RF.o hS_M (by decide) (by decide)) (by decide) (by decide)) (by decide) (by decide)) (Kp.o (Kp.o (Kp.o ht_M rfl) rfl) rfl) (by omega)  (fun r33 z33  => ?_)) (by decide))
            refine jr.iast (i := ((2 * f) + s)) (x := r33) rfl (by decide) rfl (by decide) (by omega) (by omega) ?_
            refine jr.aload_n rfl rfl ?_
            refine jr.getf (i := 42) (v := .ref 630) rfl rfl (by decide) rfl (by decide) rfl rfl rfl rfl ?_
            refine jr.iconst rfl ?_
            refine jr.iload_n rfl rfl ?_
            refine jr.imul rfl ?_
            refine jr.iload_n rfl rfl ?_
            refine jr.iadd rfl ?_
            refine jr.aload_n rfl rfl ?_
            refine jr.iload_n rfl rfl ?_
            refine jr.bipush rfl (by decide) ?_
            refine jr.iadd rfl ?_
            refine jr.bipush rfl (by decide) ?_
            refine jr.iload_n rfl rfl ?_
            refine jr.imul rfl ?_
            refine jr.iadd rfl ?_
            refine jr_v rfl rfl (Or.inl rfl) rfl rfl (by decide) rfl ⟨rfl, Nat.le_of_ble_eq_true rfl, Nat.le_of_ble_eq_true rfl⟩ rfl (jc.deep (r_takenEight (RI.u (RI.u (RI.u (RI.u hI_M (a := 632) (i := ((2 * f) + s)) (by rw [xri_row rfl rfl]; show (0 : Int) ≤ _ ∧ _ ≤ (1 : Int); omega)) (a := 634) (i := ((2 * f) + s)) (by rw [xri_row rfl rfl]; show (0 : Int) ≤ _ ∧ _ ≤ (1 : Int); omega)) (a := 631) (i := ((2 * f) + s)) (by rw [xri_row rfl rfl]; show (0 : Int) ≤ _ ∧ _ ≤ (65535 : Int); omega)) (a := 635) (i := ((2 * f) + s)) (by rw [xri_row rfl rfl]; show (0 : Int) ≤ _ ∧ _ ≤ (65535 : Int); omega)) (RH.o (RH.o (RH.o (RH.o hH_M (by decide) (by decide) (by decide)) (by decide) (by decide) (by decide)) (by decide) (by decide) (by decide)) (by decide) (by decide) (by decide)) (RF.o (RF.o (RF.o (RF.o hS_M (by decide) (by decide)) (by decide) (by decide)) (by decide) (by decide)) (by decide) (by decide)) (Kp.o (Kp.o (Kp.o (Kp.o ht_M rfl) rfl) rfl) rfl) (by omega)  (fun r34 z34  => ?_)) (by decide))
            refine jr.last (i := ((2 * f) + s)) (x := r34) rfl (by decide) rfl (by decide) (by omega) (by omega) ?_
            refine jr.aload_n rfl rfl ?_
            refine jr.getf (i := 45) (v := .ref 633) rfl rfl (by decide) rfl (by decide) rfl rfl rfl rfl ?_
            refine jr.iconst rfl ?_
            refine jr.iload_n rfl rfl ?_
            refine jr.imul rfl ?_
            refine jr.iload_n rfl rfl ?_
            refine jr.iadd rfl ?_
            refine jr.aload_n rfl rfl ?_
            refine jr.iload_n rfl rfl ?_
            refine jr.bipush rfl (by decide) ?_
            refine jr.iadd rfl ?_
            refine jr.iconst rfl ?_
            refine jr.iload_n rfl rfl ?_
            refine jr.imul rfl ?_
            refine jr.iadd rfl ?_
            refine jr_v rfl rfl (Or.inl rfl) rfl rfl (by decide) rfl ⟨rfl, Nat.le_of_ble_eq_true rfl, Nat.le_of_ble_eq_true rfl⟩ rfl (jc.deep (r_takenFour (RI.u (RI.u (RI.u (RI.u (RI.u hI_M (a := 632) (i := ((2 * f) + s)) (by rw [xri_row rfl rfl]; show (0 : Int) ≤ _ ∧ _ ≤ (1 : Int); omega)) (a := 634) (i := ((2 * f) + s)) (by rw [xri_row rfl rfl]; show (0 : Int) ≤ _ ∧ _ ≤ (1 : Int); omega)) (a := 631) (i := ((2 * f) + s)) (by rw [xri_row rfl rfl]; show (0 : Int) ≤ _ ∧ _ ≤ (65535 : Int); omega)) (a := 635) (i := ((2 * f) + s)) (by rw [xri_row rfl rfl]; show (0 : Int) ≤ _ ∧ _ ≤ (65535 : Int); omega)) (a := 630) (i := ((2 * f) + s)) (by rw [xri_row rfl rfl]; show (-9223372036854775808 : Int) ≤ _ ∧ _ ≤ (9223372036854775807 : Int); omega)) (RH.o (RH.o (RH.o (RH.o (RH.o hH_M (by decide) (by decide) (by decide)) (by decide) (by decide) (by decide)) (by decide) (by decide) (by decide)) (by decide) (by decide) (by decide)) (by decide) (by decide) (by decide)) (RF.o (RF.o (RF.o (RF.o (RF.o hS_M (by decide) (by decide)) (by decide) (by decide)) (by decide) (by decide)) (by decide) (by decide)) (by decide) (by decide)) (Kp.o (Kp.o (Kp.o (Kp.o (Kp.o ht_M rfl) rfl) rfl) rfl) rfl) (by omega)  (fun r35 z35  => ?_)) (by decide))
            refine jr.l2i rfl ?_
            refine jr.iw (j_w r35) (j_w_eq _) ?_
            have b36 : -2147483648 ≤ j_w r35 ∧ j_w r35 ≤ 2147483647 := jb_any _
            generalize j_w r35 = v36 at b36 ⊢
            refine jr.iast (i := ((2 * f) + s)) (x := v36) rfl (by decide) rfl (by decide) (by omega) (by omega) ?_
            refine jr.iinc rfl rfl (by decide) rfl ?_
            refine jr.goto rfl rfl ?_
            refine jr.pick [0, 1, 2, 3] rfl rfl ?_
            exact ih (nM - 1) (by omega) (ju (ju (ju (ju (ju (ju M 632 ((2 * f) + s) 0) 634 ((2 * f) + s) 1) 631 ((2 * f) + s) r32) 635 ((2 * f) + s) r33) 630 ((2 * f) + s) r34) 633 ((2 * f) + s) v36) (s + 1) f (RI.u (RI.u (RI.u (RI.u (RI.u (RI.u hI_M (a := 632) (i := ((2 * f) + s)) (by rw [xri_row rfl rfl]; show (0 : Int) ≤ _ ∧ _ ≤ (1 : Int); omega)) (a := 634) (i := ((2 * f) + s)) (by rw [xri_row rfl rfl]; show (0 : Int) ≤ _ ∧ _ ≤ (1 : Int); omega)) (a := 631) (i := ((2 * f) + s)) (by rw [xri_row rfl rfl]; show (0 : Int) ≤ _ ∧ _ ≤ (65535 : Int); omega)) (a := 635) (i := ((2 * f) + s)) (by rw [xri_row rfl rfl]; show (0 : Int) ≤ _ ∧ _ ≤ (65535 : Int); omega)) (a := 630) (i := ((2 * f) + s)) (by rw [xri_row rfl rfl]; show (-9223372036854775808 : Int) ≤ _ ∧ _ ≤ (9223372036854775807 : Int); omega)) (a := 633) (i := ((2 * f) + s)) (by rw [xri_row rfl rfl]; show (-2147483648 : Int) ≤ _ ∧ _ ≤ (2147483647 : Int); omega)) (RH.o (RH.o (RH.o (RH.o (RH.o (RH.o hH_M (by decide) (by decide) (by decide)) (by decide) (by decide) (by decide)) (by decide) (by decide) (by decide)) (by decide) (by decide) (by decide)) (by decide) (by decide) (by decide)) (by decide) (by decide) (by decide)) (RF.o (RF.o (RF.o (RF.o (RF.o (RF.o hS_M (by decide) (by decide)) (by decide) (by decide)) (by decide) (by decide)) (by decide) (by decide)) (by decide) (by decide)) (by decide) (by decide)) (Kp.o (Kp.o (Kp.o (Kp.o (Kp.o (Kp.o ht_M rfl) rfl) rfl) rfl) rfl) rfl) (fun a i f628 f629 f630 f631 f632 f633 f634 f635 f636 f637 f638 f639 f640 => ((ju_c _ _ f633).trans ((ju_c _ _ f630).trans ((ju_c _ _ f635).trans ((ju_c _ _ f631).trans ((ju_c _ _ f634).trans ((ju_c _ _ f632).trans (hF_M a i f628 f629 f630 f631 f632 f633 f634 f635 f636 f637 f638 f639 f640)))))))) (by omega) (by omega)  (by omega)
          · exact absurd (by omega) h126
        · refine jr.iconst rfl ?_
          refine jr.goto rfl rfl ?_
          refine jr.zast (i := ((2 * f) + s)) (x := 1) rfl (by decide) rfl (by decide) (by omega) (by omega) (j_zn (by omega)) ?_
          refine jr.aload_n rfl rfl ?_
          refine jr.getf (i := 46) (v := .ref 634) rfl rfl (by decide) rfl (by decide) rfl rfl rfl rfl ?_
          refine jr.iconst rfl ?_
          refine jr.iload_n rfl rfl ?_
          refine jr.imul rfl ?_
          refine jr.iload_n rfl rfl ?_
          refine jr.iadd rfl ?_
          refine jr.iload_n rfl rfl ?_
          refine jr.if_eq rfl rfl (by omega) (fun h126 => ?_) (fun h126 => ?_)
          · refine jr.iconst rfl ?_
            refine jr.goto rfl rfl ?_
            refine jr.zast (i := ((2 * f) + s)) (x := 1) rfl (by decide) rfl (by decide) (by omega) (by omega) (j_zn (by omega)) ?_
            refine jr.aload_n rfl rfl ?_
            refine jr.getf (i := 43) (v := .ref 631) rfl rfl (by decide) rfl (by decide) rfl rfl rfl rfl ?_
            refine jr.iconst rfl ?_
            refine jr.iload_n rfl rfl ?_
            refine jr.imul rfl ?_
            refine jr.iload_n rfl rfl ?_
            refine jr.iadd rfl ?_
            refine jr.aload_n rfl rfl ?_
            refine jr.iload_n rfl rfl ?_
            refine jr.iconst rfl ?_
            refine jr.iadd rfl ?_
            refine jr.iconst rfl ?_
            refine jr.iload_n rfl rfl ?_
            refine jr.imul rfl ?_
            refine jr.iadd rfl ?_
            refine jr_v rfl rfl (Or.inl rfl) rfl rfl (by decide) rfl ⟨rfl, Nat.le_of_ble_eq_true rfl, Nat.le_of_ble_eq_true rfl⟩ rfl (jc.deep (r_takenTwo (RI.u (RI.u hI_M (a := 632) (i := ((2 * f) + s)) (by rw [xri_row rfl rfl]; show (0 : Int) ≤ _ ∧ _ ≤ (1 : Int); omega)) (a := 634) (i := ((2 * f) + s)) (by rw [xri_row rfl rfl]; show (0 : Int) ≤ _ ∧ _ ≤ (1 : Int); omega)) (RH.o (RH.o hH_M (by decide) (by decide) (by decide)) (by decide) (by decide) (by decide)) (RF.o (RF.o hS_M (by decide) (by decide)) (by decide) (by decide)) (Kp.o (Kp.o ht_M rfl) rfl) (by omega)  (fun r37 z37  => ?_)) (by decide))
            refine jr.iast (i := ((2 * f) + s)) (x := r37) rfl (by decide) rfl (by decide) (by omega) (by omega) ?_
            refine jr.aload_n rfl rfl ?_
            refine jr.getf (i := 47) (v := .ref 635) rfl rfl (by decide) rfl (by decide) rfl rfl rfl rfl ?_
            refine jr.iconst rfl ?_
            refine jr.iload_n rfl rfl ?_
            refine jr.imul rfl ?_
            refine jr.iload_n rfl rfl ?_
            refine jr.iadd rfl ?_
            refine jr.aload_n rfl rfl ?_
            refine jr.iload_n rfl rfl ?_
            refine jr.bipush rfl (by decide) ?_
            refine jr.iadd rfl ?_
            refine jr.iconst rfl ?_
            refine jr.iload_n rfl rfl ?_
            refine jr.imul rfl ?_
            refine jr.iadd rfl ?_
            refine jr_v rfl rfl (Or.inl rfl) rfl rfl (by decide) rfl ⟨rfl, Nat.le_of_ble_eq_true rfl, Nat.le_of_ble_eq_true rfl⟩ rfl (jc.deep (r_takenTwo (RI.u (RI.u (RI.u hI_M (a := 632) (i := ((2 * f) + s)) (by rw [xri_row rfl rfl]; show (0 : Int) ≤ _ ∧ _ ≤ (1 : Int); omega)) (a := 634) (i := ((2 * f) + s)) (by rw [xri_row rfl rfl]; show (0 : Int) ≤ _ ∧ _ ≤ (1 : Int); omega)) (a := 631) (i := ((2 * f) + s)) (by rw [xri_row rfl rfl]; show (0 : Int) ≤ _ ∧ _ ≤ (65535 : Int); omega)) (RH.o (RH.o (RH.o hH_M (by decide) (by decide) (by decide)) (by decide) (by decide) (by decide)) (by decide) (by decide) (by decide)) (RF.o (RF.o (RF.o hS_M (by decide) (by decide)) (by decide) (by decide)) (by decide) (by decide)) (Kp.o (Kp.o (Kp.o ht_M rfl) rfl) rfl) (by omega)  (fun r38 z38  => ?_)) (by decide))
            refine jr.iast (i := ((2 * f) + s)) (x := r38) rfl (by decide) rfl (by decide) (by omega) (by omega) ?_
            refine jr.aload_n rfl rfl ?_
            refine jr.getf (i := 42) (v := .ref 630) rfl rfl (by decide) rfl (by decide) rfl rfl rfl rfl ?_
            refine jr.iconst rfl ?_
            refine jr.iload_n rfl rfl ?_
            refine jr.imul rfl ?_
            refine jr.iload_n rfl rfl ?_
            refine jr.iadd rfl ?_
            refine jr.aload_n rfl rfl ?_
            refine jr.iload_n rfl rfl ?_
            refine jr.bipush rfl (by decide) ?_
            refine jr.iadd rfl ?_
            refine jr.bipush rfl (by decide) ?_
            refine jr.iload_n rfl rfl ?_
            refine jr.imul rfl ?_
            refine jr.iadd rfl ?_
            refine jr_v rfl rfl (Or.inl rfl) rfl rfl (by decide) rfl ⟨rfl, Nat.le_of_ble_eq_true rfl, Nat.le_of_ble_eq_true rfl⟩ rfl (jc.deep (r_takenEight (RI.u (RI.u (RI.u (RI.u hI_M (a := 632) (i := ((2 * f) + s)) (by rw [xri_row rfl rfl]; show (0 : Int) ≤ _ ∧ _ ≤ (1 : Int); omega)) (a := 634) (i := ((2 * f) + s)) (by rw [xri_row rfl rfl]; show (0 : Int) ≤ _ ∧ _ ≤ (1 : Int); omega)) (a := 631) (i := ((2 * f) + s)) (by rw [xri_row rfl rfl]; show (0 : Int) ≤ _ ∧ _ ≤ (65535 : Int); omega)) (a := 635) (i := ((2 * f) + s)) (by rw [xri_row rfl rfl]; show (0 : Int) ≤ _ ∧ _ ≤ (65535 : Int); omega)) (RH.o (RH.o (RH.o (RH.o hH_M (by decide) (by decide) (by decide)) (by decide) (by decide) (by decide)) (by decide) (by decide) (by decide)) (by decide) (by decide) (by decide)) (RF.o (RF.o (RF.o (RF.o hS_M (by decide) (by decide)) (by decide) (by decide)) (by decide) (by decide)) (by decide) (by decide)) (Kp.o (Kp.o (Kp.o (Kp.o ht_M rfl) rfl) rfl) rfl) (by omega)  (fun r39 z39  => ?_)) (by decide))
            refine jr.last (i := ((2 * f) + s)) (x := r39) rfl (by decide) rfl (by decide) (by omega) (by omega) ?_
            refine jr.aload_n rfl rfl ?_
            refine jr.getf (i := 45) (v := .ref 633) rfl rfl (by decide) rfl (by decide) rfl rfl rfl rfl ?_
            refine jr.iconst rfl ?_
            refine jr.iload_n rfl rfl ?_
            refine jr.imul rfl ?_
            refine jr.iload_n rfl rfl ?_
            refine jr.iadd rfl ?_
            refine jr.aload_n rfl rfl ?_
            refine jr.iload_n rfl rfl ?_
            refine jr.bipush rfl (by decide) ?_
            refine jr.iadd rfl ?_
            refine jr.iconst rfl ?_
            refine jr.iload_n rfl rfl ?_
            refine jr.imul rfl ?_
            refine jr.iadd rfl ?_
            refine jr_v rfl rfl (Or.inl rfl) rfl rfl (by decide) rfl ⟨rfl, Nat.le_of_ble_eq_true rfl, Nat.le_of_ble_eq_true rfl⟩ rfl (jc.deep (r_takenFour (RI.u (RI.u (RI.u (RI.u (RI.u hI_M (a := 632) (i := ((2 * f) + s)) (by rw [xri_row rfl rfl]; show (0 : Int) ≤ _ ∧ _ ≤ (1 : Int); omega)) (a := 634) (i := ((2 * f) + s)) (by rw [xri_row rfl rfl]; show (0 : Int) ≤ _ ∧ _ ≤ (1 : Int); omega)) (a := 631) (i := ((2 * f) + s)) (by rw [xri_row rfl rfl]; show (0 : Int) ≤ _ ∧ _ ≤ (65535 : Int); omega)) (a := 635) (i := ((2 * f) + s)) (by rw [xri_row rfl rfl]; show (0 : Int) ≤ _ ∧ _ ≤ (65535 : Int); omega)) (a := 630) (i := ((2 * f) + s)) (by rw [xri_row rfl rfl]; show (-9223372036854775808 : Int) ≤ _ ∧ _ ≤ (9223372036854775807 : Int); omega)) (RH.o (RH.o (RH.o (RH.o (RH.o hH_M (by decide) (by decide) (by decide)) (by decide) (by decide) (by decide)) (by decide) (by decide) (by decide)) (by decide) (by decide) (by decide)) (by decide) (by decide) (by decide)) (RF.o (RF.o (RF.o (RF.o (RF.o hS_M (by decide) (by decide)) (by decide) (by decide)) (by decide) (by decide)) (by decide) (by decide)) (by decide) (by decide)) (Kp.o (Kp.o (Kp.o (Kp.o (Kp.o ht_M rfl) rfl) rfl) rfl) rfl) (by omega)  (fun r40 z40  => ?_)) (by decide))
            refine jr.l2i rfl ?_
            refine jr.iw (j_w r40) (j_w_eq _) ?_
            have b41 : -2147483648 ≤ j_w r40 ∧ j_w r40 ≤ 2147483647 := jb_any _
            generalize j_w r40 = v41 at b41 ⊢
            refine jr.iast (i := ((2 * f) + s)) (x := v41) rfl (by decide) rfl (by decide) (by omega) (by omega) ?_
            refine jr.iinc rfl rfl (by decide) rfl ?_
            refine jr.goto rfl rfl ?_
            refine jr.pick [0, 1, 2, 3] rfl rfl ?_
            exact ih (nM - 1) (by omega) (ju (ju (ju (ju (ju (ju M 632 ((2 * f) + s) 1) 634 ((2 * f) + s) 1) 631 ((2 * f) + s) r37) 635 ((2 * f) + s) r38) 630 ((2 * f) + s) r39) 633 ((2 * f) + s) v41) (s + 1) f (RI.u (RI.u (RI.u (RI.u (RI.u (RI.u hI_M (a := 632) (i := ((2 * f) + s)) (by rw [xri_row rfl rfl]; show (0 : Int) ≤ _ ∧ _ ≤ (1 : Int); omega)) (a := 634) (i := ((2 * f) + s)) (by rw [xri_row rfl rfl]; show (0 : Int) ≤ _ ∧ _ ≤ (1 : Int); omega)) (a := 631) (i := ((2 * f) + s)) (by rw [xri_row rfl rfl]; show (0 : Int) ≤ _ ∧ _ ≤ (65535 : Int); omega)) (a := 635) (i := ((2 * f) + s)) (by rw [xri_row rfl rfl]; show (0 : Int) ≤ _ ∧ _ ≤ (65535 : Int); omega)) (a := 630) (i := ((2 * f) + s)) (by rw [xri_row rfl rfl]; show (-9223372036854775808 : Int) ≤ _ ∧ _ ≤ (9223372036854775807 : Int); omega)) (a := 633) (i := ((2 * f) + s)) (by rw [xri_row rfl rfl]; show (-2147483648 : Int) ≤ _ ∧ _ ≤ (2147483647 : Int); omega)) (RH.o (RH.o (RH.o (RH.o (RH.o (RH.o hH_M (by decide) (by decide) (by decide)) (by decide) (by decide) (by decide)) (by decide) (by decide) (by decide)) (by decide) (by decide) (by decide)) (by decide) (by decide) (by decide)) (by decide) (by decide) (by decide)) (RF.o (RF.o (RF.o (RF.o (RF.o (RF.o hS_M (by decide) (by decide)) (by decide) (by decide)) (by decide) (by decide)) (by decide) (by decide)) (by decide) (by decide)) (by decide) (by decide)) (Kp.o (Kp.o (Kp.o (Kp.o (Kp.o (Kp.o ht_M rfl) rfl) rfl) rfl) rfl) rfl) (fun a i f628 f629 f630 f631 f632 f633 f634 f635 f636 f637 f638 f639 f640 => ((ju_c _ _ f633).trans ((ju_c _ _ f630).trans ((ju_c _ _ f635).trans ((ju_c _ _ f631).trans ((ju_c _ _ f634).trans ((ju_c _ _ f632).trans (hF_M a i f628 f629 f630 f631 f632 f633 f634 f635 f636 f637 f638 f639 f640)))))))) (by omega) (by omega)  (by omega)
          · exact absurd (by omega) h126
theorem r_takeRow {A : Nat → Option (Nat × (Nat → Int32))} {Q : Option Value → jm → Prop} {T : jm} {M : jm} (hI_M : RI M) (hH_M : RH M) (hS_M : RF M) (ht_M : Kp T M) {f : Int} (h_f : 0 ≤ f ∧ f ≤ 23) (p0 : (M 599 (48 * f) = 6 → 1 ≤ M 599 (48 * f + 1) % 16 ∧ M 599 (48 * f + 1) % 16 ≤ 10)) (q : ∀ (M' : jm), RI M' → RH M' → RF M' → Kp T M' → (∀ (a : Nat) (i : Int), a ≠ 628 → a ≠ 629 → a ≠ 630 → a ≠ 631 → a ≠ 632 → a ≠ 633 → a ≠ 634 → a ≠ 635 → a ≠ 636 → a ≠ 637 → a ≠ 638 → a ≠ 639 → a ≠ 640 → M' a i = M a i) → Q none M') : jc A 4 333 [.ref (598), .int (Int32.ofInt (f))] M Q := by
  refine jc_of (m := xm_333) rfl (Nat.le_of_ble_eq_true rfl) rfl ?_
  refine jr.bipush rfl (by decide) ?_
  refine jr.iload_n rfl rfl ?_
  refine jr.imul rfl ?_
  refine jr.istore_n rfl (by decide) rfl ?_
  refine jr.aload_n rfl rfl ?_
  refine jr.iload_n rfl rfl ?_
  refine jr_v rfl rfl (Or.inl rfl) rfl rfl (by decide) rfl ⟨rfl, Nat.le_of_ble_eq_true rfl, Nat.le_of_ble_eq_true rfl⟩ rfl (jc.deep (r_forget hI_M hH_M ht_M (by omega)  (fun M1 hI_M1 hH_M1 ht_M1 w1_0 => ?_)) (by decide))
  refine jr.aload_n rfl rfl ?_
  refine jr.getf (i := 52) (v := .ref 640) rfl rfl (by decide) rfl (by decide) rfl rfl rfl rfl ?_
  refine jr.iload_n rfl rfl ?_
  refine jr.iconst rfl ?_
  refine jr.iast (i := f) (x := (-1)) rfl (by decide) rfl (by decide) (by omega) (by omega) ?_
  refine jr.aload_n rfl rfl ?_
  refine jr.getf (i := 41) (v := .ref 629) rfl rfl (by decide) rfl (by decide) rfl rfl rfl rfl ?_
  refine jr.iload_n rfl rfl ?_
  refine jr.aload_n rfl rfl ?_
  refine jr.getf (i := 0) (v := .ref 599) rfl rfl (by decide) rfl (by decide) rfl rfl rfl rfl ?_
  refine jr.iload_n rfl rfl ?_
  obtain ⟨v2, e2⟩ : ∃ z, M 599 (48 * f) = z := ⟨_, rfl⟩
  have b2 : 0 ≤ v2 ∧ v2 ≤ 255 := by rw [← e2]; exact (by have q := hI_M 599 (48 * f) (by decide); rw [xri_row rfl rfl] at q; exact q)
  have e3 : M1 599 (48 * f) = v2 := ((w1_0 599 (48 * f) (by decide) (by decide) (by decide) (by decide) (by decide) (by decide)).trans e2)
  refine jr.iald (i := (48 * f)) (x := v2) rfl (by decide) rfl (by decide) (by omega) (by omega) ((ju_c _ _ (by decide)).trans e3) ?_
  refine jr.iast (i := f) (x := v2) rfl (by decide) rfl (by decide) (by omega) (by omega) ?_
  refine jr.aload_n rfl rfl ?_
  refine jr.getf (i := 50) (v := .ref 638) rfl rfl (by decide) rfl (by decide) rfl rfl rfl rfl ?_
  refine jr.iload_n rfl rfl ?_
  refine jr.aload_n rfl rfl ?_
  refine jr.getf (i := 0) (v := .ref 599) rfl rfl (by decide) rfl (by decide) rfl rfl rfl rfl ?_
  refine jr.iload_n rfl rfl ?_
  refine jr.iconst rfl ?_
  refine jr.iadd rfl ?_
  obtain ⟨v4, e4⟩ : ∃ z, M 599 ((48 * f) + 1) = z := ⟨_, rfl⟩
  have b4 : 0 ≤ v4 ∧ v4 ≤ 255 := by rw [← e4]; exact (by have q := hI_M 599 ((48 * f) + 1) (by decide); rw [xri_row rfl rfl] at q; exact q)
  have e5 : M1 599 ((48 * f) + 1) = v4 := ((w1_0 599 ((48 * f) + 1) (by decide) (by decide) (by decide) (by decide) (by decide) (by decide)).trans e4)
  refine jr.iald (i := ((48 * f) + 1)) (x := v4) rfl (by decide) rfl (by decide) (by omega) (by omega) ((ju_c _ _ (by decide)).trans ((ju_c _ _ (by decide)).trans e5)) ?_
  refine jr.bipush rfl (by decide) ?_
  refine jr.iand rfl ?_
  have b6 : j_and v4 15 = v4 % 16 := j_and_mask 4 (by decide) (by omega) (by omega)
  generalize j_and v4 15 = v6 at b6 ⊢
  refine jr.iast (i := f) (x := v6) rfl (by decide) rfl (by decide) (by omega) (by omega) ?_
  refine jr.aload_n rfl rfl ?_
  refine jr.getf (i := 40) (v := .ref 628) rfl rfl (by decide) rfl (by decide) rfl rfl rfl rfl ?_
  refine jr.iload_n rfl rfl ?_
  refine jr.aload_n rfl rfl ?_
  refine jr.getf (i := 0) (v := .ref 599) rfl rfl (by decide) rfl (by decide) rfl rfl rfl rfl ?_
  refine jr.iload_n rfl rfl ?_
  refine jr.iconst rfl ?_
  refine jr.iadd rfl ?_
  refine jr.iald (i := ((48 * f) + 1)) (x := v4) rfl (by decide) rfl (by decide) (by omega) (by omega) ((ju_c _ _ (by decide)).trans ((ju_c _ _ (by decide)).trans ((ju_c _ _ (by decide)).trans e5))) ?_
  refine jr.bipush rfl (by decide) ?_
  refine jr.iand rfl ?_
  have b7 : 0 ≤ j_and v4 16 ∧ j_and v4 16 ≤ 16 := j_and_le (by decide)
  generalize j_and v4 16 = v7 at b7 ⊢
  refine jr.if_eq rfl rfl (by omega) (fun h62 => ?_) (fun h62 => ?_)
  · refine jr.iconst rfl ?_
    refine jr.zast (i := f) (x := 0) rfl (by decide) rfl (by decide) (by omega) (by omega) (j_zn (by omega)) ?_
    refine jr.iconst rfl ?_
    refine jr.istore_n rfl (by decide) rfl ?_
    refine jr.pick [0, 3, 1, 2] rfl rfl ?_
    exact r_takeRow_L73 q 2 (ju (ju (ju (ju M1 640 f (-1)) 629 f v2) 638 f v6) 628 f 0) 0 f (RI.u (RI.u (RI.u (RI.u hI_M1 (a := 640) (i := f) (by rw [xri_row rfl rfl]; show (-1 : Int) ≤ _ ∧ _ ≤ (3 : Int); omega)) (a := 629) (i := f) (by rw [xri_row rfl rfl]; show (0 : Int) ≤ _ ∧ _ ≤ (255 : Int); omega)) (a := 638) (i := f) (by rw [xri_row rfl rfl]; show (0 : Int) ≤ _ ∧ _ ≤ (15 : Int); omega)) (a := 628) (i := f) (by rw [xri_row rfl rfl]; show (0 : Int) ≤ _ ∧ _ ≤ (1 : Int); omega)) (RH.o (RH.o (RH.o (RH.o hH_M1 (by decide) (by decide) (by decide)) (by decide) (by decide) (by decide)) (by decide) (by decide) (by decide)) (by decide) (by decide) (by decide)) (RF.o (RFx.w (RF.x (RF.o (RF.fr hS_M (fun f => w1_0 629 f (by decide) (by decide) (by decide) (by decide) (by decide) (by decide)) (fun f => w1_0 638 f (by decide) (by decide) (by decide) (by decide) (by decide) (by decide))) (by decide) (by decide))) (fun q => by rw [(ju_same _ _ _ _)] at q; omega)) (by decide) (by decide)) (Kp.o (Kp.o (Kp.o (Kp.o ht_M1 rfl) rfl) rfl) rfl) (fun a i f628 f629 f630 f631 f632 f633 f634 f635 f636 f637 f638 f639 f640 => ((ju_c _ _ f628).trans ((ju_c _ _ f638).trans ((ju_c _ _ f629).trans ((ju_c _ _ f640).trans ((w1_0 a i f632 f633 f634 f635 f636 f637).trans rfl)))))) (by omega) (by omega)  (by omega)
  · refine jr.iconst rfl ?_
    refine jr.goto rfl rfl ?_
    refine jr.zast (i := f) (x := 1) rfl (by decide) rfl (by decide) (by omega) (by omega) (j_zn (by omega)) ?_
    refine jr.iconst rfl ?_
    refine jr.istore_n rfl (by decide) rfl ?_
    refine jr.pick [0, 3, 1, 2] rfl rfl ?_
    exact r_takeRow_L73 q 2 (ju (ju (ju (ju M1 640 f (-1)) 629 f v2) 638 f v6) 628 f 1) 0 f (RI.u (RI.u (RI.u (RI.u hI_M1 (a := 640) (i := f) (by rw [xri_row rfl rfl]; show (-1 : Int) ≤ _ ∧ _ ≤ (3 : Int); omega)) (a := 629) (i := f) (by rw [xri_row rfl rfl]; show (0 : Int) ≤ _ ∧ _ ≤ (255 : Int); omega)) (a := 638) (i := f) (by rw [xri_row rfl rfl]; show (0 : Int) ≤ _ ∧ _ ≤ (15 : Int); omega)) (a := 628) (i := f) (by rw [xri_row rfl rfl]; show (0 : Int) ≤ _ ∧ _ ≤ (1 : Int); omega)) (RH.o (RH.o (RH.o (RH.o hH_M1 (by decide) (by decide) (by decide)) (by decide) (by decide) (by decide)) (by decide) (by decide) (by decide)) (by decide) (by decide) (by decide)) (RF.o (RFx.w (RF.x (RF.o (RF.fr hS_M (fun f => w1_0 629 f (by decide) (by decide) (by decide) (by decide) (by decide) (by decide)) (fun f => w1_0 638 f (by decide) (by decide) (by decide) (by decide) (by decide) (by decide))) (by decide) (by decide))) (fun q => by rw [(ju_same _ _ _ _)] at q; omega)) (by decide) (by decide)) (Kp.o (Kp.o (Kp.o (Kp.o ht_M1 rfl) rfl) rfl) rfl) (fun a i f628 f629 f630 f631 f632 f633 f634 f635 f636 f637 f638 f639 f640 => ((ju_c _ _ f628).trans ((ju_c _ _ f638).trans ((ju_c _ _ f629).trans ((ju_c _ _ f640).trans ((w1_0 a i f632 f633 f634 f635 f636 f637).trans rfl)))))) (by omega) (by omega)  (by omega)
def RW (M : jm) (n k : Int) : Prop := ∀ o : Int, 0 ≤ o → o < k → 48 * o + 48 ≤ n ∧ o ≤ 23 ∧ (M 599 (48 * o) = 6 → 1 ≤ M 599 (48 * o + 1) % 16 ∧ M 599 (48 * o + 1) % 16 ≤ 10)
theorem RW.zero (M : jm) (n : Int) : RW M n 0 := fun o h0 h1 => by omega
theorem RW.add {M : jm} {n k : Int} (h : RW M n k) (h1 : 48 * k + 48 ≤ n ∧ k ≤ 23 ∧ (M 599 (48 * k) = 6 → 1 ≤ M 599 (48 * k + 1) % 16 ∧ M 599 (48 * k + 1) % 16 ≤ 10)) : RW M n (k + 1) := by
  intro o h0 h2
  by_cases e : o = k
  · subst e
    exact h1
  · exact h o h0 (by omega)
theorem RW.fr {M M' : jm} {n k : Int} (h : RW M n k) (e : ∀ i, M' 599 i = M 599 i) : RW M' n k := by
  intro o h0 h1
  rw [e, e]
  exact h o h0 h1
theorem RW.le {M : jm} {n k : Int} (h : RW M n k) : k ≤ 24 := by
  by_cases e : k ≤ 0
  · omega
  · have := (h (k - 1) (by omega) (by omega)).2.1
    omega
theorem RW.w {M : jm} {n k w : Int} (h : RW M n k) (e : w ≤ k) : RW M n w := fun o h0 h1 => h o h0 (by omega)
theorem r_restore_L47 {A : Nat → Option (Nat × (Nat → Int32))} {Q : Option Value → jm → Prop} {T : jm} (q : ∀ (r : Int) (M' : jm), RI M' → RH M' → RF M' → Kp T M' → (-60) ≤ r ∧ r ≤ 24 → Q (some (.int (Int32.ofInt r))) M') : ∀ (nM : Nat) (M : jm) (f : Int) (w : Int) (n : Int), RI M → RH M → RF M → Kp T M → 0 ≤ f ∧ f ≤ 24 → 0 ≤ w ∧ w ≤ 24 → 0 ≤ n ∧ n ≤ 1600 → RW M n w → 24 - f ≤ nM → jr A 5 xm_332 47 [(3, .int (Int32.ofInt (f))), (2, .int (Int32.ofInt (w))), (1, .int (Int32.ofInt (n))), (0, .ref (598))] [] M Q := by
  intro nM
  induction nM using Nat.strongRecOn with
  | ind nM ih =>
    intro M f w n hI_M hH_M hS_M ht_M h_f h_w h_n hy0 hm
    refine jr.iload_n rfl rfl ?_
    refine jr.bipush rfl (by decide) ?_
    refine jr.icmp_ge rfl rfl (by omega) (by omega) (fun h50 => ?_) (fun h50 => ?_)
    · refine jr.iload_n rfl rfl ?_
      exact jr.ireturn rfl rfl rfl (q _ _ hI_M hH_M hS_M ht_M (by omega) )
    · refine jr.aload_n rfl rfl ?_
      refine jr.getf (i := 39) (v := .ref 627) rfl rfl (by decide) rfl (by decide) rfl rfl rfl rfl ?_
      refine jr.iload_n rfl rfl ?_
      refine jr.iload_n rfl rfl ?_
      refine jr.iload_n rfl rfl ?_
      refine jr.icmp_ge rfl rfl (by omega) (by omega) (fun h60 => ?_) (fun h60 => ?_)
      · refine jr.iconst rfl ?_
        refine jr.zast (i := f) (x := 0) rfl (by decide) rfl (by decide) (by omega) (by omega) (j_zn (by omega)) ?_
        refine jr.iload_n rfl rfl ?_
        refine jr.iload_n rfl rfl ?_
        refine jr.icmp_ge rfl rfl (by omega) (by omega) (fun h71 => ?_) (fun h71 => ?_)
        · refine jr.iinc rfl rfl (by decide) rfl ?_
          refine jr.goto rfl rfl ?_
          refine jr.pick [0, 1, 2, 3] rfl rfl ?_
          exact ih (nM - 1) (by omega) (ju M 627 f 0) (f + 1) w n (RI.u hI_M (a := 627) (i := f) (by rw [xri_row rfl rfl]; show (0 : Int) ≤ _ ∧ _ ≤ (1 : Int); omega)) (RH.o hH_M (by decide) (by decide) (by decide)) (RF.o hS_M (by decide) (by decide)) (Kp.o ht_M rfl) (by omega) (by omega) (by omega) (RW.fr hy0 (fun i => ju_c _ _ (by decide))) (by omega)
        · refine jr.aload_n rfl rfl ?_
          refine jr.iload_n rfl rfl ?_
          refine jr_v rfl rfl (Or.inl rfl) rfl rfl (by decide) rfl ⟨rfl, Nat.le_of_ble_eq_true rfl, Nat.le_of_ble_eq_true rfl⟩ rfl (jc.deep (r_takeRow (RI.u hI_M (a := 627) (i := f) (by rw [xri_row rfl rfl]; show (0 : Int) ≤ _ ∧ _ ≤ (1 : Int); omega)) (RH.o hH_M (by decide) (by decide) (by decide)) (RF.o hS_M (by decide) (by decide)) (Kp.o ht_M rfl) (by omega) ((RW.fr hy0 (fun i => ju_c _ _ (by decide))) f (by omega) (by omega)).2.2 (fun M1 hI_M1 hH_M1 hS_M1 ht_M1 w1_0 => ?_)) (by decide))
          refine jr.iinc rfl rfl (by decide) rfl ?_
          refine jr.goto rfl rfl ?_
          refine jr.pick [0, 1, 2, 3] rfl rfl ?_
          exact ih (nM - 1) (by omega) M1 (f + 1) w n hI_M1 hH_M1 hS_M1 ht_M1 (by omega) (by omega) (by omega) (RW.fr (RW.fr hy0 (fun i => ju_c _ _ (by decide))) (fun i => w1_0 599 i (by decide) (by decide) (by decide) (by decide) (by decide) (by decide) (by decide) (by decide) (by decide) (by decide) (by decide) (by decide) (by decide))) (by omega)
      · refine jr.iconst rfl ?_
        refine jr.goto rfl rfl ?_
        refine jr.zast (i := f) (x := 1) rfl (by decide) rfl (by decide) (by omega) (by omega) (j_zn (by omega)) ?_
        refine jr.iload_n rfl rfl ?_
        refine jr.iload_n rfl rfl ?_
        refine jr.icmp_ge rfl rfl (by omega) (by omega) (fun h71 => ?_) (fun h71 => ?_)
        · refine jr.iinc rfl rfl (by decide) rfl ?_
          refine jr.goto rfl rfl ?_
          refine jr.pick [0, 1, 2, 3] rfl rfl ?_
          exact ih (nM - 1) (by omega) (ju M 627 f 1) (f + 1) w n (RI.u hI_M (a := 627) (i := f) (by rw [xri_row rfl rfl]; show (0 : Int) ≤ _ ∧ _ ≤ (1 : Int); omega)) (RH.o hH_M (by decide) (by decide) (by decide)) (RF.o hS_M (by decide) (by decide)) (Kp.o ht_M rfl) (by omega) (by omega) (by omega) (RW.fr hy0 (fun i => ju_c _ _ (by decide))) (by omega)
        · refine jr.aload_n rfl rfl ?_
          refine jr.iload_n rfl rfl ?_
          refine jr_v rfl rfl (Or.inl rfl) rfl rfl (by decide) rfl ⟨rfl, Nat.le_of_ble_eq_true rfl, Nat.le_of_ble_eq_true rfl⟩ rfl (jc.deep (r_takeRow (RI.u hI_M (a := 627) (i := f) (by rw [xri_row rfl rfl]; show (0 : Int) ≤ _ ∧ _ ≤ (1 : Int); omega)) (RH.o hH_M (by decide) (by decide) (by decide)) (RF.o hS_M (by decide) (by decide)) (Kp.o ht_M rfl) (by omega) ((RW.fr hy0 (fun i => ju_c _ _ (by decide))) f (by omega) (by omega)).2.2 (fun M2 hI_M2 hH_M2 hS_M2 ht_M2 w2_0 => ?_)) (by decide))
          refine jr.iinc rfl rfl (by decide) rfl ?_
          refine jr.goto rfl rfl ?_
          refine jr.pick [0, 1, 2, 3] rfl rfl ?_
          exact ih (nM - 1) (by omega) M2 (f + 1) w n hI_M2 hH_M2 hS_M2 ht_M2 (by omega) (by omega) (by omega) (RW.fr (RW.fr hy0 (fun i => ju_c _ _ (by decide))) (fun i => w2_0 599 i (by decide) (by decide) (by decide) (by decide) (by decide) (by decide) (by decide) (by decide) (by decide) (by decide) (by decide) (by decide) (by decide))) (by omega)
theorem r_restore_L20 {A : Nat → Option (Nat × (Nat → Int32))} {Q : Option Value → jm → Prop} {T : jm} (q : ∀ (r : Int) (M' : jm), RI M' → RH M' → RF M' → Kp T M' → (-60) ≤ r ∧ r ≤ 24 → Q (some (.int (Int32.ofInt r))) M') : ∀ (nM : Nat) (M : jm) (k : Int) (w : Int) (n : Int), RI M → RH M → RF M → Kp T M → 0 ≤ k ∧ k ≤ 34 → 0 ≤ w ∧ w ≤ 34 → 0 ≤ n ∧ n ≤ 1600 → k ≤ w → RW M n k → 34 - k ≤ nM → jr A 5 xm_332 20 [(3, .int (Int32.ofInt (k))), (2, .int (Int32.ofInt (w))), (1, .int (Int32.ofInt (n))), (0, .ref (598))] [] M Q := by
  intro nM
  induction nM using Nat.strongRecOn with
  | ind nM ih =>
    intro M k w n hI_M hH_M hS_M ht_M h_k h_w h_n hy0 hy1 hm
    have wl := RW.le hy1
    refine jr.iload_n rfl rfl ?_
    refine jr.iload_n rfl rfl ?_
    refine jr.icmp_ge rfl rfl (by omega) (by omega) (fun h22 => ?_) (fun h22 => ?_)
    · refine jr.iconst rfl ?_
      refine jr.istore_n rfl (by decide) rfl ?_
      refine jr.pick [0, 1, 2, 3] rfl rfl ?_
      exact r_restore_L47 q 24 M 0 w n hI_M hH_M hS_M ht_M (by omega) (by omega) (by omega) (RW.w hy1 (by omega)) (by omega)
    · refine jr.aload_n rfl rfl ?_
      refine jr.iload_n rfl rfl ?_
      refine jr.iload_n rfl rfl ?_
      refine jr_v rfl rfl (Or.inl rfl) rfl rfl (by decide) rfl ⟨rfl, Nat.le_of_ble_eq_true rfl, Nat.le_of_ble_eq_true rfl⟩ rfl (jc.deep (r_isRow hI_M hH_M hS_M ht_M (by omega) (by omega)  (fun r1 z1 w1_0 => ?_)) (by decide))
      refine jr.if_ne rfl rfl (by omega) (fun h31 => ?_) (fun h31 => ?_)
      · refine jr.iinc rfl rfl (by decide) rfl ?_
        refine jr.goto rfl rfl ?_
        refine jr.pick [0, 1, 2, 3] rfl rfl ?_
        exact ih (nM - 1) (by omega) M (k + 1) w n hI_M hH_M hS_M ht_M (by omega) (by omega) (by omega) (by omega) (RW.add hy1 (w1_0 (by omega))) (by omega)
      · refine jr.bipush rfl (by decide) ?_
        refine jr.iload_n rfl rfl ?_
        refine jr.isub rfl ?_
        exact jr.ireturn rfl rfl rfl (q _ _ hI_M hH_M hS_M ht_M (by omega) )
theorem r_restore {A : Nat → Option (Nat × (Nat → Int32))} {Q : Option Value → jm → Prop} {T : jm} {M : jm} (hI_M : RI M) (hH_M : RH M) (hS_M : RF M) (ht_M : Kp T M) (q : ∀ (r : Int) (M' : jm), RI M' → RH M' → RF M' → Kp T M' → (-60) ≤ r ∧ r ≤ 24 → Q (some (.int (Int32.ofInt r))) M') : jc A 6 332 [.ref (598)] M Q := by
  refine jc_of (m := xm_332) rfl (Nat.le_of_ble_eq_true rfl) rfl ?_
  refine jr.aload_n rfl rfl ?_
  obtain ⟨v1, e1⟩ : ∃ z, M 598 1 = z := ⟨_, rfl⟩
  have b1 : 0 ≤ v1 ∧ v1 ≤ 1600 := by rw [← e1]; exact hI_M 598 1 (by decide)
  refine jr.getf (i := 1) (x := v1) (v := .int (Int32.ofInt (v1))) rfl rfl (by decide) rfl (by decide) rfl rfl e1 rfl ?_
  refine jr.istore_n rfl (by decide) rfl ?_
  refine jr.aload_n rfl rfl ?_
  refine jr.iconst rfl ?_
  refine jr.putf (i := 1) (x := 0) rfl rfl (by decide) rfl (by decide) rfl rfl rfl rfl rfl ?_
  refine jr.iload_n rfl rfl ?_
  refine jr.bipush rfl (by decide) ?_
  refine jr.iadd rfl ?_
  refine jr.bipush rfl (by decide) ?_
  refine jr.idiv rfl (by decide) ?_
  have b2 : j_div (v1 + 47) 48 = (v1 + 47) / 48 := j_div_ex (by omega) (by omega)
  generalize j_div (v1 + 47) 48 = v2 at b2 ⊢
  refine jr.istore_n rfl (by decide) rfl ?_
  refine jr.iconst rfl ?_
  refine jr.istore_n rfl (by decide) rfl ?_
  refine jr.pick [0, 1, 2, 3] rfl rfl ?_
  exact r_restore_L20 q 34 (ju M 598 1 0) 0 v2 v1 (RI.u hI_M (a := 598) (i := 1) (show (0 : Int) ≤ _ ∧ _ ≤ (1600 : Int) from by omega)) (RH.o hH_M (by decide) (by decide) (by decide)) (RF.o hS_M (by decide) (by decide)) (Kp.o ht_M rfl) (by omega) (by omega) (by omega) (by omega) (RW.zero _ _) (by omega)
theorem r_export_L317 {A : Nat → Option (Nat × (Nat → Int32))} {Q : Option Value → jm → Prop} {T : jm} (q : ∀ (r : Int) (M' : jm), RI M' → RH M' → RF M' → Kp T M' → 0 ≤ r ∧ r ≤ 1600 → Q (some (.int (Int32.ofInt r))) M') (nO : Nat) (ko : ∀ (M : jm) (f : Int), RI M → RH M → RF M → Kp T M → 0 ≤ f ∧ f ≤ 24 → 0 ≤ M 598 1 ∧ M 598 1 ≤ 1152 → M 598 1 ≤ 48 * f → 24 - f ≤ nO → jr A 2 xm_326 7 [(1, .int (Int32.ofInt (f))), (0, .ref (598))] [] M Q) : ∀ (M : jm) (b : Int) (a : Int) (t : Int) (f : Int) (u : Int) (w : Int), RI M → RH M → RF M → Kp T M → 0 ≤ b ∧ b ≤ 47 → 0 ≤ a ∧ a ≤ 46 → 0 ≤ t ∧ t ≤ 1104 → 0 ≤ f ∧ f ≤ 23 → 0 ≤ u ∧ u ≤ 1596 → (-9223372036854775808) ≤ w ∧ w ≤ 9223372036854775807 → 24 - (f + 1) ≤ nO → a = 2 * f → b = 2 * f + 1 → t ≤ 48 * f → M 598 1 = t → u = t + 30 → jr A 2 xm_326 317 [(4, .int (Int32.ofInt (b))), (3, .int (Int32.ofInt (a))), (2, .int (Int32.ofInt (t))), (1, .int (Int32.ofInt (f))), (0, .ref (598))] [.long (Int64.ofInt (w)), .int (Int32.ofInt (u)), .ref (598)] M Q := by
    intro M b a t f u w hI_M hH_M hS_M ht_M h_b h_a h_t h_f h_u h_w hy0 hy1 hy2 hy3 hy4 hy5
    refine jr_v rfl rfl (Or.inl rfl) rfl rfl (by decide) rfl ⟨rfl, Nat.le_of_ble_eq_true rfl, Nat.le_of_ble_eq_true rfl⟩ rfl (jc.deep (r_tapeFour hI_M hH_M hS_M ht_M (by omega) (by omega)  (fun M1 hI_M1 hH_M1 hS_M1 ht_M1 w1_0 => ?_)) (by decide))
    refine jr.aload_n rfl rfl ?_
    refine jr.iload_n rfl rfl ?_
    refine jr.bipush rfl (by decide) ?_
    refine jr.iadd rfl ?_
    refine jr.aload_n rfl rfl ?_
    refine jr.getf (i := 51) (v := .ref 639) rfl rfl (by decide) rfl (by decide) rfl rfl rfl rfl ?_
    refine jr.iload_n rfl rfl ?_
    obtain ⟨v2, e2⟩ : ∃ z, M 639 f = z := ⟨_, rfl⟩
    have b2 : (-2147483648) ≤ v2 ∧ v2 ≤ 2147483647 := by rw [← e2]; exact (by have q := hI_M 639 f (by decide); rw [xri_row rfl rfl] at q; exact q)
    have e3 : M1 639 f = v2 := ((w1_0 639 f (by decide)).trans e2)
    refine jr.iald (i := f) (x := v2) rfl (by decide) rfl (by decide) (by omega) (by omega) e3 ?_
    refine jr.aload_n rfl rfl ?_
    obtain ⟨v4, e4⟩ : ∃ z, M 598 2 = z := ⟨_, rfl⟩
    have b4 : 0 ≤ v4 ∧ v4 ≤ 2000000 := by rw [← e4]; exact hI_M 598 2 (by decide)
    have e5 : M1 598 2 = v4 := ((w1_0 598 2 (by decide)).trans e4)
    refine jr.getf (i := 2) (x := v4) (v := .int (Int32.ofInt (v4))) rfl rfl (by decide) rfl (by decide) rfl rfl e5 rfl ?_
    refine jr.isub rfl ?_
    refine jr.iw (j_w (v2 - v4)) (j_w_eq _) ?_
    have b6 : -2147483648 ≤ j_w (v2 - v4) ∧ j_w (v2 - v4) ≤ 2147483647 := jb_any _
    generalize j_w (v2 - v4) = v6 at b6 ⊢
    refine jr.i2l rfl (by omega) ?_
    refine jr_v rfl rfl (Or.inl rfl) rfl rfl (by decide) rfl ⟨rfl, Nat.le_of_ble_eq_true rfl, Nat.le_of_ble_eq_true rfl⟩ rfl (jc.deep (r_tapeFour hI_M1 hH_M1 hS_M1 ht_M1 (by omega) (by omega)  (fun M7 hI_M7 hH_M7 hS_M7 ht_M7 w7_0 => ?_)) (by decide))
    refine jr.aload_n rfl rfl ?_
    refine jr.iload_n rfl rfl ?_
    refine jr.bipush rfl (by decide) ?_
    refine jr.iadd rfl ?_
    refine jr.aload_n rfl rfl ?_
    refine jr.getf (i := 48) (v := .ref 636) rfl rfl (by decide) rfl (by decide) rfl rfl rfl rfl ?_
    refine jr.iload_n rfl rfl ?_
    obtain ⟨v8, e8⟩ : ∃ z, M 636 a = z := ⟨_, rfl⟩
    have b8 : (-9223372036854775808) ≤ v8 ∧ v8 ≤ 9223372036854775807 := by rw [← e8]; exact (by have q := hI_M 636 a (by decide); rw [xri_row rfl rfl] at q; exact q)
    have e9 : M1 636 a = v8 := ((w1_0 636 a (by decide)).trans e8)
    have e10 : M7 636 a = v8 := ((w7_0 636 a (by decide)).trans e9)
    refine jr.lald (i := a) (x := v8) rfl (by decide) rfl (by decide) (by omega) (by omega) e10 ?_
    refine jr.aload_n rfl rfl ?_
    refine jr.getf (i := 48) (v := .ref 636) rfl rfl (by decide) rfl (by decide) rfl rfl rfl rfl ?_
    refine jr.iload rfl rfl ?_
    obtain ⟨v11, e11⟩ : ∃ z, M 636 b = z := ⟨_, rfl⟩
    have b11 : (-9223372036854775808) ≤ v11 ∧ v11 ≤ 9223372036854775807 := by rw [← e11]; exact (by have q := hI_M 636 b (by decide); rw [xri_row rfl rfl] at q; exact q)
    have e12 : M1 636 b = v11 := ((w1_0 636 b (by decide)).trans e11)
    have e13 : M7 636 b = v11 := ((w7_0 636 b (by decide)).trans e12)
    refine jr.lald (i := b) (x := v11) rfl (by decide) rfl (by decide) (by omega) (by omega) e13 ?_
    refine jr.ladd rfl ?_
    refine jr.lw (jl_w (v8 + v11)) (jl_w_eq _) ?_
    have b14 : -9223372036854775808 ≤ jl_w (v8 + v11) ∧ jl_w (v8 + v11) ≤ 9223372036854775807 := jbl_any _
    generalize jl_w (v8 + v11) = v14 at b14 ⊢
    refine jr_v rfl rfl (Or.inl rfl) rfl rfl (by decide) rfl ⟨rfl, Nat.le_of_ble_eq_true rfl, Nat.le_of_ble_eq_true rfl⟩ rfl (jc.deep (r_tapeFour hI_M7 hH_M7 hS_M7 ht_M7 (by omega) (by omega)  (fun M15 hI_M15 hH_M15 hS_M15 ht_M15 w15_0 => ?_)) (by decide))
    refine jr.aload_n rfl rfl ?_
    refine jr.iload_n rfl rfl ?_
    refine jr.bipush rfl (by decide) ?_
    refine jr.iadd rfl ?_
    refine jr.aload_n rfl rfl ?_
    refine jr.getf (i := 49) (v := .ref 637) rfl rfl (by decide) rfl (by decide) rfl rfl rfl rfl ?_
    refine jr.iload_n rfl rfl ?_
    obtain ⟨v16, e16⟩ : ∃ z, M 637 a = z := ⟨_, rfl⟩
    have b16 : (-9223372036854775808) ≤ v16 ∧ v16 ≤ 9223372036854775807 := by rw [← e16]; exact (by have q := hI_M 637 a (by decide); rw [xri_row rfl rfl] at q; exact q)
    have e17 : M1 637 a = v16 := ((w1_0 637 a (by decide)).trans e16)
    have e18 : M7 637 a = v16 := ((w7_0 637 a (by decide)).trans e17)
    have e19 : M15 637 a = v16 := ((w15_0 637 a (by decide)).trans e18)
    refine jr.lald (i := a) (x := v16) rfl (by decide) rfl (by decide) (by omega) (by omega) e19 ?_
    refine jr.aload_n rfl rfl ?_
    refine jr.getf (i := 49) (v := .ref 637) rfl rfl (by decide) rfl (by decide) rfl rfl rfl rfl ?_
    refine jr.iload rfl rfl ?_
    obtain ⟨v20, e20⟩ : ∃ z, M 637 b = z := ⟨_, rfl⟩
    have b20 : (-9223372036854775808) ≤ v20 ∧ v20 ≤ 9223372036854775807 := by rw [← e20]; exact (by have q := hI_M 637 b (by decide); rw [xri_row rfl rfl] at q; exact q)
    have e21 : M1 637 b = v20 := ((w1_0 637 b (by decide)).trans e20)
    have e22 : M7 637 b = v20 := ((w7_0 637 b (by decide)).trans e21)
    have e23 : M15 637 b = v20 := ((w15_0 637 b (by decide)).trans e22)
    refine jr.lald (i := b) (x := v20) rfl (by decide) rfl (by decide) (by omega) (by omega) e23 ?_
    refine jr.ladd rfl ?_
    refine jr.lw (jl_w (v16 + v20)) (jl_w_eq _) ?_
    have b24 : -9223372036854775808 ≤ jl_w (v16 + v20) ∧ jl_w (v16 + v20) ≤ 9223372036854775807 := jbl_any _
    generalize jl_w (v16 + v20) = v24 at b24 ⊢
    refine jr_v rfl rfl (Or.inl rfl) rfl rfl (by decide) rfl ⟨rfl, Nat.le_of_ble_eq_true rfl, Nat.le_of_ble_eq_true rfl⟩ rfl (jc.deep (r_tapeFour hI_M15 hH_M15 hS_M15 ht_M15 (by omega) (by omega)  (fun M25 hI_M25 hH_M25 hS_M25 ht_M25 w25_0 => ?_)) (by decide))
    refine jr.aload_n rfl rfl ?_
    refine jr.iload_n rfl rfl ?_
    refine jr.bipush rfl (by decide) ?_
    refine jr.iadd rfl ?_
    refine jr.aload_n rfl rfl ?_
    refine jr.iload_n rfl rfl ?_
    refine jr.iload_n rfl rfl ?_
    refine jr.bipush rfl (by decide) ?_
    refine jr.iadd rfl ?_
    refine jr_v rfl rfl (Or.inl rfl) rfl rfl (by decide) rfl ⟨rfl, Nat.le_of_ble_eq_true rfl, Nat.le_of_ble_eq_true rfl⟩ rfl (jc.deep (r_sumOfTape hI_M25 hH_M25 hS_M25 ht_M25 (by omega) (by omega) (by omega) (fun r26 z26  => ?_)) (by decide))
    refine jr_v rfl rfl (Or.inl rfl) rfl rfl (by decide) rfl ⟨rfl, Nat.le_of_ble_eq_true rfl, Nat.le_of_ble_eq_true rfl⟩ rfl (jc.deep (r_tapeTwo hI_M25 hH_M25 hS_M25 ht_M25 (by omega) (by omega)  (fun M27 hI_M27 hH_M27 hS_M27 ht_M27 w27_0 => ?_)) (by decide))
    refine jr.aload_n rfl rfl ?_
    refine jr.dup rfl rfl ?_
    obtain ⟨v28, e28⟩ : ∃ z, M 598 1 = z := ⟨_, rfl⟩
    have b28 : 0 ≤ v28 ∧ v28 ≤ 1600 := by rw [← e28]; exact hI_M 598 1 (by decide)
    have e29 : M1 598 1 = v28 := ((w1_0 598 1 (by decide)).trans e28)
    have e30 : M7 598 1 = v28 := ((w7_0 598 1 (by decide)).trans e29)
    have e31 : M15 598 1 = v28 := ((w15_0 598 1 (by decide)).trans e30)
    have e32 : M25 598 1 = v28 := ((w25_0 598 1 (by decide)).trans e31)
    have e33 : M27 598 1 = v28 := ((w27_0 598 1 (by decide)).trans e32)
    refine jr.getf (i := 1) (x := v28) (v := .int (Int32.ofInt (v28))) rfl rfl (by decide) rfl (by decide) rfl rfl e33 rfl ?_
    refine jr.bipush rfl (by decide) ?_
    refine jr.iadd rfl ?_
    refine jr.putf (i := 1) (x := (v28 + 48)) rfl rfl (by decide) rfl (by decide) rfl rfl rfl rfl rfl ?_
    refine jr.iinc rfl rfl (by decide) rfl ?_
    refine jr.goto rfl rfl ?_
    refine jr.pick [0, 4] rfl rfl ?_
    exact ko (ju M27 598 1 (v28 + 48)) (f + 1) (RI.u hI_M27 (a := 598) (i := 1) (show (0 : Int) ≤ _ ∧ _ ≤ (1600 : Int) from by omega)) (RH.o hH_M27 (by decide) (by decide) (by decide)) (RF.o hS_M27 (by decide) (by decide)) (Kp.o ht_M27 rfl) (by omega) (by rw [(ju_same _ _ _ _)]; omega) (by rw [(ju_same _ _ _ _)]; omega) (by omega)
theorem r_export_L287 {A : Nat → Option (Nat × (Nat → Int32))} {Q : Option Value → jm → Prop} {T : jm} (q : ∀ (r : Int) (M' : jm), RI M' → RH M' → RF M' → Kp T M' → 0 ≤ r ∧ r ≤ 1600 → Q (some (.int (Int32.ofInt r))) M') (nO : Nat) (ko : ∀ (M : jm) (f : Int), RI M → RH M → RF M → Kp T M → 0 ≤ f ∧ f ≤ 24 → 0 ≤ M 598 1 ∧ M 598 1 ≤ 1152 → M 598 1 ≤ 48 * f → 24 - f ≤ nO → jr A 2 xm_326 7 [(1, .int (Int32.ofInt (f))), (0, .ref (598))] [] M Q) : ∀ (M : jm) (b : Int) (a : Int) (t : Int) (f : Int) (u : Int) (w : Int), RI M → RH M → RF M → Kp T M → 0 ≤ b ∧ b ≤ 47 → 0 ≤ a ∧ a ≤ 46 → 0 ≤ t ∧ t ≤ 1104 → 0 ≤ f ∧ f ≤ 23 → 0 ≤ u ∧ u ≤ 1596 → (-9223372036854775808) ≤ w ∧ w ≤ 9223372036854775807 → 24 - (f + 1) ≤ nO → a = 2 * f → b = 2 * f + 1 → t ≤ 48 * f → M 598 1 = t → u = t + 26 → jr A 2 xm_326 287 [(4, .int (Int32.ofInt (b))), (3, .int (Int32.ofInt (a))), (2, .int (Int32.ofInt (t))), (1, .int (Int32.ofInt (f))), (0, .ref (598))] [.long (Int64.ofInt (w)), .int (Int32.ofInt (u)), .ref (598)] M Q := by
    intro M b a t f u w hI_M hH_M hS_M ht_M h_b h_a h_t h_f h_u h_w hy0 hy1 hy2 hy3 hy4 hy5
    refine jr_v rfl rfl (Or.inl rfl) rfl rfl (by decide) rfl ⟨rfl, Nat.le_of_ble_eq_true rfl, Nat.le_of_ble_eq_true rfl⟩ rfl (jc.deep (r_tapeFour hI_M hH_M hS_M ht_M (by omega) (by omega)  (fun M1 hI_M1 hH_M1 hS_M1 ht_M1 w1_0 => ?_)) (by decide))
    refine jr.aload_n rfl rfl ?_
    refine jr.iload_n rfl rfl ?_
    refine jr.bipush rfl (by decide) ?_
    refine jr.iadd rfl ?_
    refine jr.aload_n rfl rfl ?_
    refine jr.getf (i := 44) (v := .ref 632) rfl rfl (by decide) rfl (by decide) rfl rfl rfl rfl ?_
    refine jr.iload rfl rfl ?_
    obtain ⟨v2, e2⟩ : ∃ z, M 632 b = z := ⟨_, rfl⟩
    have b2 : 0 ≤ v2 ∧ v2 ≤ 1 := by rw [← e2]; exact (by have q := hI_M 632 b (by decide); rw [xri_row rfl rfl] at q; exact q)
    have e3 : M1 632 b = v2 := ((w1_0 632 b (by decide)).trans e2)
    refine jr.zald (i := b) (x := v2) rfl (by decide) rfl (by decide) (by omega) (by omega) e3 ?_
    refine jr.if_eq rfl rfl (by omega) (fun h302 => ?_) (fun h302 => ?_)
    · refine jr.lconst (x := 0) rfl (by decide) ?_
      obtain ⟨v4, e4⟩ : ∃ z, M 598 1 = z := ⟨_, rfl⟩
      have b4 : 0 ≤ v4 ∧ v4 ≤ 1600 := by rw [← e4]; exact hI_M 598 1 (by decide)
      have e5 : M1 598 1 = v4 := ((w1_0 598 1 (by decide)).trans e4)
      refine jr.pick [0, 1, 2, 3, 4] rfl rfl ?_
      exact r_export_L317 q nO ko M1 b a t f (t + 30) 0 hI_M1 hH_M1 hS_M1 ht_M1 (by omega) (by omega) (by omega) (by omega) (by omega) (by omega) (by omega) (by omega) (by omega) (by omega) ((e5).trans (by omega)) (by omega)
    · refine jr.aload_n rfl rfl ?_
      refine jr.getf (i := 45) (v := .ref 633) rfl rfl (by decide) rfl (by decide) rfl rfl rfl rfl ?_
      refine jr.iload rfl rfl ?_
      obtain ⟨v6, e6⟩ : ∃ z, M 633 b = z := ⟨_, rfl⟩
      have b6 : (-2147483648) ≤ v6 ∧ v6 ≤ 2147483647 := by rw [← e6]; exact (by have q := hI_M 633 b (by decide); rw [xri_row rfl rfl] at q; exact q)
      have e7 : M1 633 b = v6 := ((w1_0 633 b (by decide)).trans e6)
      refine jr.iald (i := b) (x := v6) rfl (by decide) rfl (by decide) (by omega) (by omega) e7 ?_
      refine jr.i2l rfl (by omega) ?_
      refine jr.goto rfl rfl ?_
      obtain ⟨v8, e8⟩ : ∃ z, M 598 1 = z := ⟨_, rfl⟩
      have b8 : 0 ≤ v8 ∧ v8 ≤ 1600 := by rw [← e8]; exact hI_M 598 1 (by decide)
      have e9 : M1 598 1 = v8 := ((w1_0 598 1 (by decide)).trans e8)
      refine jr.pick [0, 1, 2, 3, 4] rfl rfl ?_
      exact r_export_L317 q nO ko M1 b a t f (t + 30) v6 hI_M1 hH_M1 hS_M1 ht_M1 (by omega) (by omega) (by omega) (by omega) (by omega) (by omega) (by omega) (by omega) (by omega) (by omega) ((e9).trans (by omega)) (by omega)
theorem r_export_L142 {A : Nat → Option (Nat × (Nat → Int32))} {Q : Option Value → jm → Prop} {T : jm} (q : ∀ (r : Int) (M' : jm), RI M' → RH M' → RF M' → Kp T M' → 0 ≤ r ∧ r ≤ 1600 → Q (some (.int (Int32.ofInt r))) M') (nO : Nat) (ko : ∀ (M : jm) (f : Int), RI M → RH M → RF M → Kp T M → 0 ≤ f ∧ f ≤ 24 → 0 ≤ M 598 1 ∧ M 598 1 ≤ 1152 → M 598 1 ≤ 48 * f → 24 - f ≤ nO → jr A 2 xm_326 7 [(1, .int (Int32.ofInt (f))), (0, .ref (598))] [] M Q) : ∀ (M : jm) (b : Int) (a : Int) (t : Int) (f : Int), RI M → RH M → RF M → Kp T M → 0 ≤ b ∧ b ≤ 47 → 0 ≤ a ∧ a ≤ 46 → 0 ≤ t ∧ t ≤ 1104 → 0 ≤ f ∧ f ≤ 23 → 24 - (f + 1) ≤ nO → a = 2 * f → b = 2 * f + 1 → t ≤ 48 * f → M 598 1 = t → jr A 2 xm_326 142 [(4, .int (Int32.ofInt (b))), (3, .int (Int32.ofInt (a))), (2, .int (Int32.ofInt (t))), (1, .int (Int32.ofInt (f))), (0, .ref (598))] [] M Q := by
    intro M b a t f hI_M hH_M hS_M ht_M h_b h_a h_t h_f hy0 hy1 hy2 hy3 hy4
    refine jr.aload_n rfl rfl ?_
    refine jr.iload_n rfl rfl ?_
    refine jr.iconst rfl ?_
    refine jr.iadd rfl ?_
    refine jr.aload_n rfl rfl ?_
    refine jr.getf (i := 43) (v := .ref 631) rfl rfl (by decide) rfl (by decide) rfl rfl rfl rfl ?_
    refine jr.iload_n rfl rfl ?_
    obtain ⟨v1, e1⟩ : ∃ z, M 631 a = z := ⟨_, rfl⟩
    have b1 : 0 ≤ v1 ∧ v1 ≤ 65535 := by rw [← e1]; exact (by have q := hI_M 631 a (by decide); rw [xri_row rfl rfl] at q; exact q)
    refine jr.iald (i := a) (x := v1) rfl (by decide) rfl (by decide) (by omega) (by omega) e1 ?_
    refine jr_v rfl rfl (Or.inl rfl) rfl rfl (by decide) rfl ⟨rfl, Nat.le_of_ble_eq_true rfl, Nat.le_of_ble_eq_true rfl⟩ rfl (jc.deep (r_tapeTwo hI_M hH_M hS_M ht_M (by omega) (by omega)  (fun M2 hI_M2 hH_M2 hS_M2 ht_M2 w2_0 => ?_)) (by decide))
    refine jr.aload_n rfl rfl ?_
    refine jr.iload_n rfl rfl ?_
    refine jr.iconst rfl ?_
    refine jr.iadd rfl ?_
    refine jr.aload_n rfl rfl ?_
    refine jr.getf (i := 43) (v := .ref 631) rfl rfl (by decide) rfl (by decide) rfl rfl rfl rfl ?_
    refine jr.iload rfl rfl ?_
    obtain ⟨v3, e3⟩ : ∃ z, M 631 b = z := ⟨_, rfl⟩
    have b3 : 0 ≤ v3 ∧ v3 ≤ 65535 := by rw [← e3]; exact (by have q := hI_M 631 b (by decide); rw [xri_row rfl rfl] at q; exact q)
    have e4 : M2 631 b = v3 := ((w2_0 631 b (by decide)).trans e3)
    refine jr.iald (i := b) (x := v3) rfl (by decide) rfl (by decide) (by omega) (by omega) e4 ?_
    refine jr_v rfl rfl (Or.inl rfl) rfl rfl (by decide) rfl ⟨rfl, Nat.le_of_ble_eq_true rfl, Nat.le_of_ble_eq_true rfl⟩ rfl (jc.deep (r_tapeTwo hI_M2 hH_M2 hS_M2 ht_M2 (by omega) (by omega)  (fun M5 hI_M5 hH_M5 hS_M5 ht_M5 w5_0 => ?_)) (by decide))
    refine jr.aload_n rfl rfl ?_
    refine jr.iload_n rfl rfl ?_
    refine jr.bipush rfl (by decide) ?_
    refine jr.iadd rfl ?_
    refine jr.aload_n rfl rfl ?_
    refine jr.getf (i := 47) (v := .ref 635) rfl rfl (by decide) rfl (by decide) rfl rfl rfl rfl ?_
    refine jr.iload_n rfl rfl ?_
    obtain ⟨v6, e6⟩ : ∃ z, M 635 a = z := ⟨_, rfl⟩
    have b6 : 0 ≤ v6 ∧ v6 ≤ 65535 := by rw [← e6]; exact (by have q := hI_M 635 a (by decide); rw [xri_row rfl rfl] at q; exact q)
    have e7 : M2 635 a = v6 := ((w2_0 635 a (by decide)).trans e6)
    have e8 : M5 635 a = v6 := ((w5_0 635 a (by decide)).trans e7)
    refine jr.iald (i := a) (x := v6) rfl (by decide) rfl (by decide) (by omega) (by omega) e8 ?_
    refine jr_v rfl rfl (Or.inl rfl) rfl rfl (by decide) rfl ⟨rfl, Nat.le_of_ble_eq_true rfl, Nat.le_of_ble_eq_true rfl⟩ rfl (jc.deep (r_tapeTwo hI_M5 hH_M5 hS_M5 ht_M5 (by omega) (by omega)  (fun M9 hI_M9 hH_M9 hS_M9 ht_M9 w9_0 => ?_)) (by decide))
    refine jr.aload_n rfl rfl ?_
    refine jr.iload_n rfl rfl ?_
    refine jr.bipush rfl (by decide) ?_
    refine jr.iadd rfl ?_
    refine jr.aload_n rfl rfl ?_
    refine jr.getf (i := 47) (v := .ref 635) rfl rfl (by decide) rfl (by decide) rfl rfl rfl rfl ?_
    refine jr.iload rfl rfl ?_
    obtain ⟨v10, e10⟩ : ∃ z, M 635 b = z := ⟨_, rfl⟩
    have b10 : 0 ≤ v10 ∧ v10 ≤ 65535 := by rw [← e10]; exact (by have q := hI_M 635 b (by decide); rw [xri_row rfl rfl] at q; exact q)
    have e11 : M2 635 b = v10 := ((w2_0 635 b (by decide)).trans e10)
    have e12 : M5 635 b = v10 := ((w5_0 635 b (by decide)).trans e11)
    have e13 : M9 635 b = v10 := ((w9_0 635 b (by decide)).trans e12)
    refine jr.iald (i := b) (x := v10) rfl (by decide) rfl (by decide) (by omega) (by omega) e13 ?_
    refine jr_v rfl rfl (Or.inl rfl) rfl rfl (by decide) rfl ⟨rfl, Nat.le_of_ble_eq_true rfl, Nat.le_of_ble_eq_true rfl⟩ rfl (jc.deep (r_tapeTwo hI_M9 hH_M9 hS_M9 ht_M9 (by omega) (by omega)  (fun M14 hI_M14 hH_M14 hS_M14 ht_M14 w14_0 => ?_)) (by decide))
    refine jr.aload_n rfl rfl ?_
    refine jr.iload_n rfl rfl ?_
    refine jr.bipush rfl (by decide) ?_
    refine jr.iadd rfl ?_
    refine jr.aload_n rfl rfl ?_
    refine jr.getf (i := 42) (v := .ref 630) rfl rfl (by decide) rfl (by decide) rfl rfl rfl rfl ?_
    refine jr.iload_n rfl rfl ?_
    obtain ⟨v15, e15⟩ : ∃ z, M 630 a = z := ⟨_, rfl⟩
    have b15 : (-9223372036854775808) ≤ v15 ∧ v15 ≤ 9223372036854775807 := by rw [← e15]; exact (by have q := hI_M 630 a (by decide); rw [xri_row rfl rfl] at q; exact q)
    have e16 : M2 630 a = v15 := ((w2_0 630 a (by decide)).trans e15)
    have e17 : M5 630 a = v15 := ((w5_0 630 a (by decide)).trans e16)
    have e18 : M9 630 a = v15 := ((w9_0 630 a (by decide)).trans e17)
    have e19 : M14 630 a = v15 := ((w14_0 630 a (by decide)).trans e18)
    refine jr.lald (i := a) (x := v15) rfl (by decide) rfl (by decide) (by omega) (by omega) e19 ?_
    refine jr.bipush rfl (by decide) ?_
    refine jr.lshr rfl ?_
    have b20 : jl_shr v15 32 = v15 / 4294967296 := jl_shr_ex 32 (by decide) (by omega) (by omega)
    generalize jl_shr v15 32 = v20 at b20 ⊢
    refine jr_v rfl rfl (Or.inl rfl) rfl rfl (by decide) rfl ⟨rfl, Nat.le_of_ble_eq_true rfl, Nat.le_of_ble_eq_true rfl⟩ rfl (jc.deep (r_tapeFour hI_M14 hH_M14 hS_M14 ht_M14 (by omega) (by omega)  (fun M21 hI_M21 hH_M21 hS_M21 ht_M21 w21_0 => ?_)) (by decide))
    refine jr.aload_n rfl rfl ?_
    refine jr.iload_n rfl rfl ?_
    refine jr.bipush rfl (by decide) ?_
    refine jr.iadd rfl ?_
    refine jr.aload_n rfl rfl ?_
    refine jr.getf (i := 42) (v := .ref 630) rfl rfl (by decide) rfl (by decide) rfl rfl rfl rfl ?_
    refine jr.iload_n rfl rfl ?_
    have e22 : M21 630 a = v15 := ((w21_0 630 a (by decide)).trans e19)
    refine jr.lald (i := a) (x := v15) rfl (by decide) rfl (by decide) (by omega) (by omega) e22 ?_
    refine jr_v rfl rfl (Or.inl rfl) rfl rfl (by decide) rfl ⟨rfl, Nat.le_of_ble_eq_true rfl, Nat.le_of_ble_eq_true rfl⟩ rfl (jc.deep (r_tapeFour hI_M21 hH_M21 hS_M21 ht_M21 (by omega) (by omega)  (fun M23 hI_M23 hH_M23 hS_M23 ht_M23 w23_0 => ?_)) (by decide))
    refine jr.aload_n rfl rfl ?_
    refine jr.iload_n rfl rfl ?_
    refine jr.bipush rfl (by decide) ?_
    refine jr.iadd rfl ?_
    refine jr.aload_n rfl rfl ?_
    refine jr.getf (i := 42) (v := .ref 630) rfl rfl (by decide) rfl (by decide) rfl rfl rfl rfl ?_
    refine jr.iload rfl rfl ?_
    obtain ⟨v24, e24⟩ : ∃ z, M 630 b = z := ⟨_, rfl⟩
    have b24 : (-9223372036854775808) ≤ v24 ∧ v24 ≤ 9223372036854775807 := by rw [← e24]; exact (by have q := hI_M 630 b (by decide); rw [xri_row rfl rfl] at q; exact q)
    have e25 : M2 630 b = v24 := ((w2_0 630 b (by decide)).trans e24)
    have e26 : M5 630 b = v24 := ((w5_0 630 b (by decide)).trans e25)
    have e27 : M9 630 b = v24 := ((w9_0 630 b (by decide)).trans e26)
    have e28 : M14 630 b = v24 := ((w14_0 630 b (by decide)).trans e27)
    have e29 : M21 630 b = v24 := ((w21_0 630 b (by decide)).trans e28)
    have e30 : M23 630 b = v24 := ((w23_0 630 b (by decide)).trans e29)
    refine jr.lald (i := b) (x := v24) rfl (by decide) rfl (by decide) (by omega) (by omega) e30 ?_
    refine jr.bipush rfl (by decide) ?_
    refine jr.lshr rfl ?_
    have b31 : jl_shr v24 32 = v24 / 4294967296 := jl_shr_ex 32 (by decide) (by omega) (by omega)
    generalize jl_shr v24 32 = v31 at b31 ⊢
    refine jr_v rfl rfl (Or.inl rfl) rfl rfl (by decide) rfl ⟨rfl, Nat.le_of_ble_eq_true rfl, Nat.le_of_ble_eq_true rfl⟩ rfl (jc.deep (r_tapeFour hI_M23 hH_M23 hS_M23 ht_M23 (by omega) (by omega)  (fun M32 hI_M32 hH_M32 hS_M32 ht_M32 w32_0 => ?_)) (by decide))
    refine jr.aload_n rfl rfl ?_
    refine jr.iload_n rfl rfl ?_
    refine jr.bipush rfl (by decide) ?_
    refine jr.iadd rfl ?_
    refine jr.aload_n rfl rfl ?_
    refine jr.getf (i := 42) (v := .ref 630) rfl rfl (by decide) rfl (by decide) rfl rfl rfl rfl ?_
    refine jr.iload rfl rfl ?_
    have e33 : M32 630 b = v24 := ((w32_0 630 b (by decide)).trans e30)
    refine jr.lald (i := b) (x := v24) rfl (by decide) rfl (by decide) (by omega) (by omega) e33 ?_
    refine jr_v rfl rfl (Or.inl rfl) rfl rfl (by decide) rfl ⟨rfl, Nat.le_of_ble_eq_true rfl, Nat.le_of_ble_eq_true rfl⟩ rfl (jc.deep (r_tapeFour hI_M32 hH_M32 hS_M32 ht_M32 (by omega) (by omega)  (fun M34 hI_M34 hH_M34 hS_M34 ht_M34 w34_0 => ?_)) (by decide))
    refine jr.aload_n rfl rfl ?_
    refine jr.iload_n rfl rfl ?_
    refine jr.bipush rfl (by decide) ?_
    refine jr.iadd rfl ?_
    refine jr.aload_n rfl rfl ?_
    refine jr.getf (i := 44) (v := .ref 632) rfl rfl (by decide) rfl (by decide) rfl rfl rfl rfl ?_
    refine jr.iload_n rfl rfl ?_
    obtain ⟨v35, e35⟩ : ∃ z, M 632 a = z := ⟨_, rfl⟩
    have b35 : 0 ≤ v35 ∧ v35 ≤ 1 := by rw [← e35]; exact (by have q := hI_M 632 a (by decide); rw [xri_row rfl rfl] at q; exact q)
    have e36 : M2 632 a = v35 := ((w2_0 632 a (by decide)).trans e35)
    have e37 : M5 632 a = v35 := ((w5_0 632 a (by decide)).trans e36)
    have e38 : M9 632 a = v35 := ((w9_0 632 a (by decide)).trans e37)
    have e39 : M14 632 a = v35 := ((w14_0 632 a (by decide)).trans e38)
    have e40 : M21 632 a = v35 := ((w21_0 632 a (by decide)).trans e39)
    have e41 : M23 632 a = v35 := ((w23_0 632 a (by decide)).trans e40)
    have e42 : M32 632 a = v35 := ((w32_0 632 a (by decide)).trans e41)
    have e43 : M34 632 a = v35 := ((w34_0 632 a (by decide)).trans e42)
    refine jr.zald (i := a) (x := v35) rfl (by decide) rfl (by decide) (by omega) (by omega) e43 ?_
    refine jr.if_eq rfl rfl (by omega) (fun h273 => ?_) (fun h273 => ?_)
    · refine jr.lconst (x := 0) rfl (by decide) ?_
      obtain ⟨v44, e44⟩ : ∃ z, M 598 1 = z := ⟨_, rfl⟩
      have b44 : 0 ≤ v44 ∧ v44 ≤ 1600 := by rw [← e44]; exact hI_M 598 1 (by decide)
      have e45 : M2 598 1 = v44 := ((w2_0 598 1 (by decide)).trans e44)
      have e46 : M5 598 1 = v44 := ((w5_0 598 1 (by decide)).trans e45)
      have e47 : M9 598 1 = v44 := ((w9_0 598 1 (by decide)).trans e46)
      have e48 : M14 598 1 = v44 := ((w14_0 598 1 (by decide)).trans e47)
      have e49 : M21 598 1 = v44 := ((w21_0 598 1 (by decide)).trans e48)
      have e50 : M23 598 1 = v44 := ((w23_0 598 1 (by decide)).trans e49)
      have e51 : M32 598 1 = v44 := ((w32_0 598 1 (by decide)).trans e50)
      have e52 : M34 598 1 = v44 := ((w34_0 598 1 (by decide)).trans e51)
      refine jr.pick [0, 1, 2, 3, 4] rfl rfl ?_
      exact r_export_L287 q nO ko M34 b a t f (t + 26) 0 hI_M34 hH_M34 hS_M34 ht_M34 (by omega) (by omega) (by omega) (by omega) (by omega) (by omega) (by omega) (by omega) (by omega) (by omega) ((e52).trans (by omega)) (by omega)
    · refine jr.aload_n rfl rfl ?_
      refine jr.getf (i := 45) (v := .ref 633) rfl rfl (by decide) rfl (by decide) rfl rfl rfl rfl ?_
      refine jr.iload_n rfl rfl ?_
      obtain ⟨v53, e53⟩ : ∃ z, M 633 a = z := ⟨_, rfl⟩
      have b53 : (-2147483648) ≤ v53 ∧ v53 ≤ 2147483647 := by rw [← e53]; exact (by have q := hI_M 633 a (by decide); rw [xri_row rfl rfl] at q; exact q)
      have e54 : M2 633 a = v53 := ((w2_0 633 a (by decide)).trans e53)
      have e55 : M5 633 a = v53 := ((w5_0 633 a (by decide)).trans e54)
      have e56 : M9 633 a = v53 := ((w9_0 633 a (by decide)).trans e55)
      have e57 : M14 633 a = v53 := ((w14_0 633 a (by decide)).trans e56)
      have e58 : M21 633 a = v53 := ((w21_0 633 a (by decide)).trans e57)
      have e59 : M23 633 a = v53 := ((w23_0 633 a (by decide)).trans e58)
      have e60 : M32 633 a = v53 := ((w32_0 633 a (by decide)).trans e59)
      have e61 : M34 633 a = v53 := ((w34_0 633 a (by decide)).trans e60)
      refine jr.iald (i := a) (x := v53) rfl (by decide) rfl (by decide) (by omega) (by omega) e61 ?_
      refine jr.i2l rfl (by omega) ?_
      refine jr.goto rfl rfl ?_
      obtain ⟨v62, e62⟩ : ∃ z, M 598 1 = z := ⟨_, rfl⟩
      have b62 : 0 ≤ v62 ∧ v62 ≤ 1600 := by rw [← e62]; exact hI_M 598 1 (by decide)
      have e63 : M2 598 1 = v62 := ((w2_0 598 1 (by decide)).trans e62)
      have e64 : M5 598 1 = v62 := ((w5_0 598 1 (by decide)).trans e63)
      have e65 : M9 598 1 = v62 := ((w9_0 598 1 (by decide)).trans e64)
      have e66 : M14 598 1 = v62 := ((w14_0 598 1 (by decide)).trans e65)
      have e67 : M21 598 1 = v62 := ((w21_0 598 1 (by decide)).trans e66)
      have e68 : M23 598 1 = v62 := ((w23_0 598 1 (by decide)).trans e67)
      have e69 : M32 598 1 = v62 := ((w32_0 598 1 (by decide)).trans e68)
      have e70 : M34 598 1 = v62 := ((w34_0 598 1 (by decide)).trans e69)
      refine jr.pick [0, 1, 2, 3, 4] rfl rfl ?_
      exact r_export_L287 q nO ko M34 b a t f (t + 26) v53 hI_M34 hH_M34 hS_M34 ht_M34 (by omega) (by omega) (by omega) (by omega) (by omega) (by omega) (by omega) (by omega) (by omega) (by omega) ((e70).trans (by omega)) (by omega)
theorem r_export_L7 {A : Nat → Option (Nat × (Nat → Int32))} {Q : Option Value → jm → Prop} {T : jm} (q : ∀ (r : Int) (M' : jm), RI M' → RH M' → RF M' → Kp T M' → 0 ≤ r ∧ r ≤ 1600 → Q (some (.int (Int32.ofInt r))) M') : ∀ (nM : Nat) (M : jm) (f : Int), RI M → RH M → RF M → Kp T M → 0 ≤ f ∧ f ≤ 24 → 0 ≤ M 598 1 ∧ M 598 1 ≤ 1152 → M 598 1 ≤ 48 * f → 24 - f ≤ nM → jr A 2 xm_326 7 [(1, .int (Int32.ofInt (f))), (0, .ref (598))] [] M Q := by
  intro nM
  induction nM using Nat.strongRecOn with
  | ind nM ih =>
    intro M f hI_M hH_M hS_M ht_M h_f hy0 hy1 hm
    refine jr.iload_n rfl rfl ?_
    refine jr.bipush rfl (by decide) ?_
    refine jr.icmp_ge rfl rfl (by omega) (by omega) (fun h10 => ?_) (fun h10 => ?_)
    · refine jr.aload_n rfl rfl ?_
      obtain ⟨v1, e1⟩ : ∃ z, M 598 1 = z := ⟨_, rfl⟩
      have b1 : 0 ≤ v1 ∧ v1 ≤ 1600 := by rw [← e1]; exact hI_M 598 1 (by decide)
      refine jr.getf (i := 1) (x := v1) (v := .int (Int32.ofInt (v1))) rfl rfl (by decide) rfl (by decide) rfl rfl e1 rfl ?_
      exact jr.ireturn rfl rfl rfl (q _ _ hI_M hH_M hS_M ht_M (by omega) )
    · refine jr.aload_n rfl rfl ?_
      refine jr.getf (i := 39) (v := .ref 627) rfl rfl (by decide) rfl (by decide) rfl rfl rfl rfl ?_
      refine jr.iload_n rfl rfl ?_
      obtain ⟨v2, e2⟩ : ∃ z, M 627 f = z := ⟨_, rfl⟩
      have b2 : 0 ≤ v2 ∧ v2 ≤ 1 := by rw [← e2]; exact (by have q := hI_M 627 f (by decide); rw [xri_row rfl rfl] at q; exact q)
      refine jr.zald (i := f) (x := v2) rfl (by decide) rfl (by decide) (by omega) (by omega) e2 ?_
      refine jr.if_eq rfl rfl (by omega) (fun h19 => ?_) (fun h19 => ?_)
      · refine jr.iinc rfl rfl (by decide) rfl ?_
        refine jr.goto rfl rfl ?_
        obtain ⟨v3, e3⟩ : ∃ z, M 598 1 = z := ⟨_, rfl⟩
        have b3 : 0 ≤ v3 ∧ v3 ≤ 1600 := by rw [← e3]; exact hI_M 598 1 (by decide)
        refine jr.pick [0, 1] rfl rfl ?_
        exact ih (nM - 1) (by omega) M (f + 1) hI_M hH_M hS_M ht_M (by omega) (by omega) (by rw [e3]; omega) (by omega)
      · refine jr.aload_n rfl rfl ?_
        refine jr.getf (i := 52) (v := .ref 640) rfl rfl (by decide) rfl (by decide) rfl rfl rfl rfl ?_
        refine jr.iload_n rfl rfl ?_
        obtain ⟨v4, e4⟩ : ∃ z, M 640 f = z := ⟨_, rfl⟩
        have b4 : (-1) ≤ v4 ∧ v4 ≤ 3 := by rw [← e4]; exact (by have q := hI_M 640 f (by decide); rw [xri_row rfl rfl] at q; exact q)
        refine jr.iald (i := f) (x := v4) rfl (by decide) rfl (by decide) (by omega) (by omega) e4 ?_
        refine jr.iconst rfl ?_
        refine jr.icmp_eq rfl rfl (by omega) (by omega) (fun h29 => ?_) (fun h29 => ?_)
        · refine jr.aload_n rfl rfl ?_
          obtain ⟨v5, e5⟩ : ∃ z, M 598 1 = z := ⟨_, rfl⟩
          have b5 : 0 ≤ v5 ∧ v5 ≤ 1600 := by rw [← e5]; exact hI_M 598 1 (by decide)
          refine jr.getf (i := 1) (x := v5) (v := .int (Int32.ofInt (v5))) rfl rfl (by decide) rfl (by decide) rfl rfl e5 rfl ?_
          refine jr.istore_n rfl (by decide) rfl ?_
          refine jr.iconst rfl ?_
          refine jr.iload_n rfl rfl ?_
          refine jr.imul rfl ?_
          refine jr.istore_n rfl (by decide) rfl ?_
          refine jr.iload_n rfl rfl ?_
          refine jr.iconst rfl ?_
          refine jr.iadd rfl ?_
          refine jr.istore rfl (by decide) rfl ?_
          refine jr.aload_n rfl rfl ?_
          refine jr.getf (i := 0) (v := .ref 599) rfl rfl (by decide) rfl (by decide) rfl rfl rfl rfl ?_
          refine jr.iload_n rfl rfl ?_
          refine jr.aload_n rfl rfl ?_
          refine jr.getf (i := 41) (v := .ref 629) rfl rfl (by decide) rfl (by decide) rfl rfl rfl rfl ?_
          refine jr.iload_n rfl rfl ?_
          obtain ⟨v6, e6⟩ : ∃ z, M 629 f = z := ⟨_, rfl⟩
          have b6 : 0 ≤ v6 ∧ v6 ≤ 255 := by rw [← e6]; exact (by have q := hI_M 629 f (by decide); rw [xri_row rfl rfl] at q; exact q)
          refine jr.iald (i := f) (x := v6) rfl (by decide) rfl (by decide) (by omega) (by omega) e6 ?_
          refine jr.iast (i := v5) (x := v6) rfl (by decide) rfl (by decide) (by omega) (by omega) ?_
          refine jr.aload_n rfl rfl ?_
          refine jr.getf (i := 0) (v := .ref 599) rfl rfl (by decide) rfl (by decide) rfl rfl rfl rfl ?_
          refine jr.iload_n rfl rfl ?_
          refine jr.iconst rfl ?_
          refine jr.iadd rfl ?_
          refine jr.aload_n rfl rfl ?_
          refine jr.getf (i := 50) (v := .ref 638) rfl rfl (by decide) rfl (by decide) rfl rfl rfl rfl ?_
          refine jr.iload_n rfl rfl ?_
          obtain ⟨v7, e7⟩ : ∃ z, M 638 f = z := ⟨_, rfl⟩
          have b7 : 0 ≤ v7 ∧ v7 ≤ 15 := by rw [← e7]; exact (by have q := hI_M 638 f (by decide); rw [xri_row rfl rfl] at q; exact q)
          refine jr.iald (i := f) (x := v7) rfl (by decide) rfl (by decide) (by omega) (by omega) ((ju_c _ _ (by decide)).trans e7) ?_
          refine jr.aload_n rfl rfl ?_
          refine jr.getf (i := 40) (v := .ref 628) rfl rfl (by decide) rfl (by decide) rfl rfl rfl rfl ?_
          refine jr.iload_n rfl rfl ?_
          obtain ⟨v8, e8⟩ : ∃ z, M 628 f = z := ⟨_, rfl⟩
          have b8 : 0 ≤ v8 ∧ v8 ≤ 1 := by rw [← e8]; exact (by have q := hI_M 628 f (by decide); rw [xri_row rfl rfl] at q; exact q)
          refine jr.zald (i := f) (x := v8) rfl (by decide) rfl (by decide) (by omega) (by omega) ((ju_c _ _ (by decide)).trans e8) ?_
          refine jr.if_eq rfl rfl (by omega) (fun h80 => ?_) (fun h80 => ?_)
          · refine jr.iconst rfl ?_
            refine jr.ior rfl ?_
            have b9 : 0 ≤ j_or v7 0 ∧ j_or v7 0 < 16 := j_or_lt 4 (by decide) (by omega) (by omega)
            generalize j_or v7 0 = v9 at b9 ⊢
            refine jr.aload_n rfl rfl ?_
            refine jr.getf (i := 44) (v := .ref 632) rfl rfl (by decide) rfl (by decide) rfl rfl rfl rfl ?_
            refine jr.iload_n rfl rfl ?_
            obtain ⟨v10, e10⟩ : ∃ z, M 632 (2 * f) = z := ⟨_, rfl⟩
            have b10 : 0 ≤ v10 ∧ v10 ≤ 1 := by rw [← e10]; exact (by have q := hI_M 632 (2 * f) (by decide); rw [xri_row rfl rfl] at q; exact q)
            refine jr.zald (i := (2 * f)) (x := v10) rfl (by decide) rfl (by decide) (by omega) (by omega) ((ju_c _ _ (by decide)).trans e10) ?_
            refine jr.if_eq rfl rfl (by omega) (fun h96 => ?_) (fun h96 => ?_)
            · refine jr.iconst rfl ?_
              refine jr.ior rfl ?_
              have b11 : 0 ≤ j_or v9 0 ∧ j_or v9 0 < 16 := j_or_lt 4 (by decide) (by omega) (by omega)
              generalize j_or v9 0 = v11 at b11 ⊢
              refine jr.aload_n rfl rfl ?_
              refine jr.getf (i := 44) (v := .ref 632) rfl rfl (by decide) rfl (by decide) rfl rfl rfl rfl ?_
              refine jr.iload rfl rfl ?_
              obtain ⟨v12, e12⟩ : ∃ z, M 632 ((2 * f) + 1) = z := ⟨_, rfl⟩
              have b12 : 0 ≤ v12 ∧ v12 ≤ 1 := by rw [← e12]; exact (by have q := hI_M 632 ((2 * f) + 1) (by decide); rw [xri_row rfl rfl] at q; exact q)
              refine jr.zald (i := ((2 * f) + 1)) (x := v12) rfl (by decide) rfl (by decide) (by omega) (by omega) ((ju_c _ _ (by decide)).trans e12) ?_
              refine jr.if_eq rfl rfl (by omega) (fun h113 => ?_) (fun h113 => ?_)
              · refine jr.iconst rfl ?_
                refine jr.ior rfl ?_
                have b13 : 0 ≤ j_or v11 0 ∧ j_or v11 0 < 16 := j_or_lt 4 (by decide) (by omega) (by omega)
                generalize j_or v11 0 = v13 at b13 ⊢
                refine jr.aload_n rfl rfl ?_
                refine jr.getf (i := 46) (v := .ref 634) rfl rfl (by decide) rfl (by decide) rfl rfl rfl rfl ?_
                refine jr.iload rfl rfl ?_
                obtain ⟨v14, e14⟩ : ∃ z, M 634 ((2 * f) + 1) = z := ⟨_, rfl⟩
                have b14 : 0 ≤ v14 ∧ v14 ≤ 1 := by rw [← e14]; exact (by have q := hI_M 634 ((2 * f) + 1) (by decide); rw [xri_row rfl rfl] at q; exact q)
                refine jr.zald (i := ((2 * f) + 1)) (x := v14) rfl (by decide) rfl (by decide) (by omega) (by omega) ((ju_c _ _ (by decide)).trans e14) ?_
                refine jr.if_eq rfl rfl (by omega) (fun h130 => ?_) (fun h130 => ?_)
                · refine jr.iconst rfl ?_
                  refine jr.ior rfl ?_
                  have b15 : 0 ≤ j_or v13 0 ∧ j_or v13 0 < 16 := j_or_lt 4 (by decide) (by omega) (by omega)
                  generalize j_or v13 0 = v15 at b15 ⊢
                  refine jr.iast (i := (v5 + 1)) (x := v15) rfl (by decide) rfl (by decide) (by omega) (by omega) ?_
                  refine jr.pick [0, 1, 2, 3, 4] rfl rfl ?_
                  exact r_export_L142 q (nM - 1) (ih (nM - 1) (by omega)) (ju (ju M 599 v5 v6) 599 (v5 + 1) v15) ((2 * f) + 1) (2 * f) v5 f (RI.u (RI.u hI_M (a := 599) (i := v5) (by rw [xri_row rfl rfl]; show (0 : Int) ≤ _ ∧ _ ≤ (255 : Int); omega)) (a := 599) (i := (v5 + 1)) (by rw [xri_row rfl rfl]; show (0 : Int) ≤ _ ∧ _ ≤ (255 : Int); omega)) (RH.o (RH.o hH_M (by decide) (by decide) (by decide)) (by decide) (by decide) (by decide)) (RF.o (RF.o hS_M (by decide) (by decide)) (by decide) (by decide)) (Kp.o (Kp.o ht_M rfl) rfl) (by omega) (by omega) (by omega) (by omega) (by omega) (by omega) (by omega) (by omega) ((((ju_c _ _ (by decide)).trans ((ju_c _ _ (by decide)).trans e5))).trans (by omega))
                · refine jr.sipush rfl (by decide) ?_
                  refine jr.goto rfl rfl ?_
                  refine jr.ior rfl ?_
                  have b16 : 0 ≤ j_or v13 128 ∧ j_or v13 128 < 256 := j_or_lt 8 (by decide) (by omega) (by omega)
                  generalize j_or v13 128 = v16 at b16 ⊢
                  refine jr.iast (i := (v5 + 1)) (x := v16) rfl (by decide) rfl (by decide) (by omega) (by omega) ?_
                  refine jr.pick [0, 1, 2, 3, 4] rfl rfl ?_
                  exact r_export_L142 q (nM - 1) (ih (nM - 1) (by omega)) (ju (ju M 599 v5 v6) 599 (v5 + 1) v16) ((2 * f) + 1) (2 * f) v5 f (RI.u (RI.u hI_M (a := 599) (i := v5) (by rw [xri_row rfl rfl]; show (0 : Int) ≤ _ ∧ _ ≤ (255 : Int); omega)) (a := 599) (i := (v5 + 1)) (by rw [xri_row rfl rfl]; show (0 : Int) ≤ _ ∧ _ ≤ (255 : Int); omega)) (RH.o (RH.o hH_M (by decide) (by decide) (by decide)) (by decide) (by decide) (by decide)) (RF.o (RF.o hS_M (by decide) (by decide)) (by decide) (by decide)) (Kp.o (Kp.o ht_M rfl) rfl) (by omega) (by omega) (by omega) (by omega) (by omega) (by omega) (by omega) (by omega) ((((ju_c _ _ (by decide)).trans ((ju_c _ _ (by decide)).trans e5))).trans (by omega))
              · refine jr.bipush rfl (by decide) ?_
                refine jr.goto rfl rfl ?_
                refine jr.ior rfl ?_
                have b17 : 0 ≤ j_or v11 64 ∧ j_or v11 64 < 128 := j_or_lt 7 (by decide) (by omega) (by omega)
                generalize j_or v11 64 = v17 at b17 ⊢
                refine jr.aload_n rfl rfl ?_
                refine jr.getf (i := 46) (v := .ref 634) rfl rfl (by decide) rfl (by decide) rfl rfl rfl rfl ?_
                refine jr.iload rfl rfl ?_
                obtain ⟨v18, e18⟩ : ∃ z, M 634 ((2 * f) + 1) = z := ⟨_, rfl⟩
                have b18 : 0 ≤ v18 ∧ v18 ≤ 1 := by rw [← e18]; exact (by have q := hI_M 634 ((2 * f) + 1) (by decide); rw [xri_row rfl rfl] at q; exact q)
                refine jr.zald (i := ((2 * f) + 1)) (x := v18) rfl (by decide) rfl (by decide) (by omega) (by omega) ((ju_c _ _ (by decide)).trans e18) ?_
                refine jr.if_eq rfl rfl (by omega) (fun h130 => ?_) (fun h130 => ?_)
                · refine jr.iconst rfl ?_
                  refine jr.ior rfl ?_
                  have b19 : 0 ≤ j_or v17 0 ∧ j_or v17 0 < 128 := j_or_lt 7 (by decide) (by omega) (by omega)
                  generalize j_or v17 0 = v19 at b19 ⊢
                  refine jr.iast (i := (v5 + 1)) (x := v19) rfl (by decide) rfl (by decide) (by omega) (by omega) ?_
                  refine jr.pick [0, 1, 2, 3, 4] rfl rfl ?_
                  exact r_export_L142 q (nM - 1) (ih (nM - 1) (by omega)) (ju (ju M 599 v5 v6) 599 (v5 + 1) v19) ((2 * f) + 1) (2 * f) v5 f (RI.u (RI.u hI_M (a := 599) (i := v5) (by rw [xri_row rfl rfl]; show (0 : Int) ≤ _ ∧ _ ≤ (255 : Int); omega)) (a := 599) (i := (v5 + 1)) (by rw [xri_row rfl rfl]; show (0 : Int) ≤ _ ∧ _ ≤ (255 : Int); omega)) (RH.o (RH.o hH_M (by decide) (by decide) (by decide)) (by decide) (by decide) (by decide)) (RF.o (RF.o hS_M (by decide) (by decide)) (by decide) (by decide)) (Kp.o (Kp.o ht_M rfl) rfl) (by omega) (by omega) (by omega) (by omega) (by omega) (by omega) (by omega) (by omega) ((((ju_c _ _ (by decide)).trans ((ju_c _ _ (by decide)).trans e5))).trans (by omega))
                · refine jr.sipush rfl (by decide) ?_
                  refine jr.goto rfl rfl ?_
                  refine jr.ior rfl ?_
                  have b20 : 0 ≤ j_or v17 128 ∧ j_or v17 128 < 256 := j_or_lt 8 (by decide) (by omega) (by omega)
                  generalize j_or v17 128 = v20 at b20 ⊢
                  refine jr.iast (i := (v5 + 1)) (x := v20) rfl (by decide) rfl (by decide) (by omega) (by omega) ?_
                  refine jr.pick [0, 1, 2, 3, 4] rfl rfl ?_
                  exact r_export_L142 q (nM - 1) (ih (nM - 1) (by omega)) (ju (ju M 599 v5 v6) 599 (v5 + 1) v20) ((2 * f) + 1) (2 * f) v5 f (RI.u (RI.u hI_M (a := 599) (i := v5) (by rw [xri_row rfl rfl]; show (0 : Int) ≤ _ ∧ _ ≤ (255 : Int); omega)) (a := 599) (i := (v5 + 1)) (by rw [xri_row rfl rfl]; show (0 : Int) ≤ _ ∧ _ ≤ (255 : Int); omega)) (RH.o (RH.o hH_M (by decide) (by decide) (by decide)) (by decide) (by decide) (by decide)) (RF.o (RF.o hS_M (by decide) (by decide)) (by decide) (by decide)) (Kp.o (Kp.o ht_M rfl) rfl) (by omega) (by omega) (by omega) (by omega) (by omega) (by omega) (by omega) (by omega) ((((ju_c _ _ (by decide)).trans ((ju_c _ _ (by decide)).trans e5))).trans (by omega))
            · refine jr.bipush rfl (by decide) ?_
              refine jr.goto rfl rfl ?_
              refine jr.ior rfl ?_
              have b21 : 0 ≤ j_or v9 32 ∧ j_or v9 32 < 64 := j_or_lt 6 (by decide) (by omega) (by omega)
              generalize j_or v9 32 = v21 at b21 ⊢
              refine jr.aload_n rfl rfl ?_
              refine jr.getf (i := 44) (v := .ref 632) rfl rfl (by decide) rfl (by decide) rfl rfl rfl rfl ?_
              refine jr.iload rfl rfl ?_
              obtain ⟨v22, e22⟩ : ∃ z, M 632 ((2 * f) + 1) = z := ⟨_, rfl⟩
              have b22 : 0 ≤ v22 ∧ v22 ≤ 1 := by rw [← e22]; exact (by have q := hI_M 632 ((2 * f) + 1) (by decide); rw [xri_row rfl rfl] at q; exact q)
              refine jr.zald (i := ((2 * f) + 1)) (x := v22) rfl (by decide) rfl (by decide) (by omega) (by omega) ((ju_c _ _ (by decide)).trans e22) ?_
              refine jr.if_eq rfl rfl (by omega) (fun h113 => ?_) (fun h113 => ?_)
              · refine jr.iconst rfl ?_
                refine jr.ior rfl ?_
                have b23 : 0 ≤ j_or v21 0 ∧ j_or v21 0 < 64 := j_or_lt 6 (by decide) (by omega) (by omega)
                generalize j_or v21 0 = v23 at b23 ⊢
                refine jr.aload_n rfl rfl ?_
                refine jr.getf (i := 46) (v := .ref 634) rfl rfl (by decide) rfl (by decide) rfl rfl rfl rfl ?_
                refine jr.iload rfl rfl ?_
                obtain ⟨v24, e24⟩ : ∃ z, M 634 ((2 * f) + 1) = z := ⟨_, rfl⟩
                have b24 : 0 ≤ v24 ∧ v24 ≤ 1 := by rw [← e24]; exact (by have q := hI_M 634 ((2 * f) + 1) (by decide); rw [xri_row rfl rfl] at q; exact q)
                refine jr.zald (i := ((2 * f) + 1)) (x := v24) rfl (by decide) rfl (by decide) (by omega) (by omega) ((ju_c _ _ (by decide)).trans e24) ?_
                refine jr.if_eq rfl rfl (by omega) (fun h130 => ?_) (fun h130 => ?_)
                · refine jr.iconst rfl ?_
                  refine jr.ior rfl ?_
                  have b25 : 0 ≤ j_or v23 0 ∧ j_or v23 0 < 64 := j_or_lt 6 (by decide) (by omega) (by omega)
                  generalize j_or v23 0 = v25 at b25 ⊢
                  refine jr.iast (i := (v5 + 1)) (x := v25) rfl (by decide) rfl (by decide) (by omega) (by omega) ?_
                  refine jr.pick [0, 1, 2, 3, 4] rfl rfl ?_
                  exact r_export_L142 q (nM - 1) (ih (nM - 1) (by omega)) (ju (ju M 599 v5 v6) 599 (v5 + 1) v25) ((2 * f) + 1) (2 * f) v5 f (RI.u (RI.u hI_M (a := 599) (i := v5) (by rw [xri_row rfl rfl]; show (0 : Int) ≤ _ ∧ _ ≤ (255 : Int); omega)) (a := 599) (i := (v5 + 1)) (by rw [xri_row rfl rfl]; show (0 : Int) ≤ _ ∧ _ ≤ (255 : Int); omega)) (RH.o (RH.o hH_M (by decide) (by decide) (by decide)) (by decide) (by decide) (by decide)) (RF.o (RF.o hS_M (by decide) (by decide)) (by decide) (by decide)) (Kp.o (Kp.o ht_M rfl) rfl) (by omega) (by omega) (by omega) (by omega) (by omega) (by omega) (by omega) (by omega) ((((ju_c _ _ (by decide)).trans ((ju_c _ _ (by decide)).trans e5))).trans (by omega))
                · refine jr.sipush rfl (by decide) ?_
                  refine jr.goto rfl rfl ?_
                  refine jr.ior rfl ?_
                  have b26 : 0 ≤ j_or v23 128 ∧ j_or v23 128 < 256 := j_or_lt 8 (by decide) (by omega) (by omega)
                  generalize j_or v23 128 = v26 at b26 ⊢
                  refine jr.iast (i := (v5 + 1)) (x := v26) rfl (by decide) rfl (by decide) (by omega) (by omega) ?_
                  refine jr.pick [0, 1, 2, 3, 4] rfl rfl ?_
                  exact r_export_L142 q (nM - 1) (ih (nM - 1) (by omega)) (ju (ju M 599 v5 v6) 599 (v5 + 1) v26) ((2 * f) + 1) (2 * f) v5 f (RI.u (RI.u hI_M (a := 599) (i := v5) (by rw [xri_row rfl rfl]; show (0 : Int) ≤ _ ∧ _ ≤ (255 : Int); omega)) (a := 599) (i := (v5 + 1)) (by rw [xri_row rfl rfl]; show (0 : Int) ≤ _ ∧ _ ≤ (255 : Int); omega)) (RH.o (RH.o hH_M (by decide) (by decide) (by decide)) (by decide) (by decide) (by decide)) (RF.o (RF.o hS_M (by decide) (by decide)) (by decide) (by decide)) (Kp.o (Kp.o ht_M rfl) rfl) (by omega) (by omega) (by omega) (by omega) (by omega) (by omega) (by omega) (by omega) ((((ju_c _ _ (by decide)).trans ((ju_c _ _ (by decide)).trans e5))).trans (by omega))
              · refine jr.bipush rfl (by decide) ?_
                refine jr.goto rfl rfl ?_
                refine jr.ior rfl ?_
                have b27 : 0 ≤ j_or v21 64 ∧ j_or v21 64 < 128 := j_or_lt 7 (by decide) (by omega) (by omega)
                generalize j_or v21 64 = v27 at b27 ⊢
                refine jr.aload_n rfl rfl ?_
                refine jr.getf (i := 46) (v := .ref 634) rfl rfl (by decide) rfl (by decide) rfl rfl rfl rfl ?_
                refine jr.iload rfl rfl ?_
                obtain ⟨v28, e28⟩ : ∃ z, M 634 ((2 * f) + 1) = z := ⟨_, rfl⟩
                have b28 : 0 ≤ v28 ∧ v28 ≤ 1 := by rw [← e28]; exact (by have q := hI_M 634 ((2 * f) + 1) (by decide); rw [xri_row rfl rfl] at q; exact q)
                refine jr.zald (i := ((2 * f) + 1)) (x := v28) rfl (by decide) rfl (by decide) (by omega) (by omega) ((ju_c _ _ (by decide)).trans e28) ?_
                refine jr.if_eq rfl rfl (by omega) (fun h130 => ?_) (fun h130 => ?_)
                · refine jr.iconst rfl ?_
                  refine jr.ior rfl ?_
                  have b29 : 0 ≤ j_or v27 0 ∧ j_or v27 0 < 128 := j_or_lt 7 (by decide) (by omega) (by omega)
                  generalize j_or v27 0 = v29 at b29 ⊢
                  refine jr.iast (i := (v5 + 1)) (x := v29) rfl (by decide) rfl (by decide) (by omega) (by omega) ?_
                  refine jr.pick [0, 1, 2, 3, 4] rfl rfl ?_
                  exact r_export_L142 q (nM - 1) (ih (nM - 1) (by omega)) (ju (ju M 599 v5 v6) 599 (v5 + 1) v29) ((2 * f) + 1) (2 * f) v5 f (RI.u (RI.u hI_M (a := 599) (i := v5) (by rw [xri_row rfl rfl]; show (0 : Int) ≤ _ ∧ _ ≤ (255 : Int); omega)) (a := 599) (i := (v5 + 1)) (by rw [xri_row rfl rfl]; show (0 : Int) ≤ _ ∧ _ ≤ (255 : Int); omega)) (RH.o (RH.o hH_M (by decide) (by decide) (by decide)) (by decide) (by decide) (by decide)) (RF.o (RF.o hS_M (by decide) (by decide)) (by decide) (by decide)) (Kp.o (Kp.o ht_M rfl) rfl) (by omega) (by omega) (by omega) (by omega) (by omega) (by omega) (by omega) (by omega) ((((ju_c _ _ (by decide)).trans ((ju_c _ _ (by decide)).trans e5))).trans (by omega))
                · refine jr.sipush rfl (by decide) ?_
                  refine jr.goto rfl rfl ?_
                  refine jr.ior rfl ?_
                  have b30 : 0 ≤ j_or v27 128 ∧ j_or v27 128 < 256 := j_or_lt 8 (by decide) (by omega) (by omega)
                  generalize j_or v27 128 = v30 at b30 ⊢
                  refine jr.iast (i := (v5 + 1)) (x := v30) rfl (by decide) rfl (by decide) (by omega) (by omega) ?_
                  refine jr.pick [0, 1, 2, 3, 4] rfl rfl ?_
                  exact r_export_L142 q (nM - 1) (ih (nM - 1) (by omega)) (ju (ju M 599 v5 v6) 599 (v5 + 1) v30) ((2 * f) + 1) (2 * f) v5 f (RI.u (RI.u hI_M (a := 599) (i := v5) (by rw [xri_row rfl rfl]; show (0 : Int) ≤ _ ∧ _ ≤ (255 : Int); omega)) (a := 599) (i := (v5 + 1)) (by rw [xri_row rfl rfl]; show (0 : Int) ≤ _ ∧ _ ≤ (255 : Int); omega)) (RH.o (RH.o hH_M (by decide) (by decide) (by decide)) (by decide) (by decide) (by decide)) (RF.o (RF.o hS_M (by decide) (by decide)) (by decide) (by decide)) (Kp.o (Kp.o ht_M rfl) rfl) (by omega) (by omega) (by omega) (by omega) (by omega) (by omega) (by omega) (by omega) ((((ju_c _ _ (by decide)).trans ((ju_c _ _ (by decide)).trans e5))).trans (by omega))
          · refine jr.bipush rfl (by decide) ?_
            refine jr.goto rfl rfl ?_
            refine jr.ior rfl ?_
            have b31 : 0 ≤ j_or v7 16 ∧ j_or v7 16 < 32 := j_or_lt 5 (by decide) (by omega) (by omega)
            generalize j_or v7 16 = v31 at b31 ⊢
            refine jr.aload_n rfl rfl ?_
            refine jr.getf (i := 44) (v := .ref 632) rfl rfl (by decide) rfl (by decide) rfl rfl rfl rfl ?_
            refine jr.iload_n rfl rfl ?_
            obtain ⟨v32, e32⟩ : ∃ z, M 632 (2 * f) = z := ⟨_, rfl⟩
            have b32 : 0 ≤ v32 ∧ v32 ≤ 1 := by rw [← e32]; exact (by have q := hI_M 632 (2 * f) (by decide); rw [xri_row rfl rfl] at q; exact q)
            refine jr.zald (i := (2 * f)) (x := v32) rfl (by decide) rfl (by decide) (by omega) (by omega) ((ju_c _ _ (by decide)).trans e32) ?_
            refine jr.if_eq rfl rfl (by omega) (fun h96 => ?_) (fun h96 => ?_)
            · refine jr.iconst rfl ?_
              refine jr.ior rfl ?_
              have b33 : 0 ≤ j_or v31 0 ∧ j_or v31 0 < 32 := j_or_lt 5 (by decide) (by omega) (by omega)
              generalize j_or v31 0 = v33 at b33 ⊢
              refine jr.aload_n rfl rfl ?_
              refine jr.getf (i := 44) (v := .ref 632) rfl rfl (by decide) rfl (by decide) rfl rfl rfl rfl ?_
              refine jr.iload rfl rfl ?_
              obtain ⟨v34, e34⟩ : ∃ z, M 632 ((2 * f) + 1) = z := ⟨_, rfl⟩
              have b34 : 0 ≤ v34 ∧ v34 ≤ 1 := by rw [← e34]; exact (by have q := hI_M 632 ((2 * f) + 1) (by decide); rw [xri_row rfl rfl] at q; exact q)
              refine jr.zald (i := ((2 * f) + 1)) (x := v34) rfl (by decide) rfl (by decide) (by omega) (by omega) ((ju_c _ _ (by decide)).trans e34) ?_
              refine jr.if_eq rfl rfl (by omega) (fun h113 => ?_) (fun h113 => ?_)
              · refine jr.iconst rfl ?_
                refine jr.ior rfl ?_
                have b35 : 0 ≤ j_or v33 0 ∧ j_or v33 0 < 32 := j_or_lt 5 (by decide) (by omega) (by omega)
                generalize j_or v33 0 = v35 at b35 ⊢
                refine jr.aload_n rfl rfl ?_
                refine jr.getf (i := 46) (v := .ref 634) rfl rfl (by decide) rfl (by decide) rfl rfl rfl rfl ?_
                refine jr.iload rfl rfl ?_
                obtain ⟨v36, e36⟩ : ∃ z, M 634 ((2 * f) + 1) = z := ⟨_, rfl⟩
                have b36 : 0 ≤ v36 ∧ v36 ≤ 1 := by rw [← e36]; exact (by have q := hI_M 634 ((2 * f) + 1) (by decide); rw [xri_row rfl rfl] at q; exact q)
                refine jr.zald (i := ((2 * f) + 1)) (x := v36) rfl (by decide) rfl (by decide) (by omega) (by omega) ((ju_c _ _ (by decide)).trans e36) ?_
                refine jr.if_eq rfl rfl (by omega) (fun h130 => ?_) (fun h130 => ?_)
                · refine jr.iconst rfl ?_
                  refine jr.ior rfl ?_
                  have b37 : 0 ≤ j_or v35 0 ∧ j_or v35 0 < 32 := j_or_lt 5 (by decide) (by omega) (by omega)
                  generalize j_or v35 0 = v37 at b37 ⊢
                  refine jr.iast (i := (v5 + 1)) (x := v37) rfl (by decide) rfl (by decide) (by omega) (by omega) ?_
                  refine jr.pick [0, 1, 2, 3, 4] rfl rfl ?_
                  exact r_export_L142 q (nM - 1) (ih (nM - 1) (by omega)) (ju (ju M 599 v5 v6) 599 (v5 + 1) v37) ((2 * f) + 1) (2 * f) v5 f (RI.u (RI.u hI_M (a := 599) (i := v5) (by rw [xri_row rfl rfl]; show (0 : Int) ≤ _ ∧ _ ≤ (255 : Int); omega)) (a := 599) (i := (v5 + 1)) (by rw [xri_row rfl rfl]; show (0 : Int) ≤ _ ∧ _ ≤ (255 : Int); omega)) (RH.o (RH.o hH_M (by decide) (by decide) (by decide)) (by decide) (by decide) (by decide)) (RF.o (RF.o hS_M (by decide) (by decide)) (by decide) (by decide)) (Kp.o (Kp.o ht_M rfl) rfl) (by omega) (by omega) (by omega) (by omega) (by omega) (by omega) (by omega) (by omega) ((((ju_c _ _ (by decide)).trans ((ju_c _ _ (by decide)).trans e5))).trans (by omega))
                · refine jr.sipush rfl (by decide) ?_
                  refine jr.goto rfl rfl ?_
                  refine jr.ior rfl ?_
                  have b38 : 0 ≤ j_or v35 128 ∧ j_or v35 128 < 256 := j_or_lt 8 (by decide) (by omega) (by omega)
                  generalize j_or v35 128 = v38 at b38 ⊢
                  refine jr.iast (i := (v5 + 1)) (x := v38) rfl (by decide) rfl (by decide) (by omega) (by omega) ?_
                  refine jr.pick [0, 1, 2, 3, 4] rfl rfl ?_
                  exact r_export_L142 q (nM - 1) (ih (nM - 1) (by omega)) (ju (ju M 599 v5 v6) 599 (v5 + 1) v38) ((2 * f) + 1) (2 * f) v5 f (RI.u (RI.u hI_M (a := 599) (i := v5) (by rw [xri_row rfl rfl]; show (0 : Int) ≤ _ ∧ _ ≤ (255 : Int); omega)) (a := 599) (i := (v5 + 1)) (by rw [xri_row rfl rfl]; show (0 : Int) ≤ _ ∧ _ ≤ (255 : Int); omega)) (RH.o (RH.o hH_M (by decide) (by decide) (by decide)) (by decide) (by decide) (by decide)) (RF.o (RF.o hS_M (by decide) (by decide)) (by decide) (by decide)) (Kp.o (Kp.o ht_M rfl) rfl) (by omega) (by omega) (by omega) (by omega) (by omega) (by omega) (by omega) (by omega) ((((ju_c _ _ (by decide)).trans ((ju_c _ _ (by decide)).trans e5))).trans (by omega))
              · refine jr.bipush rfl (by decide) ?_
                refine jr.goto rfl rfl ?_
                refine jr.ior rfl ?_
                have b39 : 0 ≤ j_or v33 64 ∧ j_or v33 64 < 128 := j_or_lt 7 (by decide) (by omega) (by omega)
                generalize j_or v33 64 = v39 at b39 ⊢
                refine jr.aload_n rfl rfl ?_
                refine jr.getf (i := 46) (v := .ref 634) rfl rfl (by decide) rfl (by decide) rfl rfl rfl rfl ?_
                refine jr.iload rfl rfl ?_
                obtain ⟨v40, e40⟩ : ∃ z, M 634 ((2 * f) + 1) = z := ⟨_, rfl⟩
                have b40 : 0 ≤ v40 ∧ v40 ≤ 1 := by rw [← e40]; exact (by have q := hI_M 634 ((2 * f) + 1) (by decide); rw [xri_row rfl rfl] at q; exact q)
                refine jr.zald (i := ((2 * f) + 1)) (x := v40) rfl (by decide) rfl (by decide) (by omega) (by omega) ((ju_c _ _ (by decide)).trans e40) ?_
                refine jr.if_eq rfl rfl (by omega) (fun h130 => ?_) (fun h130 => ?_)
                · refine jr.iconst rfl ?_
                  refine jr.ior rfl ?_
                  have b41 : 0 ≤ j_or v39 0 ∧ j_or v39 0 < 128 := j_or_lt 7 (by decide) (by omega) (by omega)
                  generalize j_or v39 0 = v41 at b41 ⊢
                  refine jr.iast (i := (v5 + 1)) (x := v41) rfl (by decide) rfl (by decide) (by omega) (by omega) ?_
                  refine jr.pick [0, 1, 2, 3, 4] rfl rfl ?_
                  exact r_export_L142 q (nM - 1) (ih (nM - 1) (by omega)) (ju (ju M 599 v5 v6) 599 (v5 + 1) v41) ((2 * f) + 1) (2 * f) v5 f (RI.u (RI.u hI_M (a := 599) (i := v5) (by rw [xri_row rfl rfl]; show (0 : Int) ≤ _ ∧ _ ≤ (255 : Int); omega)) (a := 599) (i := (v5 + 1)) (by rw [xri_row rfl rfl]; show (0 : Int) ≤ _ ∧ _ ≤ (255 : Int); omega)) (RH.o (RH.o hH_M (by decide) (by decide) (by decide)) (by decide) (by decide) (by decide)) (RF.o (RF.o hS_M (by decide) (by decide)) (by decide) (by decide)) (Kp.o (Kp.o ht_M rfl) rfl) (by omega) (by omega) (by omega) (by omega) (by omega) (by omega) (by omega) (by omega) ((((ju_c _ _ (by decide)).trans ((ju_c _ _ (by decide)).trans e5))).trans (by omega))
                · refine jr.sipush rfl (by decide) ?_
                  refine jr.goto rfl rfl ?_
                  refine jr.ior rfl ?_
                  have b42 : 0 ≤ j_or v39 128 ∧ j_or v39 128 < 256 := j_or_lt 8 (by decide) (by omega) (by omega)
                  generalize j_or v39 128 = v42 at b42 ⊢
                  refine jr.iast (i := (v5 + 1)) (x := v42) rfl (by decide) rfl (by decide) (by omega) (by omega) ?_
                  refine jr.pick [0, 1, 2, 3, 4] rfl rfl ?_
                  exact r_export_L142 q (nM - 1) (ih (nM - 1) (by omega)) (ju (ju M 599 v5 v6) 599 (v5 + 1) v42) ((2 * f) + 1) (2 * f) v5 f (RI.u (RI.u hI_M (a := 599) (i := v5) (by rw [xri_row rfl rfl]; show (0 : Int) ≤ _ ∧ _ ≤ (255 : Int); omega)) (a := 599) (i := (v5 + 1)) (by rw [xri_row rfl rfl]; show (0 : Int) ≤ _ ∧ _ ≤ (255 : Int); omega)) (RH.o (RH.o hH_M (by decide) (by decide) (by decide)) (by decide) (by decide) (by decide)) (RF.o (RF.o hS_M (by decide) (by decide)) (by decide) (by decide)) (Kp.o (Kp.o ht_M rfl) rfl) (by omega) (by omega) (by omega) (by omega) (by omega) (by omega) (by omega) (by omega) ((((ju_c _ _ (by decide)).trans ((ju_c _ _ (by decide)).trans e5))).trans (by omega))
            · refine jr.bipush rfl (by decide) ?_
              refine jr.goto rfl rfl ?_
              refine jr.ior rfl ?_
              have b43 : 0 ≤ j_or v31 32 ∧ j_or v31 32 < 64 := j_or_lt 6 (by decide) (by omega) (by omega)
              generalize j_or v31 32 = v43 at b43 ⊢
              refine jr.aload_n rfl rfl ?_
              refine jr.getf (i := 44) (v := .ref 632) rfl rfl (by decide) rfl (by decide) rfl rfl rfl rfl ?_
              refine jr.iload rfl rfl ?_
              obtain ⟨v44, e44⟩ : ∃ z, M 632 ((2 * f) + 1) = z := ⟨_, rfl⟩
              have b44 : 0 ≤ v44 ∧ v44 ≤ 1 := by rw [← e44]; exact (by have q := hI_M 632 ((2 * f) + 1) (by decide); rw [xri_row rfl rfl] at q; exact q)
              refine jr.zald (i := ((2 * f) + 1)) (x := v44) rfl (by decide) rfl (by decide) (by omega) (by omega) ((ju_c _ _ (by decide)).trans e44) ?_
              refine jr.if_eq rfl rfl (by omega) (fun h113 => ?_) (fun h113 => ?_)
              · refine jr.iconst rfl ?_
                refine jr.ior rfl ?_
                have b45 : 0 ≤ j_or v43 0 ∧ j_or v43 0 < 64 := j_or_lt 6 (by decide) (by omega) (by omega)
                generalize j_or v43 0 = v45 at b45 ⊢
                refine jr.aload_n rfl rfl ?_
                refine jr.getf (i := 46) (v := .ref 634) rfl rfl (by decide) rfl (by decide) rfl rfl rfl rfl ?_
                refine jr.iload rfl rfl ?_
                obtain ⟨v46, e46⟩ : ∃ z, M 634 ((2 * f) + 1) = z := ⟨_, rfl⟩
                have b46 : 0 ≤ v46 ∧ v46 ≤ 1 := by rw [← e46]; exact (by have q := hI_M 634 ((2 * f) + 1) (by decide); rw [xri_row rfl rfl] at q; exact q)
                refine jr.zald (i := ((2 * f) + 1)) (x := v46) rfl (by decide) rfl (by decide) (by omega) (by omega) ((ju_c _ _ (by decide)).trans e46) ?_
                refine jr.if_eq rfl rfl (by omega) (fun h130 => ?_) (fun h130 => ?_)
                · refine jr.iconst rfl ?_
                  refine jr.ior rfl ?_
                  have b47 : 0 ≤ j_or v45 0 ∧ j_or v45 0 < 64 := j_or_lt 6 (by decide) (by omega) (by omega)
                  generalize j_or v45 0 = v47 at b47 ⊢
                  refine jr.iast (i := (v5 + 1)) (x := v47) rfl (by decide) rfl (by decide) (by omega) (by omega) ?_
                  refine jr.pick [0, 1, 2, 3, 4] rfl rfl ?_
                  exact r_export_L142 q (nM - 1) (ih (nM - 1) (by omega)) (ju (ju M 599 v5 v6) 599 (v5 + 1) v47) ((2 * f) + 1) (2 * f) v5 f (RI.u (RI.u hI_M (a := 599) (i := v5) (by rw [xri_row rfl rfl]; show (0 : Int) ≤ _ ∧ _ ≤ (255 : Int); omega)) (a := 599) (i := (v5 + 1)) (by rw [xri_row rfl rfl]; show (0 : Int) ≤ _ ∧ _ ≤ (255 : Int); omega)) (RH.o (RH.o hH_M (by decide) (by decide) (by decide)) (by decide) (by decide) (by decide)) (RF.o (RF.o hS_M (by decide) (by decide)) (by decide) (by decide)) (Kp.o (Kp.o ht_M rfl) rfl) (by omega) (by omega) (by omega) (by omega) (by omega) (by omega) (by omega) (by omega) ((((ju_c _ _ (by decide)).trans ((ju_c _ _ (by decide)).trans e5))).trans (by omega))
                · refine jr.sipush rfl (by decide) ?_
                  refine jr.goto rfl rfl ?_
                  refine jr.ior rfl ?_
                  have b48 : 0 ≤ j_or v45 128 ∧ j_or v45 128 < 256 := j_or_lt 8 (by decide) (by omega) (by omega)
                  generalize j_or v45 128 = v48 at b48 ⊢
                  refine jr.iast (i := (v5 + 1)) (x := v48) rfl (by decide) rfl (by decide) (by omega) (by omega) ?_
                  refine jr.pick [0, 1, 2, 3, 4] rfl rfl ?_
                  exact r_export_L142 q (nM - 1) (ih (nM - 1) (by omega)) (ju (ju M 599 v5 v6) 599 (v5 + 1) v48) ((2 * f) + 1) (2 * f) v5 f (RI.u (RI.u hI_M (a := 599) (i := v5) (by rw [xri_row rfl rfl]; show (0 : Int) ≤ _ ∧ _ ≤ (255 : Int); omega)) (a := 599) (i := (v5 + 1)) (by rw [xri_row rfl rfl]; show (0 : Int) ≤ _ ∧ _ ≤ (255 : Int); omega)) (RH.o (RH.o hH_M (by decide) (by decide) (by decide)) (by decide) (by decide) (by decide)) (RF.o (RF.o hS_M (by decide) (by decide)) (by decide) (by decide)) (Kp.o (Kp.o ht_M rfl) rfl) (by omega) (by omega) (by omega) (by omega) (by omega) (by omega) (by omega) (by omega) ((((ju_c _ _ (by decide)).trans ((ju_c _ _ (by decide)).trans e5))).trans (by omega))
              · refine jr.bipush rfl (by decide) ?_
                refine jr.goto rfl rfl ?_
                refine jr.ior rfl ?_
                have b49 : 0 ≤ j_or v43 64 ∧ j_or v43 64 < 128 := j_or_lt 7 (by decide) (by omega) (by omega)
                generalize j_or v43 64 = v49 at b49 ⊢
                refine jr.aload_n rfl rfl ?_
                refine jr.getf (i := 46) (v := .ref 634) rfl rfl (by decide) rfl (by decide) rfl rfl rfl rfl ?_
                refine jr.iload rfl rfl ?_
                obtain ⟨v50, e50⟩ : ∃ z, M 634 ((2 * f) + 1) = z := ⟨_, rfl⟩
                have b50 : 0 ≤ v50 ∧ v50 ≤ 1 := by rw [← e50]; exact (by have q := hI_M 634 ((2 * f) + 1) (by decide); rw [xri_row rfl rfl] at q; exact q)
                refine jr.zald (i := ((2 * f) + 1)) (x := v50) rfl (by decide) rfl (by decide) (by omega) (by omega) ((ju_c _ _ (by decide)).trans e50) ?_
                refine jr.if_eq rfl rfl (by omega) (fun h130 => ?_) (fun h130 => ?_)
                · refine jr.iconst rfl ?_
                  refine jr.ior rfl ?_
                  have b51 : 0 ≤ j_or v49 0 ∧ j_or v49 0 < 128 := j_or_lt 7 (by decide) (by omega) (by omega)
                  generalize j_or v49 0 = v51 at b51 ⊢
                  refine jr.iast (i := (v5 + 1)) (x := v51) rfl (by decide) rfl (by decide) (by omega) (by omega) ?_
                  refine jr.pick [0, 1, 2, 3, 4] rfl rfl ?_
                  exact r_export_L142 q (nM - 1) (ih (nM - 1) (by omega)) (ju (ju M 599 v5 v6) 599 (v5 + 1) v51) ((2 * f) + 1) (2 * f) v5 f (RI.u (RI.u hI_M (a := 599) (i := v5) (by rw [xri_row rfl rfl]; show (0 : Int) ≤ _ ∧ _ ≤ (255 : Int); omega)) (a := 599) (i := (v5 + 1)) (by rw [xri_row rfl rfl]; show (0 : Int) ≤ _ ∧ _ ≤ (255 : Int); omega)) (RH.o (RH.o hH_M (by decide) (by decide) (by decide)) (by decide) (by decide) (by decide)) (RF.o (RF.o hS_M (by decide) (by decide)) (by decide) (by decide)) (Kp.o (Kp.o ht_M rfl) rfl) (by omega) (by omega) (by omega) (by omega) (by omega) (by omega) (by omega) (by omega) ((((ju_c _ _ (by decide)).trans ((ju_c _ _ (by decide)).trans e5))).trans (by omega))
                · refine jr.sipush rfl (by decide) ?_
                  refine jr.goto rfl rfl ?_
                  refine jr.ior rfl ?_
                  have b52 : 0 ≤ j_or v49 128 ∧ j_or v49 128 < 256 := j_or_lt 8 (by decide) (by omega) (by omega)
                  generalize j_or v49 128 = v52 at b52 ⊢
                  refine jr.iast (i := (v5 + 1)) (x := v52) rfl (by decide) rfl (by decide) (by omega) (by omega) ?_
                  refine jr.pick [0, 1, 2, 3, 4] rfl rfl ?_
                  exact r_export_L142 q (nM - 1) (ih (nM - 1) (by omega)) (ju (ju M 599 v5 v6) 599 (v5 + 1) v52) ((2 * f) + 1) (2 * f) v5 f (RI.u (RI.u hI_M (a := 599) (i := v5) (by rw [xri_row rfl rfl]; show (0 : Int) ≤ _ ∧ _ ≤ (255 : Int); omega)) (a := 599) (i := (v5 + 1)) (by rw [xri_row rfl rfl]; show (0 : Int) ≤ _ ∧ _ ≤ (255 : Int); omega)) (RH.o (RH.o hH_M (by decide) (by decide) (by decide)) (by decide) (by decide) (by decide)) (RF.o (RF.o hS_M (by decide) (by decide)) (by decide) (by decide)) (Kp.o (Kp.o ht_M rfl) rfl) (by omega) (by omega) (by omega) (by omega) (by omega) (by omega) (by omega) (by omega) ((((ju_c _ _ (by decide)).trans ((ju_c _ _ (by decide)).trans e5))).trans (by omega))
        · refine jr.goto rfl rfl ?_
          refine jr.iinc rfl rfl (by decide) rfl ?_
          refine jr.goto rfl rfl ?_
          obtain ⟨v53, e53⟩ : ∃ z, M 598 1 = z := ⟨_, rfl⟩
          have b53 : 0 ≤ v53 ∧ v53 ≤ 1600 := by rw [← e53]; exact hI_M 598 1 (by decide)
          refine jr.pick [0, 1] rfl rfl ?_
          exact ih (nM - 1) (by omega) M (f + 1) hI_M hH_M hS_M ht_M (by omega) (by omega) (by rw [e53]; omega) (by omega)
theorem r_export {A : Nat → Option (Nat × (Nat → Int32))} {Q : Option Value → jm → Prop} {T : jm} {M : jm} (hI_M : RI M) (hH_M : RH M) (hS_M : RF M) (ht_M : Kp T M) (q : ∀ (r : Int) (M' : jm), RI M' → RH M' → RF M' → Kp T M' → 0 ≤ r ∧ r ≤ 1600 → Q (some (.int (Int32.ofInt r))) M') : jc A 3 326 [.ref (598)] M Q := by
  refine jc_of (m := xm_326) rfl (Nat.le_of_ble_eq_true rfl) rfl ?_
  refine jr.aload_n rfl rfl ?_
  refine jr.iconst rfl ?_
  refine jr.putf (i := 1) (x := 0) rfl rfl (by decide) rfl (by decide) rfl rfl rfl rfl rfl ?_
  refine jr.iconst rfl ?_
  refine jr.istore_n rfl (by decide) rfl ?_
  refine jr.pick [0, 1] rfl rfl ?_
  exact r_export_L7 q 24 (ju M 598 1 0) 0 (RI.u hI_M (a := 598) (i := 1) (show (0 : Int) ≤ _ ∧ _ ≤ (1600 : Int) from by omega)) (RH.o hH_M (by decide) (by decide) (by decide)) (RF.o hS_M (by decide) (by decide)) (Kp.o ht_M rfl) (by omega) (by rw [(ju_same _ _ _ _)]; omega) (by rw [(ju_same _ _ _ _)]; omega) (by omega)
theorem j_nz {x : Int} (h : x ≠ 0 ∧ -2147483648 ≤ x ∧ x ≤ 2147483647) : ¬ Int32.ofInt x = 0 := by
  intro e
  have q := congrArg Int32.toInt e
  rw [Int32.toInt_ofInt_of_le (by omega) (by omega)] at q
  have h0 : (0 : Int32).toInt = 0 := rfl
  omega
theorem jl_nz {x : Int} (h : x ≠ 0 ∧ -9223372036854775808 ≤ x ∧ x ≤ 9223372036854775807) : ¬ Int64.ofInt x = 0 := by
  intro e
  have q := congrArg Int64.toInt e
  rw [Int64.toInt_ofInt_of_le (by omega) (by omega)] at q
  have h0 : (0 : Int64).toInt = 0 := rfl
  omega
theorem r_tick_L128 {A : Nat → Option (Nat × (Nat → Int32))} {Q : Option Value → jm → Prop} {M0 : jm} {n0 : Int} (q : ∀ (r : Int) (M' : jm), RI M' → RH M' → RF M' → (-3) ≤ r ∧ r ≤ 2000000 → ((1 ≤ n0 ∧ n0 ≤ 1000 ∧ r = M0 598 2 + n0 ∧ M' 598 2 = M0 598 2 + n0) ∨ (¬ (1 ≤ n0 ∧ n0 ≤ 1000) ∧ r = -3 ∧ M' 598 2 = M0 598 2)) → (∀ (a : Nat) (i : Int), a ≠ 598 → a ≠ 606 → a ≠ 624 → a ≠ 627 → M' a i = M0 a i) → (∀ (i : Int), i ≠ 2 → M' 598 i = M0 598 i) → Q (some (.int (Int32.ofInt r))) M') (nO : Nat) (ko : ∀ (M : jm) (k : Int) (n : Int), RI M → RH M → RF M → (∀ (a : Nat) (i : Int), a ≠ 598 → a ≠ 606 → a ≠ 624 → a ≠ 627 → M a i = M0 a i) → (∀ (i : Int), i ≠ 2 → M 598 i = M0 598 i) → 0 ≤ k ∧ k ≤ 1000 → 1 ≤ n ∧ n ≤ 1000 → k ≤ n → M 598 2 = M0 598 2 + k → 0 ≤ M0 598 2 ∧ M0 598 2 ≤ 1000000 → n = n0 → 1000 - k ≤ nO → jr A 1 xm_298 17 [(2, .int (Int32.ofInt (k))), (1, .int (Int32.ofInt (n))), (0, .ref (598))] [] M Q) : ∀ (nM : Nat) (M : jm) (j : Int) (k : Int) (n : Int), RI M → RH M → RF M → (∀ (a : Nat) (i : Int), a ≠ 598 → a ≠ 606 → a ≠ 624 → a ≠ 627 → M a i = M0 a i) → (∀ (i : Int), i ≠ 2 → M 598 i = M0 598 i) → 0 ≤ j ∧ j ≤ 4 → 0 ≤ k ∧ k ≤ 999 → 1 ≤ n ∧ n ≤ 1000 → 1000 - (k + 1) ≤ nO → k < n → M 598 2 = M0 598 2 + k + 1 → 0 ≤ M0 598 2 ∧ M0 598 2 ≤ 1000000 → n = n0 → 4 - j ≤ nM → jr A 1 xm_298 128 [(3, .int (Int32.ofInt (j))), (2, .int (Int32.ofInt (k))), (1, .int (Int32.ofInt (n))), (0, .ref (598))] [] M Q := by
  intro nM
  induction nM using Nat.strongRecOn with
  | ind nM ih =>
    intro M j k n hI_M hH_M hS_M hF_M hG_M h_j h_k h_n hy0 hy1 hy2 hy3 hy4 hm
    subst hy4
    refine jr.iload_n rfl rfl ?_
    refine jr.iconst rfl ?_
    refine jr.icmp_ge rfl rfl (by omega) (by omega) (fun h130 => ?_) (fun h130 => ?_)
    · refine jr.iinc rfl rfl (by decide) rfl ?_
      refine jr.goto rfl rfl ?_
      obtain ⟨v1, e1⟩ : ∃ z, M 598 2 = z := ⟨_, rfl⟩
      have b1 : 0 ≤ v1 ∧ v1 ≤ 2000000 := by rw [← e1]; exact hI_M 598 2 (by decide)
      refine jr.pick [0, 2, 3] rfl rfl ?_
      exact ko M (k + 1) n hI_M hH_M hS_M  (fun a i f598 f606 f624 f627 => (hF_M a i f598 f606 f624 f627)) (fun i g2 => (hG_M i g2)) (by omega) (by omega) (by omega) ((e1).trans (by omega)) (by omega) (by omega) (by omega)
    · refine jr.aload_n rfl rfl ?_
      refine jr.getf (i := 37) (v := .ref 625) rfl rfl (by decide) rfl (by decide) rfl rfl rfl rfl ?_
      refine jr.iload_n rfl rfl ?_
      obtain ⟨v2, e2⟩ : ∃ z, M 625 j = z := ⟨_, rfl⟩
      have b2 : 0 ≤ v2 ∧ v2 ≤ 1000 := by rw [← e2]; exact (by have q := hI_M 625 j (by decide); rw [xri_row rfl rfl] at q; exact q)
      refine jr.iald (i := j) (x := v2) rfl (by decide) rfl (by decide) (by omega) (by omega) e2 ?_
      refine jr.if_le rfl rfl (by omega) (fun h139 => ?_) (fun h139 => ?_)
      · refine jr.iconst rfl ?_
        refine jr.istore rfl (by decide) rfl ?_
        refine jr.aload_n rfl rfl ?_
        refine jr.getf (i := 36) (v := .ref 624) rfl rfl (by decide) rfl (by decide) rfl rfl rfl rfl ?_
        refine jr.iload_n rfl rfl ?_
        refine jr.dup2 rfl ⟨rfl, rfl⟩ ?_
        obtain ⟨v3, e3⟩ : ∃ z, M 624 j = z := ⟨_, rfl⟩
        have b3 : 0 ≤ v3 ∧ v3 ≤ 1000 := by rw [← e3]; exact (by have q := hI_M 624 j (by decide); rw [xri_row rfl rfl] at q; exact q)
        refine jr.iald (i := j) (x := v3) rfl (by decide) rfl (by decide) (by omega) (by omega) e3 ?_
        refine jr.iload rfl rfl ?_
        refine jr.if_eq rfl rfl (by omega) (fun _ => ?_) (fun h => absurd (by decide) h)
        refine jr.iconst rfl ?_
        refine jr.iadd rfl ?_
        refine jr.iast (i := j) (x := (v3 + 0)) rfl (by decide) rfl (by decide) (by omega) (by omega) ?_
        refine jr.iinc rfl rfl (by decide) rfl ?_
        refine jr.goto rfl rfl ?_
        obtain ⟨v4, e4⟩ : ∃ z, M 598 2 = z := ⟨_, rfl⟩
        have b4 : 0 ≤ v4 ∧ v4 ≤ 2000000 := by rw [← e4]; exact hI_M 598 2 (by decide)
        refine jr.pick [0, 2, 3, 4] rfl rfl ?_
        exact ih (nM - 1) (by omega) (ju M 624 j (v3 + 0)) (j + 1) k n (RI.u hI_M (a := 624) (i := j) (by rw [xri_row rfl rfl]; show (0 : Int) ≤ _ ∧ _ ≤ (1000 : Int); omega)) (RH.o hH_M (by decide) (by decide) (by decide)) (RF.o hS_M (by decide) (by decide))  (fun a i f598 f606 f624 f627 => ((ju_c _ _ f624).trans (hF_M a i f598 f606 f624 f627))) (fun i g2 => ((ju_c _ _ (by decide)).trans (hG_M i g2))) (by omega) (by omega) (by omega) (by omega) (by omega) ((((ju_c _ _ (by decide)).trans e4)).trans (by omega)) (by omega) (by omega) (by omega)
      · refine jr.aload_n rfl rfl ?_
        obtain ⟨v5, e5⟩ : ∃ z, M 598 2 = z := ⟨_, rfl⟩
        have b5 : 0 ≤ v5 ∧ v5 ≤ 2000000 := by rw [← e5]; exact hI_M 598 2 (by decide)
        refine jr.getf (i := 2) (x := v5) (v := .int (Int32.ofInt (v5))) rfl rfl (by decide) rfl (by decide) rfl rfl e5 rfl ?_
        refine jr.aload_n rfl rfl ?_
        refine jr.getf (i := 38) (v := .ref 626) rfl rfl (by decide) rfl (by decide) rfl rfl rfl rfl ?_
        refine jr.iload_n rfl rfl ?_
        obtain ⟨v6, e6⟩ : ∃ z, M 626 j = z := ⟨_, rfl⟩
        have b6 : 0 ≤ v6 ∧ v6 ≤ 2000000 := by rw [← e6]; exact (by have q := hI_M 626 j (by decide); rw [xri_row rfl rfl] at q; exact q)
        refine jr.iald (i := j) (x := v6) rfl (by decide) rfl (by decide) (by omega) (by omega) e6 ?_
        refine jr.isub rfl ?_
        refine jr.aload_n rfl rfl ?_
        refine jr.getf (i := 37) (v := .ref 625) rfl rfl (by decide) rfl (by decide) rfl rfl rfl rfl ?_
        refine jr.iload_n rfl rfl ?_
        refine jr.iald (i := j) (x := v2) rfl (by decide) rfl (by decide) (by omega) (by omega) e2 ?_
        refine jr.irem rfl (j_nz (by omega)) ?_
        have b7 : -2147483648 ≤ j_rem (v5 - v6) v2 ∧ j_rem (v5 - v6) v2 ≤ 2147483647 := jb_any _
        generalize j_rem (v5 - v6) v2 = v7 at b7 ⊢
        refine jr.if_ne rfl rfl (by omega) (fun h160 => ?_) (fun h160 => ?_)
        · refine jr.iconst rfl ?_
          refine jr.istore rfl (by decide) rfl ?_
          refine jr.aload_n rfl rfl ?_
          refine jr.getf (i := 36) (v := .ref 624) rfl rfl (by decide) rfl (by decide) rfl rfl rfl rfl ?_
          refine jr.iload_n rfl rfl ?_
          refine jr.dup2 rfl ⟨rfl, rfl⟩ ?_
          obtain ⟨v8, e8⟩ : ∃ z, M 624 j = z := ⟨_, rfl⟩
          have b8 : 0 ≤ v8 ∧ v8 ≤ 1000 := by rw [← e8]; exact (by have q := hI_M 624 j (by decide); rw [xri_row rfl rfl] at q; exact q)
          refine jr.iald (i := j) (x := v8) rfl (by decide) rfl (by decide) (by omega) (by omega) e8 ?_
          refine jr.iload rfl rfl ?_
          refine jr.if_eq rfl rfl (by omega) (fun _ => ?_) (fun h => absurd (by decide) h)
          refine jr.iconst rfl ?_
          refine jr.iadd rfl ?_
          refine jr.iast (i := j) (x := (v8 + 0)) rfl (by decide) rfl (by decide) (by omega) (by omega) ?_
          refine jr.iinc rfl rfl (by decide) rfl ?_
          refine jr.goto rfl rfl ?_
          refine jr.pick [0, 2, 3, 4] rfl rfl ?_
          exact ih (nM - 1) (by omega) (ju M 624 j (v8 + 0)) (j + 1) k n (RI.u hI_M (a := 624) (i := j) (by rw [xri_row rfl rfl]; show (0 : Int) ≤ _ ∧ _ ≤ (1000 : Int); omega)) (RH.o hH_M (by decide) (by decide) (by decide)) (RF.o hS_M (by decide) (by decide))  (fun a i f598 f606 f624 f627 => ((ju_c _ _ f624).trans (hF_M a i f598 f606 f624 f627))) (fun i g2 => ((ju_c _ _ (by decide)).trans (hG_M i g2))) (by omega) (by omega) (by omega) (by omega) (by omega) ((((ju_c _ _ (by decide)).trans e5)).trans (by omega)) (by omega) (by omega) (by omega)
        · refine jr.iconst rfl ?_
          refine jr.goto rfl rfl ?_
          refine jr.istore rfl (by decide) rfl ?_
          refine jr.aload_n rfl rfl ?_
          refine jr.getf (i := 36) (v := .ref 624) rfl rfl (by decide) rfl (by decide) rfl rfl rfl rfl ?_
          refine jr.iload_n rfl rfl ?_
          refine jr.dup2 rfl ⟨rfl, rfl⟩ ?_
          obtain ⟨v9, e9⟩ : ∃ z, M 624 j = z := ⟨_, rfl⟩
          have b9 : 0 ≤ v9 ∧ v9 ≤ 1000 := by rw [← e9]; exact (by have q := hI_M 624 j (by decide); rw [xri_row rfl rfl] at q; exact q)
          refine jr.iald (i := j) (x := v9) rfl (by decide) rfl (by decide) (by omega) (by omega) e9 ?_
          refine jr.iload rfl rfl ?_
          refine jr.if_eq rfl rfl (by omega) (fun h => absurd h (by decide)) (fun _ => ?_)
          refine jr.aload_n rfl rfl ?_
          refine jr.getf (i := 36) (v := .ref 624) rfl rfl (by decide) rfl (by decide) rfl rfl rfl rfl ?_
          refine jr.iload_n rfl rfl ?_
          refine jr.iald (i := j) (x := v9) rfl (by decide) rfl (by decide) (by omega) (by omega) e9 ?_
          refine jr.aload_n rfl rfl ?_
          refine jr.getf (i := 35) (v := .ref 623) rfl rfl (by decide) rfl (by decide) rfl rfl rfl rfl ?_
          refine jr.iload_n rfl rfl ?_
          obtain ⟨v10, e10⟩ : ∃ z, M 623 j = z := ⟨_, rfl⟩
          have b10 : 0 ≤ v10 ∧ v10 ≤ 1000 := by rw [← e10]; exact (by have q := hI_M 623 j (by decide); rw [xri_row rfl rfl] at q; exact q)
          refine jr.iald (i := j) (x := v10) rfl (by decide) rfl (by decide) (by omega) (by omega) e10 ?_
          refine jr.icmp_ge rfl rfl (by omega) (by omega) (fun h194 => ?_) (fun h194 => ?_)
          · refine jr.iconst rfl ?_
            refine jr.iadd rfl ?_
            refine jr.iast (i := j) (x := (v9 + 0)) rfl (by decide) rfl (by decide) (by omega) (by omega) ?_
            refine jr.iinc rfl rfl (by decide) rfl ?_
            refine jr.goto rfl rfl ?_
            refine jr.pick [0, 2, 3, 4] rfl rfl ?_
            exact ih (nM - 1) (by omega) (ju M 624 j (v9 + 0)) (j + 1) k n (RI.u hI_M (a := 624) (i := j) (by rw [xri_row rfl rfl]; show (0 : Int) ≤ _ ∧ _ ≤ (1000 : Int); omega)) (RH.o hH_M (by decide) (by decide) (by decide)) (RF.o hS_M (by decide) (by decide))  (fun a i f598 f606 f624 f627 => ((ju_c _ _ f624).trans (hF_M a i f598 f606 f624 f627))) (fun i g2 => ((ju_c _ _ (by decide)).trans (hG_M i g2))) (by omega) (by omega) (by omega) (by omega) (by omega) ((((ju_c _ _ (by decide)).trans e5)).trans (by omega)) (by omega) (by omega) (by omega)
          · refine jr.iconst rfl ?_
            refine jr.goto rfl rfl ?_
            refine jr.iadd rfl ?_
            refine jr.iast (i := j) (x := (v9 + 1)) rfl (by decide) rfl (by decide) (by omega) (by omega) ?_
            refine jr.iinc rfl rfl (by decide) rfl ?_
            refine jr.goto rfl rfl ?_
            refine jr.pick [0, 2, 3, 4] rfl rfl ?_
            exact ih (nM - 1) (by omega) (ju M 624 j (v9 + 1)) (j + 1) k n (RI.u hI_M (a := 624) (i := j) (by rw [xri_row rfl rfl]; show (0 : Int) ≤ _ ∧ _ ≤ (1000 : Int); omega)) (RH.o hH_M (by decide) (by decide) (by decide)) (RF.o hS_M (by decide) (by decide))  (fun a i f598 f606 f624 f627 => ((ju_c _ _ f624).trans (hF_M a i f598 f606 f624 f627))) (fun i g2 => ((ju_c _ _ (by decide)).trans (hG_M i g2))) (by omega) (by omega) (by omega) (by omega) (by omega) ((((ju_c _ _ (by decide)).trans e5)).trans (by omega)) (by omega) (by omega) (by omega)
theorem r_tick_L81 {A : Nat → Option (Nat × (Nat → Int32))} {Q : Option Value → jm → Prop} {M0 : jm} {n0 : Int} (q : ∀ (r : Int) (M' : jm), RI M' → RH M' → RF M' → (-3) ≤ r ∧ r ≤ 2000000 → ((1 ≤ n0 ∧ n0 ≤ 1000 ∧ r = M0 598 2 + n0 ∧ M' 598 2 = M0 598 2 + n0) ∨ (¬ (1 ≤ n0 ∧ n0 ≤ 1000) ∧ r = -3 ∧ M' 598 2 = M0 598 2)) → (∀ (a : Nat) (i : Int), a ≠ 598 → a ≠ 606 → a ≠ 624 → a ≠ 627 → M' a i = M0 a i) → (∀ (i : Int), i ≠ 2 → M' 598 i = M0 598 i) → Q (some (.int (Int32.ofInt r))) M') (nO : Nat) (ko : ∀ (M : jm) (k : Int) (n : Int), RI M → RH M → RF M → (∀ (a : Nat) (i : Int), a ≠ 598 → a ≠ 606 → a ≠ 624 → a ≠ 627 → M a i = M0 a i) → (∀ (i : Int), i ≠ 2 → M 598 i = M0 598 i) → 0 ≤ k ∧ k ≤ 1000 → 1 ≤ n ∧ n ≤ 1000 → k ≤ n → M 598 2 = M0 598 2 + k → 0 ≤ M0 598 2 ∧ M0 598 2 ≤ 1000000 → n = n0 → 1000 - k ≤ nO → jr A 1 xm_298 17 [(2, .int (Int32.ofInt (k))), (1, .int (Int32.ofInt (n))), (0, .ref (598))] [] M Q) : ∀ (nM : Nat) (M : jm) (j : Int) (k : Int) (n : Int), RI M → RH M → RF M → (∀ (a : Nat) (i : Int), a ≠ 598 → a ≠ 606 → a ≠ 624 → a ≠ 627 → M a i = M0 a i) → (∀ (i : Int), i ≠ 2 → M 598 i = M0 598 i) → 0 ≤ j ∧ j ≤ 24 → 0 ≤ k ∧ k ≤ 999 → 1 ≤ n ∧ n ≤ 1000 → 1000 - (k + 1) ≤ nO → k < n → M 598 2 = M0 598 2 + k + 1 → 0 ≤ M0 598 2 ∧ M0 598 2 ≤ 1000000 → n = n0 → 24 - j ≤ nM → jr A 1 xm_298 81 [(3, .int (Int32.ofInt (j))), (2, .int (Int32.ofInt (k))), (1, .int (Int32.ofInt (n))), (0, .ref (598))] [] M Q := by
  intro nM
  induction nM using Nat.strongRecOn with
  | ind nM ih =>
    intro M j k n hI_M hH_M hS_M hF_M hG_M h_j h_k h_n hy0 hy1 hy2 hy3 hy4 hm
    subst hy4
    refine jr.iload_n rfl rfl ?_
    refine jr.bipush rfl (by decide) ?_
    refine jr.icmp_ge rfl rfl (by omega) (by omega) (fun h84 => ?_) (fun h84 => ?_)
    · refine jr.iconst rfl ?_
      refine jr.istore_n rfl (by decide) rfl ?_
      obtain ⟨v1, e1⟩ : ∃ z, M 598 2 = z := ⟨_, rfl⟩
      have b1 : 0 ≤ v1 ∧ v1 ≤ 2000000 := by rw [← e1]; exact hI_M 598 2 (by decide)
      refine jr.pick [0, 1, 2, 3] rfl rfl ?_
      exact r_tick_L128 q nO ko 4 M 0 k n hI_M hH_M hS_M  (fun a i f598 f606 f624 f627 => (hF_M a i f598 f606 f624 f627)) (fun i g2 => (hG_M i g2)) (by omega) (by omega) (by omega) (by omega) (by omega) ((e1).trans (by omega)) (by omega) (by omega) (by omega)
    · refine jr.aload_n rfl rfl ?_
      refine jr.getf (i := 39) (v := .ref 627) rfl rfl (by decide) rfl (by decide) rfl rfl rfl rfl ?_
      refine jr.iload_n rfl rfl ?_
      refine jr.aload_n rfl rfl ?_
      refine jr.getf (i := 39) (v := .ref 627) rfl rfl (by decide) rfl (by decide) rfl rfl rfl rfl ?_
      refine jr.iload_n rfl rfl ?_
      obtain ⟨v2, e2⟩ : ∃ z, M 627 j = z := ⟨_, rfl⟩
      have b2 : 0 ≤ v2 ∧ v2 ≤ 1 := by rw [← e2]; exact (by have q := hI_M 627 j (by decide); rw [xri_row rfl rfl] at q; exact q)
      refine jr.zald (i := j) (x := v2) rfl (by decide) rfl (by decide) (by omega) (by omega) e2 ?_
      refine jr.if_eq rfl rfl (by omega) (fun h98 => ?_) (fun h98 => ?_)
      · refine jr.iconst rfl ?_
        refine jr.zast (i := j) (x := 0) rfl (by decide) rfl (by decide) (by omega) (by omega) (j_zn (by omega)) ?_
        refine jr.iinc rfl rfl (by decide) rfl ?_
        refine jr.goto rfl rfl ?_
        obtain ⟨v3, e3⟩ : ∃ z, M 598 2 = z := ⟨_, rfl⟩
        have b3 : 0 ≤ v3 ∧ v3 ≤ 2000000 := by rw [← e3]; exact hI_M 598 2 (by decide)
        refine jr.pick [0, 1, 2, 3] rfl rfl ?_
        exact ih (nM - 1) (by omega) (ju M 627 j 0) (j + 1) k n (RI.u hI_M (a := 627) (i := j) (by rw [xri_row rfl rfl]; show (0 : Int) ≤ _ ∧ _ ≤ (1 : Int); omega)) (RH.o hH_M (by decide) (by decide) (by decide)) (RF.o hS_M (by decide) (by decide))  (fun a i f598 f606 f624 f627 => ((ju_c _ _ f627).trans (hF_M a i f598 f606 f624 f627))) (fun i g2 => ((ju_c _ _ (by decide)).trans (hG_M i g2))) (by omega) (by omega) (by omega) (by omega) (by omega) ((((ju_c _ _ (by decide)).trans e3)).trans (by omega)) (by omega) (by omega) (by omega)
      · refine jr.aload_n rfl rfl ?_
        refine jr.getf (i := 51) (v := .ref 639) rfl rfl (by decide) rfl (by decide) rfl rfl rfl rfl ?_
        refine jr.iload_n rfl rfl ?_
        obtain ⟨v4, e4⟩ : ∃ z, M 639 j = z := ⟨_, rfl⟩
        have b4 : (-2147483648) ≤ v4 ∧ v4 ≤ 2147483647 := by rw [← e4]; exact (by have q := hI_M 639 j (by decide); rw [xri_row rfl rfl] at q; exact q)
        refine jr.iald (i := j) (x := v4) rfl (by decide) rfl (by decide) (by omega) (by omega) e4 ?_
        refine jr.aload_n rfl rfl ?_
        obtain ⟨v5, e5⟩ : ∃ z, M 598 2 = z := ⟨_, rfl⟩
        have b5 : 0 ≤ v5 ∧ v5 ≤ 2000000 := by rw [← e5]; exact hI_M 598 2 (by decide)
        refine jr.getf (i := 2) (x := v5) (v := .int (Int32.ofInt (v5))) rfl rfl (by decide) rfl (by decide) rfl rfl e5 rfl ?_
        refine jr.icmp_le rfl rfl (by omega) (by omega) (fun h111 => ?_) (fun h111 => ?_)
        · refine jr.iconst rfl ?_
          refine jr.zast (i := j) (x := 0) rfl (by decide) rfl (by decide) (by omega) (by omega) (j_zn (by omega)) ?_
          refine jr.iinc rfl rfl (by decide) rfl ?_
          refine jr.goto rfl rfl ?_
          refine jr.pick [0, 1, 2, 3] rfl rfl ?_
          exact ih (nM - 1) (by omega) (ju M 627 j 0) (j + 1) k n (RI.u hI_M (a := 627) (i := j) (by rw [xri_row rfl rfl]; show (0 : Int) ≤ _ ∧ _ ≤ (1 : Int); omega)) (RH.o hH_M (by decide) (by decide) (by decide)) (RF.o hS_M (by decide) (by decide))  (fun a i f598 f606 f624 f627 => ((ju_c _ _ f627).trans (hF_M a i f598 f606 f624 f627))) (fun i g2 => ((ju_c _ _ (by decide)).trans (hG_M i g2))) (by omega) (by omega) (by omega) (by omega) (by omega) ((((ju_c _ _ (by decide)).trans e5)).trans (by omega)) (by omega) (by omega) (by omega)
        · refine jr.iconst rfl ?_
          refine jr.goto rfl rfl ?_
          refine jr.zast (i := j) (x := 1) rfl (by decide) rfl (by decide) (by omega) (by omega) (j_zn (by omega)) ?_
          refine jr.iinc rfl rfl (by decide) rfl ?_
          refine jr.goto rfl rfl ?_
          refine jr.pick [0, 1, 2, 3] rfl rfl ?_
          exact ih (nM - 1) (by omega) (ju M 627 j 1) (j + 1) k n (RI.u hI_M (a := 627) (i := j) (by rw [xri_row rfl rfl]; show (0 : Int) ≤ _ ∧ _ ≤ (1 : Int); omega)) (RH.o hH_M (by decide) (by decide) (by decide)) (RF.o hS_M (by decide) (by decide))  (fun a i f598 f606 f624 f627 => ((ju_c _ _ f627).trans (hF_M a i f598 f606 f624 f627))) (fun i g2 => ((ju_c _ _ (by decide)).trans (hG_M i g2))) (by omega) (by omega) (by omega) (by omega) (by omega) ((((ju_c _ _ (by decide)).trans e5)).trans (by omega)) (by omega) (by omega) (by omega)
theorem r_tick_L34 {A : Nat → Option (Nat × (Nat → Int32))} {Q : Option Value → jm → Prop} {M0 : jm} {n0 : Int} (q : ∀ (r : Int) (M' : jm), RI M' → RH M' → RF M' → (-3) ≤ r ∧ r ≤ 2000000 → ((1 ≤ n0 ∧ n0 ≤ 1000 ∧ r = M0 598 2 + n0 ∧ M' 598 2 = M0 598 2 + n0) ∨ (¬ (1 ≤ n0 ∧ n0 ≤ 1000) ∧ r = -3 ∧ M' 598 2 = M0 598 2)) → (∀ (a : Nat) (i : Int), a ≠ 598 → a ≠ 606 → a ≠ 624 → a ≠ 627 → M' a i = M0 a i) → (∀ (i : Int), i ≠ 2 → M' 598 i = M0 598 i) → Q (some (.int (Int32.ofInt r))) M') (nO : Nat) (ko : ∀ (M : jm) (k : Int) (n : Int), RI M → RH M → RF M → (∀ (a : Nat) (i : Int), a ≠ 598 → a ≠ 606 → a ≠ 624 → a ≠ 627 → M a i = M0 a i) → (∀ (i : Int), i ≠ 2 → M 598 i = M0 598 i) → 0 ≤ k ∧ k ≤ 1000 → 1 ≤ n ∧ n ≤ 1000 → k ≤ n → M 598 2 = M0 598 2 + k → 0 ≤ M0 598 2 ∧ M0 598 2 ≤ 1000000 → n = n0 → 1000 - k ≤ nO → jr A 1 xm_298 17 [(2, .int (Int32.ofInt (k))), (1, .int (Int32.ofInt (n))), (0, .ref (598))] [] M Q) : ∀ (nM : Nat) (M : jm) (j : Int) (k : Int) (n : Int), RI M → RH M → RF M → (∀ (a : Nat) (i : Int), a ≠ 598 → a ≠ 606 → a ≠ 624 → a ≠ 627 → M a i = M0 a i) → (∀ (i : Int), i ≠ 2 → M 598 i = M0 598 i) → 0 ≤ j ∧ j ≤ 8 → 0 ≤ k ∧ k ≤ 999 → 1 ≤ n ∧ n ≤ 1000 → 1000 - (k + 1) ≤ nO → k < n → M 598 2 = M0 598 2 + k + 1 → 0 ≤ M0 598 2 ∧ M0 598 2 ≤ 1000000 → n = n0 → 8 - j ≤ nM → jr A 1 xm_298 34 [(3, .int (Int32.ofInt (j))), (2, .int (Int32.ofInt (k))), (1, .int (Int32.ofInt (n))), (0, .ref (598))] [] M Q := by
  intro nM
  induction nM using Nat.strongRecOn with
  | ind nM ih =>
    intro M j k n hI_M hH_M hS_M hF_M hG_M h_j h_k h_n hy0 hy1 hy2 hy3 hy4 hm
    subst hy4
    refine jr.iload_n rfl rfl ?_
    refine jr.bipush rfl (by decide) ?_
    refine jr.icmp_ge rfl rfl (by omega) (by omega) (fun h37 => ?_) (fun h37 => ?_)
    · refine jr.iconst rfl ?_
      refine jr.istore_n rfl (by decide) rfl ?_
      obtain ⟨v1, e1⟩ : ∃ z, M 598 2 = z := ⟨_, rfl⟩
      have b1 : 0 ≤ v1 ∧ v1 ≤ 2000000 := by rw [← e1]; exact hI_M 598 2 (by decide)
      refine jr.pick [0, 1, 2, 3] rfl rfl ?_
      exact r_tick_L81 q nO ko 24 M 0 k n hI_M hH_M hS_M  (fun a i f598 f606 f624 f627 => (hF_M a i f598 f606 f624 f627)) (fun i g2 => (hG_M i g2)) (by omega) (by omega) (by omega) (by omega) (by omega) ((e1).trans (by omega)) (by omega) (by omega) (by omega)
    · refine jr.aload_n rfl rfl ?_
      refine jr.getf (i := 17) (v := .ref 606) rfl rfl (by decide) rfl (by decide) rfl rfl rfl rfl ?_
      refine jr.iload_n rfl rfl ?_
      refine jr.aload_n rfl rfl ?_
      refine jr.getf (i := 17) (v := .ref 606) rfl rfl (by decide) rfl (by decide) rfl rfl rfl rfl ?_
      refine jr.iload_n rfl rfl ?_
      obtain ⟨v2, e2⟩ : ∃ z, M 606 j = z := ⟨_, rfl⟩
      have b2 : 0 ≤ v2 ∧ v2 ≤ 1 := by rw [← e2]; exact (by have q := hI_M 606 j (by decide); rw [xri_row rfl rfl] at q; exact q)
      refine jr.zald (i := j) (x := v2) rfl (by decide) rfl (by decide) (by omega) (by omega) e2 ?_
      refine jr.if_eq rfl rfl (by omega) (fun h51 => ?_) (fun h51 => ?_)
      · refine jr.iconst rfl ?_
        refine jr.zast (i := j) (x := 0) rfl (by decide) rfl (by decide) (by omega) (by omega) (j_zn (by omega)) ?_
        refine jr.iinc rfl rfl (by decide) rfl ?_
        refine jr.goto rfl rfl ?_
        obtain ⟨v3, e3⟩ : ∃ z, M 598 2 = z := ⟨_, rfl⟩
        have b3 : 0 ≤ v3 ∧ v3 ≤ 2000000 := by rw [← e3]; exact hI_M 598 2 (by decide)
        refine jr.pick [0, 1, 2, 3] rfl rfl ?_
        exact ih (nM - 1) (by omega) (ju M 606 j 0) (j + 1) k n (RI.u hI_M (a := 606) (i := j) (by rw [xri_row rfl rfl]; show (0 : Int) ≤ _ ∧ _ ≤ (1 : Int); omega)) (RH.o hH_M (by decide) (by decide) (by decide)) (RF.o hS_M (by decide) (by decide))  (fun a i f598 f606 f624 f627 => ((ju_c _ _ f606).trans (hF_M a i f598 f606 f624 f627))) (fun i g2 => ((ju_c _ _ (by decide)).trans (hG_M i g2))) (by omega) (by omega) (by omega) (by omega) (by omega) ((((ju_c _ _ (by decide)).trans e3)).trans (by omega)) (by omega) (by omega) (by omega)
      · refine jr.aload_n rfl rfl ?_
        refine jr.getf (i := 23) (v := .ref 612) rfl rfl (by decide) rfl (by decide) rfl rfl rfl rfl ?_
        refine jr.iload_n rfl rfl ?_
        obtain ⟨v4, e4⟩ : ∃ z, M 612 j = z := ⟨_, rfl⟩
        have b4 : 0 ≤ v4 ∧ v4 ≤ 2000030 := by rw [← e4]; exact (by have q := hI_M 612 j (by decide); rw [xri_row rfl rfl] at q; exact q)
        refine jr.iald (i := j) (x := v4) rfl (by decide) rfl (by decide) (by omega) (by omega) e4 ?_
        refine jr.aload_n rfl rfl ?_
        obtain ⟨v5, e5⟩ : ∃ z, M 598 2 = z := ⟨_, rfl⟩
        have b5 : 0 ≤ v5 ∧ v5 ≤ 2000000 := by rw [← e5]; exact hI_M 598 2 (by decide)
        refine jr.getf (i := 2) (x := v5) (v := .int (Int32.ofInt (v5))) rfl rfl (by decide) rfl (by decide) rfl rfl e5 rfl ?_
        refine jr.icmp_le rfl rfl (by omega) (by omega) (fun h64 => ?_) (fun h64 => ?_)
        · refine jr.iconst rfl ?_
          refine jr.zast (i := j) (x := 0) rfl (by decide) rfl (by decide) (by omega) (by omega) (j_zn (by omega)) ?_
          refine jr.iinc rfl rfl (by decide) rfl ?_
          refine jr.goto rfl rfl ?_
          refine jr.pick [0, 1, 2, 3] rfl rfl ?_
          exact ih (nM - 1) (by omega) (ju M 606 j 0) (j + 1) k n (RI.u hI_M (a := 606) (i := j) (by rw [xri_row rfl rfl]; show (0 : Int) ≤ _ ∧ _ ≤ (1 : Int); omega)) (RH.o hH_M (by decide) (by decide) (by decide)) (RF.o hS_M (by decide) (by decide))  (fun a i f598 f606 f624 f627 => ((ju_c _ _ f606).trans (hF_M a i f598 f606 f624 f627))) (fun i g2 => ((ju_c _ _ (by decide)).trans (hG_M i g2))) (by omega) (by omega) (by omega) (by omega) (by omega) ((((ju_c _ _ (by decide)).trans e5)).trans (by omega)) (by omega) (by omega) (by omega)
        · refine jr.iconst rfl ?_
          refine jr.goto rfl rfl ?_
          refine jr.zast (i := j) (x := 1) rfl (by decide) rfl (by decide) (by omega) (by omega) (j_zn (by omega)) ?_
          refine jr.iinc rfl rfl (by decide) rfl ?_
          refine jr.goto rfl rfl ?_
          refine jr.pick [0, 1, 2, 3] rfl rfl ?_
          exact ih (nM - 1) (by omega) (ju M 606 j 1) (j + 1) k n (RI.u hI_M (a := 606) (i := j) (by rw [xri_row rfl rfl]; show (0 : Int) ≤ _ ∧ _ ≤ (1 : Int); omega)) (RH.o hH_M (by decide) (by decide) (by decide)) (RF.o hS_M (by decide) (by decide))  (fun a i f598 f606 f624 f627 => ((ju_c _ _ f606).trans (hF_M a i f598 f606 f624 f627))) (fun i g2 => ((ju_c _ _ (by decide)).trans (hG_M i g2))) (by omega) (by omega) (by omega) (by omega) (by omega) ((((ju_c _ _ (by decide)).trans e5)).trans (by omega)) (by omega) (by omega) (by omega)
theorem r_tick_L17 {A : Nat → Option (Nat × (Nat → Int32))} {Q : Option Value → jm → Prop} {M0 : jm} {n0 : Int} (q : ∀ (r : Int) (M' : jm), RI M' → RH M' → RF M' → (-3) ≤ r ∧ r ≤ 2000000 → ((1 ≤ n0 ∧ n0 ≤ 1000 ∧ r = M0 598 2 + n0 ∧ M' 598 2 = M0 598 2 + n0) ∨ (¬ (1 ≤ n0 ∧ n0 ≤ 1000) ∧ r = -3 ∧ M' 598 2 = M0 598 2)) → (∀ (a : Nat) (i : Int), a ≠ 598 → a ≠ 606 → a ≠ 624 → a ≠ 627 → M' a i = M0 a i) → (∀ (i : Int), i ≠ 2 → M' 598 i = M0 598 i) → Q (some (.int (Int32.ofInt r))) M') : ∀ (nM : Nat) (M : jm) (k : Int) (n : Int), RI M → RH M → RF M → (∀ (a : Nat) (i : Int), a ≠ 598 → a ≠ 606 → a ≠ 624 → a ≠ 627 → M a i = M0 a i) → (∀ (i : Int), i ≠ 2 → M 598 i = M0 598 i) → 0 ≤ k ∧ k ≤ 1000 → 1 ≤ n ∧ n ≤ 1000 → k ≤ n → M 598 2 = M0 598 2 + k → 0 ≤ M0 598 2 ∧ M0 598 2 ≤ 1000000 → n = n0 → 1000 - k ≤ nM → jr A 1 xm_298 17 [(2, .int (Int32.ofInt (k))), (1, .int (Int32.ofInt (n))), (0, .ref (598))] [] M Q := by
  intro nM
  induction nM using Nat.strongRecOn with
  | ind nM ih =>
    intro M k n hI_M hH_M hS_M hF_M hG_M h_k h_n hy0 hy1 hy2 hy3 hm
    subst hy3
    refine jr.iload_n rfl rfl ?_
    refine jr.iload_n rfl rfl ?_
    refine jr.icmp_ge rfl rfl (by omega) (by omega) (fun h19 => ?_) (fun h19 => ?_)
    · refine jr.aload_n rfl rfl ?_
      obtain ⟨v1, e1⟩ : ∃ z, M 598 2 = z := ⟨_, rfl⟩
      have b1 : 0 ≤ v1 ∧ v1 ≤ 2000000 := by rw [← e1]; exact hI_M 598 2 (by decide)
      refine jr.getf (i := 2) (x := v1) (v := .int (Int32.ofInt (v1))) rfl rfl (by decide) rfl (by decide) rfl rfl e1 rfl ?_
      exact jr.ireturn rfl rfl rfl (q _ _ hI_M hH_M hS_M  (by omega) (Or.inl ⟨by omega, by omega, by omega, by omega⟩) (fun a i f598 f606 f624 f627 => (hF_M a i f598 f606 f624 f627)) (fun i g2 => (hG_M i g2)))
    · refine jr.aload_n rfl rfl ?_
      refine jr.dup rfl rfl ?_
      obtain ⟨v2, e2⟩ : ∃ z, M 598 2 = z := ⟨_, rfl⟩
      have b2 : 0 ≤ v2 ∧ v2 ≤ 2000000 := by rw [← e2]; exact hI_M 598 2 (by decide)
      refine jr.getf (i := 2) (x := v2) (v := .int (Int32.ofInt (v2))) rfl rfl (by decide) rfl (by decide) rfl rfl e2 rfl ?_
      refine jr.iconst rfl ?_
      refine jr.iadd rfl ?_
      refine jr.putf (i := 2) (x := (v2 + 1)) rfl rfl (by decide) rfl (by decide) rfl rfl rfl rfl rfl ?_
      refine jr.iconst rfl ?_
      refine jr.istore_n rfl (by decide) rfl ?_
      refine jr.pick [0, 1, 2, 3] rfl rfl ?_
      exact r_tick_L34 q (nM - 1) (ih (nM - 1) (by omega)) 8 (ju M 598 2 (v2 + 1)) 0 k n (RI.u hI_M (a := 598) (i := 2) (show (0 : Int) ≤ _ ∧ _ ≤ (2000000 : Int) from by omega)) (RH.o hH_M (by decide) (by decide) (by decide)) (RF.o hS_M (by decide) (by decide))  (fun a i f598 f606 f624 f627 => ((ju_c _ _ f598).trans (hF_M a i f598 f606 f624 f627))) (fun i g2 => ((ju_i _ _ g2).trans (hG_M i g2))) (by omega) (by omega) (by omega) (by omega) (by omega) (((ju_same _ _ _ _)).trans (by omega)) (by omega) (by omega) (by omega)
theorem r_tick {A : Nat → Option (Nat × (Nat → Int32))} {Q : Option Value → jm → Prop} {M : jm} (hI_M : RI M) (hH_M : RH M) (hS_M : RF M) {n : Int} (h_n : (-2147483648) ≤ n ∧ n ≤ 2147483647) (p0 : 0 ≤ M 598 2 ∧ M 598 2 ≤ 1000000) (q : ∀ (r : Int) (M' : jm), RI M' → RH M' → RF M' → (-3) ≤ r ∧ r ≤ 2000000 → ((1 ≤ n ∧ n ≤ 1000 ∧ r = M 598 2 + n ∧ M' 598 2 = M 598 2 + n) ∨ (¬ (1 ≤ n ∧ n ≤ 1000) ∧ r = -3 ∧ M' 598 2 = M 598 2)) → (∀ (a : Nat) (i : Int), a ≠ 598 → a ≠ 606 → a ≠ 624 → a ≠ 627 → M' a i = M a i) → (∀ (i : Int), i ≠ 2 → M' 598 i = M 598 i) → Q (some (.int (Int32.ofInt r))) M') : jc A 2 298 [.ref (598), .int (Int32.ofInt (n))] M Q := by
  refine jc_of (m := xm_298) rfl (Nat.le_of_ble_eq_true rfl) rfl ?_
  refine jr.iload_n rfl rfl ?_
  refine jr.i2l rfl (by omega) ?_
  refine jr.lconst (x := 1) rfl (by decide) ?_
  refine jr.ldc2 (x := 1000) rfl rfl (by decide) ?_
  refine jr_s rfl rfl (Or.inl rfl) ⟨Nat.le_of_ble_eq_true rfl, Nat.le_of_ble_eq_true rfl⟩ rfl rfl (jc.deep (c_within (by omega) (by omega) (by omega) (fun l6 u6 => ?_) (fun n6 => ?_)) (by decide))
  · refine jr.if_ne rfl rfl (by omega) (fun _ => ?_) (fun h => absurd (by decide) h)
    refine jr.iconst rfl ?_
    refine jr.istore_n rfl (by decide) rfl ?_
    obtain ⟨v1, e1⟩ : ∃ z, M 598 2 = z := ⟨_, rfl⟩
    have b1 : 0 ≤ v1 ∧ v1 ≤ 2000000 := by rw [← e1]; exact hI_M 598 2 (by decide)
    refine jr.pick [0, 2, 1] rfl rfl ?_
    exact r_tick_L17 q 1000 M 0 n hI_M hH_M hS_M  (fun a i f598 f606 f624 f627 => rfl) (fun i g2 => rfl) (by omega) (by omega) (by omega) ((e1).trans (by omega)) (by omega) (by omega) (by omega)
  · refine jr.if_ne rfl rfl (by omega) (fun h => absurd h (by decide)) (fun _ => ?_)
    refine jr.bipush rfl (by decide) ?_
    exact jr.ireturn rfl rfl rfl (q _ _ hI_M hH_M hS_M  (by omega) (Or.inr ⟨by omega, by omega, rfl⟩) (fun a i f598 f606 f624 f627 => rfl) (fun i g2 => rfl))
