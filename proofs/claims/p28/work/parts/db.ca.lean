/-! ===== the class: the token that stands ===== -/
noncomputable def TXc (f : Int → Int) (N : Int) (M : jm) : Prop := M 413 4 = N ∧ ∀ i : Int, 0 ≤ i → i < N → M 1 i = f i
noncomputable def TKc (f : Int → Int) (N t : Int) (M : jm) : Prop := TXc f N M ∧ (0 ≤ t ∧ t ≤ N) ∧ M 413 7 = t ∧ M 413 8 = zte f N t ∧ M 413 6 = zso f N t ∧ (zso f N t = 1 → M 413 10 = zcv (zwd f N t)) ∧ (zso f N t = 2 → M 413 9 = znu f N t) ∧ (zso f N t = 3 → M 413 11 = f t)
theorem TXc.fr {f : Int → Int} {N : Int} {W : List (Nat × Nat)} {T M : jm} (h : TXc f N T) (fr : FR W T M) (h1 : ksep W [(44, 4), (43, 1000)] = true) : TXc f N M := ⟨(fr.s h1 (show kd 413 = 44 from rfl) 4 (by decide) 4 (Or.inr rfl)).trans h.1, fun i h0 h2 => (fr.s h1 (show kd 1 = 43 from rfl) 1000 (by decide) i (Or.inl rfl)).trans (h.2 i h0 h2)⟩
theorem TKc.fr {f : Int → Int} {N t : Int} {W : List (Nat × Nat)} {T M : jm} (h : TKc f N t T) (fr : FR W T M) (h1 : ksep W [(44, 4), (43, 1000), (44, 6), (44, 7), (44, 8), (44, 9), (44, 10), (44, 11)] = true) : TKc f N t M := by
  have k : kd 413 = 44 := rfl
  obtain ⟨a, b, c7, c8, c6, c10, c9, c11⟩ := h
  have g4 := fr.s h1 k 4 (by decide) 4 (Or.inr rfl)
  have g6 := fr.s h1 k 6 (by decide) 6 (Or.inr rfl)
  have g7 := fr.s h1 k 7 (by decide) 7 (Or.inr rfl)
  have g8 := fr.s h1 k 8 (by decide) 8 (Or.inr rfl)
  have g9 := fr.s h1 k 9 (by decide) 9 (Or.inr rfl)
  have g10 := fr.s h1 k 10 (by decide) 10 (Or.inr rfl)
  have g11 := fr.s h1 k 11 (by decide) 11 (Or.inr rfl)
  exact ⟨⟨g4.trans a.1, fun i h0 h2 => (fr.s h1 (show kd 1 = 43 from rfl) 1000 (by decide) i (Or.inl rfl)).trans (a.2 i h0 h2)⟩, b, g7.trans c7, g8.trans c8, g6.trans c6, fun q => g10.trans (c10 q), fun q => g9.trans (c9 q), fun q => g11.trans (c11 q)⟩
/-- the letter at a place, 0 where none is -/
noncomputable def zla (f : Int → Int) (N i : Int) : Int := if 0 ≤ i ∧ i < N ∧ zlt (f i) = true then f i else 0
theorem zla_y {f : Int → Int} {N i : Int} (h : 0 ≤ i ∧ i < N) (h1 : 97 ≤ f i ∧ f i ≤ 122) : zla f N i = f i := by
  unfold zla
  rw [if_pos ⟨h.1, h.2, zlt_t h1⟩]
theorem zla_n {f : Int → Int} {N i : Int} (h : ¬ (0 ≤ i ∧ i < N) ∨ ¬ (97 ≤ f i ∧ f i ≤ 122)) : zla f N i = 0 := by
  unfold zla
  rw [if_neg (fun q => h.elim (fun z => z ⟨q.1, q.2.1⟩) (fun z => z (zlt_r q.2.2)))]
/-- within a word, and behind it -/
theorem zla_w {f : Int → Int} {N t i : Int} (h : zso f N t = 1) (h0 : 0 ≤ t) (h1 : t ≤ i) (h2 : i < zte f N t) : zla f N i = f i ∧ 97 ≤ f i ∧ f i ≤ 122 := by
  obtain ⟨g0, g1, g2, g3⟩ := zso_1 h
  have hl := zte_le f (show t ≤ N by omega)
  have q := zlt_r (zsp_all zlt f N t i h1 (by rw [← g2]; exact h2))
  exact ⟨zla_y ⟨by omega, by omega⟩ q, q⟩
theorem zla_e {f : Int → Int} {N t : Int} (h : zso f N t = 1) : zla f N (zte f N t) = 0 := by
  obtain ⟨g0, g1, g2, g3⟩ := zso_1 h
  have q := zsp_end zlt f N t
  rw [← g2] at q
  refine zla_n ?_
  by_cases z : zte f N t < N
  · exact Or.inr (fun w => q ⟨z, zlt_t w⟩)
  · exact Or.inl (fun w => z w.2)
/-- two words are the same when their letters are, up to the first place without one -/
theorem zls_eq {f : Int → Int} (n : Nat) : ∀ a b : Int, (∀ j : Int, 0 ≤ j → j < n → f (a + j) = f (b + j)) → zls f n a = zls f n b := by
  induction n with
  | zero => intro a b _; rfl
  | succ n ih =>
    intro a b h
    show f a :: zls f n (a + 1) = f b :: zls f n (b + 1)
    have q := h 0 (by omega) (by omega)
    rw [Int.add_zero, Int.add_zero] at q
    rw [q, ih (a + 1) (b + 1) (fun j h0 h1 => by
      have q2 := h (j + 1) (by omega) (by omega)
      rw [show a + 1 + j = a + (j + 1) by omega, show b + 1 + j = b + (j + 1) by omega]
      exact q2)]
theorem zsw_t {f : Int → Int} {N a b i : Int} (ha : zso f N a = 1) (hb : zso f N b = 1) (a0 : 0 ≤ a) (b0 : 0 ≤ b) (h0 : 0 ≤ i) (h : ∀ j : Int, 0 ≤ j → j < i → zla f N (a + j) = zla f N (b + j) ∧ zla f N (a + j) ≠ 0) (e1 : zla f N (a + i) = 0) (e2 : zla f N (b + i) = 0) : znm f N a = znm f N b := by
  have l1 : zte f N a = a + i := by
    have g := zte_ge f N a
    rcases Int.lt_trichotomy (zte f N a) (a + i) with q | q | q
    · have z := (h (zte f N a - a) (by omega) (by omega)).2
      rw [show a + (zte f N a - a) = zte f N a by omega, zla_e ha] at z
      exact absurd rfl z
    · exact q
    · have z := zla_w ha a0 (show a ≤ a + i by omega) q
      omega
  have l2 : zte f N b = b + i := by
    have g := zte_ge f N b
    rcases Int.lt_trichotomy (zte f N b) (b + i) with q | q | q
    · have z := h (zte f N b - b) (by omega) (by omega)
      rw [show b + (zte f N b - b) = zte f N b by omega, zla_e hb] at z
      exact absurd z.1 z.2
    · exact q
    · have z := zla_w hb b0 (show b ≤ b + i by omega) q
      omega
  rw [znm_v, znm_v]
  unfold zw
  rw [l1, l2, show (a + i - a).toNat = i.toNat by omega, show (b + i - b).toNat = i.toNat by omega]
  rw [zls_eq i.toNat a b (fun j j0 j1 => by
    have z := (h j j0 (by omega)).1
    have z1 := zla_w ha a0 (show a ≤ a + j by omega) (by omega)
    have z2 := zla_w hb b0 (show b ≤ b + j by omega) (by omega)
    omega)]
theorem zls_in {f : Int → Int} (n : Nat) : ∀ a b : Int, zls f n a = zls f n b → ∀ j : Int, 0 ≤ j → j < n → f (a + j) = f (b + j) := by
  induction n with
  | zero => intro a b _ j h0 h1; omega
  | succ n ih =>
    intro a b h j h0 h1
    have h2 : f a :: zls f n (a + 1) = f b :: zls f n (b + 1) := h
    rw [List.cons.injEq] at h2
    by_cases q : j = 0
    · rw [q, Int.add_zero, Int.add_zero]
      exact h2.1
    · have q2 := ih (a + 1) (b + 1) h2.2 (j - 1) (by omega) (by omega)
      rw [show a + 1 + (j - 1) = a + j by omega, show b + 1 + (j - 1) = b + j by omega] at q2
      exact q2
theorem zls_len {f : Int → Int} (n : Nat) : ∀ a : Int, (zls f n a).length = n := by
  induction n with
  | zero => intro a; rfl
  | succ n ih => intro a; show (zls f n (a + 1)).length + 1 = n + 1; rw [ih]
theorem zsw_f {f : Int → Int} {N a b i : Int} (ha : zso f N a = 1) (hb : zso f N b = 1) (a0 : 0 ≤ a) (b0 : 0 ≤ b) (h0 : 0 ≤ i) (h : ∀ j : Int, 0 ≤ j → j < i → zla f N (a + j) = zla f N (b + j) ∧ zla f N (a + j) ≠ 0) (e : zla f N (a + i) ≠ zla f N (b + i)) : znm f N a ≠ znm f N b := by
  intro q
  have w : zw f N a = zw f N b := (znm_w ha (zw_l hb)).mp (q.trans (znm_v f N b))
  have g1 := zte_ge f N a
  have g2 := zte_ge f N b
  have hl : zte f N a - a = zte f N b - b := by
    have z := congrArg List.length w
    unfold zw at z
    rw [zls_len, zls_len] at z
    omega
  unfold zw at w
  rw [show (zte f N b - b).toNat = (zte f N a - a).toNat by omega] at w
  have wi := zls_in (zte f N a - a).toNat a b w
  rcases Int.lt_trichotomy (zte f N a) (a + i) with z | z | z
  · have z1 := (h (zte f N a - a) (by omega) (by omega)).2
    rw [show a + (zte f N a - a) = zte f N a by omega, zla_e ha] at z1
    exact z1 rfl
  · have z1 := zla_e ha
    have z2 := zla_e hb
    rw [z] at z1
    rw [show zte f N b = b + i by omega] at z2
    omega
  · have z1 := zla_w ha a0 (show a ≤ a + i by omega) z
    have z2 := zla_w hb b0 (show b ≤ b + i by omega) (by omega)
    have z3 := wi i h0 (by omega)
    omega
/-- within ten letters a word has ended -/
theorem zsw_9 {f : Int → Int} {N a : Int} (ha : zso f N a = 1) (a0 : 0 ≤ a) (h : ∀ j : Int, 0 ≤ j → j < 10 → zla f N (a + j) ≠ 0) : False := by
  obtain ⟨g0, g1, g2, g3⟩ := zso_1 ha
  have g := zte_ge f N a
  have z := h (zte f N a - a) (by omega) (by omega)
  rw [show a + (zte f N a - a) = zte f N a by omega, zla_e ha] at z
  exact z rfl
theorem c_Parser_letterAt_z {A : Nat → Option (Nat × (Nat → Int32))} [HA A] {Q : Option Value → jm → Prop} {f : Int → Int} {N : Int} {M : jm} (hC_M : CI M) {x : Int} (h_x : (-2147483648) ≤ x ∧ x ≤ 2147483647) (p0 : 1 ≤ M 413 3 ∧ M 413 3 ≤ 1) (p1 : TXc f N M) (q : ∀ (r : Int), 0 ≤ r ∧ r ≤ 255 → (r = zla f N x) → Q (some (.int (Int32.ofInt r))) M) : jc A 1 211 [.ref (413), .int (Int32.ofInt (x))] M Q := by
  have hN := p1.1
  refine jc_of (m := xm_211) rfl (Nat.le_of_ble_eq_true rfl) rfl ?_
  obtain ⟨v1, e1⟩ : ∃ z_, M 413 3 = z_ := ⟨_, rfl⟩
  have b1 : 1 ≤ v1 ∧ v1 ≤ 419 := by rw [← e1]; exact (CI.r hC_M (show kd 413 = 44 from rfl) (by decide) 3)
  have b2 : 1 ≤ v1 ∧ v1 ≤ 1 := by rw [← e1]; exact p0
  refine jr.iload_n rfl rfl ?_
  refine jr.if_lt rfl rfl (by omega) (fun h1 => ?_) (fun h1 => ?_)
  · refine jr.iconst rfl ?_
    exact jr.ireturn rfl rfl rfl (q _ (by omega) (by rw [zla_n (by first | exact Or.inl (by omega) | exact Or.inr (by omega))]))
  · refine jr.iload_n rfl rfl ?_
    refine jr.aload_n rfl rfl ?_
    obtain ⟨v3, e3⟩ : ∃ z_, M 413 4 = z_ := ⟨_, rfl⟩
    have b3 : 0 ≤ v3 ∧ v3 ≤ 1600 := by rw [← e3]; exact (CI.r hC_M (show kd 413 = 44 from rfl) (by decide) 4)
    refine jr.getf (i := 4) (x := v3) (v := .int (Int32.ofInt (v3))) rfl rfl (by decide) rfl (by decide) rfl rfl e3 rfl ?_
    refine jr.icmp_ge rfl rfl (by omega) (by omega) (fun h9 => ?_) (fun h9 => ?_)
    · refine jr.iconst rfl ?_
      exact jr.ireturn rfl rfl rfl (q _ (by omega) (by rw [zla_n (by first | exact Or.inl (by omega) | exact Or.inr (by omega))]))
    · refine jr.aload_n rfl rfl ?_
      have k4 : kd (v1).toNat = 43 := by rcases (show v1 = 1 by omega) with h <;> (rw [h]; rfl)
      refine jr.getf (i := 3) (x := v1) (v := .ref (v1.toNat)) rfl rfl (by decide) rfl (by decide) rfl rfl e1 rfl ?_
      refine jr.iload_n rfl rfl ?_
      obtain ⟨v5, e5⟩ : ∃ z_, M ((v1.toNat)) x = z_ := ⟨_, rfl⟩
      have b5 : 0 ≤ v5 ∧ v5 ≤ 255 := by rw [← e5]; exact (CI.r hC_M k4 (by decide) x)
      refine jr.iald (i := x) (x := v5) rfl (Nat.lt_trans (kx_43 k4).1 (by decide)) (kx_43 k4).2 (by decide) (by omega) (by omega) e5 ?_
      have hf6 : v5 = f x := by rw [← e5, show (v1.toNat) = 1 by omega]; exact p1.2 x (by omega) (by omega)
      refine jr.bipush rfl (by decide) ?_
      refine jr.icmp_lt rfl rfl (by omega) (by omega) (fun h20 => ?_) (fun h20 => ?_)
      · refine jr.iconst rfl ?_
        exact jr.ireturn rfl rfl rfl (q _ (by omega) (by rw [zla_n (by first | exact Or.inl (by omega) | exact Or.inr (by omega))]))
      · refine jr.aload_n rfl rfl ?_
        have k7 : kd (v1).toNat = 43 := by rcases (show v1 = 1 by omega) with h <;> (rw [h]; rfl)
        refine jr.getf (i := 3) (x := v1) (v := .ref (v1.toNat)) rfl rfl (by decide) rfl (by decide) rfl rfl e1 rfl ?_
        refine jr.iload_n rfl rfl ?_
        refine jr.iald (i := x) (x := v5) rfl (Nat.lt_trans (kx_43 k7).1 (by decide)) (kx_43 k7).2 (by decide) (by omega) (by omega) e5 ?_
        have hf8 : v5 = f x := by rw [← e5, show (v1.toNat) = 1 by omega]; exact p1.2 x (by omega) (by omega)
        refine jr.bipush rfl (by decide) ?_
        refine jr.icmp_gt rfl rfl (by omega) (by omega) (fun h31 => ?_) (fun h31 => ?_)
        · refine jr.iconst rfl ?_
          exact jr.ireturn rfl rfl rfl (q _ (by omega) (by rw [zla_n (by first | exact Or.inl (by omega) | exact Or.inr (by omega))]))
        · refine jr.aload_n rfl rfl ?_
          have k9 : kd (v1).toNat = 43 := by rcases (show v1 = 1 by omega) with h <;> (rw [h]; rfl)
          refine jr.getf (i := 3) (x := v1) (v := .ref (v1.toNat)) rfl rfl (by decide) rfl (by decide) rfl rfl e1 rfl ?_
          refine jr.iload_n rfl rfl ?_
          refine jr.iald (i := x) (x := v5) rfl (Nat.lt_trans (kx_43 k9).1 (by decide)) (kx_43 k9).2 (by decide) (by omega) (by omega) e5 ?_
          have hf10 : v5 = f x := by rw [← e5, show (v1.toNat) = 1 by omega]; exact p1.2 x (by omega) (by omega)
          refine jr.goto rfl rfl ?_
          exact jr.ireturn rfl rfl rfl (q _ (by omega) (by rw [zla_y (by omega) (by omega)]; omega))
theorem c_Parser_isDigitAt_z {A : Nat → Option (Nat × (Nat → Int32))} [HA A] {Q : Option Value → jm → Prop} {f : Int → Int} {N : Int} {M : jm} (hC_M : CI M) {x : Int} (h_x : (-2147483648) ≤ x ∧ x ≤ 2147483647) (p0 : 1 ≤ M 413 3 ∧ M 413 3 ≤ 1) (p1 : TXc f N M) (q : ∀ (r : Int), 0 ≤ r ∧ r ≤ 1 → ((r = 1 ∧ 0 ≤ x ∧ x < N ∧ 48 ≤ f x ∧ f x ≤ 57) ∨ (r = 0 ∧ ¬ (0 ≤ x ∧ x < N ∧ 48 ≤ f x ∧ f x ≤ 57))) → Q (some (.int (Int32.ofInt r))) M) : jc A 1 212 [.ref (413), .int (Int32.ofInt (x))] M Q := by
  have hN := p1.1
  refine jc_of (m := xm_212) rfl (Nat.le_of_ble_eq_true rfl) rfl ?_
  obtain ⟨v1, e1⟩ : ∃ z_, M 413 3 = z_ := ⟨_, rfl⟩
  have b1 : 1 ≤ v1 ∧ v1 ≤ 419 := by rw [← e1]; exact (CI.r hC_M (show kd 413 = 44 from rfl) (by decide) 3)
  have b2 : 1 ≤ v1 ∧ v1 ≤ 1 := by rw [← e1]; exact p0
  refine jr.iload_n rfl rfl ?_
  refine jr.if_lt rfl rfl (by omega) (fun h1 => ?_) (fun h1 => ?_)
  · refine jr.iconst rfl ?_
    exact jr.ireturn rfl rfl rfl (q _ (by omega) (by omega))
  · refine jr.iload_n rfl rfl ?_
    refine jr.aload_n rfl rfl ?_
    obtain ⟨v3, e3⟩ : ∃ z_, M 413 4 = z_ := ⟨_, rfl⟩
    have b3 : 0 ≤ v3 ∧ v3 ≤ 1600 := by rw [← e3]; exact (CI.r hC_M (show kd 413 = 44 from rfl) (by decide) 4)
    refine jr.getf (i := 4) (x := v3) (v := .int (Int32.ofInt (v3))) rfl rfl (by decide) rfl (by decide) rfl rfl e3 rfl ?_
    refine jr.icmp_ge rfl rfl (by omega) (by omega) (fun h9 => ?_) (fun h9 => ?_)
    · refine jr.iconst rfl ?_
      exact jr.ireturn rfl rfl rfl (q _ (by omega) (by omega))
    · refine jr.aload_n rfl rfl ?_
      have k4 : kd (v1).toNat = 43 := by rcases (show v1 = 1 by omega) with h <;> (rw [h]; rfl)
      refine jr.getf (i := 3) (x := v1) (v := .ref (v1.toNat)) rfl rfl (by decide) rfl (by decide) rfl rfl e1 rfl ?_
      refine jr.iload_n rfl rfl ?_
      obtain ⟨v5, e5⟩ : ∃ z_, M ((v1.toNat)) x = z_ := ⟨_, rfl⟩
      have b5 : 0 ≤ v5 ∧ v5 ≤ 255 := by rw [← e5]; exact (CI.r hC_M k4 (by decide) x)
      refine jr.iald (i := x) (x := v5) rfl (Nat.lt_trans (kx_43 k4).1 (by decide)) (kx_43 k4).2 (by decide) (by omega) (by omega) e5 ?_
      have hf6 : v5 = f x := by rw [← e5, show (v1.toNat) = 1 by omega]; exact p1.2 x (by omega) (by omega)
      refine jr.bipush rfl (by decide) ?_
      refine jr.icmp_lt rfl rfl (by omega) (by omega) (fun h20 => ?_) (fun h20 => ?_)
      · refine jr.iconst rfl ?_
        exact jr.ireturn rfl rfl rfl (q _ (by omega) (by omega))
      · refine jr.aload_n rfl rfl ?_
        have k7 : kd (v1).toNat = 43 := by rcases (show v1 = 1 by omega) with h <;> (rw [h]; rfl)
        refine jr.getf (i := 3) (x := v1) (v := .ref (v1.toNat)) rfl rfl (by decide) rfl (by decide) rfl rfl e1 rfl ?_
        refine jr.iload_n rfl rfl ?_
        refine jr.iald (i := x) (x := v5) rfl (Nat.lt_trans (kx_43 k7).1 (by decide)) (kx_43 k7).2 (by decide) (by omega) (by omega) e5 ?_
        have hf8 : v5 = f x := by rw [← e5, show (v1.toNat) = 1 by omega]; exact p1.2 x (by omega) (by omega)
        refine jr.bipush rfl (by decide) ?_
        refine jr.icmp_gt rfl rfl (by omega) (by omega) (fun h31 => ?_) (fun h31 => ?_)
        · refine jr.iconst rfl ?_
          exact jr.ireturn rfl rfl rfl (q _ (by omega) (by omega))
        · refine jr.iconst rfl ?_
          refine jr.goto rfl rfl ?_
          exact jr.ireturn rfl rfl rfl (q _ (by omega) (by omega))
theorem c_Parser_isSameWord_z_L2 {A : Nat → Option (Nat × (Nat → Int32))} [HA A] {Q : Option Value → jm → Prop} {f : Int → Int} {N : Int} {M : jm} (hC_M : CI M) {x : Int} {y : Int} (q : ∀ (r : Int), 0 ≤ r ∧ r ≤ 1 → (r = 1 → znm f N x = znm f N y) → (r = 0 → znm f N x ≠ znm f N y) → Q (some (.int (Int32.ofInt r))) M) : ∀ (nM : Nat) (i : Int), 0 ≤ x ∧ x ≤ 1600 → 0 ≤ y ∧ y ≤ 1600 → 0 ≤ i ∧ i ≤ 10 → (1 ≤ M 413 3 ∧ M 413 3 ≤ 1) → (TXc f N M) → (∀ j : Int, 0 ≤ j → j < i → zla f N (x + j) = zla f N (y + j) ∧ zla f N (x + j) ≠ 0) → (zso f N x = 1) → (zso f N y = 1) → (0 ≤ x ∧ 0 ≤ y) → 10 - i ≤ nM → jr A 1 xm_210 2 [(1, .int (Int32.ofInt (x))), (2, .int (Int32.ofInt (y))), (3, .int (Int32.ofInt (i))), (0, .ref (413))] [] M Q := by
  intro nM
  induction nM using Nat.strongRecOn with
  | ind nM ih =>
    intro i h_x h_y h_i hy0 hy1 hy2 hy3 hy4 hy5 hm
    have hN := hy1.1
    obtain ⟨v1, e1⟩ : ∃ z_, M 413 3 = z_ := ⟨_, rfl⟩
    have b1 : 1 ≤ v1 ∧ v1 ≤ 419 := by rw [← e1]; exact (CI.r hC_M (show kd 413 = 44 from rfl) (by decide) 3)
    have b2 : 1 ≤ v1 ∧ v1 ≤ 1 := by rw [← e1]; exact hy0
    refine jr.iload_n rfl rfl ?_
    refine jr.bipush rfl (by decide) ?_
    refine jr.icmp_gt rfl rfl (by omega) (by omega) (fun h5 => ?_) (fun h5 => ?_)
    · refine jr.iconst rfl ?_
      exact jr.ireturn rfl rfl rfl (q _ (by omega) (fun q => absurd q (by decide)) (fun _ => (zsw_9 hy3 hy5.1 (fun j j0 j1 => (hy2 j j0 (by omega)).2)).elim))
    · refine jr.aload_n rfl rfl ?_
      refine jr.iload_n rfl rfl ?_
      refine jr.iload_n rfl rfl ?_
      refine jr.iadd rfl ?_
      refine jr_v rfl rfl (Or.inl rfl) rfl rfl (by decide) rfl ⟨rfl, Nat.le_of_ble_eq_true rfl, Nat.le_of_ble_eq_true rfl⟩ rfl (jc.deep (c_Parser_letterAt_z hC_M (by omega) (by have hq0 : M 413 3 = v1 := e1; omega) hy1 (fun r3 z3 w3_0 => ?_)) (by decide))
      refine jr.istore rfl (by decide) rfl ?_
      refine jr.iload rfl rfl ?_
      refine jr.aload_n rfl rfl ?_
      refine jr.iload_n rfl rfl ?_
      refine jr.iload_n rfl rfl ?_
      refine jr.iadd rfl ?_
      refine jr_v rfl rfl (Or.inl rfl) rfl rfl (by decide) rfl ⟨rfl, Nat.le_of_ble_eq_true rfl, Nat.le_of_ble_eq_true rfl⟩ rfl (jc.deep (c_Parser_letterAt_z hC_M (by omega) (by have hq0 : M 413 3 = v1 := e1; omega) hy1 (fun r4 z4 w4_0 => ?_)) (by decide))
      refine jr.icmp_eq rfl rfl (by omega) (by omega) (fun h26 => ?_) (fun h26 => ?_)
      · refine jr.iload rfl rfl ?_
        refine jr.if_ne rfl rfl (by omega) (fun h33 => ?_) (fun h33 => ?_)
        · refine jr.iinc rfl rfl (by decide) rfl ?_
          refine jr.goto rfl rfl ?_
          refine jr.pick [2, 3, 0, 4] rfl rfl ?_
          exact ih (nM - 1) (by omega) (i + 1) (by omega) (by omega) (by omega) (by have hq0 : M 413 3 = v1 := e1; omega) hy1 (fun j j0 j1 => by by_cases hj : j = i; (rw [hj, ← w3_0, ← w4_0]; exact ⟨by omega, by omega⟩); (exact hy2 j j0 (by omega))) (by omega) (by omega) (by omega) (by omega)
        · refine jr.iconst rfl ?_
          exact jr.ireturn rfl rfl rfl (q _ (by omega) (fun _ => zsw_t hy3 hy4 hy5.1 hy5.2 (by omega) hy2 (by rw [← w3_0]; omega) (by rw [← w4_0]; omega)) (fun q => absurd q (by decide)))
      · refine jr.iconst rfl ?_
        exact jr.ireturn rfl rfl rfl (q _ (by omega) (fun q => absurd q (by decide)) (fun _ => zsw_f hy3 hy4 hy5.1 hy5.2 (by omega) hy2 (by rw [← w3_0, ← w4_0]; omega)))
theorem c_Parser_isSameWord_z {A : Nat → Option (Nat × (Nat → Int32))} [HA A] {Q : Option Value → jm → Prop} {f : Int → Int} {N : Int} {M : jm} (hC_M : CI M) {x : Int} (h_x : 0 ≤ x ∧ x ≤ 1600) {y : Int} (h_y : 0 ≤ y ∧ y ≤ 1600) (p0 : 1 ≤ M 413 3 ∧ M 413 3 ≤ 1) (p1 : TXc f N M) (p2 : zso f N x = 1) (p3 : zso f N y = 1) (p4 : 0 ≤ x ∧ 0 ≤ y) (q : ∀ (r : Int), 0 ≤ r ∧ r ≤ 1 → (r = 1 → znm f N x = znm f N y) → (r = 0 → znm f N x ≠ znm f N y) → Q (some (.int (Int32.ofInt r))) M) : jc A 2 210 [.ref (413), .int (Int32.ofInt (x)), .int (Int32.ofInt (y))] M Q := by
  refine jc_of (m := xm_210) rfl (Nat.le_of_ble_eq_true rfl) rfl ?_
  obtain ⟨v1, e1⟩ : ∃ z_, M 413 3 = z_ := ⟨_, rfl⟩
  have b1 : 1 ≤ v1 ∧ v1 ≤ 419 := by rw [← e1]; exact (CI.r hC_M (show kd 413 = 44 from rfl) (by decide) 3)
  have b2 : 1 ≤ v1 ∧ v1 ≤ 1 := by rw [← e1]; exact p0
  refine jr.iconst rfl ?_
  refine jr.istore_n rfl (by decide) rfl ?_
  refine jr.pick [2, 3, 0, 1] rfl rfl ?_
  exact c_Parser_isSameWord_z_L2 hC_M  q 10 0 (by omega) (by omega) (by omega) (by have hq0 : M 413 3 = v1 := e1; omega) p1 (fun j j0 j1 => by exfalso; omega) (by omega) (by omega) (by omega) (by omega)
/-- the names that were told (class) -/
noncomputable def NMc (f : Int → Int) (N : Int) (M : jm) (nm : List Int) : Prop := (nm.length : Int) = M (M 413 2).toNat 3 ∧ ∀ k : Int, 0 ≤ k → k < nm.length → M 420 k = nm.getD k.toNat 0 ∧ zso f N (nm.getD k.toNat 0) = 1 ∧ 0 ≤ nm.getD k.toNat 0 ∧ nm.getD k.toNat 0 ≤ 1600
theorem NMc.fr {f : Int → Int} {N : Int} {nm : List Int} {W : List (Nat × Nat)} {T M : jm} (h : NMc f N T nm) (hC : CI T) (fr : FR W T M) (h1 : ksep W [(44, 2), (47, 3), (45, 1000)] = true) : NMc f N M nm := by
  have e : M 413 2 = T 413 2 := fr.s h1 (show kd 413 = 44 from rfl) 2 (by decide) 2 (Or.inr rfl)
  have k : kd (T 413 2).toNat = 47 := CI.x hC (show kd 413 = 44 from rfl) 2 rfl (by decide)
  refine ⟨?_, fun i h0 h2 => ?_⟩
  · rw [e, fr.s h1 k 3 (by decide) 3 (Or.inr rfl)]
    exact h.1
  · rw [fr.s h1 (show kd 420 = 45 from rfl) 1000 (by decide) i (Or.inl rfl)]
    exact h.2 i h0 h2
theorem c_Parser_chainNamed_z_L2 {A : Nat → Option (Nat × (Nat → Int32))} [HA A] {Q : Option Value → jm → Prop} {f : Int → Int} {N : Int} {nm : List Int} {M : jm} (hC_M : CI M) {x : Int} (q : ∀ (r : Int), (-1) ≤ r ∧ r ≤ 15 → (r = -1 → zhn f N nm x = false) → (r ≠ -1 → zhn f N nm x = true) → Q (some (.int (Int32.ofInt r))) M) : ∀ (nM : Nat) (i : Int), 0 ≤ x ∧ x ≤ 1600 → 0 ≤ i ∧ i ≤ 16 → (1 ≤ M 413 3 ∧ M 413 3 ≤ 1) → (TXc f N M) → (NMc f N M nm) → (∀ j : Int, 0 ≤ j → j < i → znm f N (nm.getD j.toNat 0) ≠ znm f N x) → (zso f N x = 1) → 16 - i ≤ nM → jr A 2 xm_209 2 [(1, .int (Int32.ofInt (x))), (2, .int (Int32.ofInt (i))), (0, .ref (413))] [] M Q := by
  intro nM
  induction nM using Nat.strongRecOn with
  | ind nM ih =>
    intro i h_x h_i hy0 hy1 hy2 hy3 hy4 hm
    have hN := hy1.1
    obtain ⟨v1, e1⟩ : ∃ z_, M 413 3 = z_ := ⟨_, rfl⟩
    have b1 : 1 ≤ v1 ∧ v1 ≤ 419 := by rw [← e1]; exact (CI.r hC_M (show kd 413 = 44 from rfl) (by decide) 3)
    have b2 : 1 ≤ v1 ∧ v1 ≤ 1 := by rw [← e1]; exact hy0
    refine jr.iload_n rfl rfl ?_
    refine jr.aload_n rfl rfl ?_
    obtain ⟨v3, e3⟩ : ∃ z_, M 413 2 = z_ := ⟨_, rfl⟩
    have b3 : 0 ≤ v3 ∧ v3 ≤ 597 := by rw [← e3]; exact (CI.r hC_M (show kd 413 = 44 from rfl) (by decide) 2)
    have k4 : kd (v3).toNat = 47 := ((congrArg (fun z : Int => kd z.toNat) (show M 413 2 = v3 from e3)).symm.trans (CI.x hC_M (show kd 413 = 44 from rfl) 2 rfl (by decide)))
    refine jr.getf (i := 2) (x := v3) (v := .ref (v3.toNat)) rfl rfl (by decide) rfl (by decide) rfl rfl e3 rfl ?_
    obtain ⟨v5, e5⟩ : ∃ z_, M ((v3.toNat)) 3 = z_ := ⟨_, rfl⟩
    have b5 : 0 ≤ v5 ∧ v5 ≤ 16 := by rw [← e5]; exact (CI.r hC_M k4 (by decide) 3)
    refine jr.getf (i := 3) (x := v5) (v := .int (Int32.ofInt (v5))) rfl rfl (Nat.lt_trans (kx_47 k4).1 (by decide)) (kx_47 k4).2 (by decide) rfl rfl e5 rfl ?_
    refine jr.icmp_ge rfl rfl (by omega) (by omega) (fun h10 => ?_) (fun h10 => ?_)
    · refine jr.iconst rfl ?_
      have hnl : (nm.length : Int) = v5 := by have q := hy2.1; rw [e3, e5] at q; exact q
      exact jr.ireturn rfl rfl rfl (q _ (by omega) (fun _ => zhn_f (fun j hj => by have q := hy3 (j : Int) (by omega) (by omega); exact q)) (fun q => absurd rfl q))
    · refine jr.aload_n rfl rfl ?_
      refine jr.aload_n rfl rfl ?_
      refine jr.getf (i := 5) (v := .ref 420) rfl rfl (by decide) rfl (by decide) rfl rfl rfl rfl ?_
      refine jr.iload_n rfl rfl ?_
      obtain ⟨v6, e6⟩ : ∃ z_, M 420 i = z_ := ⟨_, rfl⟩
      have b6 : (-2147483648) ≤ v6 ∧ v6 ≤ 2147483647 := by rw [← e6]; exact (CI.r hC_M (show kd 420 = 45 from rfl) (by decide) i)
      refine jr.iald (i := i) (x := v6) rfl (by decide) rfl (by decide) (by omega) (by omega) e6 ?_
      have hnl : (nm.length : Int) = v5 := by have q := hy2.1; rw [e3, e5] at q; exact q
      obtain ⟨hnv, hn1, hn2, hn3⟩ := hy2.2 i (by omega) (by omega)
      rw [e6] at hnv
      rw [← hnv] at hn1 hn2 hn3
      refine jr.iload_n rfl rfl ?_
      refine jr_v rfl rfl (Or.inl rfl) rfl rfl (by decide) rfl ⟨rfl, Nat.le_of_ble_eq_true rfl, Nat.le_of_ble_eq_true rfl⟩ rfl (jc.deep (c_Parser_isSameWord_z hC_M (by omega) (by omega) (by have hq0 : M 413 3 = v1 := e1; omega) hy1 (by omega) (by omega) (by omega) (fun r7 z7 w7_0 w7_1 => ?_)) (by decide))
      refine jr.if_eq rfl rfl (by omega) (fun h24 => ?_) (fun h24 => ?_)
      · refine jr.iinc rfl rfl (by decide) rfl ?_
        refine jr.goto rfl rfl ?_
        refine jr.pick [1, 0, 2] rfl rfl ?_
        exact ih (nM - 1) (by omega) (i + 1) (by omega) (by omega) (by have hq0 : M 413 3 = v1 := e1; omega) hy1 hy2 (fun j j0 j1 => by by_cases hj : j = i; (rw [hj, ← hnv]; exact w7_1 (by omega)); (exact hy3 j j0 (by omega))) (by omega) (by omega)
      · refine jr.iload_n rfl rfl ?_
        exact jr.ireturn rfl rfl rfl (q _ (by omega) (fun q => by exfalso; omega) (fun _ => zhn_t (j := i.toNat) (by omega) (by rw [← hnv]; exact w7_0 (by omega))))
theorem c_Parser_chainNamed_z {A : Nat → Option (Nat × (Nat → Int32))} [HA A] {Q : Option Value → jm → Prop} {f : Int → Int} {N : Int} {nm : List Int} {M : jm} (hC_M : CI M) {x : Int} (h_x : 0 ≤ x ∧ x ≤ 1600) (p0 : 1 ≤ M 413 3 ∧ M 413 3 ≤ 1) (p1 : TXc f N M) (p2 : NMc f N M nm) (p3 : zso f N x = 1) (q : ∀ (r : Int), (-1) ≤ r ∧ r ≤ 15 → (r = -1 → zhn f N nm x = false) → (r ≠ -1 → zhn f N nm x = true) → Q (some (.int (Int32.ofInt r))) M) : jc A 3 209 [.ref (413), .int (Int32.ofInt (x))] M Q := by
  refine jc_of (m := xm_209) rfl (Nat.le_of_ble_eq_true rfl) rfl ?_
  obtain ⟨v1, e1⟩ : ∃ z_, M 413 3 = z_ := ⟨_, rfl⟩
  have b1 : 1 ≤ v1 ∧ v1 ≤ 419 := by rw [← e1]; exact (CI.r hC_M (show kd 413 = 44 from rfl) (by decide) 3)
  have b2 : 1 ≤ v1 ∧ v1 ≤ 1 := by rw [← e1]; exact p0
  refine jr.iconst rfl ?_
  refine jr.istore_n rfl (by decide) rfl ?_
  refine jr.pick [2, 0, 1] rfl rfl ?_
  exact c_Parser_chainNamed_z_L2 hC_M  q 16 0 (by omega) (by omega) (by have hq0 : M 413 3 = v1 := e1; omega) p1 p2 (fun j j0 j1 => by exfalso; omega) (by omega) (by omega)
/-- the signs of a text -/
noncomputable def sls (x : Nat) : List Int := (xS_byt.getD (x - 1000100) []).map (fun v => v.toInt)
theorem sls_n0 : ∀ k, k < 16 → (xS_byt.getD k []).length = xS_len.getD k 0 := by decide +kernel
theorem sls_n {x : Nat} (h : sK x = true) : ((sls x).length : Int) = slb (x + 100) := by
  have hr := sK_r h
  unfold sls slb
  rw [List.length_map, sls_n0 (x - 1000100) (by omega), show x + 100 - 1000000 - 200 = x - 1000100 by omega]
theorem sls_gL (L : List Int32) : ∀ n : Nat, n < L.length → (L.map (fun v => v.toInt)).drop n = (L.getD n 0).toInt :: (L.map (fun v => v.toInt)).drop (n + 1) := by
  induction L with
  | nil => exact fun n hl => absurd hl (Nat.not_lt_zero n)
  | cons a l ih =>
    intro n hl
    cases n with
    | zero => rfl
    | succ n => exact ih n (Nat.lt_of_succ_lt_succ hl)
theorem sls_g {x : Nat} (h : sK x = true) {i : Int} (h0 : 0 ≤ i) (h1 : i < slb (x + 100)) : (sls x).drop i.toNat = sbv (x + 100) i :: (sls x).drop (i + 1).toNat := by
  have hr := sK_r h
  have hn := sls_n h
  have q : (sls x).length = (xS_byt.getD (x - 1000100) []).length := by
    unfold sls
    rw [List.length_map]
  have hl2 : i.toNat < (xS_byt.getD (x - 1000100) []).length := by omega
  unfold sls sbv
  rw [show x + 100 - 1000000 - 200 = x - 1000100 by omega, show (i + 1).toNat = i.toNat + 1 by omega]
  exact sls_gL _ _ hl2
theorem sls_e {x : Nat} (h : sK x = true) {i : Int} (h1 : slb (x + 100) ≤ i) : (sls x).drop i.toNat = [] := by
  have hn := sls_n h
  exact List.drop_of_length_le (by omega)
theorem sls_0 : sls 1000100 = zjn zcw := by decide +kernel
theorem sls_k0 : ∀ k, k < 14 → sls (1000102 + k) = zjn (zfc.getD k []) := by decide +kernel
theorem zsg_0 : ∀ c, c ∈ sls 1000101 → zsg c = true := by decide +kernel
theorem zsg_1 {c : Int} (h : zsg c = true) : c ∈ sls 1000101 := by
  have q : c = 123 ∨ c = 125 ∨ c = 40 ∨ c = 41 ∨ c = 91 ∨ c = 93 ∨ c = 59 ∨ c = 44 ∨ c = 46 ∨ c = 61 ∨ c = 60 ∨ c = 62 ∨ c = 43 ∨ c = 45 ∨ c = 42 ∨ c = 47 ∨ c = 37 ∨ c = 38 ∨ c = 124 ∨ c = 33 := of_decide_eq_true h
  rcases q with rfl | rfl | rfl | rfl | rfl | rfl | rfl | rfl | rfl | rfl | rfl | rfl | rfl | rfl | rfl | rfl | rfl | rfl | rfl | rfl <;> decide +kernel
theorem sls_m {x : Nat} (h : sK x = true) {c : Int} : c ∈ sls x ↔ ∃ i : Int, 0 ≤ i ∧ i < slb (x + 100) ∧ sbv (x + 100) i = c := by
  have hn := sls_n h
  constructor
  · intro q
    obtain ⟨j, hj, e⟩ := List.getElem_of_mem q
    have g := sls_g h (i := (j : Int)) (by omega) (by omega)
    have g2 : (sls x).drop j = sbv (x + 100) (j : Int) :: (sls x).drop ((j : Int) + 1).toNat := g
    rw [List.drop_eq_getElem_cons hj, List.cons.injEq] at g2
    exact ⟨(j : Int), by omega, by omega, by rw [← g2.1]; exact e⟩
  · rintro ⟨i, h0, h1, e⟩
    have g := sls_g h h0 h1
    have q : sbv (x + 100) i ∈ (sls x).drop i.toNat := by rw [g]; exact List.mem_cons_self
    rw [← e]
    exact List.mem_of_mem_drop q
theorem c_java_lang_StringLatin1_charAt_z {A : Nat → Option (Nat × (Nat → Int32))} [HA A] {Q : Option Value → jm → Prop} {M : jm} (hC_M : CI M) {x : Nat} (k_x : bK x = true) {y : Int} (h_y : 0 ≤ y ∧ y ≤ 300) (p0 : y < slb x) (q : ∀ (r : Int), 0 ≤ r ∧ r ≤ 255 → (r = sbv x y) → Q (some (.int (Int32.ofInt r))) M) : jc A 3 414 [.ref (x), .int (Int32.ofInt (y))] M Q := by
  refine jc_of (m := xm_414) rfl (Nat.le_of_ble_eq_true rfl) rfl ?_
  refine jr.iload_n rfl rfl ?_
  refine jr.aload_n rfl rfl ?_
  obtain ⟨v1, e1⟩ : ∃ z, slb x = z := ⟨_, rfl⟩
  have b1 : 0 ≤ v1 ∧ v1 ≤ 300 := by rw [← e1]; exact slb_r k_x
  refine jr.blen v1 rfl k_x e1 ?_
  refine jr_s rfl rfl (Or.inl rfl) ⟨Nat.le_of_ble_eq_true rfl, Nat.le_of_ble_eq_true rfl⟩ rfl rfl (jc.deep (c_java_lang_String_checkIndex hC_M (by omega) (by omega) (by omega) ?_) (by decide))
  refine jr.aload_n rfl rfl ?_
  refine jr.iload_n rfl rfl ?_
  obtain ⟨v3, e3⟩ : ∃ z_, sbv x y = z_ := ⟨_, rfl⟩
  have b3 : 0 ≤ v3 ∧ v3 ≤ 127 := by rw [← e3]; exact sbv_r k_x (by omega) (by omega)
  refine jr.bald (i := y) v3 rfl k_x (by omega) (by omega) e3 ?_
  refine jr.sipush rfl (by decide) ?_
  refine jr.iand rfl ?_
  have b4 : j_and v3 255 = v3 % 256 ∧ 0 ≤ j_and v3 255 ∧ j_and v3 255 ≤ 255 := ⟨j_and_m 8 (by decide) _, by have q : j_and v3 255 = v3 % 256 := j_and_m 8 (by decide) _; omega⟩
  generalize j_and v3 255 = v4 at b4 ⊢
  refine jr.i2c rfl ?_
  rw [j_c_ex (x := v4) (by omega)]
  exact jr.ireturn rfl rfl (j_cr (by omega)) (q _ (by omega) (by omega))
theorem c_java_lang_String_charAt_z {A : Nat → Option (Nat × (Nat → Int32))} [HA A] {Q : Option Value → jm → Prop} {M : jm} (hC_M : CI M) {t : Nat} (k_t : sK t = true) {x : Int} (h_x : 0 ≤ x ∧ x ≤ 300) (p0 : x < slb (t + 100)) (q : ∀ (r : Int), 0 ≤ r ∧ r ≤ 255 → (r = sbv (t + 100) x) → Q (some (.int (Int32.ofInt r))) M) : jc A 4 408 [.ref (t), .int (Int32.ofInt (x))] M Q := by
  refine jc_of (m := xm_408) rfl (Nat.le_of_ble_eq_true rfl) rfl ?_
  refine jr.aload_n rfl rfl ?_
  refine jr_v8 rfl rfl rfl k_t ⟨Nat.le_of_ble_eq_true rfl, Nat.le_of_ble_eq_true rfl⟩ rfl (jc.deep (c_java_lang_String_isLatin1 hC_M k_t (fun r1 z1  => ?_)) (by decide))
  obtain rfl : r1 = 1 := by omega
  refine jr.if_eq rfl rfl (by omega) (fun h => absurd h (by decide)) (fun _ => ?_)
  refine jr.aload_n rfl rfl ?_
  refine jr.gsv (a := t) rfl rfl rfl k_t ?_
  refine jr.iload_n rfl rfl ?_
  refine jr_s rfl rfl (Or.inl rfl) ⟨Nat.le_of_ble_eq_true rfl, Nat.le_of_ble_eq_true rfl⟩ rfl rfl (jc.deep (c_java_lang_StringLatin1_charAt_z hC_M (sK_b k_t) (by omega) (by omega) (fun r2 z2 w2_0 => ?_)) (by decide))
  exact jr.ireturn rfl rfl (j_cr (by omega)) (q _ (by omega) (by omega))
theorem j_b0 : ∀ n : Nat, n < 256 → j_b (n : Int) = if n < 128 then (n : Int) else (n : Int) - 256 := by decide +kernel
theorem j_b1 {x : Int} (h : 0 ≤ x ∧ x ≤ 255) : (j_b x = x ∧ x ≤ 127) ∨ (j_b x < 0 ∧ -128 ≤ j_b x ∧ 128 ≤ x) := by
  obtain ⟨n, rfl⟩ := Int.eq_ofNat_of_zero_le h.1
  have q := j_b0 n (by omega)
  split at q
  · exact Or.inl ⟨q, by omega⟩
  · exact Or.inr ⟨by omega, by omega, by omega⟩
/-- the sign y stands in a text's bytes between z and u -/
noncomputable def SBE (x : Nat) (z u y : Int) : Prop := ∃ k : Int, z ≤ k ∧ k < u ∧ sbv x k = y
theorem c_java_lang_StringLatin1_indexOfChar_z_L7 {A : Nat → Option (Nat × (Nat → Int32))} [HA A] {Q : Option Value → jm → Prop} {M : jm} (hC_M : CI M) {x : Nat} (k_x : bK x = true) {u : Int} {y : Int} {z : Int} (q : ∀ (r : Int), (-1) ≤ r ∧ r ≤ 300 → (r = -1 → ∀ k : Int, z ≤ k → k < u → sbv x k ≠ y) → (r ≠ -1 → SBE x z u y) → Q (some (.int (Int32.ofInt r))) M) : ∀ (nM : Nat) (b : Int) (i : Int), 0 ≤ y ∧ y ≤ 255 → 0 ≤ z ∧ z ≤ 300 → 0 ≤ u ∧ u ≤ 300 → (-128) ≤ b ∧ b ≤ 127 → 0 ≤ i ∧ i ≤ 300 → (u ≤ slb x) → ((b = y ∧ y ≤ 127) ∨ (b < 0 ∧ 128 ≤ y)) → (∀ k : Int, z ≤ k → k < i → sbv x k ≠ y) → (z ≤ i) → 300 - i ≤ nM → jr A 0 xm_417 7 [(1, .int (Int32.ofInt (y))), (2, .int (Int32.ofInt (z))), (3, .int (Int32.ofInt (u))), (4, .int (Int32.ofInt (b))), (5, .int (Int32.ofInt (i))), (0, .ref (x))] [] M Q := by
  intro nM
  induction nM using Nat.strongRecOn with
  | ind nM ih =>
    intro b i h_y h_z h_u h_b h_i hy0 hy1 hy2 hy3 hm
    refine jr.iload rfl rfl ?_
    refine jr.iload_n rfl rfl ?_
    refine jr.icmp_ge rfl rfl (by omega) (by omega) (fun h10 => ?_) (fun h10 => ?_)
    · refine jr.iconst rfl ?_
      exact jr.ireturn rfl rfl rfl (q _ (by omega) (fun _ k k0 k1 => hy2 k k0 (by omega)) (fun q => absurd rfl q))
    · refine jr.aload_n rfl rfl ?_
      refine jr.iload rfl rfl ?_
      obtain ⟨v1, e1⟩ : ∃ z_, sbv x i = z_ := ⟨_, rfl⟩
      have b1 : 0 ≤ v1 ∧ v1 ≤ 127 := by rw [← e1]; exact sbv_r k_x (by omega) (by omega)
      refine jr.bald (i := i) v1 rfl k_x (by omega) (by omega) e1 ?_
      refine jr.iload rfl rfl ?_
      refine jr.icmp_ne rfl rfl (by omega) (by omega) (fun h19 => ?_) (fun h19 => ?_)
      · refine jr.iinc rfl rfl (by decide) rfl ?_
        refine jr.goto rfl rfl ?_
        refine jr.pick [1, 2, 3, 4, 0, 5] rfl rfl ?_
        exact ih (nM - 1) (by omega) b (i + 1) (by omega) (by omega) (by omega) (by omega) (by omega) (by omega) (by omega) (fun k k0 k1 => by by_cases hk : k = i; (rw [hk, e1]; omega); (exact hy2 k k0 (by omega))) (by omega) (by omega)
      · refine jr.iload rfl rfl ?_
        exact jr.ireturn rfl rfl rfl (q _ (by omega) (fun q => by exfalso; omega) (fun _ => ⟨i, by omega, by omega, by omega⟩))
theorem c_java_lang_StringLatin1_indexOfChar_z {A : Nat → Option (Nat × (Nat → Int32))} [HA A] {Q : Option Value → jm → Prop} {M : jm} (hC_M : CI M) {x : Nat} (k_x : bK x = true) {y : Int} (h_y : 0 ≤ y ∧ y ≤ 255) {z : Int} (h_z : 0 ≤ z ∧ z ≤ 300) {u : Int} (h_u : 0 ≤ u ∧ u ≤ 300) (p0 : u ≤ slb x) (q : ∀ (r : Int), (-1) ≤ r ∧ r ≤ 300 → (r = -1 → ∀ k : Int, z ≤ k → k < u → sbv x k ≠ y) → (r ≠ -1 → SBE x z u y) → Q (some (.int (Int32.ofInt r))) M) : jc A 1 417 [.ref (x), .int (Int32.ofInt (y)), .int (Int32.ofInt (z)), .int (Int32.ofInt (u))] M Q := by
  refine jc_of (m := xm_417) rfl (Nat.le_of_ble_eq_true rfl) rfl ?_
  refine jr.iload_n rfl rfl ?_
  refine jr.i2b rfl ?_
  have b1 : (j_b y = y ∧ y ≤ 127) ∨ (j_b y < 0 ∧ -128 ≤ j_b y ∧ 128 ≤ y) := j_b1 (by omega)
  generalize j_b y = v1 at b1 ⊢
  refine jr.istore rfl (by decide) rfl ?_
  refine jr.iload_n rfl rfl ?_
  refine jr.istore rfl (by decide) rfl ?_
  refine jr.pick [3, 4, 5, 1, 0, 2] rfl rfl ?_
  exact c_java_lang_StringLatin1_indexOfChar_z_L7 hC_M k_x q 300 v1 z (by omega) (by omega) (by omega) (by omega) (by omega) (by omega) (by omega) (fun k k0 k1 => by exfalso; omega) (by omega) (by omega)
theorem c_java_lang_StringLatin1_canEncode_z {A : Nat → Option (Nat × (Nat → Int32))} [HA A] {Q : Option Value → jm → Prop} {M : jm} (hC_M : CI M) {x : Int} (h_x : 0 ≤ x ∧ x ≤ 255) (q : ∀ (r : Int), 1 ≤ r ∧ r ≤ 1 → Q (some (.int (Int32.ofInt r))) M) : jc A 1 415 [.int (Int32.ofInt (x))] M Q := by
  refine jc_of (m := xm_415) rfl (Nat.le_of_ble_eq_true rfl) rfl ?_
  refine jr.iload_n rfl rfl ?_
  refine jr.if_lt rfl rfl (by omega) (fun h1 => ?_) (fun h1 => ?_)
  · exact absurd h1 (by omega)
  · refine jr.iload_n rfl rfl ?_
    refine jr.sipush rfl (by decide) ?_
    refine jr.icmp_gt rfl rfl (by omega) (by omega) (fun h8 => ?_) (fun h8 => ?_)
    · exact absurd h8 (by omega)
    · refine jr.iconst rfl ?_
      refine jr.goto rfl rfl ?_
      exact jr.ireturn rfl rfl rfl (q _ (by omega) )
theorem c_java_lang_StringLatin1_indexOf_z {A : Nat → Option (Nat × (Nat → Int32))} [HA A] {Q : Option Value → jm → Prop} {M : jm} (hC_M : CI M) {x : Nat} (k_x : bK x = true) {y : Int} (h_y : 0 ≤ y ∧ y ≤ 255) {z : Int} (h_z : 0 ≤ z ∧ z ≤ 0) {u : Int} (h_u : 0 ≤ u ∧ u ≤ 300) (p0 : u = slb x) (q : ∀ (r : Int), (-1) ≤ r ∧ r ≤ 300 → (r = -1 → ∀ k : Int, 0 ≤ k → k < slb x → sbv x k ≠ y) → (r ≠ -1 → SBE x 0 (slb x) y) → Q (some (.int (Int32.ofInt r))) M) : jc A 2 416 [.ref (x), .int (Int32.ofInt (y)), .int (Int32.ofInt (z)), .int (Int32.ofInt (u))] M Q := by
  refine jc_of (m := xm_416) rfl (Nat.le_of_ble_eq_true rfl) rfl ?_
  refine jr.iload_n rfl rfl ?_
  refine jr_s rfl rfl (Or.inl rfl) ⟨Nat.le_of_ble_eq_true rfl, Nat.le_of_ble_eq_true rfl⟩ rfl rfl (jc.deep (c_java_lang_StringLatin1_canEncode_z hC_M (by omega) (fun r1 z1  => ?_)) (by decide))
  obtain rfl : r1 = 1 := by omega
  refine jr.if_ne rfl rfl (by omega) (fun _ => ?_) (fun h => absurd (by decide) h)
  refine jr.iload_n rfl rfl ?_
  refine jr.iconst rfl ?_
  refine jr.imax rfl rfl (Nat.le_of_ble_eq_true rfl) (by omega) (by omega) ?_
  intro v2 d2 b2 c2
  refine jr.istore_n rfl (by decide) rfl ?_
  refine jr.iload_n rfl rfl ?_
  refine jr.aload_n rfl rfl ?_
  obtain ⟨v3, e3⟩ : ∃ z, slb x = z := ⟨_, rfl⟩
  have b3 : 0 ≤ v3 ∧ v3 ≤ 300 := by rw [← e3]; exact slb_r k_x
  refine jr.blen v3 rfl k_x e3 ?_
  refine jr.imin rfl rfl (Nat.le_of_ble_eq_true rfl) (by omega) (by omega) ?_
  intro v4 d4 b4 c4
  refine jr.istore_n rfl (by decide) rfl ?_
  refine jr.iload_n rfl rfl ?_
  refine jr.iload_n rfl rfl ?_
  refine jr.icmp_lt rfl rfl (by omega) (by omega) (fun h24 => ?_) (fun h24 => ?_)
  · refine jr.aload_n rfl rfl ?_
    refine jr.iload_n rfl rfl ?_
    refine jr.iload_n rfl rfl ?_
    refine jr.iload_n rfl rfl ?_
    refine jr_s rfl rfl (Or.inl rfl) ⟨Nat.le_of_ble_eq_true rfl, Nat.le_of_ble_eq_true rfl⟩ rfl rfl (jc.deep (c_java_lang_StringLatin1_indexOfChar_z hC_M k_x (by omega) (by omega) (by omega) (by omega) (fun r5 z5 w5_0 w5_1 => ?_)) (by decide))
    exact jr.ireturn rfl rfl rfl (q _ (by omega) (fun q k k0 k1 => w5_0 q k (by omega) (by omega)) (fun q => by obtain ⟨k, k0, k1, k2⟩ := w5_1 q; exact ⟨k, by omega, by omega, k2⟩))
  · refine jr.iconst rfl ?_
    exact jr.ireturn rfl rfl rfl (q _ (by omega) (fun _ k k0 k1 => by exfalso; omega) (fun q => absurd rfl q))
theorem c_java_lang_String_indexOf_410_z {A : Nat → Option (Nat × (Nat → Int32))} [HA A] {Q : Option Value → jm → Prop} {M : jm} (hC_M : CI M) {t : Nat} (k_t : sK t = true) {x : Int} (h_x : 0 ≤ x ∧ x ≤ 255) {y : Int} (h_y : 0 ≤ y ∧ y ≤ 0) (q : ∀ (r : Int), (-1) ≤ r ∧ r ≤ 300 → (r = -1 → ∀ k : Int, 0 ≤ k → k < slb (t + 100) → sbv (t + 100) k ≠ x) → (r ≠ -1 → SBE (t + 100) 0 (slb (t + 100)) x) → Q (some (.int (Int32.ofInt r))) M) : jc A 3 410 [.ref (t), .int (Int32.ofInt (x)), .int (Int32.ofInt (y))] M Q := by
  refine jc_of (m := xm_410) rfl (Nat.le_of_ble_eq_true rfl) rfl ?_
  refine jr.aload_n rfl rfl ?_
  refine jr_v8 rfl rfl rfl k_t ⟨Nat.le_of_ble_eq_true rfl, Nat.le_of_ble_eq_true rfl⟩ rfl (jc.deep (c_java_lang_String_isLatin1 hC_M k_t (fun r1 z1  => ?_)) (by decide))
  obtain rfl : r1 = 1 := by omega
  refine jr.if_eq rfl rfl (by omega) (fun h => absurd h (by decide)) (fun _ => ?_)
  refine jr.aload_n rfl rfl ?_
  refine jr.gsv (a := t) rfl rfl rfl k_t ?_
  refine jr.iload_n rfl rfl ?_
  refine jr.iload_n rfl rfl ?_
  refine jr.aload_n rfl rfl ?_
  refine jr_v8 rfl rfl rfl k_t ⟨Nat.le_of_ble_eq_true rfl, Nat.le_of_ble_eq_true rfl⟩ rfl (jc.deep (c_java_lang_String_length hC_M k_t (fun r2 z2 w2_0 => ?_)) (by decide))
  refine jr_s rfl rfl (Or.inl rfl) ⟨Nat.le_of_ble_eq_true rfl, Nat.le_of_ble_eq_true rfl⟩ rfl rfl (jc.deep (c_java_lang_StringLatin1_indexOf_z hC_M (sK_b k_t) (by omega) (by omega) (by omega) (by omega) (fun r3 z3 w3_0 w3_1 => ?_)) (by decide))
  refine jr.goto rfl rfl ?_
  exact jr.ireturn rfl rfl rfl (q _ (by omega) (fun q k k0 k1 => w3_0 q k (by omega) (by omega)) (fun q => by obtain ⟨k, k0, k1, k2⟩ := w3_1 q; exact ⟨k, by omega, by omega, k2⟩))
theorem c_java_lang_String_indexOf_409_z {A : Nat → Option (Nat × (Nat → Int32))} [HA A] {Q : Option Value → jm → Prop} {M : jm} (hC_M : CI M) {t : Nat} (k_t : sK t = true) {x : Int} (h_x : 0 ≤ x ∧ x ≤ 255) (q : ∀ (r : Int), (-1) ≤ r ∧ r ≤ 300 → (r = -1 → ∀ k : Int, 0 ≤ k → k < slb (t + 100) → sbv (t + 100) k ≠ x) → (r ≠ -1 → SBE (t + 100) 0 (slb (t + 100)) x) → Q (some (.int (Int32.ofInt r))) M) : jc A 4 409 [.ref (t), .int (Int32.ofInt (x))] M Q := by
  refine jc_of (m := xm_409) rfl (Nat.le_of_ble_eq_true rfl) rfl ?_
  refine jr.aload_n rfl rfl ?_
  refine jr.iload_n rfl rfl ?_
  refine jr.iconst rfl ?_
  refine jr_v8 rfl rfl rfl k_t ⟨Nat.le_of_ble_eq_true rfl, Nat.le_of_ble_eq_true rfl⟩ rfl (jc.deep (c_java_lang_String_indexOf_410_z hC_M k_t (by omega) (by omega) (fun r1 z1 w1_0 w1_1 => ?_)) (by decide))
  exact jr.ireturn rfl rfl rfl (q _ (by omega) (fun q k k0 k1 => w1_0 q k (by omega) (by omega)) (fun q => by obtain ⟨k, k0, k1, k2⟩ := w1_1 q; exact ⟨k, by omega, by omega, k2⟩))
theorem zwl_b {f : Int → Int} {t e c w i : Int} {r : List Int} {s b : Bool} (h : c ≠ 32) (hb : b = (s && decide (i < e) && decide (f i = c))) : zwl f t e (c :: r) w i s = zwl f t e r w (i + 1) b := by
  show (if c = 32 then _ else zwl f t e r w (i + 1) (s && decide (i < e) && decide (f i = c))) = _
  rw [if_neg h, hb]
theorem zwl_n {f : Int → Int} {t e w i : Int} {r : List Int} {s : Bool} (h : ¬ (s = true ∧ i = e)) : zwl f t e (32 :: r) w i s = zwl f t e r (w + 1) t true := by
  show (if (32 : Int) = 32 then (if s = true ∧ i = e then w else zwl f t e r (w + 1) t true) else _) = _
  rw [if_pos rfl, if_neg h]
theorem zwl_y {f : Int → Int} {t e w i : Int} {r : List Int} {s : Bool} (h : s = true ∧ i = e) : zwl f t e (32 :: r) w i s = w := by
  show (if (32 : Int) = 32 then (if s = true ∧ i = e then w else zwl f t e r (w + 1) t true) else _) = _
  rw [if_pos rfl, if_pos h]
theorem zwl_z {f : Int → Int} {t e w i : Int} {s : Bool} (h : ¬ (s = true ∧ i = e)) : zwl f t e [] w i s = -1 := if_neg h
theorem zwl_v {f : Int → Int} {t e w i : Int} {s : Bool} (h : s = true ∧ i = e) : zwl f t e [] w i s = w := if_pos h
/-- the word that was found -/
noncomputable def WOQ (f : Int → Int) (T E : Int) (x : Nat) (r : Int) : Prop := r = zwl f T E (sls x) 0 T true
theorem WOQ.mk {f : Int → Int} {T E : Int} {x : Nat} {r : Int} (h : r = zwl f T E (sls x) 0 T true) : WOQ f T E x r := h
/-- a text's sign -/
noncomputable def SBQ (x : Nat) (n r : Int) : Prop := sbv x n = r
/-- the word, as far as it is read -/
noncomputable def WIQ (f : Int → Int) (T E : Int) (x : Nat) (n w i b : Int) : Prop := zwl f T E ((sls x).drop n.toNat) w i (decide (b = 1)) = zwl f T E (sls x) 0 T true
section WI
variable {f : Int → Int} {T E n w i c b R : Int} {x : Nat} {s : Bool}
theorem wi_A (hk : sK x = true) (hn : slb (x + 100) ≤ n) (h : zwl f T E ((sls x).drop n.toNat) w i s = R) (hs : ¬ (s = true ∧ i = E)) (hT : T ≠ E) : zwl f T E ((sls x).drop (n + 1).toNat) (w + 1) T true = R := by
  rw [sls_e hk hn, zwl_z hs] at h
  rw [sls_e hk (by omega), zwl_z (fun q => hT q.2)]
  exact h
theorem wi_B (hk : sK x = true) (h0 : 0 ≤ n) (hn : n < slb (x + 100)) (hc : sbv (x + 100) n = 32) (h : zwl f T E ((sls x).drop n.toNat) w i s = R) (hs : ¬ (s = true ∧ i = E)) : zwl f T E ((sls x).drop (n + 1).toNat) (w + 1) T true = R := by
  rw [sls_g hk h0 hn, hc, zwl_n hs] at h
  exact h
theorem wi_C {s' : Bool} (hk : sK x = true) (h0 : 0 ≤ n) (hn : n < slb (x + 100)) (hc : sbv (x + 100) n = c) (h32 : c ≠ 32) (h : zwl f T E ((sls x).drop n.toNat) w i s = R) (hb : s' = (s && decide (i < E) && decide (f i = c))) : zwl f T E ((sls x).drop (n + 1).toNat) w (i + 1) s' = R := by
  rw [sls_g hk h0 hn, hc, zwl_b h32 hb] at h
  exact h
theorem wi_D (hk : sK x = true) (h0 : 0 ≤ n) (hn : slb (x + 100) ≤ n ∨ (n < slb (x + 100) ∧ sbv (x + 100) n = 32)) (h : zwl f T E ((sls x).drop n.toNat) w i s = R) (hs : s = true ∧ i = E) : w = R := by
  rcases hn with q | q
  · rw [sls_e hk q, zwl_v hs] at h
    exact h
  · rw [sls_g hk h0 q.1, q.2, zwl_y hs] at h
    exact h
theorem wi_E (hk : sK x = true) (hn : slb (x + 100) ≤ n) (h : zwl f T E ((sls x).drop n.toNat) w i s = R) (hs : ¬ (s = true ∧ i = E)) : -1 = R := by
  rw [sls_e hk hn, zwl_z hs] at h
  exact h
theorem wi_b0 (h : ¬ (b = 1 ∧ i < E ∧ f i = c)) : decide ((0 : Int) = 1) = (decide (b = 1) && decide (i < E) && decide (f i = c)) := by
  rw [show decide ((0 : Int) = 1) = false from rfl]
  symm
  rw [Bool.and_eq_false_iff, Bool.and_eq_false_iff, decide_eq_false_iff_not, decide_eq_false_iff_not, decide_eq_false_iff_not]
  omega
theorem wi_b1 (h : b = 1 ∧ i < E ∧ f i = c) : decide ((1 : Int) = 1) = (decide (b = 1) && decide (i < E) && decide (f i = c)) := by
  rw [show decide ((1 : Int) = 1) = true from rfl]
  symm
  rw [Bool.and_eq_true, Bool.and_eq_true, decide_eq_true_iff, decide_eq_true_iff, decide_eq_true_iff]
  omega
end WI
theorem c_Parser_wordIn_z_L13 {A : Nat → Option (Nat × (Nat → Int32))} [HA A] {Q : Option Value → jm → Prop} {f : Int → Int} {N : Int} {M : jm} (hC_M : CI M) {x : Nat} (k_x : sK x = true) {T : Int} {E : Int} (q : ∀ (r : Int), (-1) ≤ r ∧ r ≤ 301 → (r = zwl f T E (sls x) 0 T true) → Q (some (.int (Int32.ofInt r))) M) : ∀ (nM : Nat) (w : Int) (i : Int) (b : Int) (n : Int), 0 ≤ w ∧ w ≤ 301 → 0 ≤ i ∧ i ≤ 2000 → 0 ≤ b ∧ b ≤ 1 → 0 ≤ n ∧ n ≤ 301 → M 413 7 = T → M 413 8 = E → (1 ≤ M 413 3 ∧ M 413 3 ≤ 1) → (TXc f N M) → (i ≤ 1600 + n) → (w ≤ n) → (WIQ f T E x n w i b) → (T < E ∧ E ≤ N ∧ 0 ≤ T) → (n ≤ slb (x + 100) ∨ (i = T ∧ b = 1)) → (T ≤ i) → 301 - n ≤ nM → jr A 4 xm_214 13 [(2, .int (Int32.ofInt (w))), (3, .int (Int32.ofInt (i))), (4, .int (Int32.ofInt (b))), (5, .int (Int32.ofInt (n))), (0, .ref (413)), (1, .ref (x))] [] M Q := by
  intro nM
  induction nM using Nat.strongRecOn with
  | ind nM ih =>
    intro w i b n h_w h_i h_b h_n g_T g_E hy0 hy1 hy2 hy3 hy4 hy5 hy6 hy7 hm
    have hN := hy1.1
    have b_T : 0 ≤ T ∧ T ≤ 1600 := by rw [← g_T]; exact (CI.r hC_M (show kd 413 = 44 from rfl) (by decide) 7)
    have b_E : 0 ≤ E ∧ E ≤ 1600 := by rw [← g_E]; exact (CI.r hC_M (show kd 413 = 44 from rfl) (by decide) 8)
    obtain ⟨v1, e1⟩ : ∃ z_, M 413 3 = z_ := ⟨_, rfl⟩
    have b1 : 1 ≤ v1 ∧ v1 ≤ 419 := by rw [← e1]; exact (CI.r hC_M (show kd 413 = 44 from rfl) (by decide) 3)
    have b2 : 1 ≤ v1 ∧ v1 ≤ 1 := by rw [← e1]; exact hy0
    refine jr.iload rfl rfl ?_
    refine jr.aload_n rfl rfl ?_
    refine jr_v8 rfl rfl rfl k_x ⟨Nat.le_of_ble_eq_true rfl, Nat.le_of_ble_eq_true rfl⟩ rfl (jc.deep (c_java_lang_String_length hC_M k_x (fun r3 z3 w3_0 => ?_)) (by decide))
    refine jr.icmp_gt rfl rfl (by omega) (by omega) (fun h19 => ?_) (fun h19 => ?_)
    · refine jr.iconst rfl ?_
      exact jr.ireturn rfl rfl rfl (q _ (by omega) (wi_E k_x (by omega) hy4 (by rw [decide_eq_true_iff]; omega)))
    · refine jr.iload rfl rfl ?_
      refine jr.aload_n rfl rfl ?_
      refine jr_v8 rfl rfl rfl k_x ⟨Nat.le_of_ble_eq_true rfl, Nat.le_of_ble_eq_true rfl⟩ rfl (jc.deep (c_java_lang_String_length hC_M k_x (fun r4 z4 w4_0 => ?_)) (by decide))
      refine jr.icmp_ge rfl rfl (by omega) (by omega) (fun h28 => ?_) (fun h28 => ?_)
      · refine jr.bipush rfl (by decide) ?_
        refine jr.istore rfl (by decide) rfl ?_
        refine jr.iload rfl rfl ?_
        refine jr.bipush rfl (by decide) ?_
        refine jr.icmp_eq rfl rfl (by omega) (by omega) (fun _ => ?_) (fun h => absurd (by decide) h)
        refine jr.iload rfl rfl ?_
        refine jr.if_eq rfl rfl (by omega) (fun h90 => ?_) (fun h90 => ?_)
        · refine jr.iinc rfl rfl (by decide) rfl ?_
          refine jr.aload_n rfl rfl ?_
          refine jr.getf (i := 7) (x := T) (v := .int (Int32.ofInt (T))) rfl rfl (by decide) rfl (by decide) rfl rfl g_T rfl ?_
          refine jr.istore_n rfl (by decide) rfl ?_
          refine jr.iconst rfl ?_
          refine jr.istore rfl (by decide) rfl ?_
          refine jr.iinc rfl rfl (by decide) rfl ?_
          refine jr.goto rfl rfl ?_
          refine jr.pick [3, 2, 1, 0, 5, 6] rfl rfl ?_
          exact ih (nM - 1) (by omega) (w + 1) T 1 (n + 1) (by omega) (by omega) (by omega) (by omega) g_T g_E (by have hq0 : M 413 3 = v1 := e1; omega) hy1 (by omega) (by omega) (wi_A k_x (by omega) hy4 (by rw [decide_eq_true_iff]; omega) (by omega)) (by omega) (by omega) (by omega) (by omega)
        · refine jr.iload_n rfl rfl ?_
          refine jr.aload_n rfl rfl ?_
          refine jr.getf (i := 8) (x := E) (v := .int (Int32.ofInt (E))) rfl rfl (by decide) rfl (by decide) rfl rfl g_E rfl ?_
          refine jr.icmp_ne rfl rfl (by omega) (by omega) (fun h98 => ?_) (fun h98 => ?_)
          · refine jr.iinc rfl rfl (by decide) rfl ?_
            refine jr.aload_n rfl rfl ?_
            refine jr.getf (i := 7) (x := T) (v := .int (Int32.ofInt (T))) rfl rfl (by decide) rfl (by decide) rfl rfl g_T rfl ?_
            refine jr.istore_n rfl (by decide) rfl ?_
            refine jr.iconst rfl ?_
            refine jr.istore rfl (by decide) rfl ?_
            refine jr.iinc rfl rfl (by decide) rfl ?_
            refine jr.goto rfl rfl ?_
            refine jr.pick [3, 2, 1, 0, 5, 6] rfl rfl ?_
            exact ih (nM - 1) (by omega) (w + 1) T 1 (n + 1) (by omega) (by omega) (by omega) (by omega) g_T g_E (by have hq0 : M 413 3 = v1 := e1; omega) hy1 (by omega) (by omega) (wi_A k_x (by omega) hy4 (by rw [decide_eq_true_iff]; omega) (by omega)) (by omega) (by omega) (by omega) (by omega)
          · refine jr.iload_n rfl rfl ?_
            exact jr.ireturn rfl rfl rfl (q _ (by omega) (wi_D k_x (by omega) (Or.inl (by omega)) hy4 (by rw [decide_eq_true_iff]; omega)))
      · refine jr.aload_n rfl rfl ?_
        refine jr.iload rfl rfl ?_
        refine jr_v8 rfl rfl rfl k_x ⟨Nat.le_of_ble_eq_true rfl, Nat.le_of_ble_eq_true rfl⟩ rfl (jc.deep (c_java_lang_String_charAt_z hC_M k_x (by omega) (by omega) (fun r5 z5 w5_0 => ?_)) (by decide))
        have hsb : SBQ (x + 100) n r5 := w5_0.symm
        clear w5_0
        refine jr.goto rfl rfl ?_
        refine jr.istore rfl (by decide) rfl ?_
        refine jr.iload rfl rfl ?_
        refine jr.bipush rfl (by decide) ?_
        refine jr.icmp_eq rfl rfl (by omega) (by omega) (fun h48 => ?_) (fun h48 => ?_)
        · refine jr.iload rfl rfl ?_
          refine jr.if_eq rfl rfl (by omega) (fun h90 => ?_) (fun h90 => ?_)
          · refine jr.iinc rfl rfl (by decide) rfl ?_
            refine jr.aload_n rfl rfl ?_
            refine jr.getf (i := 7) (x := T) (v := .int (Int32.ofInt (T))) rfl rfl (by decide) rfl (by decide) rfl rfl g_T rfl ?_
            refine jr.istore_n rfl (by decide) rfl ?_
            refine jr.iconst rfl ?_
            refine jr.istore rfl (by decide) rfl ?_
            refine jr.iinc rfl rfl (by decide) rfl ?_
            refine jr.goto rfl rfl ?_
            refine jr.pick [3, 2, 1, 0, 5, 6] rfl rfl ?_
            exact ih (nM - 1) (by omega) (w + 1) T 1 (n + 1) (by omega) (by omega) (by omega) (by omega) g_T g_E (by have hq0 : M 413 3 = v1 := e1; omega) hy1 (by omega) (by omega) (wi_B k_x (by omega) (by omega) ((show sbv (x + 100) n = _ from hsb).trans (by omega)) hy4 (by rw [decide_eq_true_iff]; omega)) (by omega) (by omega) (by omega) (by omega)
          · refine jr.iload_n rfl rfl ?_
            refine jr.aload_n rfl rfl ?_
            refine jr.getf (i := 8) (x := E) (v := .int (Int32.ofInt (E))) rfl rfl (by decide) rfl (by decide) rfl rfl g_E rfl ?_
            refine jr.icmp_ne rfl rfl (by omega) (by omega) (fun h98 => ?_) (fun h98 => ?_)
            · refine jr.iinc rfl rfl (by decide) rfl ?_
              refine jr.aload_n rfl rfl ?_
              refine jr.getf (i := 7) (x := T) (v := .int (Int32.ofInt (T))) rfl rfl (by decide) rfl (by decide) rfl rfl g_T rfl ?_
              refine jr.istore_n rfl (by decide) rfl ?_
              refine jr.iconst rfl ?_
              refine jr.istore rfl (by decide) rfl ?_
              refine jr.iinc rfl rfl (by decide) rfl ?_
              refine jr.goto rfl rfl ?_
              refine jr.pick [3, 2, 1, 0, 5, 6] rfl rfl ?_
              exact ih (nM - 1) (by omega) (w + 1) T 1 (n + 1) (by omega) (by omega) (by omega) (by omega) g_T g_E (by have hq0 : M 413 3 = v1 := e1; omega) hy1 (by omega) (by omega) (wi_B k_x (by omega) (by omega) ((show sbv (x + 100) n = _ from hsb).trans (by omega)) hy4 (by rw [decide_eq_true_iff]; omega)) (by omega) (by omega) (by omega) (by omega)
            · refine jr.iload_n rfl rfl ?_
              exact jr.ireturn rfl rfl rfl (q _ (by omega) (wi_D k_x (by omega) (Or.inr ⟨by omega, ((show sbv (x + 100) n = _ from hsb).trans (by omega))⟩) hy4 (by rw [decide_eq_true_iff]; omega)))
        · refine jr.iload rfl rfl ?_
          refine jr.if_eq rfl rfl (by omega) (fun h53 => ?_) (fun h53 => ?_)
          · refine jr.iconst rfl ?_
            refine jr.istore rfl (by decide) rfl ?_
            refine jr.iinc rfl rfl (by decide) rfl ?_
            refine jr.goto rfl rfl ?_
            refine jr.iinc rfl rfl (by decide) rfl ?_
            refine jr.goto rfl rfl ?_
            refine jr.pick [4, 1, 2, 0, 5, 6] rfl rfl ?_
            exact ih (nM - 1) (by omega) w (i + 1) 0 (n + 1) (by omega) (by omega) (by omega) (by omega) g_T g_E (by have hq0 : M 413 3 = v1 := e1; omega) hy1 (by omega) (by omega) (wi_C k_x (by omega) (by omega) hsb (by omega) hy4 (wi_b0 (by omega))) (by omega) (by omega) (by omega) (by omega)
          · refine jr.iload_n rfl rfl ?_
            refine jr.aload_n rfl rfl ?_
            refine jr.getf (i := 8) (x := E) (v := .int (Int32.ofInt (E))) rfl rfl (by decide) rfl (by decide) rfl rfl g_E rfl ?_
            refine jr.icmp_ge rfl rfl (by omega) (by omega) (fun h61 => ?_) (fun h61 => ?_)
            · refine jr.iconst rfl ?_
              refine jr.istore rfl (by decide) rfl ?_
              refine jr.iinc rfl rfl (by decide) rfl ?_
              refine jr.goto rfl rfl ?_
              refine jr.iinc rfl rfl (by decide) rfl ?_
              refine jr.goto rfl rfl ?_
              refine jr.pick [4, 1, 2, 0, 5, 6] rfl rfl ?_
              exact ih (nM - 1) (by omega) w (i + 1) 0 (n + 1) (by omega) (by omega) (by omega) (by omega) g_T g_E (by have hq0 : M 413 3 = v1 := e1; omega) hy1 (by omega) (by omega) (wi_C k_x (by omega) (by omega) hsb (by omega) hy4 (wi_b0 (by omega))) (by omega) (by omega) (by omega) (by omega)
            · refine jr.aload_n rfl rfl ?_
              have k6 : kd (v1).toNat = 43 := by rcases (show v1 = 1 by omega) with h <;> (rw [h]; rfl)
              refine jr.getf (i := 3) (x := v1) (v := .ref (v1.toNat)) rfl rfl (by decide) rfl (by decide) rfl rfl e1 rfl ?_
              refine jr.iload_n rfl rfl ?_
              obtain ⟨v7, e7⟩ : ∃ z_, M ((v1.toNat)) i = z_ := ⟨_, rfl⟩
              have b7 : 0 ≤ v7 ∧ v7 ≤ 255 := by rw [← e7]; exact (CI.r hC_M k6 (by decide) i)
              refine jr.iald (i := i) (x := v7) rfl (Nat.lt_trans (kx_43 k6).1 (by decide)) (kx_43 k6).2 (by decide) (by omega) (by omega) e7 ?_
              have hf8 : v7 = f i := by rw [← e7, show (v1.toNat) = 1 by omega]; exact hy1.2 i (by omega) (by omega)
              refine jr.iload rfl rfl ?_
              refine jr.icmp_ne rfl rfl (by omega) (by omega) (fun h72 => ?_) (fun h72 => ?_)
              · refine jr.iconst rfl ?_
                refine jr.istore rfl (by decide) rfl ?_
                refine jr.iinc rfl rfl (by decide) rfl ?_
                refine jr.goto rfl rfl ?_
                refine jr.iinc rfl rfl (by decide) rfl ?_
                refine jr.goto rfl rfl ?_
                refine jr.pick [4, 1, 2, 0, 5, 6] rfl rfl ?_
                exact ih (nM - 1) (by omega) w (i + 1) 0 (n + 1) (by omega) (by omega) (by omega) (by omega) g_T g_E (by have hq0 : M 413 3 = v1 := e1; omega) hy1 (by omega) (by omega) (wi_C k_x (by omega) (by omega) hsb (by omega) hy4 (wi_b0 (by omega))) (by omega) (by omega) (by omega) (by omega)
              · refine jr.iconst rfl ?_
                refine jr.goto rfl rfl ?_
                refine jr.istore rfl (by decide) rfl ?_
                refine jr.iinc rfl rfl (by decide) rfl ?_
                refine jr.goto rfl rfl ?_
                refine jr.iinc rfl rfl (by decide) rfl ?_
                refine jr.goto rfl rfl ?_
                refine jr.pick [4, 1, 2, 0, 5, 6] rfl rfl ?_
                exact ih (nM - 1) (by omega) w (i + 1) 1 (n + 1) (by omega) (by omega) (by omega) (by omega) g_T g_E (by have hq0 : M 413 3 = v1 := e1; omega) hy1 (by omega) (by omega) (wi_C k_x (by omega) (by omega) hsb (by omega) hy4 (wi_b1 (by omega))) (by omega) (by omega) (by omega) (by omega)
theorem c_Parser_wordIn_z {A : Nat → Option (Nat × (Nat → Int32))} [HA A] {Q : Option Value → jm → Prop} {f : Int → Int} {N : Int} {M : jm} (hC_M : CI M) {x : Nat} (k_x : sK x = true) {T : Int} (g_T : M 413 7 = T) {E : Int} (g_E : M 413 8 = E) (p0 : 1 ≤ M 413 3 ∧ M 413 3 ≤ 1) (p1 : TXc f N M) (p2 : T < E ∧ E ≤ N ∧ 0 ≤ T) (q : ∀ (r : Int), (-1) ≤ r ∧ r ≤ 301 → (r = zwl f T E (sls x) 0 T true) → Q (some (.int (Int32.ofInt r))) M) : jc A 5 214 [.ref (413), .ref (x)] M Q := by
  refine jc_of (m := xm_214) rfl (Nat.le_of_ble_eq_true rfl) rfl ?_
  have b_T : 0 ≤ T ∧ T ≤ 1600 := by rw [← g_T]; exact (CI.r hC_M (show kd 413 = 44 from rfl) (by decide) 7)
  have b_E : 0 ≤ E ∧ E ≤ 1600 := by rw [← g_E]; exact (CI.r hC_M (show kd 413 = 44 from rfl) (by decide) 8)
  obtain ⟨v1, e1⟩ : ∃ z_, M 413 3 = z_ := ⟨_, rfl⟩
  have b1 : 1 ≤ v1 ∧ v1 ≤ 419 := by rw [← e1]; exact (CI.r hC_M (show kd 413 = 44 from rfl) (by decide) 3)
  have b2 : 1 ≤ v1 ∧ v1 ≤ 1 := by rw [← e1]; exact p0
  refine jr.iconst rfl ?_
  refine jr.istore_n rfl (by decide) rfl ?_
  refine jr.aload_n rfl rfl ?_
  refine jr.getf (i := 7) (x := T) (v := .int (Int32.ofInt (T))) rfl rfl (by decide) rfl (by decide) rfl rfl g_T rfl ?_
  refine jr.istore_n rfl (by decide) rfl ?_
  refine jr.iconst rfl ?_
  refine jr.istore rfl (by decide) rfl ?_
  refine jr.iconst rfl ?_
  refine jr.istore rfl (by decide) rfl ?_
  refine jr.pick [3, 2, 1, 0, 4, 5] rfl rfl ?_
  exact c_Parser_wordIn_z_L13 hC_M k_x q 301 0 T 1 0 (by omega) (by omega) (by omega) (by omega) g_T g_E (by have hq0 : M 413 3 = v1 := e1; omega) p1 (by omega) (by omega) (by show zwl f T E ((sls x).drop (0 : Int).toNat) 0 T (decide ((1 : Int) = 1)) = _; rfl) (by omega) (by omega) (by omega) (by omega)
theorem zdv_lj {f : Int → Int} {N T a n c : Int} (hz : zsp zdg f N a = zsp zdg f N T) (hn : n = zdv f T (a - T).toNat) (h0 : T ≤ a) (h9 : a + 1 - T ≤ 10) (hc : c = f a) (hd : 48 ≤ c ∧ c ≤ 57) : jl_w (jl_w (n * 10) + (c - 48)) = zdv f T (a + 1 - T).toNat := by
  have q := zdv_rg (f := f) (N := N) (t := T) (a := a) (n := n) (by rw [hn, show min (a - T) 10 = a - T by omega]) h0 hz
  rw [jl_w_id (x := n * 10) (by omega), jl_w_id (by omega), show (a + 1 - T).toNat = (a - T).toNat + 1 by omega]
  show n * 10 + (c - 48) = zdv f T (a - T).toNat * 10 + (f (T + ((a - T).toNat : Int)) - 48)
  rw [← hn, show T + ((a - T).toNat : Int) = a by omega, hc]
theorem TKc.e {f : Int → Int} {N v : Int} {M : jm} (h : TXc f N M) (e7 : M 413 7 = v) (e8 : M 413 8 = v) (e6 : M 413 6 = 0) (hv : N ≤ v) (hv2 : v ≤ N) (h0 : 0 ≤ v) : TKc f N v M := by
  have g1 : zte f N v = v := zte_n hv
  have g2 : zso f N v = 0 := zso_n hv
  exact ⟨h, by omega, e7, by rw [g1]; exact e8, by rw [g2]; exact e6, fun q => by omega, fun q => by omega, fun q => by omega⟩
theorem TKc.w {f : Int → Int} {N v : Int} {M : jm} (h : TXc f N M) (h0 : 0 ≤ v) (h1 : v < N ∧ zlt (f v) = true) (e7 : M 413 7 = v) (e8 : M 413 8 = zsp zlt f N v) (e6 : (M 413 8 - v ≤ 9 → M 413 6 = 1) ∧ (9 < M 413 8 - v → M 413 6 = 4)) (e10 : M 413 10 = zwl f v (M 413 8) (sls 1000100) 0 v true) : TKc f N v M := by
  have g1 : zte f N v = zsp zlt f N v := zte_l h1.1 h1.2
  have g2 := zso_l h1.1 h1.2
  have e8' : M 413 8 = zte f N v := e8.trans g1.symm
  have g3 : M 413 6 = zso f N v := by
    rw [g2, ← e8']
    split
    · exact e6.2 (by omega)
    · exact e6.1 (by omega)
  refine ⟨h, by omega, e7, e8', g3, fun q => ?_, fun q => ?_, fun q => ?_⟩
  · rw [e10, e8', sls_0]
    exact zwl_c q
  · rw [g2] at q
    split at q <;> exact absurd q (by decide)
  · rw [g2] at q
    split at q <;> exact absurd q (by decide)
theorem TKc.d {f : Int → Int} {N v : Int} {M : jm} (h : TXc f N M) (h0 : 0 ≤ v) (h1 : v < N) (hl : ¬ (97 ≤ f v ∧ f v ≤ 122)) (hd : 48 ≤ f v ∧ f v ≤ 57) (e7 : M 413 7 = v) (e8 : M 413 8 = zsp zdg f N v) (e6 : (M 413 8 - v ≤ 10 → M 413 6 = 2) ∧ (10 < M 413 8 - v → M 413 6 = 4)) (e9 : M 413 8 - v ≤ 10 → M 413 9 = zdv f v (M 413 8 - v).toNat) : TKc f N v M := by
  have g0 := zlt_n hl
  have g5 := zdg_t hd
  have g1 : zte f N v = zsp zdg f N v := zte_d h1 g0 g5
  have g2 := zso_d h1 g0 g5
  have e8' : M 413 8 = zte f N v := e8.trans g1.symm
  have g3 : M 413 6 = zso f N v := by
    rw [g2, ← e8']
    split
    · exact e6.2 (by omega)
    · exact e6.1 (by omega)
  refine ⟨h, by omega, e7, e8', g3, fun q => ?_, fun q => ?_, fun q => ?_⟩
  · rw [g2] at q
    split at q <;> exact absurd q (by decide)
  · have h9 : M 413 8 - v ≤ 10 := by
      rw [g2, ← e8'] at q
      split at q
      · exact absurd q (by decide)
      · omega
    rw [e9 h9, e8']
    rfl
  · rw [g2] at q
    split at q <;> exact absurd q (by decide)
theorem TKc.s {f : Int → Int} {N v c : Int} {M : jm} (h : TXc f N M) (h0 : 0 ≤ v) (h1 : v < N) (hc : f v = c) (hl : ¬ (97 ≤ c ∧ c ≤ 122)) (hd : ¬ (48 ≤ c ∧ c ≤ 57)) (e7 : M 413 7 = v) (e8 : M 413 8 = v + 1) (e11 : M 413 11 = c) (e6 : M 413 6 = if zsg c = true then 3 else 4) : TKc f N v M := by
  have g0 : zlt (f v) = false := zlt_n (by rw [hc]; exact hl)
  have g5 : zdg (f v) = false := zdg_n (by rw [hc]; exact hd)
  have g1 := zte_s h1 g0 g5
  have g2 := zso_s h1 g0 g5
  rw [hc] at g2
  refine ⟨h, by omega, e7, by rw [g1]; exact e8, by rw [g2]; exact e6, fun q => ?_, fun q => ?_, fun q => by rw [hc]; exact e11⟩
  · rw [g2] at q
    split at q <;> exact absurd q (by decide)
  · rw [g2] at q
    split at q <;> exact absurd q (by decide)
theorem zsg_i {c r : Int} (h1 : r = -1 → ∀ k : Int, 0 ≤ k → k < slb (1000101 + 100) → sbv (1000101 + 100) k ≠ c) (h2 : r ≠ -1 → SBE (1000101 + 100) 0 (slb (1000101 + 100)) c) : (r = -1 → zsg c = false) ∧ (r ≠ -1 → zsg c = true) := by
  have hk : sK 1000101 = true := rfl
  refine ⟨fun q => ?_, fun q => zsg_0 c ((sls_m hk).mpr (h2 q))⟩
  cases z : zsg c with
  | false => rfl
  | true =>
    obtain ⟨k, k0, k1, k2⟩ := (sls_m hk).mp (zsg_1 z)
    exact absurd k2 (h1 q k k0 k1)
noncomputable def W_c_Parser_takeNumber_z : List (Nat × Nat) := [(44, 6), (44, 8), (44, 9)]
theorem c_Parser_takeNumber_z_L5 {A : Nat → Option (Nat × (Nat → Int32))} [HA A] {Q : Option Value → jm → Prop} {f : Int → Int} {N : Int} {T : jm} {Tk : Int} (q : ∀ (M' : jm), CI M' → FR W_c_Parser_takeNumber_z T M' → (M' 413 8 = zsp zdg f N Tk) → ((M' 413 8 - Tk ≤ 10 → M' 413 6 = 2) ∧ (10 < M' 413 8 - Tk → M' 413 6 = 4)) → (M' 413 8 - Tk ≤ 10 → M' 413 9 = zdv f Tk (M' 413 8 - Tk).toNat) → Q none M') : ∀ (nM : Nat) (M : jm), CI M → FR W_c_Parser_takeNumber_z T M → (1 ≤ M 413 3 ∧ M 413 3 ≤ 1) → (TXc f N M) → (zsp zdg f N (M 413 8) = zsp zdg f N Tk) → ((M 413 8 - Tk ≤ 10 → M 413 9 = zdv f Tk (M 413 8 - Tk).toNat)) → (M 413 7 = Tk ∧ Tk ≤ M 413 8 ∧ M 413 8 ≤ N) → 1600 - M 413 8 ≤ nM → jr A 1 xm_216 5 [(0, .ref (413))] [] M Q := by
  intro nM
  induction nM using Nat.strongRecOn with
  | ind nM ih =>
    intro M  hC_M ht_M  hy0 hy1 hy2 hy3 hy4 hm
    have hN := hy1.1
    obtain ⟨v1, e1⟩ : ∃ z_, M 413 8 = z_ := ⟨_, rfl⟩
    have b1 : 0 ≤ v1 ∧ v1 ≤ 1600 := by rw [← e1]; exact (CI.r hC_M (show kd 413 = 44 from rfl) (by decide) 8)
    obtain ⟨v2, e2⟩ : ∃ z_, M 413 3 = z_ := ⟨_, rfl⟩
    have b2 : 1 ≤ v2 ∧ v2 ≤ 419 := by rw [← e2]; exact (CI.r hC_M (show kd 413 = 44 from rfl) (by decide) 3)
    have b3 : 1 ≤ v2 ∧ v2 ≤ 1 := by rw [← e2]; exact hy0
    obtain ⟨v4, e4⟩ : ∃ z_, M 413 7 = z_ := ⟨_, rfl⟩
    have b4 : 0 ≤ v4 ∧ v4 ≤ 1600 := by rw [← e4]; exact (CI.r hC_M (show kd 413 = 44 from rfl) (by decide) 7)
    refine jr.aload_n rfl rfl ?_
    refine jr.getf (i := 8) (x := v1) (v := .int (Int32.ofInt (v1))) rfl rfl (by decide) rfl (by decide) rfl rfl e1 rfl ?_
    refine jr.aload_n rfl rfl ?_
    obtain ⟨v5, e5⟩ : ∃ z_, M 413 4 = z_ := ⟨_, rfl⟩
    have b5 : 0 ≤ v5 ∧ v5 ≤ 1600 := by rw [← e5]; exact (CI.r hC_M (show kd 413 = 44 from rfl) (by decide) 4)
    refine jr.getf (i := 4) (x := v5) (v := .int (Int32.ofInt (v5))) rfl rfl (by decide) rfl (by decide) rfl rfl e5 rfl ?_
    refine jr.icmp_ge rfl rfl (by omega) (by omega) (fun h13 => ?_) (fun h13 => ?_)
    · refine jr.aload_n rfl rfl ?_
      refine jr.aload_n rfl rfl ?_
      refine jr.getf (i := 8) (x := v1) (v := .int (Int32.ofInt (v1))) rfl rfl (by decide) rfl (by decide) rfl rfl e1 rfl ?_
      refine jr.aload_n rfl rfl ?_
      refine jr.getf (i := 7) (x := v4) (v := .int (Int32.ofInt (v4))) rfl rfl (by decide) rfl (by decide) rfl rfl e4 rfl ?_
      refine jr.isub rfl ?_
      refine jr.bipush rfl (by decide) ?_
      refine jr.icmp_le rfl rfl (by omega) (by omega) (fun h78 => ?_) (fun h78 => ?_)
      · refine jr.iconst rfl ?_
        refine jr.putf (i := 6) (x := 2) rfl rfl (by decide) rfl (by decide) rfl rfl rfl rfl rfl ?_
        obtain ⟨v6, e6⟩ : ∃ z_, M 413 9 = z_ := ⟨_, rfl⟩
        have b6 : (-9223372036854775808) ≤ v6 ∧ v6 ≤ 9223372036854775807 := by rw [← e6]; exact (CI.r hC_M (show kd 413 = 44 from rfl) (by decide) 9)
        exact jr.vreturn rfl rfl (q _ (CI.u hC_M (i := 6) (show kd 413 = 44 from rfl) (show (-2147483648 : Int) ≤ _ ∧ _ ≤ (2147483647 : Int) from by omega) rfl) (FR.o ht_M (show kd 413 = 44 from rfl) rfl)  (by have h8 : (ju M 413 6 2) 413 8 = v1 := ((ju_i _ _ (by decide)).trans e1); rw [h8]; have q := hy2; rw [e1] at q; exact (zsp_no (fun z => by have z1 := z.1; have z2 := zdg_r z.2; omega)).symm.trans q) (by have h8 : (ju M 413 6 2) 413 8 = v1 := ((ju_i _ _ (by decide)).trans e1); have h6 : (ju M 413 6 2) 413 6 = 2 := (ju_same _ _ _ _); rw [h8, h6]; exact ⟨by omega, by omega⟩) (by have h8 : (ju M 413 6 2) 413 8 = v1 := ((ju_i _ _ (by decide)).trans e1); have h9 : (ju M 413 6 2) 413 9 = v6 := ((ju_i _ _ (by decide)).trans e6); rw [h8, h9]; have q := hy3; rw [e1, e6] at q; exact q))
      · refine jr.iconst rfl ?_
        refine jr.goto rfl rfl ?_
        refine jr.putf (i := 6) (x := 4) rfl rfl (by decide) rfl (by decide) rfl rfl rfl rfl rfl ?_
        obtain ⟨v7, e7⟩ : ∃ z_, M 413 9 = z_ := ⟨_, rfl⟩
        have b7 : (-9223372036854775808) ≤ v7 ∧ v7 ≤ 9223372036854775807 := by rw [← e7]; exact (CI.r hC_M (show kd 413 = 44 from rfl) (by decide) 9)
        exact jr.vreturn rfl rfl (q _ (CI.u hC_M (i := 6) (show kd 413 = 44 from rfl) (show (-2147483648 : Int) ≤ _ ∧ _ ≤ (2147483647 : Int) from by omega) rfl) (FR.o ht_M (show kd 413 = 44 from rfl) rfl)  (by have h8 : (ju M 413 6 4) 413 8 = v1 := ((ju_i _ _ (by decide)).trans e1); rw [h8]; have q := hy2; rw [e1] at q; exact (zsp_no (fun z => by have z1 := z.1; have z2 := zdg_r z.2; omega)).symm.trans q) (by have h8 : (ju M 413 6 4) 413 8 = v1 := ((ju_i _ _ (by decide)).trans e1); have h6 : (ju M 413 6 4) 413 6 = 4 := (ju_same _ _ _ _); rw [h8, h6]; exact ⟨by omega, by omega⟩) (by have h8 : (ju M 413 6 4) 413 8 = v1 := ((ju_i _ _ (by decide)).trans e1); have h9 : (ju M 413 6 4) 413 9 = v7 := ((ju_i _ _ (by decide)).trans e7); rw [h8, h9]; have q := hy3; rw [e1, e7] at q; exact q))
    · refine jr.aload_n rfl rfl ?_
      refine jr.aload_n rfl rfl ?_
      refine jr.getf (i := 8) (x := v1) (v := .int (Int32.ofInt (v1))) rfl rfl (by decide) rfl (by decide) rfl rfl e1 rfl ?_
      refine jr_v rfl rfl (Or.inl rfl) rfl rfl (by decide) rfl ⟨rfl, Nat.le_of_ble_eq_true rfl, Nat.le_of_ble_eq_true rfl⟩ rfl (jc.deep (c_Parser_isDigitAt_z hC_M (by omega) (by have hq0 : M 413 3 = v2 := e2; omega) hy1 (fun r8 z8 w8_0 => ?_)) (by decide))
      refine jr.if_eq rfl rfl (by omega) (fun h24 => ?_) (fun h24 => ?_)
      · refine jr.aload_n rfl rfl ?_
        refine jr.aload_n rfl rfl ?_
        refine jr.getf (i := 8) (x := v1) (v := .int (Int32.ofInt (v1))) rfl rfl (by decide) rfl (by decide) rfl rfl e1 rfl ?_
        refine jr.aload_n rfl rfl ?_
        refine jr.getf (i := 7) (x := v4) (v := .int (Int32.ofInt (v4))) rfl rfl (by decide) rfl (by decide) rfl rfl e4 rfl ?_
        refine jr.isub rfl ?_
        refine jr.bipush rfl (by decide) ?_
        refine jr.icmp_le rfl rfl (by omega) (by omega) (fun h78 => ?_) (fun h78 => ?_)
        · refine jr.iconst rfl ?_
          refine jr.putf (i := 6) (x := 2) rfl rfl (by decide) rfl (by decide) rfl rfl rfl rfl rfl ?_
          obtain ⟨v9, e9⟩ : ∃ z_, M 413 9 = z_ := ⟨_, rfl⟩
          have b9 : (-9223372036854775808) ≤ v9 ∧ v9 ≤ 9223372036854775807 := by rw [← e9]; exact (CI.r hC_M (show kd 413 = 44 from rfl) (by decide) 9)
          exact jr.vreturn rfl rfl (q _ (CI.u hC_M (i := 6) (show kd 413 = 44 from rfl) (show (-2147483648 : Int) ≤ _ ∧ _ ≤ (2147483647 : Int) from by omega) rfl) (FR.o ht_M (show kd 413 = 44 from rfl) rfl)  (by have h8 : (ju M 413 6 2) 413 8 = v1 := ((ju_i _ _ (by decide)).trans e1); rw [h8]; have q := hy2; rw [e1] at q; exact (zsp_no (fun z => by have z1 := z.1; have z2 := zdg_r z.2; omega)).symm.trans q) (by have h8 : (ju M 413 6 2) 413 8 = v1 := ((ju_i _ _ (by decide)).trans e1); have h6 : (ju M 413 6 2) 413 6 = 2 := (ju_same _ _ _ _); rw [h8, h6]; exact ⟨by omega, by omega⟩) (by have h8 : (ju M 413 6 2) 413 8 = v1 := ((ju_i _ _ (by decide)).trans e1); have h9 : (ju M 413 6 2) 413 9 = v9 := ((ju_i _ _ (by decide)).trans e9); rw [h8, h9]; have q := hy3; rw [e1, e9] at q; exact q))
        · refine jr.iconst rfl ?_
          refine jr.goto rfl rfl ?_
          refine jr.putf (i := 6) (x := 4) rfl rfl (by decide) rfl (by decide) rfl rfl rfl rfl rfl ?_
          obtain ⟨v10, e10⟩ : ∃ z_, M 413 9 = z_ := ⟨_, rfl⟩
          have b10 : (-9223372036854775808) ≤ v10 ∧ v10 ≤ 9223372036854775807 := by rw [← e10]; exact (CI.r hC_M (show kd 413 = 44 from rfl) (by decide) 9)
          exact jr.vreturn rfl rfl (q _ (CI.u hC_M (i := 6) (show kd 413 = 44 from rfl) (show (-2147483648 : Int) ≤ _ ∧ _ ≤ (2147483647 : Int) from by omega) rfl) (FR.o ht_M (show kd 413 = 44 from rfl) rfl)  (by have h8 : (ju M 413 6 4) 413 8 = v1 := ((ju_i _ _ (by decide)).trans e1); rw [h8]; have q := hy2; rw [e1] at q; exact (zsp_no (fun z => by have z1 := z.1; have z2 := zdg_r z.2; omega)).symm.trans q) (by have h8 : (ju M 413 6 4) 413 8 = v1 := ((ju_i _ _ (by decide)).trans e1); have h6 : (ju M 413 6 4) 413 6 = 4 := (ju_same _ _ _ _); rw [h8, h6]; exact ⟨by omega, by omega⟩) (by have h8 : (ju M 413 6 4) 413 8 = v1 := ((ju_i _ _ (by decide)).trans e1); have h9 : (ju M 413 6 4) 413 9 = v10 := ((ju_i _ _ (by decide)).trans e10); rw [h8, h9]; have q := hy3; rw [e1, e10] at q; exact q))
      · refine jr.aload_n rfl rfl ?_
        refine jr.aload_n rfl rfl ?_
        obtain ⟨v11, e11⟩ : ∃ z_, M 413 9 = z_ := ⟨_, rfl⟩
        have b11 : (-9223372036854775808) ≤ v11 ∧ v11 ≤ 9223372036854775807 := by rw [← e11]; exact (CI.r hC_M (show kd 413 = 44 from rfl) (by decide) 9)
        refine jr.getf (i := 9) (x := v11) (v := .long (Int64.ofInt (v11))) rfl rfl (by decide) rfl (by decide) rfl rfl e11 rfl ?_
        refine jr.ldc2 (x := 10) rfl rfl (by decide) ?_
        refine jr.lmul rfl ?_
        refine jr.lw (jl_w (v11 * 10)) (jl_w_eq _) ?_
        have b12 : -9223372036854775808 ≤ jl_w (v11 * 10) ∧ jl_w (v11 * 10) ≤ 9223372036854775807 := jbl_any _
        refine jr.aload_n rfl rfl ?_
        have k13 : kd (v2).toNat = 43 := by rcases (show v2 = 1 by omega) with h <;> (rw [h]; rfl)
        refine jr.getf (i := 3) (x := v2) (v := .ref (v2.toNat)) rfl rfl (by decide) rfl (by decide) rfl rfl e2 rfl ?_
        refine jr.aload_n rfl rfl ?_
        refine jr.getf (i := 8) (x := v1) (v := .int (Int32.ofInt (v1))) rfl rfl (by decide) rfl (by decide) rfl rfl e1 rfl ?_
        obtain ⟨v14, e14⟩ : ∃ z_, M ((v2.toNat)) v1 = z_ := ⟨_, rfl⟩
        have b14 : 0 ≤ v14 ∧ v14 ≤ 255 := by rw [← e14]; exact (CI.r hC_M k13 (by decide) v1)
        refine jr.iald (i := v1) (x := v14) rfl (Nat.lt_trans (kx_43 k13).1 (by decide)) (kx_43 k13).2 (by decide) (by omega) (by omega) e14 ?_
        have hf15 : v14 = f v1 := by rw [← e14, show (v2.toNat) = 1 by omega]; exact hy1.2 v1 (by omega) (by omega)
        refine jr.bipush rfl (by decide) ?_
        refine jr.isub rfl ?_
        refine jr.i2l rfl (by omega) ?_
        refine jr.ladd rfl ?_
        refine jr.lw (jl_w ((jl_w (v11 * 10)) + (v14 - 48))) (jl_w_eq _) ?_
        have b16 : -9223372036854775808 ≤ jl_w ((jl_w (v11 * 10)) + (v14 - 48)) ∧ jl_w ((jl_w (v11 * 10)) + (v14 - 48)) ≤ 9223372036854775807 := jbl_any _
        refine jr.putf (i := 9) (x := (jl_w ((jl_w (v11 * 10)) + (v14 - 48)))) rfl rfl (by decide) rfl (by decide) rfl rfl rfl rfl rfl ?_
        refine jr.aload_n rfl rfl ?_
        refine jr.dup rfl rfl ?_
        refine jr.getf (i := 8) (x := v1) (v := .int (Int32.ofInt (v1))) rfl rfl (by decide) rfl (by decide) rfl rfl ((ju_i _ _ (by decide)).trans e1) rfl ?_
        refine jr.iconst rfl ?_
        refine jr.iadd rfl ?_
        refine jr.putf (i := 8) (x := (v1 + 1)) rfl rfl (by decide) rfl (by decide) rfl rfl rfl rfl rfl ?_
        refine jr.goto rfl rfl ?_
        refine jr.pick [0] rfl rfl ?_
        exact ih (nM - 1) (by omega) ((ju (ju M 413 9 (jl_w ((jl_w (v11 * 10)) + (v14 - 48)))) 413 8 (v1 + 1)))  (CI.u (CI.u hC_M (i := 9) (show kd 413 = 44 from rfl) (show (-9223372036854775808 : Int) ≤ _ ∧ _ ≤ (9223372036854775807 : Int) from by omega) rfl) (i := 8) (show kd 413 = 44 from rfl) (show (0 : Int) ≤ _ ∧ _ ≤ (1600 : Int) from by omega) rfl) (FR.o (FR.o ht_M (show kd 413 = 44 from rfl) rfl) (show kd 413 = 44 from rfl) rfl)  (by have hq0 : (ju (ju M 413 9 (jl_w ((jl_w (v11 * 10)) + (v14 - 48)))) 413 8 (v1 + 1)) 413 3 = v2 := ((ju_i _ _ (by decide)).trans ((ju_i _ _ (by decide)).trans e2)); omega) (TXc.fr hy1 (FR.o (FR.o (FR.rfl [(44, 8), (44, 9)] M) (show kd 413 = 44 from rfl) rfl) (show kd 413 = 44 from rfl) rfl) rfl) (by have h8 : (ju (ju M 413 9 (jl_w ((jl_w (v11 * 10)) + (v14 - 48)))) 413 8 (v1 + 1)) 413 8 = v1 + 1 := (ju_same _ _ _ _); rw [h8]; have q := hy2; rw [e1] at q; exact (zsp_go (by omega) (zdg_t (by omega))).symm.trans q) (by have h8 : (ju (ju M 413 9 (jl_w ((jl_w (v11 * 10)) + (v14 - 48)))) 413 8 (v1 + 1)) 413 8 = v1 + 1 := (ju_same _ _ _ _); have h9 : (ju (ju M 413 9 (jl_w ((jl_w (v11 * 10)) + (v14 - 48)))) 413 8 (v1 + 1)) 413 9 = jl_w ((jl_w (v11 * 10)) + (v14 - 48)) := ((ju_i _ _ (by decide)).trans (ju_same _ _ _ _)); rw [h8, h9]; intro q; have q2 := hy3; rw [e1, e11] at q2; exact zdv_lj (N := N) (by have z := hy2; rw [e1] at z; exact z) (q2 (by omega)) (by omega) (by omega) (by omega) (by omega)) (by have hq0 : (ju (ju M 413 9 (jl_w ((jl_w (v11 * 10)) + (v14 - 48)))) 413 8 (v1 + 1)) 413 7 = v4 := ((ju_i _ _ (by decide)).trans ((ju_i _ _ (by decide)).trans e4)); have hq1 : (ju (ju M 413 9 (jl_w ((jl_w (v11 * 10)) + (v14 - 48)))) 413 8 (v1 + 1)) 413 8 = v1 + 1 := (ju_same _ _ _ _); omega) (by have hq0 : (ju (ju M 413 9 (jl_w ((jl_w (v11 * 10)) + (v14 - 48)))) 413 8 (v1 + 1)) 413 8 = v1 + 1 := (ju_same _ _ _ _); omega)
theorem c_Parser_takeNumber_z {A : Nat → Option (Nat × (Nat → Int32))} [HA A] {Q : Option Value → jm → Prop} {f : Int → Int} {N : Int} {T : jm} {M : jm} (hC_M : CI M) (ht_M : FR W_c_Parser_takeNumber_z T M) {Tk : Int} (g_Tk : M 413 7 = Tk) {E : Int} (g_E : M 413 8 = E) (p0 : 1 ≤ M 413 3 ∧ M 413 3 ≤ 1) (p1 : TXc f N M) (p2 : E = Tk) (p3 : 0 ≤ Tk ∧ Tk ≤ N) (q : ∀ (M' : jm), CI M' → FR W_c_Parser_takeNumber_z T M' → (M' 413 8 = zsp zdg f N Tk) → ((M' 413 8 - Tk ≤ 10 → M' 413 6 = 2) ∧ (10 < M' 413 8 - Tk → M' 413 6 = 4)) → (M' 413 8 - Tk ≤ 10 → M' 413 9 = zdv f Tk (M' 413 8 - Tk).toNat) → Q none M') : jc A 2 216 [.ref (413)] M Q := by
  refine jc_of (m := xm_216) rfl (Nat.le_of_ble_eq_true rfl) rfl ?_
  have b_Tk : 0 ≤ Tk ∧ Tk ≤ 1600 := by rw [← g_Tk]; exact (CI.r hC_M (show kd 413 = 44 from rfl) (by decide) 7)
  have b_E : 0 ≤ E ∧ E ≤ 1600 := by rw [← g_E]; exact (CI.r hC_M (show kd 413 = 44 from rfl) (by decide) 8)
  obtain ⟨v1, e1⟩ : ∃ z_, M 413 3 = z_ := ⟨_, rfl⟩
  have b1 : 1 ≤ v1 ∧ v1 ≤ 419 := by rw [← e1]; exact (CI.r hC_M (show kd 413 = 44 from rfl) (by decide) 3)
  have b2 : 1 ≤ v1 ∧ v1 ≤ 1 := by rw [← e1]; exact p0
  refine jr.aload_n rfl rfl ?_
  refine jr.lconst (x := 0) rfl (by decide) ?_
  refine jr.putf (i := 9) (x := 0) rfl rfl (by decide) rfl (by decide) rfl rfl rfl rfl rfl ?_
  refine jr.pick [0] rfl rfl ?_
  exact c_Parser_takeNumber_z_L5  q 1600 ((ju M 413 9 0))  (CI.u hC_M (i := 9) (show kd 413 = 44 from rfl) (show (-9223372036854775808 : Int) ≤ _ ∧ _ ≤ (9223372036854775807 : Int) from by omega) rfl) (FR.o ht_M (show kd 413 = 44 from rfl) rfl)  (by have hq0 : (ju M 413 9 0) 413 3 = v1 := ((ju_i _ _ (by decide)).trans e1); omega) (TXc.fr p1 (FR.o (FR.rfl [(44, 9)] M) (show kd 413 = 44 from rfl) rfl) rfl) (by have h8 : (ju M 413 9 0) 413 8 = E := ((ju_i _ _ (by decide)).trans g_E); rw [h8, show E = Tk by omega]) (fun _ => by have h8 : (ju M 413 9 0) 413 8 = E := ((ju_i _ _ (by decide)).trans g_E); have h9 : (ju M 413 9 0) 413 9 = 0 := (ju_same _ _ _ _); rw [h8, h9, show (E - Tk).toNat = 0 by omega]; rfl) (by have hq0 : (ju M 413 9 0) 413 7 = Tk := ((ju_i _ _ (by decide)).trans g_Tk); have hq1 : (ju M 413 9 0) 413 8 = E := ((ju_i _ _ (by decide)).trans g_E); omega) (by have hq0 : (ju M 413 9 0) 413 8 = E := ((ju_i _ _ (by decide)).trans g_E); omega)
theorem TKc.cast {f : Int → Int} {N t t' : Int} {M : jm} (h : TKc f N t M) (e : t = t') : TKc f N t' M := e ▸ h
theorem zla_nl {f : Int → Int} {N i : Int} (h : zla f N i = 0) (h0 : 0 ≤ i) (h1 : i < N) : ¬ (97 ≤ f i ∧ f i ≤ 122) := fun q => by
  rw [zla_y ⟨h0, h1⟩ q] at h
  omega
theorem zla_ye {f : Int → Int} {N i : Int} (h : zla f N i ≠ 0) : (0 ≤ i ∧ i < N) ∧ 97 ≤ f i ∧ f i ≤ 122 := by
  by_cases q : 0 ≤ i ∧ i < N ∧ zlt (f i) = true
  · exact ⟨⟨q.1, q.2.1⟩, zlt_r q.2.2⟩
  · unfold zla at h
    rw [if_neg q] at h
    exact absurd rfl h
theorem zla_st {f : Int → Int} {N i : Int} (h : N ≤ i ∨ zla f N i = 0) (h0 : 0 ≤ i) : zsp zlt f N i = i := zsp_no (fun q => by
  rcases h with z | z
  · have q1 := q.1
    omega
  · exact zla_nl z h0 q.1 (zlt_r q.2))
noncomputable def W_c_Parser_advance_w : List (Nat × Nat) := [(44, 6), (44, 7), (44, 8), (44, 9), (44, 10), (44, 11)]
theorem c_Parser_advance_w_L83 {A : Nat → Option (Nat × (Nat → Int32))} [HA A] {Q : Option Value → jm → Prop} {f : Int → Int} {N : Int} {T : jm} {F : Int} {E : Int} (q : ∀ (M' : jm), CI M' → FR W_c_Parser_advance_w T M' → (F ≠ 0 ∨ TKc f N (zsp zbl f N E) M') → (M' 413 8 ≤ N ∧ (M' 413 6 = 1 → M' 413 7 < M' 413 8)) → Q none M') : ∀ (nM : Nat) (M : jm), CI M → FR W_c_Parser_advance_w T M → (1 ≤ M 413 3 ∧ M 413 3 ≤ 1) → (TXc f N M) → (zsp zlt f N (M 413 8) = zsp zlt f N (M 413 7)) → (M 413 7 = zsp zbl f N E) → (M 413 7 < N ∧ zlt (f (M 413 7)) = true) → (M 413 7 ≤ M 413 8 ∧ M 413 8 ≤ N) → (F = 0) → 1600 - M 413 8 ≤ nM → jr A 5 xm_215 83 [(0, .ref (413))] [] M Q := by
  intro nM
  induction nM using Nat.strongRecOn with
  | ind nM ih =>
    intro M  hC_M ht_M  hy0 hy1 hy2 hy3 hy4 hy5 hy6 hm
    have hN := hy1.1
    obtain ⟨v1, e1⟩ : ∃ z_, M 413 8 = z_ := ⟨_, rfl⟩
    have b1 : 0 ≤ v1 ∧ v1 ≤ 1600 := by rw [← e1]; exact (CI.r hC_M (show kd 413 = 44 from rfl) (by decide) 8)
    obtain ⟨v2, e2⟩ : ∃ z_, M 413 3 = z_ := ⟨_, rfl⟩
    have b2 : 1 ≤ v2 ∧ v2 ≤ 419 := by rw [← e2]; exact (CI.r hC_M (show kd 413 = 44 from rfl) (by decide) 3)
    have b3 : 1 ≤ v2 ∧ v2 ≤ 1 := by rw [← e2]; exact hy0
    obtain ⟨v4, e4⟩ : ∃ z_, M 413 7 = z_ := ⟨_, rfl⟩
    have b4 : 0 ≤ v4 ∧ v4 ≤ 1600 := by rw [← e4]; exact (CI.r hC_M (show kd 413 = 44 from rfl) (by decide) 7)
    refine jr.aload_n rfl rfl ?_
    refine jr.getf (i := 8) (x := v1) (v := .int (Int32.ofInt (v1))) rfl rfl (by decide) rfl (by decide) rfl rfl e1 rfl ?_
    refine jr.aload_n rfl rfl ?_
    obtain ⟨v5, e5⟩ : ∃ z_, M 413 4 = z_ := ⟨_, rfl⟩
    have b5 : 0 ≤ v5 ∧ v5 ≤ 1600 := by rw [← e5]; exact (CI.r hC_M (show kd 413 = 44 from rfl) (by decide) 4)
    refine jr.getf (i := 4) (x := v5) (v := .int (Int32.ofInt (v5))) rfl rfl (by decide) rfl (by decide) rfl rfl e5 rfl ?_
    refine jr.icmp_ge rfl rfl (by omega) (by omega) (fun h91 => ?_) (fun h91 => ?_)
    · refine jr.aload_n rfl rfl ?_
      refine jr.aload_n rfl rfl ?_
      refine jr.getf (i := 8) (x := v1) (v := .int (Int32.ofInt (v1))) rfl rfl (by decide) rfl (by decide) rfl rfl e1 rfl ?_
      refine jr.aload_n rfl rfl ?_
      refine jr.getf (i := 7) (x := v4) (v := .int (Int32.ofInt (v4))) rfl rfl (by decide) rfl (by decide) rfl rfl e4 rfl ?_
      refine jr.isub rfl ?_
      refine jr.bipush rfl (by decide) ?_
      refine jr.icmp_le rfl rfl (by omega) (by omega) (fun h130 => ?_) (fun h130 => ?_)
      · refine jr.iconst rfl ?_
        refine jr.putf (i := 6) (x := 1) rfl rfl (by decide) rfl (by decide) rfl rfl rfl rfl rfl ?_
        refine jr.aload_n rfl rfl ?_
        refine jr.aload_n rfl rfl ?_
        refine jr.ldcs (a := 1000100) rfl rfl ?_
        refine jr_v rfl rfl (Or.inl rfl) rfl rfl (by decide) rfl ⟨rfl, Nat.le_of_ble_eq_true rfl, Nat.le_of_ble_eq_true rfl⟩ rfl (jc.deep (c_Parser_wordIn_z (CI.u hC_M (i := 6) (show kd 413 = 44 from rfl) (show (-2147483648 : Int) ≤ _ ∧ _ ≤ (2147483647 : Int) from by omega) rfl) (show sK 1000100 = true from rfl) ((ju_i _ _ (by decide)).trans e4) ((ju_i _ _ (by decide)).trans e1) (by have hq0 : (ju M 413 6 1) 413 3 = v2 := ((ju_i _ _ (by decide)).trans e2); omega) (TXc.fr hy1 (FR.o (FR.rfl [(44, 6)] M) (show kd 413 = 44 from rfl) rfl) rfl) (by have q := hy2; have q4 := hy4; rw [e1, e4] at q; rw [e4] at q4; have z := zsp_gt (P := zlt) (f := f) (N := N) (p := v4) q4.1 q4.2; have z2 := zla_st (f := f) (N := N) (i := v1) (by omega) (by omega); omega) (fun r6 z6 w6_0 => ?_)) (by decide))
        refine jr.putf (i := 10) (x := r6) rfl rfl (by decide) rfl (by decide) rfl rfl rfl rfl rfl ?_
        refine jr.goto rfl rfl ?_
        exact jr.vreturn rfl rfl (q _ (CI.u (CI.u hC_M (i := 6) (show kd 413 = 44 from rfl) (show (-2147483648 : Int) ≤ _ ∧ _ ≤ (2147483647 : Int) from by omega) rfl) (i := 10) (show kd 413 = 44 from rfl) (show (-2147483648 : Int) ≤ _ ∧ _ ≤ (2147483647 : Int) from by omega) rfl) (FR.o (FR.o ht_M (show kd 413 = 44 from rfl) rfl) (show kd 413 = 44 from rfl) rfl)  (Or.inr (by have h6 : (ju (ju M 413 6 1) 413 10 r6) 413 6 = 1 := ((ju_i _ _ (by decide)).trans (ju_same _ _ _ _)); have h7 : (ju (ju M 413 6 1) 413 10 r6) 413 7 = v4 := ((ju_i _ _ (by decide)).trans ((ju_i _ _ (by decide)).trans e4)); have h8 : (ju (ju M 413 6 1) 413 10 r6) 413 8 = v1 := ((ju_i _ _ (by decide)).trans ((ju_i _ _ (by decide)).trans e1)); have h10 : (ju (ju M 413 6 1) 413 10 r6) 413 10 = r6 := (ju_same _ _ _ _); have q2 := hy2; have q3 := hy3; have q4 := hy4; rw [e1, e4] at q2; rw [e4] at q3 q4; refine TKc.cast (TKc.w (v := v4) (TXc.fr hy1 (FR.o (FR.o (FR.rfl [(44, 6), (44, 10)] M) (show kd 413 = 44 from rfl) rfl) (show kd 413 = 44 from rfl) rfl) rfl) (by omega) q4 h7 ?_ ?_ ?_) q3; (rw [h8]; exact (zla_st (by omega) (by omega)).symm.trans q2); (rw [h8, h6]; exact ⟨by omega, by omega⟩); (rw [h8, h10]; exact w6_0))) (by have h8 : (ju (ju M 413 6 1) 413 10 r6) 413 8 = v1 := ((ju_i _ _ (by decide)).trans ((ju_i _ _ (by decide)).trans e1)); have h6 : (ju (ju M 413 6 1) 413 10 r6) 413 6 = 1 := ((ju_i _ _ (by decide)).trans (ju_same _ _ _ _)); have h7 : (ju (ju M 413 6 1) 413 10 r6) 413 7 = v4 := ((ju_i _ _ (by decide)).trans ((ju_i _ _ (by decide)).trans e4)); have hT := (by have q := hy2; have q4 := hy4; rw [e1, e4] at q; rw [e4] at q4; have z := zsp_gt (P := zlt) (f := f) (N := N) (p := v4) q4.1 q4.2; have z2 := zla_st (f := f) (N := N) (i := v1) (by omega) (by omega); exact (show v4 < v1 by omega)); omega))
      · refine jr.iconst rfl ?_
        refine jr.goto rfl rfl ?_
        refine jr.putf (i := 6) (x := 4) rfl rfl (by decide) rfl (by decide) rfl rfl rfl rfl rfl ?_
        refine jr.aload_n rfl rfl ?_
        refine jr.aload_n rfl rfl ?_
        refine jr.ldcs (a := 1000100) rfl rfl ?_
        refine jr_v rfl rfl (Or.inl rfl) rfl rfl (by decide) rfl ⟨rfl, Nat.le_of_ble_eq_true rfl, Nat.le_of_ble_eq_true rfl⟩ rfl (jc.deep (c_Parser_wordIn_z (CI.u hC_M (i := 6) (show kd 413 = 44 from rfl) (show (-2147483648 : Int) ≤ _ ∧ _ ≤ (2147483647 : Int) from by omega) rfl) (show sK 1000100 = true from rfl) ((ju_i _ _ (by decide)).trans e4) ((ju_i _ _ (by decide)).trans e1) (by have hq0 : (ju M 413 6 4) 413 3 = v2 := ((ju_i _ _ (by decide)).trans e2); omega) (TXc.fr hy1 (FR.o (FR.rfl [(44, 6)] M) (show kd 413 = 44 from rfl) rfl) rfl) (by have q := hy2; have q4 := hy4; rw [e1, e4] at q; rw [e4] at q4; have z := zsp_gt (P := zlt) (f := f) (N := N) (p := v4) q4.1 q4.2; have z2 := zla_st (f := f) (N := N) (i := v1) (by omega) (by omega); omega) (fun r7 z7 w7_0 => ?_)) (by decide))
        refine jr.putf (i := 10) (x := r7) rfl rfl (by decide) rfl (by decide) rfl rfl rfl rfl rfl ?_
        refine jr.goto rfl rfl ?_
        exact jr.vreturn rfl rfl (q _ (CI.u (CI.u hC_M (i := 6) (show kd 413 = 44 from rfl) (show (-2147483648 : Int) ≤ _ ∧ _ ≤ (2147483647 : Int) from by omega) rfl) (i := 10) (show kd 413 = 44 from rfl) (show (-2147483648 : Int) ≤ _ ∧ _ ≤ (2147483647 : Int) from by omega) rfl) (FR.o (FR.o ht_M (show kd 413 = 44 from rfl) rfl) (show kd 413 = 44 from rfl) rfl)  (Or.inr (by have h6 : (ju (ju M 413 6 4) 413 10 r7) 413 6 = 4 := ((ju_i _ _ (by decide)).trans (ju_same _ _ _ _)); have h7 : (ju (ju M 413 6 4) 413 10 r7) 413 7 = v4 := ((ju_i _ _ (by decide)).trans ((ju_i _ _ (by decide)).trans e4)); have h8 : (ju (ju M 413 6 4) 413 10 r7) 413 8 = v1 := ((ju_i _ _ (by decide)).trans ((ju_i _ _ (by decide)).trans e1)); have h10 : (ju (ju M 413 6 4) 413 10 r7) 413 10 = r7 := (ju_same _ _ _ _); have q2 := hy2; have q3 := hy3; have q4 := hy4; rw [e1, e4] at q2; rw [e4] at q3 q4; refine TKc.cast (TKc.w (v := v4) (TXc.fr hy1 (FR.o (FR.o (FR.rfl [(44, 6), (44, 10)] M) (show kd 413 = 44 from rfl) rfl) (show kd 413 = 44 from rfl) rfl) rfl) (by omega) q4 h7 ?_ ?_ ?_) q3; (rw [h8]; exact (zla_st (by omega) (by omega)).symm.trans q2); (rw [h8, h6]; exact ⟨by omega, by omega⟩); (rw [h8, h10]; exact w7_0))) (by have h8 : (ju (ju M 413 6 4) 413 10 r7) 413 8 = v1 := ((ju_i _ _ (by decide)).trans ((ju_i _ _ (by decide)).trans e1)); have h6 : (ju (ju M 413 6 4) 413 10 r7) 413 6 = 4 := ((ju_i _ _ (by decide)).trans (ju_same _ _ _ _)); have h7 : (ju (ju M 413 6 4) 413 10 r7) 413 7 = v4 := ((ju_i _ _ (by decide)).trans ((ju_i _ _ (by decide)).trans e4)); have hT := (by have q := hy2; have q4 := hy4; rw [e1, e4] at q; rw [e4] at q4; have z := zsp_gt (P := zlt) (f := f) (N := N) (p := v4) q4.1 q4.2; have z2 := zla_st (f := f) (N := N) (i := v1) (by omega) (by omega); exact (show v4 < v1 by omega)); omega))
    · refine jr.aload_n rfl rfl ?_
      refine jr.aload_n rfl rfl ?_
      refine jr.getf (i := 8) (x := v1) (v := .int (Int32.ofInt (v1))) rfl rfl (by decide) rfl (by decide) rfl rfl e1 rfl ?_
      refine jr_v rfl rfl (Or.inl rfl) rfl rfl (by decide) rfl ⟨rfl, Nat.le_of_ble_eq_true rfl, Nat.le_of_ble_eq_true rfl⟩ rfl (jc.deep (c_Parser_letterAt_z hC_M (by omega) (by have hq0 : M 413 3 = v2 := e2; omega) hy1 (fun r8 z8 w8_0 => ?_)) (by decide))
      refine jr.if_eq rfl rfl (by omega) (fun h102 => ?_) (fun h102 => ?_)
      · refine jr.aload_n rfl rfl ?_
        refine jr.aload_n rfl rfl ?_
        refine jr.getf (i := 8) (x := v1) (v := .int (Int32.ofInt (v1))) rfl rfl (by decide) rfl (by decide) rfl rfl e1 rfl ?_
        refine jr.aload_n rfl rfl ?_
        refine jr.getf (i := 7) (x := v4) (v := .int (Int32.ofInt (v4))) rfl rfl (by decide) rfl (by decide) rfl rfl e4 rfl ?_
        refine jr.isub rfl ?_
        refine jr.bipush rfl (by decide) ?_
        refine jr.icmp_le rfl rfl (by omega) (by omega) (fun h130 => ?_) (fun h130 => ?_)
        · refine jr.iconst rfl ?_
          refine jr.putf (i := 6) (x := 1) rfl rfl (by decide) rfl (by decide) rfl rfl rfl rfl rfl ?_
          refine jr.aload_n rfl rfl ?_
          refine jr.aload_n rfl rfl ?_
          refine jr.ldcs (a := 1000100) rfl rfl ?_
          refine jr_v rfl rfl (Or.inl rfl) rfl rfl (by decide) rfl ⟨rfl, Nat.le_of_ble_eq_true rfl, Nat.le_of_ble_eq_true rfl⟩ rfl (jc.deep (c_Parser_wordIn_z (CI.u hC_M (i := 6) (show kd 413 = 44 from rfl) (show (-2147483648 : Int) ≤ _ ∧ _ ≤ (2147483647 : Int) from by omega) rfl) (show sK 1000100 = true from rfl) ((ju_i _ _ (by decide)).trans e4) ((ju_i _ _ (by decide)).trans e1) (by have hq0 : (ju M 413 6 1) 413 3 = v2 := ((ju_i _ _ (by decide)).trans e2); omega) (TXc.fr hy1 (FR.o (FR.rfl [(44, 6)] M) (show kd 413 = 44 from rfl) rfl) rfl) (by have q := hy2; have q4 := hy4; rw [e1, e4] at q; rw [e4] at q4; have z := zsp_gt (P := zlt) (f := f) (N := N) (p := v4) q4.1 q4.2; have z2 := zla_st (f := f) (N := N) (i := v1) (by omega) (by omega); omega) (fun r9 z9 w9_0 => ?_)) (by decide))
          refine jr.putf (i := 10) (x := r9) rfl rfl (by decide) rfl (by decide) rfl rfl rfl rfl rfl ?_
          refine jr.goto rfl rfl ?_
          exact jr.vreturn rfl rfl (q _ (CI.u (CI.u hC_M (i := 6) (show kd 413 = 44 from rfl) (show (-2147483648 : Int) ≤ _ ∧ _ ≤ (2147483647 : Int) from by omega) rfl) (i := 10) (show kd 413 = 44 from rfl) (show (-2147483648 : Int) ≤ _ ∧ _ ≤ (2147483647 : Int) from by omega) rfl) (FR.o (FR.o ht_M (show kd 413 = 44 from rfl) rfl) (show kd 413 = 44 from rfl) rfl)  (Or.inr (by have h6 : (ju (ju M 413 6 1) 413 10 r9) 413 6 = 1 := ((ju_i _ _ (by decide)).trans (ju_same _ _ _ _)); have h7 : (ju (ju M 413 6 1) 413 10 r9) 413 7 = v4 := ((ju_i _ _ (by decide)).trans ((ju_i _ _ (by decide)).trans e4)); have h8 : (ju (ju M 413 6 1) 413 10 r9) 413 8 = v1 := ((ju_i _ _ (by decide)).trans ((ju_i _ _ (by decide)).trans e1)); have h10 : (ju (ju M 413 6 1) 413 10 r9) 413 10 = r9 := (ju_same _ _ _ _); have q2 := hy2; have q3 := hy3; have q4 := hy4; rw [e1, e4] at q2; rw [e4] at q3 q4; refine TKc.cast (TKc.w (v := v4) (TXc.fr hy1 (FR.o (FR.o (FR.rfl [(44, 6), (44, 10)] M) (show kd 413 = 44 from rfl) rfl) (show kd 413 = 44 from rfl) rfl) rfl) (by omega) q4 h7 ?_ ?_ ?_) q3; (rw [h8]; exact (zla_st (by omega) (by omega)).symm.trans q2); (rw [h8, h6]; exact ⟨by omega, by omega⟩); (rw [h8, h10]; exact w9_0))) (by have h8 : (ju (ju M 413 6 1) 413 10 r9) 413 8 = v1 := ((ju_i _ _ (by decide)).trans ((ju_i _ _ (by decide)).trans e1)); have h6 : (ju (ju M 413 6 1) 413 10 r9) 413 6 = 1 := ((ju_i _ _ (by decide)).trans (ju_same _ _ _ _)); have h7 : (ju (ju M 413 6 1) 413 10 r9) 413 7 = v4 := ((ju_i _ _ (by decide)).trans ((ju_i _ _ (by decide)).trans e4)); have hT := (by have q := hy2; have q4 := hy4; rw [e1, e4] at q; rw [e4] at q4; have z := zsp_gt (P := zlt) (f := f) (N := N) (p := v4) q4.1 q4.2; have z2 := zla_st (f := f) (N := N) (i := v1) (by omega) (by omega); exact (show v4 < v1 by omega)); omega))
        · refine jr.iconst rfl ?_
          refine jr.goto rfl rfl ?_
          refine jr.putf (i := 6) (x := 4) rfl rfl (by decide) rfl (by decide) rfl rfl rfl rfl rfl ?_
          refine jr.aload_n rfl rfl ?_
          refine jr.aload_n rfl rfl ?_
          refine jr.ldcs (a := 1000100) rfl rfl ?_
          refine jr_v rfl rfl (Or.inl rfl) rfl rfl (by decide) rfl ⟨rfl, Nat.le_of_ble_eq_true rfl, Nat.le_of_ble_eq_true rfl⟩ rfl (jc.deep (c_Parser_wordIn_z (CI.u hC_M (i := 6) (show kd 413 = 44 from rfl) (show (-2147483648 : Int) ≤ _ ∧ _ ≤ (2147483647 : Int) from by omega) rfl) (show sK 1000100 = true from rfl) ((ju_i _ _ (by decide)).trans e4) ((ju_i _ _ (by decide)).trans e1) (by have hq0 : (ju M 413 6 4) 413 3 = v2 := ((ju_i _ _ (by decide)).trans e2); omega) (TXc.fr hy1 (FR.o (FR.rfl [(44, 6)] M) (show kd 413 = 44 from rfl) rfl) rfl) (by have q := hy2; have q4 := hy4; rw [e1, e4] at q; rw [e4] at q4; have z := zsp_gt (P := zlt) (f := f) (N := N) (p := v4) q4.1 q4.2; have z2 := zla_st (f := f) (N := N) (i := v1) (by omega) (by omega); omega) (fun r10 z10 w10_0 => ?_)) (by decide))
          refine jr.putf (i := 10) (x := r10) rfl rfl (by decide) rfl (by decide) rfl rfl rfl rfl rfl ?_
          refine jr.goto rfl rfl ?_
          exact jr.vreturn rfl rfl (q _ (CI.u (CI.u hC_M (i := 6) (show kd 413 = 44 from rfl) (show (-2147483648 : Int) ≤ _ ∧ _ ≤ (2147483647 : Int) from by omega) rfl) (i := 10) (show kd 413 = 44 from rfl) (show (-2147483648 : Int) ≤ _ ∧ _ ≤ (2147483647 : Int) from by omega) rfl) (FR.o (FR.o ht_M (show kd 413 = 44 from rfl) rfl) (show kd 413 = 44 from rfl) rfl)  (Or.inr (by have h6 : (ju (ju M 413 6 4) 413 10 r10) 413 6 = 4 := ((ju_i _ _ (by decide)).trans (ju_same _ _ _ _)); have h7 : (ju (ju M 413 6 4) 413 10 r10) 413 7 = v4 := ((ju_i _ _ (by decide)).trans ((ju_i _ _ (by decide)).trans e4)); have h8 : (ju (ju M 413 6 4) 413 10 r10) 413 8 = v1 := ((ju_i _ _ (by decide)).trans ((ju_i _ _ (by decide)).trans e1)); have h10 : (ju (ju M 413 6 4) 413 10 r10) 413 10 = r10 := (ju_same _ _ _ _); have q2 := hy2; have q3 := hy3; have q4 := hy4; rw [e1, e4] at q2; rw [e4] at q3 q4; refine TKc.cast (TKc.w (v := v4) (TXc.fr hy1 (FR.o (FR.o (FR.rfl [(44, 6), (44, 10)] M) (show kd 413 = 44 from rfl) rfl) (show kd 413 = 44 from rfl) rfl) rfl) (by omega) q4 h7 ?_ ?_ ?_) q3; (rw [h8]; exact (zla_st (by omega) (by omega)).symm.trans q2); (rw [h8, h6]; exact ⟨by omega, by omega⟩); (rw [h8, h10]; exact w10_0))) (by have h8 : (ju (ju M 413 6 4) 413 10 r10) 413 8 = v1 := ((ju_i _ _ (by decide)).trans ((ju_i _ _ (by decide)).trans e1)); have h6 : (ju (ju M 413 6 4) 413 10 r10) 413 6 = 4 := ((ju_i _ _ (by decide)).trans (ju_same _ _ _ _)); have h7 : (ju (ju M 413 6 4) 413 10 r10) 413 7 = v4 := ((ju_i _ _ (by decide)).trans ((ju_i _ _ (by decide)).trans e4)); have hT := (by have q := hy2; have q4 := hy4; rw [e1, e4] at q; rw [e4] at q4; have z := zsp_gt (P := zlt) (f := f) (N := N) (p := v4) q4.1 q4.2; have z2 := zla_st (f := f) (N := N) (i := v1) (by omega) (by omega); exact (show v4 < v1 by omega)); omega))
      · refine jr.aload_n rfl rfl ?_
        refine jr.dup rfl rfl ?_
        refine jr.getf (i := 8) (x := v1) (v := .int (Int32.ofInt (v1))) rfl rfl (by decide) rfl (by decide) rfl rfl e1 rfl ?_
        refine jr.iconst rfl ?_
        refine jr.iadd rfl ?_
        refine jr.putf (i := 8) (x := (v1 + 1)) rfl rfl (by decide) rfl (by decide) rfl rfl rfl rfl rfl ?_
        refine jr.goto rfl rfl ?_
        refine jr.pick [0] rfl rfl ?_
        exact ih (nM - 1) (by omega) ((ju M 413 8 (v1 + 1)))  (CI.u hC_M (i := 8) (show kd 413 = 44 from rfl) (show (0 : Int) ≤ _ ∧ _ ≤ (1600 : Int) from by omega) rfl) (FR.o ht_M (show kd 413 = 44 from rfl) rfl)  (by have hq0 : (ju M 413 8 (v1 + 1)) 413 3 = v2 := ((ju_i _ _ (by decide)).trans e2); omega) (TXc.fr hy1 (FR.o (FR.rfl [(44, 8)] M) (show kd 413 = 44 from rfl) rfl) rfl) (by have h7 : (ju M 413 8 (v1 + 1)) 413 7 = v4 := ((ju_i _ _ (by decide)).trans e4); have h8 : (ju M 413 8 (v1 + 1)) 413 8 = v1 + 1 := (ju_same _ _ _ _); rw [h7, h8]; have q := hy2; rw [e1, e4] at q; have z := zla_ye (f := f) (N := N) (i := v1) (by omega); exact (zsp_go z.1.2 (zlt_t z.2)).symm.trans q) (by have h7 : (ju M 413 8 (v1 + 1)) 413 7 = v4 := ((ju_i _ _ (by decide)).trans e4); rw [h7]; have q := hy3; rw [e4] at q; exact q) (by have h7 : (ju M 413 8 (v1 + 1)) 413 7 = v4 := ((ju_i _ _ (by decide)).trans e4); rw [h7]; have q := hy4; rw [e4] at q; exact q) (by have hq0 : (ju M 413 8 (v1 + 1)) 413 7 = v4 := ((ju_i _ _ (by decide)).trans e4); have hq1 : (ju M 413 8 (v1 + 1)) 413 8 = v1 + 1 := (ju_same _ _ _ _); omega) (by omega) (by have hq0 : (ju M 413 8 (v1 + 1)) 413 8 = v1 + 1 := (ju_same _ _ _ _); omega)
theorem c_Parser_advance_w_L13 {A : Nat → Option (Nat × (Nat → Int32))} [HA A] {Q : Option Value → jm → Prop} {f : Int → Int} {N : Int} {T : jm} {F : Int} {E : Int} (q : ∀ (M' : jm), CI M' → FR W_c_Parser_advance_w T M' → (F ≠ 0 ∨ TKc f N (zsp zbl f N E) M') → (M' 413 8 ≤ N ∧ (M' 413 6 = 1 → M' 413 7 < M' 413 8)) → Q none M') : ∀ (nM : Nat) (M : jm) (i : Int), CI M → FR W_c_Parser_advance_w T M → 0 ≤ i ∧ i ≤ 1600 → (1 ≤ M 413 3 ∧ M 413 3 ≤ 1) → (TXc f N M) → (zsp zbl f N i = zsp zbl f N E) → (i ≤ N) → (F = 0) → 1600 - i ≤ nM → jr A 5 xm_215 13 [(1, .int (Int32.ofInt (i))), (0, .ref (413))] [] M Q := by
  intro nM
  induction nM using Nat.strongRecOn with
  | ind nM ih =>
    intro M i hC_M ht_M h_i hy0 hy1 hy2 hy3 hy4 hm
    have hN := hy1.1
    obtain ⟨v1, e1⟩ : ∃ z_, M 413 3 = z_ := ⟨_, rfl⟩
    have b1 : 1 ≤ v1 ∧ v1 ≤ 419 := by rw [← e1]; exact (CI.r hC_M (show kd 413 = 44 from rfl) (by decide) 3)
    have b2 : 1 ≤ v1 ∧ v1 ≤ 1 := by rw [← e1]; exact hy0
    refine jr.iload_n rfl rfl ?_
    refine jr.aload_n rfl rfl ?_
    obtain ⟨v3, e3⟩ : ∃ z_, M 413 4 = z_ := ⟨_, rfl⟩
    have b3 : 0 ≤ v3 ∧ v3 ≤ 1600 := by rw [← e3]; exact (CI.r hC_M (show kd 413 = 44 from rfl) (by decide) 4)
    refine jr.getf (i := 4) (x := v3) (v := .int (Int32.ofInt (v3))) rfl rfl (by decide) rfl (by decide) rfl rfl e3 rfl ?_
    refine jr.icmp_ge rfl rfl (by omega) (by omega) (fun h18 => ?_) (fun h18 => ?_)
    · refine jr.aload_n rfl rfl ?_
      refine jr.iload_n rfl rfl ?_
      refine jr.putf (i := 7) (x := i) rfl rfl (by decide) rfl (by decide) rfl rfl rfl rfl rfl ?_
      refine jr.aload_n rfl rfl ?_
      refine jr.iload_n rfl rfl ?_
      refine jr.putf (i := 8) (x := i) rfl rfl (by decide) rfl (by decide) rfl rfl rfl rfl rfl ?_
      refine jr.iload_n rfl rfl ?_
      refine jr.aload_n rfl rfl ?_
      refine jr.getf (i := 4) (x := v3) (v := .int (Int32.ofInt (v3))) rfl rfl (by decide) rfl (by decide) rfl rfl ((ju_i _ _ (by decide)).trans ((ju_i _ _ (by decide)).trans e3)) rfl ?_
      refine jr.icmp_lt rfl rfl (by omega) (by omega) (fun h64 => ?_) (fun h64 => ?_)
      · refine jr.aload_n rfl rfl ?_
        refine jr.iload_n rfl rfl ?_
        refine jr_v rfl rfl (Or.inl rfl) rfl rfl (by decide) rfl ⟨rfl, Nat.le_of_ble_eq_true rfl, Nat.le_of_ble_eq_true rfl⟩ rfl (jc.deep (c_Parser_letterAt_z (CI.u (CI.u hC_M (i := 7) (show kd 413 = 44 from rfl) (show (0 : Int) ≤ _ ∧ _ ≤ (1600 : Int) from by omega) rfl) (i := 8) (show kd 413 = 44 from rfl) (show (0 : Int) ≤ _ ∧ _ ≤ (1600 : Int) from by omega) rfl) (by omega) (by have hq0 : (ju (ju M 413 7 i) 413 8 i) 413 3 = v1 := ((ju_i _ _ (by decide)).trans ((ju_i _ _ (by decide)).trans e1)); omega) (TXc.fr hy1 (FR.o (FR.o (FR.rfl [(44, 7), (44, 8)] M) (show kd 413 = 44 from rfl) rfl) (show kd 413 = 44 from rfl) rfl) rfl) (fun r4 z4 w4_0 => ?_)) (by decide))
        refine jr.if_eq rfl rfl (by omega) (fun h80 => ?_) (fun h80 => ?_)
        · refine jr.aload_n rfl rfl ?_
          refine jr.iload_n rfl rfl ?_
          refine jr_v rfl rfl (Or.inl rfl) rfl rfl (by decide) rfl ⟨rfl, Nat.le_of_ble_eq_true rfl, Nat.le_of_ble_eq_true rfl⟩ rfl (jc.deep (c_Parser_isDigitAt_z (CI.u (CI.u hC_M (i := 7) (show kd 413 = 44 from rfl) (show (0 : Int) ≤ _ ∧ _ ≤ (1600 : Int) from by omega) rfl) (i := 8) (show kd 413 = 44 from rfl) (show (0 : Int) ≤ _ ∧ _ ≤ (1600 : Int) from by omega) rfl) (by omega) (by have hq0 : (ju (ju M 413 7 i) 413 8 i) 413 3 = v1 := ((ju_i _ _ (by decide)).trans ((ju_i _ _ (by decide)).trans e1)); omega) (TXc.fr hy1 (FR.o (FR.o (FR.rfl [(44, 7), (44, 8)] M) (show kd 413 = 44 from rfl) rfl) (show kd 413 = 44 from rfl) rfl) rfl) (fun r5 z5 w5_0 => ?_)) (by decide))
          refine jr.if_eq rfl rfl (by omega) (fun h159 => ?_) (fun h159 => ?_)
          · refine jr.aload_n rfl rfl ?_
            refine jr.aload_n rfl rfl ?_
            have k6 : kd (v1).toNat = 43 := by rcases (show v1 = 1 by omega) with h <;> (rw [h]; rfl)
            refine jr.getf (i := 3) (x := v1) (v := .ref (v1.toNat)) rfl rfl (by decide) rfl (by decide) rfl rfl ((ju_i _ _ (by decide)).trans ((ju_i _ _ (by decide)).trans e1)) rfl ?_
            refine jr.iload_n rfl rfl ?_
            obtain ⟨v7, e7⟩ : ∃ z_, M ((v1.toNat)) i = z_ := ⟨_, rfl⟩
            have b7 : 0 ≤ v7 ∧ v7 ≤ 255 := by rw [← e7]; exact (CI.r hC_M k6 (by decide) i)
            refine jr.iald (i := i) (x := v7) rfl (Nat.lt_trans (kx_43 k6).1 (by decide)) (kx_43 k6).2 (by decide) (by omega) (by omega) ((ju_c _ _ (kd_ne (by rw [k6, (show kd 413 = 44 from rfl)]; decide))).trans ((ju_c _ _ (kd_ne (by rw [k6, (show kd 413 = 44 from rfl)]; decide))).trans e7)) ?_
            have hf8 : v7 = f i := by rw [← e7, show (v1.toNat) = 1 by omega]; exact hy1.2 i (by omega) (by omega)
            refine jr.i2c rfl ?_
            rw [j_c_ex (x := v7) (by omega)]
            refine jr.putf (i := 11) (x := v7) rfl rfl (by decide) rfl (by decide) rfl rfl rfl (j_cr (by omega)) (j_fc (by omega)) ?_
            refine jr.aload_n rfl rfl ?_
            refine jr.ldcs (a := 1000101) rfl rfl ?_
            refine jr.aload_n rfl rfl ?_
            refine jr.getf (i := 11) (x := v7) (v := .int (Int32.ofInt (v7))) rfl rfl (by decide) rfl (by decide) rfl rfl (ju_same _ _ _ _) rfl ?_
            refine jr_v8 rfl rfl rfl (show sK 1000101 = true from rfl) ⟨Nat.le_of_ble_eq_true rfl, Nat.le_of_ble_eq_true rfl⟩ rfl (jc.deep (c_java_lang_String_indexOf_409_z (CI.u (CI.u (CI.u hC_M (i := 7) (show kd 413 = 44 from rfl) (show (0 : Int) ≤ _ ∧ _ ≤ (1600 : Int) from by omega) rfl) (i := 8) (show kd 413 = 44 from rfl) (show (0 : Int) ≤ _ ∧ _ ≤ (1600 : Int) from by omega) rfl) (i := 11) (show kd 413 = 44 from rfl) (show (0 : Int) ≤ _ ∧ _ ≤ (255 : Int) from by omega) rfl) (show sK 1000101 = true from rfl) (by omega) (fun r9 z9 w9_0 w9_1 => ?_)) (by decide))
            simp only [Nat.reduceAdd] at w9_0
            simp only [Nat.reduceAdd] at w9_1
            refine jr.if_lt rfl rfl (by omega) (fun h190 => ?_) (fun h190 => ?_)
            · refine jr.iconst rfl ?_
              refine jr.putf (i := 6) (x := 4) rfl rfl (by decide) rfl (by decide) rfl rfl rfl rfl rfl ?_
              refine jr.aload_n rfl rfl ?_
              refine jr.iload_n rfl rfl ?_
              refine jr.iconst rfl ?_
              refine jr.iadd rfl ?_
              refine jr.putf (i := 8) (x := (i + 1)) rfl rfl (by decide) rfl (by decide) rfl rfl rfl rfl rfl ?_
              exact jr.vreturn rfl rfl (q _ (CI.u (CI.u (CI.u (CI.u (CI.u hC_M (i := 7) (show kd 413 = 44 from rfl) (show (0 : Int) ≤ _ ∧ _ ≤ (1600 : Int) from by omega) rfl) (i := 8) (show kd 413 = 44 from rfl) (show (0 : Int) ≤ _ ∧ _ ≤ (1600 : Int) from by omega) rfl) (i := 11) (show kd 413 = 44 from rfl) (show (0 : Int) ≤ _ ∧ _ ≤ (255 : Int) from by omega) rfl) (i := 6) (show kd 413 = 44 from rfl) (show (-2147483648 : Int) ≤ _ ∧ _ ≤ (2147483647 : Int) from by omega) rfl) (i := 8) (show kd 413 = 44 from rfl) (show (0 : Int) ≤ _ ∧ _ ≤ (1600 : Int) from by omega) rfl) (FR.o (FR.o (FR.o (FR.o (FR.o ht_M (show kd 413 = 44 from rfl) rfl) (show kd 413 = 44 from rfl) rfl) (show kd 413 = 44 from rfl) rfl) (show kd 413 = 44 from rfl) rfl) (show kd 413 = 44 from rfl) rfl)  (Or.inr (by have h6 : (ju (ju (ju (ju (ju M 413 7 i) 413 8 i) 413 11 v7) 413 6 4) 413 8 (i + 1)) 413 6 = 4 := ((ju_i _ _ (by decide)).trans (ju_same _ _ _ _)); have h7 : (ju (ju (ju (ju (ju M 413 7 i) 413 8 i) 413 11 v7) 413 6 4) 413 8 (i + 1)) 413 7 = i := ((ju_i _ _ (by decide)).trans ((ju_i _ _ (by decide)).trans ((ju_i _ _ (by decide)).trans ((ju_i _ _ (by decide)).trans (ju_same _ _ _ _))))); have h8 : (ju (ju (ju (ju (ju M 413 7 i) 413 8 i) 413 11 v7) 413 6 4) 413 8 (i + 1)) 413 8 = i + 1 := (ju_same _ _ _ _); have h11 : (ju (ju (ju (ju (ju M 413 7 i) 413 8 i) 413 11 v7) 413 6 4) 413 8 (i + 1)) 413 11 = v7 := ((ju_i _ _ (by decide)).trans ((ju_i _ _ (by decide)).trans (ju_same _ _ _ _))); have zs := zsg_i (c := v7) w9_0 w9_1; have zl := zla_nl (f := f) (N := N) (i := i) (by omega) (by omega) (by omega); exact TKc.cast (TKc.s (v := i) (c := v7) (TXc.fr hy1 (FR.o (FR.o (FR.o (FR.o (FR.o (FR.rfl [(44, 6), (44, 7), (44, 8), (44, 11)] M) (show kd 413 = 44 from rfl) rfl) (show kd 413 = 44 from rfl) rfl) (show kd 413 = 44 from rfl) rfl) (show kd 413 = 44 from rfl) rfl) (show kd 413 = 44 from rfl) rfl) rfl) (by omega) (by omega) (by omega) (by omega) (by omega) h7 h8 h11 (by rw [h6]; first | exact (if_pos (zs.2 (by omega))).symm | exact (if_neg (by rw [zs.1 (by omega)]; decide)).symm)) ((show zsp zbl f N i = i from by first | exact zsp_e (by omega) | exact zsp_no (fun z => by have z2 := zbl_r z.2; omega)).symm.trans hy2))) (by have h8 : (ju (ju (ju (ju (ju M 413 7 i) 413 8 i) 413 11 v7) 413 6 4) 413 8 (i + 1)) 413 8 = i + 1 := (ju_same _ _ _ _); have h6 : (ju (ju (ju (ju (ju M 413 7 i) 413 8 i) 413 11 v7) 413 6 4) 413 8 (i + 1)) 413 6 = 4 := ((ju_i _ _ (by decide)).trans (ju_same _ _ _ _)); have h7 : (ju (ju (ju (ju (ju M 413 7 i) 413 8 i) 413 11 v7) 413 6 4) 413 8 (i + 1)) 413 7 = i := ((ju_i _ _ (by decide)).trans ((ju_i _ _ (by decide)).trans ((ju_i _ _ (by decide)).trans ((ju_i _ _ (by decide)).trans (ju_same _ _ _ _))))); omega))
            · refine jr.iconst rfl ?_
              refine jr.goto rfl rfl ?_
              refine jr.putf (i := 6) (x := 3) rfl rfl (by decide) rfl (by decide) rfl rfl rfl rfl rfl ?_
              refine jr.aload_n rfl rfl ?_
              refine jr.iload_n rfl rfl ?_
              refine jr.iconst rfl ?_
              refine jr.iadd rfl ?_
              refine jr.putf (i := 8) (x := (i + 1)) rfl rfl (by decide) rfl (by decide) rfl rfl rfl rfl rfl ?_
              exact jr.vreturn rfl rfl (q _ (CI.u (CI.u (CI.u (CI.u (CI.u hC_M (i := 7) (show kd 413 = 44 from rfl) (show (0 : Int) ≤ _ ∧ _ ≤ (1600 : Int) from by omega) rfl) (i := 8) (show kd 413 = 44 from rfl) (show (0 : Int) ≤ _ ∧ _ ≤ (1600 : Int) from by omega) rfl) (i := 11) (show kd 413 = 44 from rfl) (show (0 : Int) ≤ _ ∧ _ ≤ (255 : Int) from by omega) rfl) (i := 6) (show kd 413 = 44 from rfl) (show (-2147483648 : Int) ≤ _ ∧ _ ≤ (2147483647 : Int) from by omega) rfl) (i := 8) (show kd 413 = 44 from rfl) (show (0 : Int) ≤ _ ∧ _ ≤ (1600 : Int) from by omega) rfl) (FR.o (FR.o (FR.o (FR.o (FR.o ht_M (show kd 413 = 44 from rfl) rfl) (show kd 413 = 44 from rfl) rfl) (show kd 413 = 44 from rfl) rfl) (show kd 413 = 44 from rfl) rfl) (show kd 413 = 44 from rfl) rfl)  (Or.inr (by have h6 : (ju (ju (ju (ju (ju M 413 7 i) 413 8 i) 413 11 v7) 413 6 3) 413 8 (i + 1)) 413 6 = 3 := ((ju_i _ _ (by decide)).trans (ju_same _ _ _ _)); have h7 : (ju (ju (ju (ju (ju M 413 7 i) 413 8 i) 413 11 v7) 413 6 3) 413 8 (i + 1)) 413 7 = i := ((ju_i _ _ (by decide)).trans ((ju_i _ _ (by decide)).trans ((ju_i _ _ (by decide)).trans ((ju_i _ _ (by decide)).trans (ju_same _ _ _ _))))); have h8 : (ju (ju (ju (ju (ju M 413 7 i) 413 8 i) 413 11 v7) 413 6 3) 413 8 (i + 1)) 413 8 = i + 1 := (ju_same _ _ _ _); have h11 : (ju (ju (ju (ju (ju M 413 7 i) 413 8 i) 413 11 v7) 413 6 3) 413 8 (i + 1)) 413 11 = v7 := ((ju_i _ _ (by decide)).trans ((ju_i _ _ (by decide)).trans (ju_same _ _ _ _))); have zs := zsg_i (c := v7) w9_0 w9_1; have zl := zla_nl (f := f) (N := N) (i := i) (by omega) (by omega) (by omega); exact TKc.cast (TKc.s (v := i) (c := v7) (TXc.fr hy1 (FR.o (FR.o (FR.o (FR.o (FR.o (FR.rfl [(44, 6), (44, 7), (44, 8), (44, 11)] M) (show kd 413 = 44 from rfl) rfl) (show kd 413 = 44 from rfl) rfl) (show kd 413 = 44 from rfl) rfl) (show kd 413 = 44 from rfl) rfl) (show kd 413 = 44 from rfl) rfl) rfl) (by omega) (by omega) (by omega) (by omega) (by omega) h7 h8 h11 (by rw [h6]; first | exact (if_pos (zs.2 (by omega))).symm | exact (if_neg (by rw [zs.1 (by omega)]; decide)).symm)) ((show zsp zbl f N i = i from by first | exact zsp_e (by omega) | exact zsp_no (fun z => by have z2 := zbl_r z.2; omega)).symm.trans hy2))) (by have h8 : (ju (ju (ju (ju (ju M 413 7 i) 413 8 i) 413 11 v7) 413 6 3) 413 8 (i + 1)) 413 8 = i + 1 := (ju_same _ _ _ _); have h6 : (ju (ju (ju (ju (ju M 413 7 i) 413 8 i) 413 11 v7) 413 6 3) 413 8 (i + 1)) 413 6 = 3 := ((ju_i _ _ (by decide)).trans (ju_same _ _ _ _)); have h7 : (ju (ju (ju (ju (ju M 413 7 i) 413 8 i) 413 11 v7) 413 6 3) 413 8 (i + 1)) 413 7 = i := ((ju_i _ _ (by decide)).trans ((ju_i _ _ (by decide)).trans ((ju_i _ _ (by decide)).trans ((ju_i _ _ (by decide)).trans (ju_same _ _ _ _))))); omega))
          · refine jr.aload_n rfl rfl ?_
            refine jr_v rfl rfl (Or.inl rfl) rfl rfl (by decide) rfl ⟨rfl, Nat.le_of_ble_eq_true rfl, Nat.le_of_ble_eq_true rfl⟩ rfl (jc.deep (c_Parser_takeNumber_z (CI.u (CI.u hC_M (i := 7) (show kd 413 = 44 from rfl) (show (0 : Int) ≤ _ ∧ _ ≤ (1600 : Int) from by omega) rfl) (i := 8) (show kd 413 = 44 from rfl) (show (0 : Int) ≤ _ ∧ _ ≤ (1600 : Int) from by omega) rfl) (FR.rfl _ ((ju (ju M 413 7 i) 413 8 i)))  ((ju_i _ _ (by decide)).trans (ju_same _ _ _ _)) (ju_same _ _ _ _) (by have hq0 : (ju (ju M 413 7 i) 413 8 i) 413 3 = v1 := ((ju_i _ _ (by decide)).trans ((ju_i _ _ (by decide)).trans e1)); omega) (TXc.fr hy1 (FR.o (FR.o (FR.rfl [(44, 7), (44, 8)] M) (show kd 413 = 44 from rfl) rfl) (show kd 413 = 44 from rfl) rfl) rfl) (by omega) (by omega) (fun M10 hC_M10 hf_M10 w10_0 w10_1 w10_2 => ?_)) (by decide))
            have ht_M10 : FR W_c_Parser_advance_w T M10 := FR.t (FR.o (FR.o ht_M (show kd 413 = 44 from rfl) rfl) (show kd 413 = 44 from rfl) rfl) hf_M10 (kw_sub rfl)
            refine jr.goto rfl rfl ?_
            have e11 : M10 413 7 = i := (hf_M10.g (show kd 413 = 44 from rfl) rfl).trans ((ju_i _ _ (by decide)).trans (ju_same _ _ _ _))
            obtain ⟨v12, e12⟩ : ∃ z_, M10 413 8 = z_ := ⟨_, rfl⟩
            have b12 : 0 ≤ v12 ∧ v12 ≤ 1600 := by rw [← e12]; exact (CI.r hC_M10 (show kd 413 = 44 from rfl) (by decide) 8)
            obtain ⟨v13, e13⟩ : ∃ z_, M10 413 6 = z_ := ⟨_, rfl⟩
            have b13 : (-2147483648) ≤ v13 ∧ v13 ≤ 2147483647 := by rw [← e13]; exact (CI.r hC_M10 (show kd 413 = 44 from rfl) (by decide) 6)
            exact jr.vreturn rfl rfl (q _ hC_M10 ht_M10  (Or.inr (TKc.cast (TKc.d (v := i) (TXc.fr (TXc.fr hy1 (FR.o (FR.o (FR.rfl [(44, 7), (44, 8)] M) (show kd 413 = 44 from rfl) rfl) (show kd 413 = 44 from rfl) rfl) rfl) hf_M10 rfl) (by omega) (by omega) (zla_nl (f := f) (N := N) (by omega) (by omega) (by omega)) (by omega) (by have h7 : M10 413 7 = i := e11; rw [h7]) w10_0 w10_1 w10_2) ((show zsp zbl f N i = i from by first | exact zsp_e (by omega) | exact zsp_no (fun z => by have z2 := zbl_r z.2; omega)).symm.trans hy2))) (by have h8 : M10 413 8 = v12 := e12; have h6 : M10 413 6 = v13 := e13; have h7 : M10 413 7 = i := e11; have hz := w10_0; have hz1 := w10_1; have hl := zsp_le zdg f N i (by omega); omega))
        · refine jr.pick [1] rfl rfl ?_
          exact c_Parser_advance_w_L83  q 1600 ((ju (ju M 413 7 i) 413 8 i))  (CI.u (CI.u hC_M (i := 7) (show kd 413 = 44 from rfl) (show (0 : Int) ≤ _ ∧ _ ≤ (1600 : Int) from by omega) rfl) (i := 8) (show kd 413 = 44 from rfl) (show (0 : Int) ≤ _ ∧ _ ≤ (1600 : Int) from by omega) rfl) (FR.o (FR.o ht_M (show kd 413 = 44 from rfl) rfl) (show kd 413 = 44 from rfl) rfl)  (by have hq0 : (ju (ju M 413 7 i) 413 8 i) 413 3 = v1 := ((ju_i _ _ (by decide)).trans ((ju_i _ _ (by decide)).trans e1)); omega) (TXc.fr hy1 (FR.o (FR.o (FR.rfl [(44, 7), (44, 8)] M) (show kd 413 = 44 from rfl) rfl) (show kd 413 = 44 from rfl) rfl) rfl) (by have h7 : (ju (ju M 413 7 i) 413 8 i) 413 7 = i := ((ju_i _ _ (by decide)).trans (ju_same _ _ _ _)); have h8 : (ju (ju M 413 7 i) 413 8 i) 413 8 = i := (ju_same _ _ _ _); rw [h7, h8]) (by have h7 : (ju (ju M 413 7 i) 413 8 i) 413 7 = i := ((ju_i _ _ (by decide)).trans (ju_same _ _ _ _)); rw [h7]; exact ((show zsp zbl f N i = i from by first | exact zsp_e (by omega) | exact zsp_no (fun z => by have z2 := zbl_r z.2; omega)).symm.trans hy2)) (by have h7 : (ju (ju M 413 7 i) 413 8 i) 413 7 = i := ((ju_i _ _ (by decide)).trans (ju_same _ _ _ _)); rw [h7]; have z := zla_ye (f := f) (N := N) (i := i) (by omega); exact ⟨z.1.2, zlt_t z.2⟩) (by have hq0 : (ju (ju M 413 7 i) 413 8 i) 413 7 = i := ((ju_i _ _ (by decide)).trans (ju_same _ _ _ _)); have hq1 : (ju (ju M 413 7 i) 413 8 i) 413 8 = i := (ju_same _ _ _ _); omega) (by omega) (by have hq0 : (ju (ju M 413 7 i) 413 8 i) 413 8 = i := (ju_same _ _ _ _); omega)
      · refine jr.aload_n rfl rfl ?_
        refine jr.iconst rfl ?_
        refine jr.putf (i := 6) (x := 0) rfl rfl (by decide) rfl (by decide) rfl rfl rfl rfl rfl ?_
        refine jr.goto rfl rfl ?_
        exact jr.vreturn rfl rfl (q _ (CI.u (CI.u (CI.u hC_M (i := 7) (show kd 413 = 44 from rfl) (show (0 : Int) ≤ _ ∧ _ ≤ (1600 : Int) from by omega) rfl) (i := 8) (show kd 413 = 44 from rfl) (show (0 : Int) ≤ _ ∧ _ ≤ (1600 : Int) from by omega) rfl) (i := 6) (show kd 413 = 44 from rfl) (show (-2147483648 : Int) ≤ _ ∧ _ ≤ (2147483647 : Int) from by omega) rfl) (FR.o (FR.o (FR.o ht_M (show kd 413 = 44 from rfl) rfl) (show kd 413 = 44 from rfl) rfl) (show kd 413 = 44 from rfl) rfl)  (Or.inr (by have h6 : (ju (ju (ju M 413 7 i) 413 8 i) 413 6 0) 413 6 = 0 := (ju_same _ _ _ _); have h7 : (ju (ju (ju M 413 7 i) 413 8 i) 413 6 0) 413 7 = i := ((ju_i _ _ (by decide)).trans ((ju_i _ _ (by decide)).trans (ju_same _ _ _ _))); have h8 : (ju (ju (ju M 413 7 i) 413 8 i) 413 6 0) 413 8 = i := ((ju_i _ _ (by decide)).trans (ju_same _ _ _ _)); exact TKc.cast (TKc.e (v := i) (TXc.fr hy1 (FR.o (FR.o (FR.o (FR.rfl [(44, 6), (44, 7), (44, 8)] M) (show kd 413 = 44 from rfl) rfl) (show kd 413 = 44 from rfl) rfl) (show kd 413 = 44 from rfl) rfl) rfl) h7 h8 h6 (by omega) (by omega) (by omega)) ((show zsp zbl f N i = i from by first | exact zsp_e (by omega) | exact zsp_no (fun z => by have z2 := zbl_r z.2; omega)).symm.trans hy2))) (by have h8 : (ju (ju (ju M 413 7 i) 413 8 i) 413 6 0) 413 8 = i := ((ju_i _ _ (by decide)).trans (ju_same _ _ _ _)); have h6 : (ju (ju (ju M 413 7 i) 413 8 i) 413 6 0) 413 6 = 0 := (ju_same _ _ _ _); have h7 : (ju (ju (ju M 413 7 i) 413 8 i) 413 6 0) 413 7 = i := ((ju_i _ _ (by decide)).trans ((ju_i _ _ (by decide)).trans (ju_same _ _ _ _))); omega))
    · refine jr.aload_n rfl rfl ?_
      have k14 : kd (v1).toNat = 43 := by rcases (show v1 = 1 by omega) with h <;> (rw [h]; rfl)
      refine jr.getf (i := 3) (x := v1) (v := .ref (v1.toNat)) rfl rfl (by decide) rfl (by decide) rfl rfl e1 rfl ?_
      refine jr.iload_n rfl rfl ?_
      obtain ⟨v15, e15⟩ : ∃ z_, M ((v1.toNat)) i = z_ := ⟨_, rfl⟩
      have b15 : 0 ≤ v15 ∧ v15 ≤ 255 := by rw [← e15]; exact (CI.r hC_M k14 (by decide) i)
      refine jr.iald (i := i) (x := v15) rfl (Nat.lt_trans (kx_43 k14).1 (by decide)) (kx_43 k14).2 (by decide) (by omega) (by omega) e15 ?_
      have hf16 : v15 = f i := by rw [← e15, show (v1.toNat) = 1 by omega]; exact hy1.2 i (by omega) (by omega)
      refine jr.bipush rfl (by decide) ?_
      refine jr.icmp_eq rfl rfl (by omega) (by omega) (fun h29 => ?_) (fun h29 => ?_)
      · refine jr.iinc rfl rfl (by decide) rfl ?_
        refine jr.goto rfl rfl ?_
        refine jr.pick [0, 1] rfl rfl ?_
        exact ih (nM - 1) (by omega) M (i + 1) hC_M ht_M (by omega) (by have hq0 : M 413 3 = v1 := e1; omega) hy1 ((zsp_go (by omega) (zbl_t (by omega))).symm.trans hy2) (by omega) (by omega) (by omega)
      · refine jr.aload_n rfl rfl ?_
        have k17 : kd (v1).toNat = 43 := by rcases (show v1 = 1 by omega) with h <;> (rw [h]; rfl)
        refine jr.getf (i := 3) (x := v1) (v := .ref (v1.toNat)) rfl rfl (by decide) rfl (by decide) rfl rfl e1 rfl ?_
        refine jr.iload_n rfl rfl ?_
        refine jr.iald (i := i) (x := v15) rfl (Nat.lt_trans (kx_43 k17).1 (by decide)) (kx_43 k17).2 (by decide) (by omega) (by omega) e15 ?_
        have hf18 : v15 = f i := by rw [← e15, show (v1.toNat) = 1 by omega]; exact hy1.2 i (by omega) (by omega)
        refine jr.bipush rfl (by decide) ?_
        refine jr.icmp_ne rfl rfl (by omega) (by omega) (fun h40 => ?_) (fun h40 => ?_)
        · refine jr.aload_n rfl rfl ?_
          refine jr.iload_n rfl rfl ?_
          refine jr.putf (i := 7) (x := i) rfl rfl (by decide) rfl (by decide) rfl rfl rfl rfl rfl ?_
          refine jr.aload_n rfl rfl ?_
          refine jr.iload_n rfl rfl ?_
          refine jr.putf (i := 8) (x := i) rfl rfl (by decide) rfl (by decide) rfl rfl rfl rfl rfl ?_
          refine jr.iload_n rfl rfl ?_
          refine jr.aload_n rfl rfl ?_
          refine jr.getf (i := 4) (x := v3) (v := .int (Int32.ofInt (v3))) rfl rfl (by decide) rfl (by decide) rfl rfl ((ju_i _ _ (by decide)).trans ((ju_i _ _ (by decide)).trans e3)) rfl ?_
          refine jr.icmp_lt rfl rfl (by omega) (by omega) (fun h64 => ?_) (fun h64 => ?_)
          · refine jr.aload_n rfl rfl ?_
            refine jr.iload_n rfl rfl ?_
            refine jr_v rfl rfl (Or.inl rfl) rfl rfl (by decide) rfl ⟨rfl, Nat.le_of_ble_eq_true rfl, Nat.le_of_ble_eq_true rfl⟩ rfl (jc.deep (c_Parser_letterAt_z (CI.u (CI.u hC_M (i := 7) (show kd 413 = 44 from rfl) (show (0 : Int) ≤ _ ∧ _ ≤ (1600 : Int) from by omega) rfl) (i := 8) (show kd 413 = 44 from rfl) (show (0 : Int) ≤ _ ∧ _ ≤ (1600 : Int) from by omega) rfl) (by omega) (by have hq0 : (ju (ju M 413 7 i) 413 8 i) 413 3 = v1 := ((ju_i _ _ (by decide)).trans ((ju_i _ _ (by decide)).trans e1)); omega) (TXc.fr hy1 (FR.o (FR.o (FR.rfl [(44, 7), (44, 8)] M) (show kd 413 = 44 from rfl) rfl) (show kd 413 = 44 from rfl) rfl) rfl) (fun r19 z19 w19_0 => ?_)) (by decide))
            refine jr.if_eq rfl rfl (by omega) (fun h80 => ?_) (fun h80 => ?_)
            · refine jr.aload_n rfl rfl ?_
              refine jr.iload_n rfl rfl ?_
              refine jr_v rfl rfl (Or.inl rfl) rfl rfl (by decide) rfl ⟨rfl, Nat.le_of_ble_eq_true rfl, Nat.le_of_ble_eq_true rfl⟩ rfl (jc.deep (c_Parser_isDigitAt_z (CI.u (CI.u hC_M (i := 7) (show kd 413 = 44 from rfl) (show (0 : Int) ≤ _ ∧ _ ≤ (1600 : Int) from by omega) rfl) (i := 8) (show kd 413 = 44 from rfl) (show (0 : Int) ≤ _ ∧ _ ≤ (1600 : Int) from by omega) rfl) (by omega) (by have hq0 : (ju (ju M 413 7 i) 413 8 i) 413 3 = v1 := ((ju_i _ _ (by decide)).trans ((ju_i _ _ (by decide)).trans e1)); omega) (TXc.fr hy1 (FR.o (FR.o (FR.rfl [(44, 7), (44, 8)] M) (show kd 413 = 44 from rfl) rfl) (show kd 413 = 44 from rfl) rfl) rfl) (fun r20 z20 w20_0 => ?_)) (by decide))
              refine jr.if_eq rfl rfl (by omega) (fun h159 => ?_) (fun h159 => ?_)
              · refine jr.aload_n rfl rfl ?_
                refine jr.aload_n rfl rfl ?_
                have k21 : kd (v1).toNat = 43 := by rcases (show v1 = 1 by omega) with h <;> (rw [h]; rfl)
                refine jr.getf (i := 3) (x := v1) (v := .ref (v1.toNat)) rfl rfl (by decide) rfl (by decide) rfl rfl ((ju_i _ _ (by decide)).trans ((ju_i _ _ (by decide)).trans e1)) rfl ?_
                refine jr.iload_n rfl rfl ?_
                refine jr.iald (i := i) (x := v15) rfl (Nat.lt_trans (kx_43 k21).1 (by decide)) (kx_43 k21).2 (by decide) (by omega) (by omega) ((ju_c _ _ (kd_ne (by rw [k21, (show kd 413 = 44 from rfl)]; decide))).trans ((ju_c _ _ (kd_ne (by rw [k21, (show kd 413 = 44 from rfl)]; decide))).trans e15)) ?_
                have hf22 : v15 = f i := by rw [← e15, show (v1.toNat) = 1 by omega]; exact hy1.2 i (by omega) (by omega)
                refine jr.i2c rfl ?_
                rw [j_c_ex (x := v15) (by omega)]
                refine jr.putf (i := 11) (x := v15) rfl rfl (by decide) rfl (by decide) rfl rfl rfl (j_cr (by omega)) (j_fc (by omega)) ?_
                refine jr.aload_n rfl rfl ?_
                refine jr.ldcs (a := 1000101) rfl rfl ?_
                refine jr.aload_n rfl rfl ?_
                refine jr.getf (i := 11) (x := v15) (v := .int (Int32.ofInt (v15))) rfl rfl (by decide) rfl (by decide) rfl rfl (ju_same _ _ _ _) rfl ?_
                refine jr_v8 rfl rfl rfl (show sK 1000101 = true from rfl) ⟨Nat.le_of_ble_eq_true rfl, Nat.le_of_ble_eq_true rfl⟩ rfl (jc.deep (c_java_lang_String_indexOf_409_z (CI.u (CI.u (CI.u hC_M (i := 7) (show kd 413 = 44 from rfl) (show (0 : Int) ≤ _ ∧ _ ≤ (1600 : Int) from by omega) rfl) (i := 8) (show kd 413 = 44 from rfl) (show (0 : Int) ≤ _ ∧ _ ≤ (1600 : Int) from by omega) rfl) (i := 11) (show kd 413 = 44 from rfl) (show (0 : Int) ≤ _ ∧ _ ≤ (255 : Int) from by omega) rfl) (show sK 1000101 = true from rfl) (by omega) (fun r23 z23 w23_0 w23_1 => ?_)) (by decide))
                simp only [Nat.reduceAdd] at w23_0
                simp only [Nat.reduceAdd] at w23_1
                refine jr.if_lt rfl rfl (by omega) (fun h190 => ?_) (fun h190 => ?_)
                · refine jr.iconst rfl ?_
                  refine jr.putf (i := 6) (x := 4) rfl rfl (by decide) rfl (by decide) rfl rfl rfl rfl rfl ?_
                  refine jr.aload_n rfl rfl ?_
                  refine jr.iload_n rfl rfl ?_
                  refine jr.iconst rfl ?_
                  refine jr.iadd rfl ?_
                  refine jr.putf (i := 8) (x := (i + 1)) rfl rfl (by decide) rfl (by decide) rfl rfl rfl rfl rfl ?_
                  exact jr.vreturn rfl rfl (q _ (CI.u (CI.u (CI.u (CI.u (CI.u hC_M (i := 7) (show kd 413 = 44 from rfl) (show (0 : Int) ≤ _ ∧ _ ≤ (1600 : Int) from by omega) rfl) (i := 8) (show kd 413 = 44 from rfl) (show (0 : Int) ≤ _ ∧ _ ≤ (1600 : Int) from by omega) rfl) (i := 11) (show kd 413 = 44 from rfl) (show (0 : Int) ≤ _ ∧ _ ≤ (255 : Int) from by omega) rfl) (i := 6) (show kd 413 = 44 from rfl) (show (-2147483648 : Int) ≤ _ ∧ _ ≤ (2147483647 : Int) from by omega) rfl) (i := 8) (show kd 413 = 44 from rfl) (show (0 : Int) ≤ _ ∧ _ ≤ (1600 : Int) from by omega) rfl) (FR.o (FR.o (FR.o (FR.o (FR.o ht_M (show kd 413 = 44 from rfl) rfl) (show kd 413 = 44 from rfl) rfl) (show kd 413 = 44 from rfl) rfl) (show kd 413 = 44 from rfl) rfl) (show kd 413 = 44 from rfl) rfl)  (Or.inr (by have h6 : (ju (ju (ju (ju (ju M 413 7 i) 413 8 i) 413 11 v15) 413 6 4) 413 8 (i + 1)) 413 6 = 4 := ((ju_i _ _ (by decide)).trans (ju_same _ _ _ _)); have h7 : (ju (ju (ju (ju (ju M 413 7 i) 413 8 i) 413 11 v15) 413 6 4) 413 8 (i + 1)) 413 7 = i := ((ju_i _ _ (by decide)).trans ((ju_i _ _ (by decide)).trans ((ju_i _ _ (by decide)).trans ((ju_i _ _ (by decide)).trans (ju_same _ _ _ _))))); have h8 : (ju (ju (ju (ju (ju M 413 7 i) 413 8 i) 413 11 v15) 413 6 4) 413 8 (i + 1)) 413 8 = i + 1 := (ju_same _ _ _ _); have h11 : (ju (ju (ju (ju (ju M 413 7 i) 413 8 i) 413 11 v15) 413 6 4) 413 8 (i + 1)) 413 11 = v15 := ((ju_i _ _ (by decide)).trans ((ju_i _ _ (by decide)).trans (ju_same _ _ _ _))); have zs := zsg_i (c := v15) w23_0 w23_1; have zl := zla_nl (f := f) (N := N) (i := i) (by omega) (by omega) (by omega); exact TKc.cast (TKc.s (v := i) (c := v15) (TXc.fr hy1 (FR.o (FR.o (FR.o (FR.o (FR.o (FR.rfl [(44, 6), (44, 7), (44, 8), (44, 11)] M) (show kd 413 = 44 from rfl) rfl) (show kd 413 = 44 from rfl) rfl) (show kd 413 = 44 from rfl) rfl) (show kd 413 = 44 from rfl) rfl) (show kd 413 = 44 from rfl) rfl) rfl) (by omega) (by omega) (by omega) (by omega) (by omega) h7 h8 h11 (by rw [h6]; first | exact (if_pos (zs.2 (by omega))).symm | exact (if_neg (by rw [zs.1 (by omega)]; decide)).symm)) ((show zsp zbl f N i = i from by first | exact zsp_e (by omega) | exact zsp_no (fun z => by have z2 := zbl_r z.2; omega)).symm.trans hy2))) (by have h8 : (ju (ju (ju (ju (ju M 413 7 i) 413 8 i) 413 11 v15) 413 6 4) 413 8 (i + 1)) 413 8 = i + 1 := (ju_same _ _ _ _); have h6 : (ju (ju (ju (ju (ju M 413 7 i) 413 8 i) 413 11 v15) 413 6 4) 413 8 (i + 1)) 413 6 = 4 := ((ju_i _ _ (by decide)).trans (ju_same _ _ _ _)); have h7 : (ju (ju (ju (ju (ju M 413 7 i) 413 8 i) 413 11 v15) 413 6 4) 413 8 (i + 1)) 413 7 = i := ((ju_i _ _ (by decide)).trans ((ju_i _ _ (by decide)).trans ((ju_i _ _ (by decide)).trans ((ju_i _ _ (by decide)).trans (ju_same _ _ _ _))))); omega))
                · refine jr.iconst rfl ?_
                  refine jr.goto rfl rfl ?_
                  refine jr.putf (i := 6) (x := 3) rfl rfl (by decide) rfl (by decide) rfl rfl rfl rfl rfl ?_
                  refine jr.aload_n rfl rfl ?_
                  refine jr.iload_n rfl rfl ?_
                  refine jr.iconst rfl ?_
                  refine jr.iadd rfl ?_
                  refine jr.putf (i := 8) (x := (i + 1)) rfl rfl (by decide) rfl (by decide) rfl rfl rfl rfl rfl ?_
                  exact jr.vreturn rfl rfl (q _ (CI.u (CI.u (CI.u (CI.u (CI.u hC_M (i := 7) (show kd 413 = 44 from rfl) (show (0 : Int) ≤ _ ∧ _ ≤ (1600 : Int) from by omega) rfl) (i := 8) (show kd 413 = 44 from rfl) (show (0 : Int) ≤ _ ∧ _ ≤ (1600 : Int) from by omega) rfl) (i := 11) (show kd 413 = 44 from rfl) (show (0 : Int) ≤ _ ∧ _ ≤ (255 : Int) from by omega) rfl) (i := 6) (show kd 413 = 44 from rfl) (show (-2147483648 : Int) ≤ _ ∧ _ ≤ (2147483647 : Int) from by omega) rfl) (i := 8) (show kd 413 = 44 from rfl) (show (0 : Int) ≤ _ ∧ _ ≤ (1600 : Int) from by omega) rfl) (FR.o (FR.o (FR.o (FR.o (FR.o ht_M (show kd 413 = 44 from rfl) rfl) (show kd 413 = 44 from rfl) rfl) (show kd 413 = 44 from rfl) rfl) (show kd 413 = 44 from rfl) rfl) (show kd 413 = 44 from rfl) rfl)  (Or.inr (by have h6 : (ju (ju (ju (ju (ju M 413 7 i) 413 8 i) 413 11 v15) 413 6 3) 413 8 (i + 1)) 413 6 = 3 := ((ju_i _ _ (by decide)).trans (ju_same _ _ _ _)); have h7 : (ju (ju (ju (ju (ju M 413 7 i) 413 8 i) 413 11 v15) 413 6 3) 413 8 (i + 1)) 413 7 = i := ((ju_i _ _ (by decide)).trans ((ju_i _ _ (by decide)).trans ((ju_i _ _ (by decide)).trans ((ju_i _ _ (by decide)).trans (ju_same _ _ _ _))))); have h8 : (ju (ju (ju (ju (ju M 413 7 i) 413 8 i) 413 11 v15) 413 6 3) 413 8 (i + 1)) 413 8 = i + 1 := (ju_same _ _ _ _); have h11 : (ju (ju (ju (ju (ju M 413 7 i) 413 8 i) 413 11 v15) 413 6 3) 413 8 (i + 1)) 413 11 = v15 := ((ju_i _ _ (by decide)).trans ((ju_i _ _ (by decide)).trans (ju_same _ _ _ _))); have zs := zsg_i (c := v15) w23_0 w23_1; have zl := zla_nl (f := f) (N := N) (i := i) (by omega) (by omega) (by omega); exact TKc.cast (TKc.s (v := i) (c := v15) (TXc.fr hy1 (FR.o (FR.o (FR.o (FR.o (FR.o (FR.rfl [(44, 6), (44, 7), (44, 8), (44, 11)] M) (show kd 413 = 44 from rfl) rfl) (show kd 413 = 44 from rfl) rfl) (show kd 413 = 44 from rfl) rfl) (show kd 413 = 44 from rfl) rfl) (show kd 413 = 44 from rfl) rfl) rfl) (by omega) (by omega) (by omega) (by omega) (by omega) h7 h8 h11 (by rw [h6]; first | exact (if_pos (zs.2 (by omega))).symm | exact (if_neg (by rw [zs.1 (by omega)]; decide)).symm)) ((show zsp zbl f N i = i from by first | exact zsp_e (by omega) | exact zsp_no (fun z => by have z2 := zbl_r z.2; omega)).symm.trans hy2))) (by have h8 : (ju (ju (ju (ju (ju M 413 7 i) 413 8 i) 413 11 v15) 413 6 3) 413 8 (i + 1)) 413 8 = i + 1 := (ju_same _ _ _ _); have h6 : (ju (ju (ju (ju (ju M 413 7 i) 413 8 i) 413 11 v15) 413 6 3) 413 8 (i + 1)) 413 6 = 3 := ((ju_i _ _ (by decide)).trans (ju_same _ _ _ _)); have h7 : (ju (ju (ju (ju (ju M 413 7 i) 413 8 i) 413 11 v15) 413 6 3) 413 8 (i + 1)) 413 7 = i := ((ju_i _ _ (by decide)).trans ((ju_i _ _ (by decide)).trans ((ju_i _ _ (by decide)).trans ((ju_i _ _ (by decide)).trans (ju_same _ _ _ _))))); omega))
              · refine jr.aload_n rfl rfl ?_
                refine jr_v rfl rfl (Or.inl rfl) rfl rfl (by decide) rfl ⟨rfl, Nat.le_of_ble_eq_true rfl, Nat.le_of_ble_eq_true rfl⟩ rfl (jc.deep (c_Parser_takeNumber_z (CI.u (CI.u hC_M (i := 7) (show kd 413 = 44 from rfl) (show (0 : Int) ≤ _ ∧ _ ≤ (1600 : Int) from by omega) rfl) (i := 8) (show kd 413 = 44 from rfl) (show (0 : Int) ≤ _ ∧ _ ≤ (1600 : Int) from by omega) rfl) (FR.rfl _ ((ju (ju M 413 7 i) 413 8 i)))  ((ju_i _ _ (by decide)).trans (ju_same _ _ _ _)) (ju_same _ _ _ _) (by have hq0 : (ju (ju M 413 7 i) 413 8 i) 413 3 = v1 := ((ju_i _ _ (by decide)).trans ((ju_i _ _ (by decide)).trans e1)); omega) (TXc.fr hy1 (FR.o (FR.o (FR.rfl [(44, 7), (44, 8)] M) (show kd 413 = 44 from rfl) rfl) (show kd 413 = 44 from rfl) rfl) rfl) (by omega) (by omega) (fun M24 hC_M24 hf_M24 w24_0 w24_1 w24_2 => ?_)) (by decide))
                have ht_M24 : FR W_c_Parser_advance_w T M24 := FR.t (FR.o (FR.o ht_M (show kd 413 = 44 from rfl) rfl) (show kd 413 = 44 from rfl) rfl) hf_M24 (kw_sub rfl)
                refine jr.goto rfl rfl ?_
                have e25 : M24 413 7 = i := (hf_M24.g (show kd 413 = 44 from rfl) rfl).trans ((ju_i _ _ (by decide)).trans (ju_same _ _ _ _))
                obtain ⟨v26, e26⟩ : ∃ z_, M24 413 8 = z_ := ⟨_, rfl⟩
                have b26 : 0 ≤ v26 ∧ v26 ≤ 1600 := by rw [← e26]; exact (CI.r hC_M24 (show kd 413 = 44 from rfl) (by decide) 8)
                obtain ⟨v27, e27⟩ : ∃ z_, M24 413 6 = z_ := ⟨_, rfl⟩
                have b27 : (-2147483648) ≤ v27 ∧ v27 ≤ 2147483647 := by rw [← e27]; exact (CI.r hC_M24 (show kd 413 = 44 from rfl) (by decide) 6)
                exact jr.vreturn rfl rfl (q _ hC_M24 ht_M24  (Or.inr (TKc.cast (TKc.d (v := i) (TXc.fr (TXc.fr hy1 (FR.o (FR.o (FR.rfl [(44, 7), (44, 8)] M) (show kd 413 = 44 from rfl) rfl) (show kd 413 = 44 from rfl) rfl) rfl) hf_M24 rfl) (by omega) (by omega) (zla_nl (f := f) (N := N) (by omega) (by omega) (by omega)) (by omega) (by have h7 : M24 413 7 = i := e25; rw [h7]) w24_0 w24_1 w24_2) ((show zsp zbl f N i = i from by first | exact zsp_e (by omega) | exact zsp_no (fun z => by have z2 := zbl_r z.2; omega)).symm.trans hy2))) (by have h8 : M24 413 8 = v26 := e26; have h6 : M24 413 6 = v27 := e27; have h7 : M24 413 7 = i := e25; have hz := w24_0; have hz1 := w24_1; have hl := zsp_le zdg f N i (by omega); omega))
            · refine jr.pick [1] rfl rfl ?_
              exact c_Parser_advance_w_L83  q 1600 ((ju (ju M 413 7 i) 413 8 i))  (CI.u (CI.u hC_M (i := 7) (show kd 413 = 44 from rfl) (show (0 : Int) ≤ _ ∧ _ ≤ (1600 : Int) from by omega) rfl) (i := 8) (show kd 413 = 44 from rfl) (show (0 : Int) ≤ _ ∧ _ ≤ (1600 : Int) from by omega) rfl) (FR.o (FR.o ht_M (show kd 413 = 44 from rfl) rfl) (show kd 413 = 44 from rfl) rfl)  (by have hq0 : (ju (ju M 413 7 i) 413 8 i) 413 3 = v1 := ((ju_i _ _ (by decide)).trans ((ju_i _ _ (by decide)).trans e1)); omega) (TXc.fr hy1 (FR.o (FR.o (FR.rfl [(44, 7), (44, 8)] M) (show kd 413 = 44 from rfl) rfl) (show kd 413 = 44 from rfl) rfl) rfl) (by have h7 : (ju (ju M 413 7 i) 413 8 i) 413 7 = i := ((ju_i _ _ (by decide)).trans (ju_same _ _ _ _)); have h8 : (ju (ju M 413 7 i) 413 8 i) 413 8 = i := (ju_same _ _ _ _); rw [h7, h8]) (by have h7 : (ju (ju M 413 7 i) 413 8 i) 413 7 = i := ((ju_i _ _ (by decide)).trans (ju_same _ _ _ _)); rw [h7]; exact ((show zsp zbl f N i = i from by first | exact zsp_e (by omega) | exact zsp_no (fun z => by have z2 := zbl_r z.2; omega)).symm.trans hy2)) (by have h7 : (ju (ju M 413 7 i) 413 8 i) 413 7 = i := ((ju_i _ _ (by decide)).trans (ju_same _ _ _ _)); rw [h7]; have z := zla_ye (f := f) (N := N) (i := i) (by omega); exact ⟨z.1.2, zlt_t z.2⟩) (by have hq0 : (ju (ju M 413 7 i) 413 8 i) 413 7 = i := ((ju_i _ _ (by decide)).trans (ju_same _ _ _ _)); have hq1 : (ju (ju M 413 7 i) 413 8 i) 413 8 = i := (ju_same _ _ _ _); omega) (by omega) (by have hq0 : (ju (ju M 413 7 i) 413 8 i) 413 8 = i := (ju_same _ _ _ _); omega)
          · refine jr.aload_n rfl rfl ?_
            refine jr.iconst rfl ?_
            refine jr.putf (i := 6) (x := 0) rfl rfl (by decide) rfl (by decide) rfl rfl rfl rfl rfl ?_
            refine jr.goto rfl rfl ?_
            exact jr.vreturn rfl rfl (q _ (CI.u (CI.u (CI.u hC_M (i := 7) (show kd 413 = 44 from rfl) (show (0 : Int) ≤ _ ∧ _ ≤ (1600 : Int) from by omega) rfl) (i := 8) (show kd 413 = 44 from rfl) (show (0 : Int) ≤ _ ∧ _ ≤ (1600 : Int) from by omega) rfl) (i := 6) (show kd 413 = 44 from rfl) (show (-2147483648 : Int) ≤ _ ∧ _ ≤ (2147483647 : Int) from by omega) rfl) (FR.o (FR.o (FR.o ht_M (show kd 413 = 44 from rfl) rfl) (show kd 413 = 44 from rfl) rfl) (show kd 413 = 44 from rfl) rfl)  (Or.inr (by have h6 : (ju (ju (ju M 413 7 i) 413 8 i) 413 6 0) 413 6 = 0 := (ju_same _ _ _ _); have h7 : (ju (ju (ju M 413 7 i) 413 8 i) 413 6 0) 413 7 = i := ((ju_i _ _ (by decide)).trans ((ju_i _ _ (by decide)).trans (ju_same _ _ _ _))); have h8 : (ju (ju (ju M 413 7 i) 413 8 i) 413 6 0) 413 8 = i := ((ju_i _ _ (by decide)).trans (ju_same _ _ _ _)); exact TKc.cast (TKc.e (v := i) (TXc.fr hy1 (FR.o (FR.o (FR.o (FR.rfl [(44, 6), (44, 7), (44, 8)] M) (show kd 413 = 44 from rfl) rfl) (show kd 413 = 44 from rfl) rfl) (show kd 413 = 44 from rfl) rfl) rfl) h7 h8 h6 (by omega) (by omega) (by omega)) ((show zsp zbl f N i = i from by first | exact zsp_e (by omega) | exact zsp_no (fun z => by have z2 := zbl_r z.2; omega)).symm.trans hy2))) (by have h8 : (ju (ju (ju M 413 7 i) 413 8 i) 413 6 0) 413 8 = i := ((ju_i _ _ (by decide)).trans (ju_same _ _ _ _)); have h6 : (ju (ju (ju M 413 7 i) 413 8 i) 413 6 0) 413 6 = 0 := (ju_same _ _ _ _); have h7 : (ju (ju (ju M 413 7 i) 413 8 i) 413 6 0) 413 7 = i := ((ju_i _ _ (by decide)).trans ((ju_i _ _ (by decide)).trans (ju_same _ _ _ _))); omega))
        · refine jr.iinc rfl rfl (by decide) rfl ?_
          refine jr.goto rfl rfl ?_
          refine jr.pick [0, 1] rfl rfl ?_
          exact ih (nM - 1) (by omega) M (i + 1) hC_M ht_M (by omega) (by have hq0 : M 413 3 = v1 := e1; omega) hy1 ((zsp_go (by omega) (zbl_t (by omega))).symm.trans hy2) (by omega) (by omega) (by omega)
theorem c_Parser_advance_w {A : Nat → Option (Nat × (Nat → Int32))} [HA A] {Q : Option Value → jm → Prop} {f : Int → Int} {N : Int} {T : jm} {M : jm} (hC_M : CI M) (ht_M : FR W_c_Parser_advance_w T M) {F : Int} (g_F : M 413 0 = F) {E : Int} (g_E : M 413 8 = E) (p0 : 1 ≤ M 413 3 ∧ M 413 3 ≤ 1) (p1 : TXc f N M) (p2 : M 413 8 ≤ N ∧ (F = 0 ∨ (M 413 6 = 1 → M 413 7 < M 413 8))) (q : ∀ (M' : jm), CI M' → FR W_c_Parser_advance_w T M' → (F ≠ 0 ∨ TKc f N (zsp zbl f N E) M') → (M' 413 8 ≤ N ∧ (M' 413 6 = 1 → M' 413 7 < M' 413 8)) → Q none M') : jc A 6 215 [.ref (413)] M Q := by
  refine jc_of (m := xm_215) rfl (Nat.le_of_ble_eq_true rfl) rfl ?_
  have b_F : (-2147483648) ≤ F ∧ F ≤ 2147483647 := by rw [← g_F]; exact (CI.r hC_M (show kd 413 = 44 from rfl) (by decide) 0)
  have b_E : 0 ≤ E ∧ E ≤ 1600 := by rw [← g_E]; exact (CI.r hC_M (show kd 413 = 44 from rfl) (by decide) 8)
  obtain ⟨v1, e1⟩ : ∃ z_, M 413 3 = z_ := ⟨_, rfl⟩
  have b1 : 1 ≤ v1 ∧ v1 ≤ 419 := by rw [← e1]; exact (CI.r hC_M (show kd 413 = 44 from rfl) (by decide) 3)
  have b2 : 1 ≤ v1 ∧ v1 ≤ 1 := by rw [← e1]; exact p0
  have e3 : M 413 8 = E := g_E
  obtain ⟨v4, e4⟩ : ∃ z_, M 413 6 = z_ := ⟨_, rfl⟩
  have b4 : (-2147483648) ≤ v4 ∧ v4 ≤ 2147483647 := by rw [← e4]; exact (CI.r hC_M (show kd 413 = 44 from rfl) (by decide) 6)
  obtain ⟨v5, e5⟩ : ∃ z_, M 413 7 = z_ := ⟨_, rfl⟩
  have b5 : 0 ≤ v5 ∧ v5 ≤ 1600 := by rw [← e5]; exact (CI.r hC_M (show kd 413 = 44 from rfl) (by decide) 7)
  refine jr.aload_n rfl rfl ?_
  refine jr.getf (i := 0) (x := F) (v := .int (Int32.ofInt (F))) rfl rfl (by decide) rfl (by decide) rfl rfl g_F rfl ?_
  refine jr.if_eq rfl rfl (by omega) (fun h4 => ?_) (fun h4 => ?_)
  · refine jr.aload_n rfl rfl ?_
    refine jr.getf (i := 8) (x := E) (v := .int (Int32.ofInt (E))) rfl rfl (by decide) rfl (by decide) rfl rfl g_E rfl ?_
    refine jr.istore_n rfl (by decide) rfl ?_
    refine jr.pick [0, 1] rfl rfl ?_
    exact c_Parser_advance_w_L13  q 1600 M E hC_M ht_M (by omega) (by have hq0 : M 413 3 = v1 := e1; omega) p1 (by rw [show E = E by omega]) (by omega) (by omega) (by omega)
  · exact jr.vreturn rfl rfl (q _ hC_M ht_M  (Or.inl (by omega)) (by have h8 : M 413 8 = E := g_E; have h6 : M 413 6 = v4 := e4; have h7 : M 413 7 = v5 := e5; omega))
noncomputable def W_c_Parser_advance_z : List (Nat × Nat) := [(44, 6), (44, 7), (44, 8), (44, 9), (44, 10), (44, 11)]
theorem c_Parser_advance_z {A : Nat → Option (Nat × (Nat → Int32))} [HA A] {Q : Option Value → jm → Prop} {f : Int → Int} {N : Int} {T : jm} {M : jm} (hC_M : CI M) (ht_M : FR W_c_Parser_advance_z T M) {F : Int} (g_F : M 413 0 = F) {E : Int} (g_E : M 413 8 = E) (p0 : 1 ≤ M 413 3 ∧ M 413 3 ≤ 1) (p1 : TXc f N M) (p2 : M 413 8 ≤ N ∧ (M 413 6 = 1 → M 413 7 < M 413 8)) (q : ∀ (M' : jm), CI M' → FR W_c_Parser_advance_z T M' → (F ≠ 0 ∨ TKc f N (zsp zbl f N E) M') → (M' 413 8 ≤ N ∧ (M' 413 6 = 1 → M' 413 7 < M' 413 8)) → Q none M') : jc A 6 215 [.ref (413)] M Q := 
  c_Parser_advance_w hC_M ht_M g_F g_E p0 p1 ⟨p2.1, Or.inr p2.2⟩ q
