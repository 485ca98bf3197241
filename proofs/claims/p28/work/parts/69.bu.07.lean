section
theorem c_Headers_pieceHeader_x {A : Nat → Option (Nat × (Nat → Int32))} {Q : Option Value → jm → Prop} {f : Int → Int} {N : Int} {M : jm} (hC_M : CI M) {t : Nat} (k_t : kd t = 18) {C : Int} (g_C : M t 3 = C) {F : Int} (g_F : M t 4 = F) (p0 : HS M t f N) (q : ∀ (r : Int), (-1) ≤ r ∧ r ≤ 11 → ((F ≠ 0 ∧ r = -1) ∨ (F = 0 ∧ r = pcf f N C)) → Q (some (.int (Int32.ofInt r))) M) : jc A 4 115 [.ref (t)] M Q := by
  refine jc_of (m := xm_115) rfl (Nat.le_of_ble_eq_true rfl) rfl ?_
  have b_C : 0 ≤ C ∧ C ≤ 12 := by rw [← g_C]; exact (CI.r hC_M k_t (by decide) 3)
  have b_F : (-2147483648) ≤ F ∧ F ≤ 2147483647 := by rw [← g_F]; exact (CI.r hC_M k_t (by decide) 4)
  refine jr.aload_n rfl rfl ?_
  refine jr.bipush rfl (by decide) ?_
  refine jr_v rfl rfl (Or.inl rfl) rfl rfl (Nat.lt_trans (kx_18 k_t).1 (by decide)) (kx_18 k_t).2 ⟨rfl, Nat.le_of_ble_eq_true rfl, Nat.le_of_ble_eq_true rfl⟩ rfl (jc.deep (c_Headers_firstOf_x hC_M k_t (by omega) g_C p0 (fun r1 z1 w1_0 => ?_)) (by decide))
  have hnt : r1 = -1 ∨ ((0 ≤ r1 ∧ r1 < C) ∧ (hX f N r1 = 2 ∨ hX f N r1 = 3)) := (by have hq := ntf_r (f := f) (N := N) (C := C) (by omega); rw [← w1_0] at hq; exact hq)
  refine jr.istore_n rfl (by decide) rfl ?_
  refine jr.aload_n rfl rfl ?_
  refine jr.getf (i := 4) (x := F) (v := .int (Int32.ofInt (F))) rfl rfl (Nat.lt_trans (kx_18 k_t).1 (by decide)) (kx_18 k_t).2 (by decide) rfl rfl g_F rfl ?_
  refine jr.if_ne rfl rfl (by omega) (fun h11 => ?_) (fun h11 => ?_)
  · refine jr.iconst rfl ?_
    exact jr.ireturn rfl rfl rfl (q _ (by omega) (by first | exact Or.inl ⟨by omega, rfl⟩ | exact Or.inr ⟨by omega, by unfold pcf; rw [if_pos (by omega)]⟩))
  · refine jr.iload_n rfl rfl ?_
    refine jr.iconst rfl ?_
    refine jr.icmp_ne rfl rfl (by omega) (by omega) (fun h16 => ?_) (fun h16 => ?_)
    · have sx16 : (0 : Int) ≤ r1 := by omega
      refine jr.aload_n rfl rfl ?_
      have k2 := kf_18_0 k_t
      refine jr.getf (i := 0) (v := .ref (t + 1)) rfl rfl (Nat.lt_trans (kx_18 k_t).1 (by decide)) (kx_18 k_t).2 (by decide) rfl rfl rfl (jval_ref rfl k2.1) ?_
      refine jr.iload_n rfl rfl ?_
      obtain ⟨v3, e3⟩ : ∃ z_, M ((t + 1)) r1 = z_ := ⟨_, rfl⟩
      have b3 : 0 ≤ v3 ∧ v3 ≤ 11 := by rw [← e3]; exact (CI.r hC_M k2.2 (by decide) r1)
      refine jr.iald (i := r1) (x := v3) rfl (Nat.lt_trans (kx_19 k2.2).1 (by decide)) (kx_19 k2.2).2 (by decide) (by omega) (by omega) e3 ?_
      have hn0 : 0 ≤ r1 ∧ r1 < C := (by have hq := ntf_r (f := f) (N := N) (C := C) (by omega); rw [← w1_0] at hq; omega)
      have hr := p0.2.2.2.2.1 r1 hn0.1 (by omega)
      have hkn : kA f N C r1 = hX f N r1 := kA_i hn0
      refine jr.iconst rfl ?_
      refine jr.icmp_ne rfl rfl (by omega) (by omega) (fun h28 => ?_) (fun h28 => ?_)
      · refine jr.aload_n rfl rfl ?_
        refine jr.iload_n rfl rfl ?_
        refine jr_v rfl rfl (Or.inl rfl) rfl rfl (Nat.lt_trans (kx_18 k_t).1 (by decide)) (kx_18 k_t).2 ⟨rfl, Nat.le_of_ble_eq_true rfl, Nat.le_of_ble_eq_true rfl⟩ rfl (jc.deep (c_Headers_innerOf_x hC_M k_t (by omega) g_C p0 (fun r4 z4 w4_0 => ?_)) (by decide))
        refine jr.istore_n rfl (by decide) rfl ?_
        refine jr.aload_n rfl rfl ?_
        refine jr.iload_n rfl rfl ?_
        refine jr_v rfl rfl (Or.inl rfl) rfl rfl (Nat.lt_trans (kx_18 k_t).1 (by decide)) (kx_18 k_t).2 ⟨rfl, Nat.le_of_ble_eq_true rfl, Nat.le_of_ble_eq_true rfl⟩ rfl (jc.deep (c_Headers_kindAt_x hC_M k_t (by omega) g_C p0 (fun r5 z5 w5_0 => ?_)) (by decide))
        refine jr.bipush rfl (by decide) ?_
        refine jr.icmp_ne rfl rfl (by omega) (by omega) (fun h66 => ?_) (fun h66 => ?_)
        · refine jr.iconst rfl ?_
          exact jr.ireturn rfl rfl rfl (q _ (by omega) (Or.inr ⟨by omega, by unfold pcf; rw [← w1_0, if_neg (by omega), if_neg (by omega), ← w4_0, ← w5_0]; first | (rw [if_pos (by omega)]) | (rw [if_neg (by omega)])⟩))
        · refine jr.iload_n rfl rfl ?_
          refine jr.goto rfl rfl ?_
          exact jr.ireturn rfl rfl rfl (q _ (by omega) (Or.inr ⟨by omega, by unfold pcf; rw [← w1_0, if_neg (by omega), if_neg (by omega), ← w4_0, ← w5_0]; first | (rw [if_pos (by omega)]) | (rw [if_neg (by omega)])⟩))
      · refine jr.aload_n rfl rfl ?_
        refine jr.iload_n rfl rfl ?_
        refine jr_v rfl rfl (Or.inl rfl) rfl rfl (Nat.lt_trans (kx_18 k_t).1 (by decide)) (kx_18 k_t).2 ⟨rfl, Nat.le_of_ble_eq_true rfl, Nat.le_of_ble_eq_true rfl⟩ rfl (jc.deep (c_Headers_isMoreToCome_x hC_M k_t (by omega) g_C p0 (fun r6 z6 w6_0 => ?_)) (by decide))
        refine jr.if_ne rfl rfl (by omega) (fun h36 => ?_) (fun h36 => ?_)
        · have sx36 : (1 : Int) ≤ r6 := by omega
          refine jr.iload_n rfl rfl ?_
          refine jr.goto rfl rfl ?_
          exact jr.ireturn rfl rfl rfl (q _ (by omega) (Or.inr ⟨by omega, by unfold pcf; rw [← w1_0, if_neg (by omega), if_pos (by omega)]; first | (rw [if_pos (Or.inl (by omega))]) | (rw [if_pos (Or.inr (by omega))]) | (rw [if_neg (by omega)])⟩))
        · refine jr.aload_n rfl rfl ?_
          refine jr.iload_n rfl rfl ?_
          refine jr_v rfl rfl (Or.inl rfl) rfl rfl (Nat.lt_trans (kx_18 k_t).1 (by decide)) (kx_18 k_t).2 ⟨rfl, Nat.le_of_ble_eq_true rfl, Nat.le_of_ble_eq_true rfl⟩ rfl (jc.deep (c_Headers_offsetOf_x hC_M k_t (by omega) g_C p0 (by omega) (by omega) (fun r7 z7 w7_0 => ?_)) (by decide))
          refine jr.if_le rfl rfl (by omega) (fun h44 => ?_) (fun h44 => ?_)
          · refine jr.iconst rfl ?_
            exact jr.ireturn rfl rfl rfl (q _ (by omega) (Or.inr ⟨by omega, by unfold pcf; rw [← w1_0, if_neg (by omega), if_pos (by omega)]; first | (rw [if_pos (Or.inl (by omega))]) | (rw [if_pos (Or.inr (by omega))]) | (rw [if_neg (by omega)])⟩))
          · refine jr.iload_n rfl rfl ?_
            refine jr.goto rfl rfl ?_
            exact jr.ireturn rfl rfl rfl (q _ (by omega) (Or.inr ⟨by omega, by unfold pcf; rw [← w1_0, if_neg (by omega), if_pos (by omega)]; first | (rw [if_pos (Or.inl (by omega))]) | (rw [if_pos (Or.inr (by omega))]) | (rw [if_neg (by omega)])⟩))
    · refine jr.iconst rfl ?_
      exact jr.ireturn rfl rfl rfl (q _ (by omega) (by first | exact Or.inl ⟨by omega, rfl⟩ | exact Or.inr ⟨by omega, by unfold pcf; rw [if_pos (by omega)]⟩))
theorem c_Headers_endOf_x {A : Nat → Option (Nat × (Nat → Int32))} {Q : Option Value → jm → Prop} {f : Int → Int} {N : Int} {M : jm} (hC_M : CI M) {t : Nat} (k_t : kd t = 18) {x : Int} (h_x : (-2147483648) ≤ x ∧ x ≤ 2147483647) {C : Int} (g_C : M t 3 = C) (p0 : HS M t f N) (q : ∀ (r : Int), (-400) ≤ r ∧ r ≤ 2448 → (r = enf f N C x) → Q (some (.int (Int32.ofInt r))) M) : jc A 2 118 [.ref (t), .int (Int32.ofInt (x))] M Q := by
  refine jc_of (m := xm_118) rfl (Nat.le_of_ble_eq_true rfl) rfl ?_
  have b_C : 0 ≤ C ∧ C ≤ 12 := by rw [← g_C]; exact (CI.r hC_M k_t (by decide) 3)
  refine jr.aload_n rfl rfl ?_
  refine jr.iload_n rfl rfl ?_
  refine jr_v rfl rfl (Or.inl rfl) rfl rfl (Nat.lt_trans (kx_18 k_t).1 (by decide)) (kx_18 k_t).2 ⟨rfl, Nat.le_of_ble_eq_true rfl, Nat.le_of_ble_eq_true rfl⟩ rfl (jc.deep (c_Headers_hasHeader hC_M k_t (by omega) (fun r1 z1 w1_0 w1_1 => ?_)) (by decide))
  refine jr.if_eq rfl rfl (by omega) (fun h5 => ?_) (fun h5 => ?_)
  · refine jr.iconst rfl ?_
    exact jr.ireturn rfl rfl rfl (q _ (by omega) (by unfold enf; first | (rw [if_neg (by omega)]) | (have hr := p0.2.2.2.2.1 x (by omega) (by omega); rw [if_pos (by omega)]; omega)))
  · have sx5 : (1 : Int) ≤ r1 := by omega
    refine jr.aload_n rfl rfl ?_
    have k2 := kf_18_1 k_t
    refine jr.getf (i := 1) (v := .ref (t + 2)) rfl rfl (Nat.lt_trans (kx_18 k_t).1 (by decide)) (kx_18 k_t).2 (by decide) rfl rfl rfl (jval_ref rfl k2.1) ?_
    refine jr.iload_n rfl rfl ?_
    obtain ⟨v3, e3⟩ : ∃ z_, M ((t + 2)) x = z_ := ⟨_, rfl⟩
    have b3 : 0 ≤ v3 ∧ v3 ≤ 400 := by rw [← e3]; exact (CI.r hC_M k2.2 (by decide) x)
    refine jr.iald (i := x) (x := v3) rfl (Nat.lt_trans (kx_20 k2.2).1 (by decide)) (kx_20 k2.2).2 (by decide) (by omega) (by omega) e3 ?_
    refine jr.aload_n rfl rfl ?_
    have k4 := kf_18_2 k_t
    refine jr.getf (i := 2) (v := .ref (t + 3)) rfl rfl (Nat.lt_trans (kx_18 k_t).1 (by decide)) (kx_18 k_t).2 (by decide) rfl rfl rfl (jval_ref rfl k4.1) ?_
    refine jr.iload_n rfl rfl ?_
    obtain ⟨v5, e5⟩ : ∃ z_, M ((t + 3)) x = z_ := ⟨_, rfl⟩
    have b5 : (-400) ≤ v5 ∧ v5 ≤ 2048 := by rw [← e5]; exact (CI.r hC_M k4.2 (by decide) x)
    refine jr.iald (i := x) (x := v5) rfl (Nat.lt_trans (kx_21 k4.2).1 (by decide)) (kx_21 k4.2).2 (by decide) (by omega) (by omega) e5 ?_
    refine jr.iadd rfl ?_
    refine jr.goto rfl rfl ?_
    exact jr.ireturn rfl rfl rfl (q _ (by omega) (by unfold enf; first | (rw [if_neg (by omega)]) | (have hr := p0.2.2.2.2.1 x (by omega) (by omega); rw [if_pos (by omega)]; omega)))
theorem c_Headers_dataBehind_x {A : Nat → Option (Nat × (Nat → Int32))} {Q : Option Value → jm → Prop} {f : Int → Int} {N : Int} {M : jm} (hC_M : CI M) {t : Nat} (k_t : kd t = 18) {x : Int} (h_x : (-2147483648) ≤ x ∧ x ≤ 2147483647) {C : Int} (g_C : M t 3 = C) {S : Int} (g_S : M t 7 = S) (p0 : HS M t f N) (q : ∀ (r : Int), (-2449) ≤ r ∧ r ≤ 800 → (r = N - enf f N C x) → Q (some (.int (Int32.ofInt r))) M) : jc A 3 119 [.ref (t), .int (Int32.ofInt (x))] M Q := by
  refine jc_of (m := xm_119) rfl (Nat.le_of_ble_eq_true rfl) rfl ?_
  have b_C : 0 ≤ C ∧ C ≤ 12 := by rw [← g_C]; exact (CI.r hC_M k_t (by decide) 3)
  have k_S : kd S.toNat = 33 := (congrArg (fun z : Int => kd z.toNat) g_S).symm.trans (CI.x hC_M k_t 7 rfl (by decide))
  refine jr.aload_n rfl rfl ?_
  refine jr.getf (i := 7) (x := S) (v := .ref (S.toNat)) rfl rfl (Nat.lt_trans (kx_18 k_t).1 (by decide)) (kx_18 k_t).2 (by decide) rfl rfl g_S (jval_mut rfl (kn_18_7 k_t)) ?_
  obtain ⟨v2, e2⟩ : ∃ z_, M ((S.toNat)) 1 = z_ := ⟨_, rfl⟩
  have b2 : (-1) ≤ v2 ∧ v2 ≤ 400 := by rw [← e2]; exact (CI.r hC_M k_S (by decide) 1)
  refine jr.getf (i := 1) (x := v2) (v := .int (Int32.ofInt (v2))) rfl rfl (Nat.lt_trans (kx_33 k_S).1 (by decide)) (kx_33 k_S).2 (by decide) rfl rfl e2 rfl ?_
  refine jr.aload_n rfl rfl ?_
  refine jr.iload_n rfl rfl ?_
  refine jr_v rfl rfl (Or.inl rfl) rfl rfl (Nat.lt_trans (kx_18 k_t).1 (by decide)) (kx_18 k_t).2 ⟨rfl, Nat.le_of_ble_eq_true rfl, Nat.le_of_ble_eq_true rfl⟩ rfl (jc.deep (c_Headers_endOf_x hC_M k_t (by omega) g_C p0 (fun r3 z3 w3_0 => ?_)) (by decide))
  refine jr.isub rfl ?_
  exact jr.ireturn rfl rfl rfl (q _ (by omega) (by have hn := p0.2.1; rw [g_S] at hn; omega))
end
section
/-! ===== sums ===== -/
noncomputable def sb (f : Int → Int) (a : Int) : Nat → Int
  | 0 => 0
  | n + 1 => sb f a n + (if n % 2 = 0 then f (a + n) * 256 else f (a + n))
noncomputable def fz (f : Int → Int) (b : Int) : Int → Int := fun k => if k = b ∨ k = b + 1 then 0 else f k
theorem sb_s {f : Int → Int} {a i : Int} (h : a ≤ i) : sb f a (i + 1 - a).toNat = sb f a (i - a).toNat + (if (i - a) % 2 = 0 then f i * 256 else f i) := by
  obtain ⟨n, hn⟩ : ∃ n : Nat, i = a + n := ⟨(i - a).toNat, by omega⟩
  subst hn
  rw [show (a + (n : Int) + 1 - a).toNat = n + 1 by omega, show (a + (n : Int) - a).toNat = n by omega, show a + (n : Int) - a = (n : Int) by omega]
  unfold sb
  by_cases q : n % 2 = 0
  · rw [if_pos q, if_pos (by omega)]
    cases n <;> rfl
  · rw [if_neg q, if_neg (by omega)]
    cases n <;> rfl
theorem sb_0 (f : Int → Int) (a : Int) : sb f a (a - a).toNat = 0 := by
  rw [show (a - a).toNat = 0 by omega]
  rfl
theorem sb_r {f : Int → Int} {a : Int} : ∀ n : Nat, (∀ i : Int, a ≤ i → i < a + n → 0 ≤ f i ∧ f i ≤ 255) → 0 ≤ sb f a n ∧ sb f a n ≤ 65280 * (n : Int) := by
  intro n
  induction n with
  | zero => intro _; exact ⟨Int.le_refl _, Int.le_refl _⟩
  | succ n ih =>
    intro h
    have q := ih (fun i h0 h1 => h i h0 (by omega))
    have w := h (a + n) (by omega) (by omega)
    unfold sb
    split <;> omega
theorem sb_e {f g : Int → Int} {a : Int} : ∀ n : Nat, (∀ i : Int, a ≤ i → i < a + n → f i = g i) → sb f a n = sb g a n := by
  intro n
  induction n with
  | zero => intro _; rfl
  | succ n ih =>
    intro h
    unfold sb
    rw [ih (fun i h0 h1 => h i h0 (by omega)), h (a + n) (by omega) (by omega)]
end
