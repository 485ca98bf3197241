section
/-! ===== the class: a gathering keeps headers, takes a piece in ===== -/
noncomputable def KPH (T M : jm) (t : Nat) (f : Int → Int) (N C y : Int) : Prop := (M t 11 = enf f N C y ∧ M t 12 = pA f N C (ntf f N C) ∧ ((T t 1 = 6 ∧ M t 13 = pA f N C (y - 1) + (if kA f N C (y - 1) = 3 then 4 else 0)) ∨ (T t 1 ≠ 6 ∧ M t 13 = T t 13))) ∧ (∀ k : Int, 0 ≤ k → k < enf f N C y → M (t + 2) k = f k) ∧ (∀ k : Int, k ≠ 11 → k ≠ 12 → k ≠ 13 → M t k = T t k) ∧ ∀ (b : Nat) (k : Int), b ≠ t → b ≠ t + 2 → M b k = T b k
theorem hst_y {f : Int → Int} {N : Int} (hf : ∀ i : Int, 0 ≤ i → i < 400 → 0 ≤ f i ∧ f i ≤ 255) (hN : N ≤ 400) : ∀ n : Nat, (∀ i : Int, 0 ≤ i → i < n → hok f N i) → 0 ≤ hY f N (n : Int) := by
  intro n
  induction n with
  | zero => intro _; exact Int.le_refl _
  | succ n ih =>
    intro h
    have h1 := ih (fun i h0 h1 => h i h0 (by omega))
    have s := (hst_s (f := f) (N := N) (i := (n : Int)) (by omega)).2
    have hl := hok_l (h n (by omega) (by omega)) hf hN
    rw [show ((n + 1 : Nat) : Int) = (n : Int) + 1 by omega, s]
    omega
theorem HS.y {M : jm} {t : Nat} {f : Int → Int} {N C x : Int} (h : HS M t f N) (hC : M t 3 = C) (hx : 0 ≤ x ∧ x < C) : 0 ≤ hY f N x ∧ hY f N x + lst (hX f N x) ≤ N ∧ hY f N x + hZ f N x ≤ N ∧ 0 ≤ hZ f N x ∧ ¬ ((hX f N x = 2 ∨ hX f N x = 8) ∧ hZ f N x < 20) ∧ (hX f N x ≠ 6 ∨ hZ f N x = 8) := by
  have hf : ∀ i : Int, 0 ≤ i → i < 400 → 0 ≤ f i ∧ f i ≤ 255 := fun i h0 h1 => (h.1 i h0 h1).2
  have hr := h.2.2.2.2.1 x hx.1 (by omega)
  have hl := hok_l hr.1 hf h.2.2.1.2
  have hy := hst_y hf h.2.2.1.2 x.toNat (fun i h0 h1 => (h.2.2.2.2.1 i h0 (by omega)).1)
  rw [Int.toNat_of_nonneg hx.1] at hy
  have h6 := (hsZ_r hf h.2.2.1.2 (hsF_z hr.1.2).2.1).2
  exact ⟨hy, hl.1, hl.2.1, hl.2.2.1, hl.2.2.2, h6⟩
noncomputable def W_c_Gathering_keepHeaders_x : List (Nat × Nat) := [(15, 11), (15, 12), (15, 13), (16, 1000)]
theorem c_Gathering_keepHeaders_x {A : Nat → Option (Nat × (Nat → Int32))} {Q : Option Value → jm → Prop} {f : Int → Int} {N : Int} {T : jm} {M : jm} (hC_M : CI M) (ht_M : FR W_c_Gathering_keepHeaders_x T M) {t : Nat} (k_t : kd t = 15) {y : Int} (h_y : 0 ≤ y ∧ y ≤ 11) {C : Int} (g_C : M 3 3 = C) (p0 : T = M) (p1 : HS M 3 f N) (p2 : y < C) (p3 : hX f N y = 2 ∨ hX f N y = 6) (q : ∀ (M' : jm), CI M' → FR W_c_Gathering_keepHeaders_x T M' → (KPH T M' t f N C y) → Q none M') : jc A 3 100 [.ref (t), .ref (3), .int (Int32.ofInt (y))] M Q := by
  refine jc_of (m := xm_100) rfl (Nat.le_of_ble_eq_true rfl) rfl ?_
  have b_C : 0 ≤ C ∧ C ≤ 12 := by rw [← g_C]; exact (CI.r hC_M (show kd 3 = 18 from rfl) (by decide) 3)
  refine jr.aload_n rfl rfl ?_
  refine jr.aload_n rfl rfl ?_
  refine jr.iload_n rfl rfl ?_
  refine jr_v rfl rfl (Or.inl rfl) rfl rfl (nlt rfl) rfl ⟨rfl, Nat.le_of_ble_eq_true rfl, Nat.le_of_ble_eq_true rfl⟩ rfl (jc.deep (c_Headers_endOf_x hC_M (show kd 3 = 18 from rfl) (by omega) g_C p1 (fun r1 z1 w1_0 => ?_)) (Nat.le_of_ble_eq_true rfl))
  have hen : 0 ≤ r1 ∧ r1 ≤ 400 ∧ 8 ≤ r1 := (by have hq := enf_i (f := f) (N := N) (C := C) (x := y) (by omega); have hy := HS.y p1 g_C (x := y) (by omega); have hN := p1.2.2.1; omega)
  refine jr.putf (i := 11) (x := r1) rfl rfl (Nat.lt_trans (kx_15 k_t).1 (by decide)) (kx_15 k_t).2 (by decide) rfl rfl rfl rfl rfl ?_
  refine jr.aload_n rfl rfl ?_
  obtain ⟨v2, e2⟩ : ∃ z_, M 3 7 = z_ := ⟨_, rfl⟩
  have b2 : 0 ≤ v2 ∧ v2 ≤ 597 := by rw [← e2]; exact (CI.r hC_M (show kd 3 = 18 from rfl) (by decide) 7)
  have k3 : kd (v2).toNat = 33 := ((congrArg (fun z : Int => kd z.toNat) (show (ju M t 11 r1) 3 7 = v2 from ((ju_i _ _ (zne (by decide))).trans e2))).symm.trans (CI.x (CI.u hC_M (i := 11) k_t (show (-1 : Int) ≤ _ ∧ _ ≤ (400 : Int) from by omega) rfl) (show kd 3 = 18 from rfl) 7 rfl (by decide)))
  refine jr.getf (i := 7) (x := v2) (v := .ref (v2.toNat)) rfl rfl (nlt rfl) rfl (nlt rfl) rfl rfl ((ju_i _ _ (zne (by decide))).trans e2) rfl ?_
  have k4 := kf_33_0 k3
  refine jr.getf (i := 0) (v := .ref ((v2.toNat) + 1)) rfl rfl (Nat.lt_trans (kx_33 k3).1 (by decide)) (kx_33 k3).2 (by decide) rfl rfl rfl (jval_ref rfl k4.1) ?_
  refine jr.iconst rfl ?_
  refine jr.aload_n rfl rfl ?_
  have k5 := kf_15_10 k_t
  refine jr.getf (i := 10) (v := .ref (t + 2)) rfl rfl (Nat.lt_trans (kx_15 k_t).1 (by decide)) (kx_15 k_t).2 (by decide) rfl rfl rfl (jval_ref rfl k5.1) ?_
  refine jr.iconst rfl ?_
  refine jr.aload_n rfl rfl ?_
  refine jr.getf (i := 11) (x := r1) (v := .int (Int32.ofInt (r1))) rfl rfl (Nat.lt_trans (kx_15 k_t).1 (by decide)) (kx_15 k_t).2 (by decide) rfl rfl (ju_same _ _ _ _) rfl ?_
  refine jr.acp rfl rfl (Nat.le_of_ble_eq_true rfl) (Nat.lt_trans (kx_34 k4.2).1 (by decide)) (kx_34 k4.2).2 (Nat.lt_trans (kx_16 k5.2).1 (by decide)) (kx_16 k5.2).2 (by decide) (by decide) (by omega) (by omega) (by omega) (by omega) (by omega) ?_
  have hC_M6 : CI (jcpy ((ju M t 11 r1)) (((v2.toNat) + 1)) 0 ((t + 2)) 0 r1) := CI.cpy (CI.u hC_M (i := 11) k_t (show (-1 : Int) ≤ _ ∧ _ ≤ (400 : Int) from by omega) rfl) k4.2 k5.2 (by decide) (fun i j => (show (-1 : Int) ≤ (-1 : Int) ∧ (255 : Int) ≤ (255 : Int) from by decide)) (fun _ => rfl)
  have ht_M6 : FR W_c_Gathering_keepHeaders_x T (jcpy ((ju M t 11 r1)) (((v2.toNat) + 1)) 0 ((t + 2)) 0 r1) := FR.cpy (FR.o ht_M k_t rfl) k5.2 (fun _ => rfl)
  have hf_M6 : FR [(16, 1000)] ((ju M t 11 r1)) (jcpy ((ju M t 11 r1)) (((v2.toNat) + 1)) 0 ((t + 2)) 0 r1) := FR.cpy (FR.rfl _ _) k5.2 (fun _ => rfl)
  have hx_M6 : ∀ (b : Nat) (k : Int), jcpy ((ju M t 11 r1)) (((v2.toNat) + 1)) 0 ((t + 2)) 0 r1 b k = if b = (t + 2) ∧ 0 ≤ k ∧ k < 0 + r1 then ((ju M t 11 r1)) (((v2.toNat) + 1)) (0 + (k - 0)) else ((ju M t 11 r1)) b k := fun _ _ => rfl
  generalize jcpy ((ju M t 11 r1)) (((v2.toNat) + 1)) 0 ((t + 2)) 0 r1 = M6 at hC_M6 ht_M6 hf_M6 hx_M6 ⊢
  refine jr.aload_n rfl rfl ?_
  refine jr.aload_n rfl rfl ?_
  refine jr.aload_n rfl rfl ?_
  refine jr.bipush rfl (jbp _ (nlt rfl)) ?_
  have e8 : M6 3 3 = C := (hf_M6.g (show kd 3 = 18 from rfl) rfl).trans ((ju_i _ _ (zne (by decide))).trans g_C)
  refine jr_v rfl rfl (Or.inl rfl) rfl rfl (nlt rfl) rfl ⟨rfl, Nat.le_of_ble_eq_true rfl, Nat.le_of_ble_eq_true rfl⟩ rfl (jc.deep (c_Headers_firstOf_x hC_M6 (show kd 3 = 18 from rfl) (by omega) e8 (HS.fr (HS.fr p1 (show kd 3 = 18 from rfl) hC_M (FR.o (FR.rfl [(15, 11)] M) k_t rfl) rfl) (show kd 3 = 18 from rfl) (CI.u hC_M (i := 11) k_t (show (-1 : Int) ≤ _ ∧ _ ≤ (400 : Int) from by omega) rfl) hf_M6 rfl) (fun r7 z7 w7_0 => ?_)) (Nat.le_of_ble_eq_true rfl))
  refine jr_v rfl rfl (Or.inl rfl) rfl rfl (nlt rfl) rfl ⟨rfl, Nat.le_of_ble_eq_true rfl, Nat.le_of_ble_eq_true rfl⟩ rfl (jc.deep (c_Headers_placeAt_x hC_M6 (show kd 3 = 18 from rfl) (by omega) e8 (HS.fr (HS.fr p1 (show kd 3 = 18 from rfl) hC_M (FR.o (FR.rfl [(15, 11)] M) k_t rfl) rfl) (show kd 3 = 18 from rfl) (CI.u hC_M (i := 11) k_t (show (-1 : Int) ≤ _ ∧ _ ≤ (400 : Int) from by omega) rfl) hf_M6 rfl) (fun r9 z9 w9_0 => ?_)) (Nat.le_of_ble_eq_true rfl))
  refine jr.putf (i := 12) (x := r9) rfl rfl (Nat.lt_trans (kx_15 k_t).1 (by decide)) (kx_15 k_t).2 (by decide) rfl rfl rfl rfl rfl ?_
  refine jr.aload_n rfl rfl ?_
  obtain ⟨v10, e10⟩ : ∃ z_, M t 1 = z_ := ⟨_, rfl⟩
  have b10 : (-2147483648) ≤ v10 ∧ v10 ≤ 2147483647 := by rw [← e10]; exact (CI.r hC_M k_t (by decide) 1)
  have e11 : M6 t 1 = v10 := (hf_M6.g k_t rfl).trans ((ju_i _ _ (zne (by decide))).trans e10)
  refine jr.getf (i := 1) (x := v10) (v := .int (Int32.ofInt (v10))) rfl rfl (Nat.lt_trans (kx_15 k_t).1 (by decide)) (kx_15 k_t).2 (by decide) rfl rfl ((ju_i _ _ (zne (by decide))).trans e11) rfl ?_
  refine jr.bipush rfl (jbp _ (nlt rfl)) ?_
  refine jr.icmp_ne rfl rfl (by first | (refine rgb (by assumption) ?_; exact rfl) | omega) (rgl rfl) (fun h49 => ?_) (fun h49 => ?_)
  · have e12 : M6 t 11 = r1 := (hf_M6.g k_t rfl).trans (ju_same _ _ _ _)
    exact jr.vreturn rfl rfl (q _ (CI.u hC_M6 (i := 12) k_t (show (-1 : Int) ≤ _ ∧ _ ≤ (400 : Int) from by omega) rfl) (FR.o ht_M6 k_t rfl)  ⟨⟨(by rw [show (ju M6 t 12 r9) t 11 = r1 from ((ju_i _ _ (zne (by decide))).trans e12)]; exact w1_0), (by rw [show (ju M6 t 12 r9) t 12 = r9 from (ju_same _ _ _ _)]; rw [← w7_0]; exact w9_0), Or.inr ⟨by rw [p0]; omega, by rw [ju_i _ _ (zne (by decide)), hx_M6, if_neg (by omega), ju_i _ _ (zne (by decide)), p0]⟩⟩, fun k k0 k1 => by rw [ju_c _ _ (show t + 2 ≠ t by omega), hx_M6, if_pos (by omega)]; have h9 := (p1.1 (0 + (k - 0)) (by omega) (by omega)).1; rw [e2] at h9; rw [ju_c _ _ (kd_ne (by rw [(kf_33_0 (show kd (v2).toNat = 33 from (congrArg (fun z : Int => kd z.toNat) e2).symm.trans (CI.x hC_M (show kd 3 = 18 from rfl) 7 rfl (by decide)))).2, k_t]; decide)), h9, show 0 + (k - 0) = k from by omega], fun k a b c => by rw [ju_i _ _ b, hx_M6, if_neg (by omega), ju_i _ _ a, p0], fun b k hb hb2 => by rw [ju_c _ _ hb, hx_M6, if_neg (by intro h; exact hb2 h.1), ju_c _ _ hb, p0]⟩)
  · refine jr.aload_n rfl rfl ?_
    refine jr.aload_n rfl rfl ?_
    refine jr.iload_n rfl rfl ?_
    refine jr.iconst rfl ?_
    refine jr.isub rfl ?_
    refine jr_v rfl rfl (Or.inl rfl) rfl rfl (nlt rfl) rfl ⟨rfl, Nat.le_of_ble_eq_true rfl, Nat.le_of_ble_eq_true rfl⟩ rfl (jc.deep (c_Headers_placeAt_x (CI.u hC_M6 (i := 12) k_t (show (-1 : Int) ≤ _ ∧ _ ≤ (400 : Int) from by omega) rfl) (show kd 3 = 18 from rfl) (by omega) ((ju_i _ _ (zne (by decide))).trans e8) (HS.fr (HS.fr (HS.fr p1 (show kd 3 = 18 from rfl) hC_M (FR.o (FR.rfl [(15, 11)] M) k_t rfl) rfl) (show kd 3 = 18 from rfl) (CI.u hC_M (i := 11) k_t (show (-1 : Int) ≤ _ ∧ _ ≤ (400 : Int) from by omega) rfl) hf_M6 rfl) (show kd 3 = 18 from rfl) hC_M6 (FR.o (FR.rfl [(15, 12)] M6) k_t rfl) rfl) (fun r13 z13 w13_0 => ?_)) (Nat.le_of_ble_eq_true rfl))
    refine jr.aload_n rfl rfl ?_
    refine jr.iload_n rfl rfl ?_
    refine jr.iconst rfl ?_
    refine jr.isub rfl ?_
    refine jr_v rfl rfl (Or.inl rfl) rfl rfl (nlt rfl) rfl ⟨rfl, Nat.le_of_ble_eq_true rfl, Nat.le_of_ble_eq_true rfl⟩ rfl (jc.deep (c_Headers_kindAt_x (CI.u hC_M6 (i := 12) k_t (show (-1 : Int) ≤ _ ∧ _ ≤ (400 : Int) from by omega) rfl) (show kd 3 = 18 from rfl) (by omega) ((ju_i _ _ (zne (by decide))).trans e8) (HS.fr (HS.fr (HS.fr p1 (show kd 3 = 18 from rfl) hC_M (FR.o (FR.rfl [(15, 11)] M) k_t rfl) rfl) (show kd 3 = 18 from rfl) (CI.u hC_M (i := 11) k_t (show (-1 : Int) ≤ _ ∧ _ ≤ (400 : Int) from by omega) rfl) hf_M6 rfl) (show kd 3 = 18 from rfl) hC_M6 (FR.o (FR.rfl [(15, 12)] M6) k_t rfl) rfl) (fun r14 z14 w14_0 => ?_)) (Nat.le_of_ble_eq_true rfl))
    refine jr.iconst rfl ?_
    refine jr.icmp_ne rfl rfl (by first | (refine rgb (by assumption) ?_; exact rfl) | omega) (rgl rfl) (fun h68 => ?_) (fun h68 => ?_)
    · refine jr.iconst rfl ?_
      refine jr.iadd rfl ?_
      refine jr.putf (i := 13) (x := (r13 + 0)) rfl rfl (Nat.lt_trans (kx_15 k_t).1 (by decide)) (kx_15 k_t).2 (by decide) rfl rfl rfl rfl rfl ?_
      have e15 : M6 t 11 = r1 := (hf_M6.g k_t rfl).trans (ju_same _ _ _ _)
      exact jr.vreturn rfl rfl (q _ (CI.u (CI.u hC_M6 (i := 12) k_t (show (-1 : Int) ≤ _ ∧ _ ≤ (400 : Int) from by omega) rfl) (i := 13) k_t (show (-1 : Int) ≤ _ ∧ _ ≤ (404 : Int) from by omega) rfl) (FR.o (FR.o ht_M6 k_t rfl) k_t rfl)  ⟨⟨(by rw [show (ju (ju M6 t 12 r9) t 13 (r13 + 0)) t 11 = r1 from ((ju_i _ _ (zne (by decide))).trans ((ju_i _ _ (zne (by decide))).trans e15))]; exact w1_0), (by rw [show (ju (ju M6 t 12 r9) t 13 (r13 + 0)) t 12 = r9 from ((ju_i _ _ (zne (by decide))).trans (ju_same _ _ _ _))]; rw [← w7_0]; exact w9_0), Or.inl ⟨by rw [p0]; omega, by rw [show (ju (ju M6 t 12 r9) t 13 (r13 + 0)) t 13 = r13 + 0 from (ju_same _ _ _ _), ← w13_0, ← w14_0]; first | (rw [if_pos (by omega)]) | (rw [if_neg (by omega)])⟩⟩, fun k k0 k1 => by rw [ju_c _ _ (show t + 2 ≠ t by omega), ju_c _ _ (show t + 2 ≠ t by omega), hx_M6, if_pos (by omega)]; have h9 := (p1.1 (0 + (k - 0)) (by omega) (by omega)).1; rw [e2] at h9; rw [ju_c _ _ (kd_ne (by rw [(kf_33_0 (show kd (v2).toNat = 33 from (congrArg (fun z : Int => kd z.toNat) e2).symm.trans (CI.x hC_M (show kd 3 = 18 from rfl) 7 rfl (by decide)))).2, k_t]; decide)), h9, show 0 + (k - 0) = k from by omega], fun k a b c => by rw [ju_i _ _ c, ju_i _ _ b, hx_M6, if_neg (by omega), ju_i _ _ a, p0], fun b k hb hb2 => by rw [ju_c _ _ hb, ju_c _ _ hb, hx_M6, if_neg (by intro h; exact hb2 h.1), ju_c _ _ hb, p0]⟩)
    · refine jr.iconst rfl ?_
      refine jr.goto rfl rfl ?_
      refine jr.iadd rfl ?_
      refine jr.putf (i := 13) (x := (r13 + 4)) rfl rfl (Nat.lt_trans (kx_15 k_t).1 (by decide)) (kx_15 k_t).2 (by decide) rfl rfl rfl rfl rfl ?_
      have e16 : M6 t 11 = r1 := (hf_M6.g k_t rfl).trans (ju_same _ _ _ _)
      exact jr.vreturn rfl rfl (q _ (CI.u (CI.u hC_M6 (i := 12) k_t (show (-1 : Int) ≤ _ ∧ _ ≤ (400 : Int) from by omega) rfl) (i := 13) k_t (show (-1 : Int) ≤ _ ∧ _ ≤ (404 : Int) from by omega) rfl) (FR.o (FR.o ht_M6 k_t rfl) k_t rfl)  ⟨⟨(by rw [show (ju (ju M6 t 12 r9) t 13 (r13 + 4)) t 11 = r1 from ((ju_i _ _ (zne (by decide))).trans ((ju_i _ _ (zne (by decide))).trans e16))]; exact w1_0), (by rw [show (ju (ju M6 t 12 r9) t 13 (r13 + 4)) t 12 = r9 from ((ju_i _ _ (zne (by decide))).trans (ju_same _ _ _ _))]; rw [← w7_0]; exact w9_0), Or.inl ⟨by rw [p0]; omega, by rw [show (ju (ju M6 t 12 r9) t 13 (r13 + 4)) t 13 = r13 + 4 from (ju_same _ _ _ _), ← w13_0, ← w14_0]; first | (rw [if_pos (by omega)]) | (rw [if_neg (by omega)])⟩⟩, fun k k0 k1 => by rw [ju_c _ _ (show t + 2 ≠ t by omega), ju_c _ _ (show t + 2 ≠ t by omega), hx_M6, if_pos (by omega)]; have h9 := (p1.1 (0 + (k - 0)) (by omega) (by omega)).1; rw [e2] at h9; rw [ju_c _ _ (kd_ne (by rw [(kf_33_0 (show kd (v2).toNat = 33 from (congrArg (fun z : Int => kd z.toNat) e2).symm.trans (CI.x hC_M (show kd 3 = 18 from rfl) 7 rfl (by decide)))).2, k_t]; decide)), h9, show 0 + (k - 0) = k from by omega], fun k a b c => by rw [ju_i _ _ c, ju_i _ _ b, hx_M6, if_neg (by omega), ju_i _ _ a, p0], fun b k hb hb2 => by rw [ju_c _ _ hb, ju_c _ _ hb, hx_M6, if_neg (by intro h; exact hb2 h.1), ju_c _ _ hb, p0]⟩)
noncomputable def gov (w : Int → Int) (s : Int) : Nat → Int
  | 0 => 0
  | n + 1 => gov w s n + (if w (s + n) = -1 then 0 else 1)
theorem gov_s {w : Int → Int} {s i : Int} (h : 0 ≤ i) : gov w s (i + 1).toNat = gov w s i.toNat + (if w (s + i) = -1 then 0 else 1) := by
  obtain ⟨n, rfl⟩ := Int.eq_ofNat_of_zero_le h
  rw [show ((n : Int) + 1).toNat = n + 1 by omega, show ((n : Int)).toNat = n by omega]
  rfl
/-- a row with m bytes of f from e on laid at s, where it was empty -/
noncomputable def glay (w f : Int → Int) (s e m : Int) : Int → Int := fun k => if s ≤ k ∧ k < s + m ∧ w k = -1 then f (e + (k - s)) else w k
noncomputable def wh1 (f : Int → Int) (N C y W : Int) : Int := if W = -1 ∧ mrf f N C y ≠ 1 then ofs f N C y + (N - enf f N C y) else W
noncomputable def cm1 (f : Int → Int) (N C y K : Int) : Int := if K ≤ ofs f N C y + (N - enf f N C y) then ofs f N C y + (N - enf f N C y) else K
noncomputable def mlf (D s L : Int) : Int := if D ≤ L - s then D else if 0 ≤ L - s then L - s else 0
noncomputable def TK0 (T M : jm) (t : Nat) (W K : Int) : Prop := M t 7 = W ∧ M t 8 = K ∧ (∀ k : Int, k ≠ 7 → k ≠ 8 → M t k = T t k) ∧ ∀ (b : Nat) (k : Int), b ≠ t → M b k = T b k
noncomputable def TKF (T M : jm) (t : Nat) (f : Int → Int) (N C y : Int) : Prop := (M t 7 = wh1 f N C y (T t 7) ∧ M t 8 = cm1 f N C y (T t 8)) ∧ (∀ k : Int, k ≠ 7 → k ≠ 8 → k ≠ 11 → k ≠ 12 → k ≠ 13 → M t k = T t k) ∧ ((ofs f N C y = 0 ∧ T t 11 = -1 ∧ (M t 11 = enf f N C y ∧ M t 12 = pA f N C (ntf f N C) ∧ ((T t 1 = 6 ∧ M t 13 = pA f N C (y - 1) + (if kA f N C (y - 1) = 3 then 4 else 0)) ∨ (T t 1 ≠ 6 ∧ M t 13 = T t 13))) ∧ ∀ k : Int, 0 ≤ k → k < enf f N C y → M (t + 2) k = f k) ∨ (¬ (ofs f N C y = 0 ∧ T t 11 = -1) ∧ (M t 11 = T t 11 ∧ M t 12 = T t 12 ∧ M t 13 = T t 13) ∧ ∀ k : Int, M (t + 2) k = T (t + 2) k)) ∧ ∀ (b : Nat) (k : Int), b ≠ t → b ≠ t + 1 → b ≠ t + 2 → b ≠ 14 → M b k = T b k
theorem TK0.n {T M : jm} {t : Nat} {f : Int → Int} {N C y W K : Int} (h : TK0 T M t W K) (hW : W = wh1 f N C y (T t 7)) (hK : K = cm1 f N C y (T t 8)) (hn : ¬ (ofs f N C y = 0 ∧ T t 11 = -1)) : TKF T M t f N C y := ⟨⟨h.1.trans hW, h.2.1.trans hK⟩, fun k a b _ _ _ => h.2.2.1 k a b, Or.inr ⟨hn, ⟨h.2.2.1 11 (by decide) (by decide), h.2.2.1 12 (by decide) (by decide), h.2.2.1 13 (by decide) (by decide)⟩, fun k => h.2.2.2 (t + 2) k (by omega)⟩, fun b k b0 _ _ _ => h.2.2.2 b k b0⟩
theorem TK0.k {T M M1 : jm} {t : Nat} {f : Int → Int} {N C y W K : Int} (h : TK0 T M t W K) (hW : W = wh1 f N C y (T t 7)) (hK : K = cm1 f N C y (T t 8)) (hn : ofs f N C y = 0 ∧ T t 11 = -1) (w : KPH M M1 t f N C y) : TKF T M1 t f N C y := by
  obtain ⟨w1, w2, w3, w4⟩ := w
  have e1 : M t 1 = T t 1 := h.2.2.1 1 (by decide) (by decide)
  have e13 : M t 13 = T t 13 := h.2.2.1 13 (by decide) (by decide)
  rw [e1, e13] at w1
  refine ⟨⟨?_, ?_⟩, fun k a b c d e => ?_, Or.inl ⟨hn.1, hn.2, w1, w2⟩, fun b k b0 b1 b2 b3 => ?_⟩
  · rw [w3 7 (by decide) (by decide) (by decide)]; exact h.1.trans hW
  · rw [w3 8 (by decide) (by decide) (by decide)]; exact h.2.1.trans hK
  · rw [w3 k c d e]; exact h.2.2.1 k a b
  · rw [w4 b k b0 b2]; exact h.2.2.2 b k b0
theorem TKF.r {T M : jm} {t : Nat} {f : Int → Int} {N C y i v : Int} (h : TKF T M t f N C y) : TKF T (ju M (t + 1) i v) t f N C y := by
  have n0 : t ≠ t + 1 := by omega
  have n2 : t + 2 ≠ t + 1 := by omega
  unfold TKF at h ⊢
  simp only [ju_c M v n0, ju_c M v n2]
  exact ⟨h.1, h.2.1, h.2.2.1, fun b k b0 b1 b2 b3 => by rw [ju_c M v b1]; exact h.2.2.2 b k b0 b1 b2 b3⟩
theorem TKF.l {T M : jm} {t : Nat} {f : Int → Int} {N C y i v : Int} (h : TKF T M t f N C y) (ht : t ≠ 14) (ht2 : t + 2 ≠ 14) : TKF T (ju M 14 i v) t f N C y := by
  unfold TKF at h ⊢
  simp only [ju_c M v ht, ju_c M v ht2]
  exact ⟨h.1, h.2.1, h.2.2.1, fun b k b0 b1 b2 b3 => by rw [ju_c M v b3]; exact h.2.2.2 b k b0 b1 b2 b3⟩
/-- the row as far as it is laid -/
noncomputable def TKR (T M : jm) (t : Nat) (f : Int → Int) (s e i o : Int) : Prop := (∀ k : Int, 0 ≤ k → k < 360 → M (t + 1) k = glay (T (t + 1)) f s e i k) ∧ o = gov (T (t + 1)) s i.toNat
theorem TKR.z {T M : jm} {t : Nat} {f : Int → Int} {s e : Int} (h : ∀ k : Int, M (t + 1) k = T (t + 1) k) : TKR T M t f s e 0 0 := ⟨fun k _ _ => by rw [h k]; unfold glay; rw [if_neg (by omega)], rfl⟩
theorem TKR.w {T M : jm} {t : Nat} {f : Int → Int} {s e i o v r : Int} (h : TKR T M t f s e i o) (hi : 0 ≤ i) (h0 : 0 ≤ s) (h1 : s + i < 360) (hv : M (t + 1) (s + i) = v) (he : v = -1) (hr : r = f (e + i)) : TKR T (ju M (t + 1) (s + i) r) t f s e (i + 1) o := by
  have q := h.1 (s + i) (by omega) h1
  unfold glay at q
  rw [if_neg (by omega), hv, he] at q
  refine ⟨fun k k0 k1 => ?_, ?_⟩
  · unfold glay
    by_cases e1 : k = s + i
    · subst e1
      rw [ju_same, if_pos ⟨by omega, by omega, q.symm⟩, hr, show e + (s + i - s) = e + i by omega]
    · rw [ju_i _ _ e1, h.1 k k0 k1]
      unfold glay
      by_cases c : s ≤ k ∧ k < s + i ∧ T (t + 1) k = -1
      · rw [if_pos c, if_pos ⟨c.1, by omega, c.2.2⟩]
      · rw [if_neg c, if_neg (by intro d; exact c ⟨d.1, by omega, d.2.2⟩)]
  · rw [gov_s hi, if_pos q.symm, h.2]; omega
theorem TKR.n {T M : jm} {t : Nat} {f : Int → Int} {s e i o v : Int} (h : TKR T M t f s e i o) (hi : 0 ≤ i) (h0 : 0 ≤ s) (h1 : s + i < 360) (hv : M (t + 1) (s + i) = v) (he : v ≠ -1) : TKR T M t f s e (i + 1) (o + 1) := by
  have q := h.1 (s + i) (by omega) h1
  unfold glay at q
  rw [if_neg (by omega), hv] at q
  refine ⟨fun k k0 k1 => ?_, ?_⟩
  · rw [h.1 k k0 k1]
    unfold glay
    by_cases c : s ≤ k ∧ k < s + i ∧ T (t + 1) k = -1
    · rw [if_pos c, if_pos ⟨c.1, by omega, c.2.2⟩]
    · rw [if_neg c, if_neg (by
        intro d
        by_cases e1 : k = s + i
        · subst e1; rw [← q] at d; exact he d.2.2
        · exact c ⟨d.1, by omega, d.2.2⟩)]
  · rw [gov_s hi, if_neg (by rw [← q]; exact he), h.2]
noncomputable def TKI (T M : jm) (t : Nat) (f : Int → Int) (N C y : Int) : Prop := TKF T M t f N C y ∧ (∀ k : Int, 0 ≤ k → k < 360 → M (t + 1) k = glay (T (t + 1)) f (ofs f N C y) (enf f N C y) (mlf (N - enf f N C y) (ofs f N C y) (lpf (wh1 f N C y (T t 7)))) k) ∧ (M 14 0 = mlf (N - enf f N C y) (ofs f N C y) (lpf (wh1 f N C y (T t 7))) - gov (T (t + 1)) (ofs f N C y) (mlf (N - enf f N C y) (ofs f N C y) (lpf (wh1 f N C y (T t 7)))).toNat ∧ M 14 1 = gov (T (t + 1)) (ofs f N C y) (mlf (N - enf f N C y) (ofs f N C y) (lpf (wh1 f N C y (T t 7)))).toNat ∧ M 14 2 = N - enf f N C y - mlf (N - enf f N C y) (ofs f N C y) (lpf (wh1 f N C y (T t 7))) ∧ M 14 3 = rbf (wh1 f N C y (T t 7)) (cm1 f N C y (T t 8)) ∧ M 14 4 = wh1 f N C y (T t 7))
theorem lpf_r (w : Int) : lpf w ≤ 360 := by
  unfold lpf
  (repeat' split) <;> omega
theorem tki {T M M2 : jm} {t : Nat} {f : Int → Int} {N C y s d i o W K v0 v1 v2 v3 v4 : Int} (ht : t ≠ 14 ∧ t + 1 ≠ 14 ∧ t + 2 ≠ 14) (h1 : TKF T M t f N C y) (h2 : TKR T M t f s (enf f N C y) i o) (hs : s = ofs f N C y) (hd : d = N - enf f N C y) (h7 : M t 7 = W) (h8 : M t 8 = K) (hi : 0 ≤ i ∧ i ≤ d) (hx : i = 0 ∨ s + i ≤ lpf W) (he : d ≤ i ∨ lpf W ≤ s + i) (e : M2 = ju (ju (ju (ju (ju M 14 0 v0) 14 1 v1) 14 2 v2) 14 3 v3) 14 4 v4) (e0 : v0 = i - o) (e1 : v1 = o) (e2 : v2 = d - i) (e3 : v3 = rbf W K) (e4 : v4 = W) : TKI T M2 t f N C y := by
  have hW : wh1 f N C y (T t 7) = W := by rw [← h7]; exact h1.1.1.symm
  have hK : cm1 f N C y (T t 8) = K := by rw [← h8]; exact h1.1.2.symm
  have hm : mlf (N - enf f N C y) (ofs f N C y) (lpf (wh1 f N C y (T t 7))) = i := by
    rw [hW, ← hs, ← hd]
    unfold mlf
    (repeat' split) <;> omega
  subst e
  refine ⟨(((((h1.l ht.1 ht.2.2).l ht.1 ht.2.2).l ht.1 ht.2.2).l ht.1 ht.2.2).l ht.1 ht.2.2), fun k k0 k1 => ?_, ?_⟩
  · rw [hm, ← hs, ju_c _ _ ht.2.1, ju_c _ _ ht.2.1, ju_c _ _ ht.2.1, ju_c _ _ ht.2.1, ju_c _ _ ht.2.1]
    exact h2.1 k k0 k1
  · rw [hm, ← hs, ← hd, hW, hK, ← h2.2]
    refine ⟨?_, ?_, ?_, ?_, ?_⟩
    · rw [ju_i _ _ (zne (by decide)), ju_i _ _ (zne (by decide)), ju_i _ _ (zne (by decide)), ju_i _ _ (zne (by decide)), ju_same]; exact e0
    · rw [ju_i _ _ (zne (by decide)), ju_i _ _ (zne (by decide)), ju_i _ _ (zne (by decide)), ju_same]; exact e1
    · rw [ju_i _ _ (zne (by decide)), ju_i _ _ (zne (by decide)), ju_same]; exact e2
    · rw [ju_i _ _ (zne (by decide)), ju_same]; exact e3
    · rw [ju_same]; exact e4
noncomputable def W_c_Gathering_takeIn_x : List (Nat × Nat) := [(15, 7), (15, 8), (15, 11), (15, 12), (15, 13), (16, 1000), (17, 1000), (41, 1000)]
theorem c_Gathering_takeIn_x_L80 {A : Nat → Option (Nat × (Nat → Int32))} {Q : Option Value → jm → Prop} {f : Int → Int} {N : Int} {T : jm} {t : Nat} (k_t : kd t = 15) {C : Int} {W : Int} {K : Int} {y : Int} (q : ∀ (M' : jm), CI M' → FR W_c_Gathering_takeIn_x T M' → (TKI T M' t f N C y) → Q none M') : ∀ (nM : Nat) (M : jm) (s : Int) (d : Int) (o : Int) (i : Int), CI M → FR W_c_Gathering_takeIn_x T M → 0 ≤ y ∧ y ≤ 11 → 0 ≤ s ∧ s ≤ 65528 → 1 ≤ d ∧ d ≤ 400 → 0 ≤ o ∧ o ≤ 400 → 0 ≤ i ∧ i ≤ 400 → M 3 3 = C → M t 7 = W → M t 8 = K → (HS M 3 f N) → (TKF T M t f N C y) → (TKR T M t f s (enf f N C y) i o) → (s = ofs f N C y ∧ d = N - enf f N C y) → (o ≤ i ∧ i ≤ d ∧ (i = 0 ∨ s + i ≤ lpf W)) → (y < C ∧ enf f N C y + d = N ∧ 0 ≤ enf f N C y ∧ N ≤ 400) → (t ≠ 14 ∧ t + 1 ≠ 14 ∧ t + 2 ≠ 14) → 400 - i ≤ nM → jr A 3 xm_96 80 [(2, .int (Int32.ofInt (y))), (4, .int (Int32.ofInt (s))), (5, .int (Int32.ofInt (d))), (6, .int (Int32.ofInt (o))), (7, .int (Int32.ofInt (i))), (0, .ref (t)), (1, .ref (3)), (3, .ref (14))] [] M Q := by
  intro nM
  induction nM using Nat.strongRecOn with
  | ind nM ih =>
    intro M s d o i hC_M ht_M h_y h_s h_d h_o h_i g_C g_W g_K hy0 hy1 hy2 hy3 hy4 hy5 hy6 hm
    have b_C : 0 ≤ C ∧ C ≤ 12 := by rw [← g_C]; exact (CI.r hC_M (show kd 3 = 18 from rfl) (by decide) 3)
    have b_W : (-1) ≤ W ∧ W ≤ 70000 := by rw [← g_W]; exact (CI.r hC_M k_t (by decide) 7)
    have b_K : (-2147483648) ≤ K ∧ K ≤ 2147483647 := by rw [← g_K]; exact (CI.r hC_M k_t (by decide) 8)
    refine jr.iload rfl rfl ?_
    refine jr.iload rfl rfl ?_
    refine jr.icmp_ge rfl rfl (by first | (refine rgb (by assumption) ?_; exact rfl) | omega) (by first | (refine rgb (by assumption) ?_; exact rfl) | omega) (fun h84 => ?_) (fun h84 => ?_)
    · refine jr.aload_n rfl rfl ?_
      refine jr.iconst rfl ?_
      refine jr.iload rfl rfl ?_
      refine jr.iload rfl rfl ?_
      refine jr.isub rfl ?_
      refine jr.iast (i := 0) (x := (i - o)) rfl (nlt rfl) rfl (Nat.le_of_ble_eq_true rfl) (by omega) (by omega) ?_
      refine jr.aload_n rfl rfl ?_
      refine jr.iconst rfl ?_
      refine jr.iload rfl rfl ?_
      refine jr.iast (i := 1) (x := o) rfl (nlt rfl) rfl (Nat.le_of_ble_eq_true rfl) (by omega) (by omega) ?_
      refine jr.aload_n rfl rfl ?_
      refine jr.iconst rfl ?_
      refine jr.iload rfl rfl ?_
      refine jr.iload rfl rfl ?_
      refine jr.isub rfl ?_
      refine jr.iast (i := 2) (x := (d - i)) rfl (nlt rfl) rfl (Nat.le_of_ble_eq_true rfl) (by omega) (by omega) ?_
      refine jr.aload_n rfl rfl ?_
      refine jr.iconst rfl ?_
      refine jr.aload_n rfl rfl ?_
      refine jr_v rfl rfl (Or.inl rfl) rfl rfl (Nat.lt_trans (kx_15 k_t).1 (by decide)) (kx_15 k_t).2 ⟨rfl, Nat.le_of_ble_eq_true rfl, Nat.le_of_ble_eq_true rfl⟩ rfl (jc.deep (c_Gathering_rowBytes_x (CI.u (CI.u (CI.u hC_M (i := 0) (show kd 14 = 41 from rfl) (show (-2147483648 : Int) ≤ _ ∧ _ ≤ (2147483647 : Int) from by omega) rfl) (i := 1) (show kd 14 = 41 from rfl) (show (-2147483648 : Int) ≤ _ ∧ _ ≤ (2147483647 : Int) from by omega) rfl) (i := 2) (show kd 14 = 41 from rfl) (show (-2147483648 : Int) ≤ _ ∧ _ ≤ (2147483647 : Int) from by omega) rfl) k_t ((ju_i _ _ (zne (by decide))).trans ((ju_i _ _ (zne (by decide))).trans ((ju_i _ _ (zne (by decide))).trans g_W))) ((ju_i _ _ (zne (by decide))).trans ((ju_i _ _ (zne (by decide))).trans ((ju_i _ _ (zne (by decide))).trans g_K))) (fun r1 z1 w1_0 => ?_)) (Nat.le_of_ble_eq_true rfl))
      refine jr.iast (i := 3) (x := r1) rfl (nlt rfl) rfl (Nat.le_of_ble_eq_true rfl) (by omega) (by omega) ?_
      refine jr.aload_n rfl rfl ?_
      refine jr.iconst rfl ?_
      refine jr.aload_n rfl rfl ?_
      refine jr.getf (i := 7) (x := W) (v := .int (Int32.ofInt (W))) rfl rfl (Nat.lt_trans (kx_15 k_t).1 (by decide)) (kx_15 k_t).2 (by decide) rfl rfl ((ju_i _ _ (zne (by decide))).trans ((ju_i _ _ (zne (by decide))).trans ((ju_i _ _ (zne (by decide))).trans ((ju_i _ _ (zne (by decide))).trans g_W)))) rfl ?_
      refine jr.iast (i := 4) (x := W) rfl (nlt rfl) rfl (Nat.le_of_ble_eq_true rfl) (by omega) (by omega) ?_
      exact jr.vreturn rfl rfl (q _ (CI.u (CI.u (CI.u (CI.u (CI.u hC_M (i := 0) (show kd 14 = 41 from rfl) (show (-2147483648 : Int) ≤ _ ∧ _ ≤ (2147483647 : Int) from by omega) rfl) (i := 1) (show kd 14 = 41 from rfl) (show (-2147483648 : Int) ≤ _ ∧ _ ≤ (2147483647 : Int) from by omega) rfl) (i := 2) (show kd 14 = 41 from rfl) (show (-2147483648 : Int) ≤ _ ∧ _ ≤ (2147483647 : Int) from by omega) rfl) (i := 3) (show kd 14 = 41 from rfl) (show (-2147483648 : Int) ≤ _ ∧ _ ≤ (2147483647 : Int) from by omega) rfl) (i := 4) (show kd 14 = 41 from rfl) (show (-2147483648 : Int) ≤ _ ∧ _ ≤ (2147483647 : Int) from by omega) rfl) (FR.o (FR.o (FR.o (FR.o (FR.o ht_M (show kd 14 = 41 from rfl) rfl) (show kd 14 = 41 from rfl) rfl) (show kd 14 = 41 from rfl) rfl) (show kd 14 = 41 from rfl) rfl) (show kd 14 = 41 from rfl) rfl)  (tki hy6 hy1 hy2 hy3.1 hy3.2 g_W g_K (by omega) hy4.2.2 (by omega) rfl rfl rfl rfl w1_0 rfl))
    · refine jr.iload rfl rfl ?_
      refine jr.iload rfl rfl ?_
      refine jr.iadd rfl ?_
      refine jr.aload_n rfl rfl ?_
      refine jr_v rfl rfl (Or.inl rfl) rfl rfl (Nat.lt_trans (kx_15 k_t).1 (by decide)) (kx_15 k_t).2 ⟨rfl, Nat.le_of_ble_eq_true rfl, Nat.le_of_ble_eq_true rfl⟩ rfl (jc.deep (c_Gathering_lastPlace_x hC_M k_t g_W (fun r2 z2 w2_0 => ?_)) (Nat.le_of_ble_eq_true rfl))
      have hlp := lpf_r W
      refine jr.icmp_ge rfl rfl (by first | (refine rgb (by assumption) ?_; exact rfl) | omega) (by first | (refine rgb (by assumption) ?_; exact rfl) | omega) (fun h96 => ?_) (fun h96 => ?_)
      · refine jr.aload_n rfl rfl ?_
        refine jr.iconst rfl ?_
        refine jr.iload rfl rfl ?_
        refine jr.iload rfl rfl ?_
        refine jr.isub rfl ?_
        refine jr.iast (i := 0) (x := (i - o)) rfl (nlt rfl) rfl (Nat.le_of_ble_eq_true rfl) (by omega) (by omega) ?_
        refine jr.aload_n rfl rfl ?_
        refine jr.iconst rfl ?_
        refine jr.iload rfl rfl ?_
        refine jr.iast (i := 1) (x := o) rfl (nlt rfl) rfl (Nat.le_of_ble_eq_true rfl) (by omega) (by omega) ?_
        refine jr.aload_n rfl rfl ?_
        refine jr.iconst rfl ?_
        refine jr.iload rfl rfl ?_
        refine jr.iload rfl rfl ?_
        refine jr.isub rfl ?_
        refine jr.iast (i := 2) (x := (d - i)) rfl (nlt rfl) rfl (Nat.le_of_ble_eq_true rfl) (by omega) (by omega) ?_
        refine jr.aload_n rfl rfl ?_
        refine jr.iconst rfl ?_
        refine jr.aload_n rfl rfl ?_
        refine jr_v rfl rfl (Or.inl rfl) rfl rfl (Nat.lt_trans (kx_15 k_t).1 (by decide)) (kx_15 k_t).2 ⟨rfl, Nat.le_of_ble_eq_true rfl, Nat.le_of_ble_eq_true rfl⟩ rfl (jc.deep (c_Gathering_rowBytes_x (CI.u (CI.u (CI.u hC_M (i := 0) (show kd 14 = 41 from rfl) (show (-2147483648 : Int) ≤ _ ∧ _ ≤ (2147483647 : Int) from by omega) rfl) (i := 1) (show kd 14 = 41 from rfl) (show (-2147483648 : Int) ≤ _ ∧ _ ≤ (2147483647 : Int) from by omega) rfl) (i := 2) (show kd 14 = 41 from rfl) (show (-2147483648 : Int) ≤ _ ∧ _ ≤ (2147483647 : Int) from by omega) rfl) k_t ((ju_i _ _ (zne (by decide))).trans ((ju_i _ _ (zne (by decide))).trans ((ju_i _ _ (zne (by decide))).trans g_W))) ((ju_i _ _ (zne (by decide))).trans ((ju_i _ _ (zne (by decide))).trans ((ju_i _ _ (zne (by decide))).trans g_K))) (fun r3 z3 w3_0 => ?_)) (Nat.le_of_ble_eq_true rfl))
        refine jr.iast (i := 3) (x := r3) rfl (nlt rfl) rfl (Nat.le_of_ble_eq_true rfl) (by omega) (by omega) ?_
        refine jr.aload_n rfl rfl ?_
        refine jr.iconst rfl ?_
        refine jr.aload_n rfl rfl ?_
        refine jr.getf (i := 7) (x := W) (v := .int (Int32.ofInt (W))) rfl rfl (Nat.lt_trans (kx_15 k_t).1 (by decide)) (kx_15 k_t).2 (by decide) rfl rfl ((ju_i _ _ (zne (by decide))).trans ((ju_i _ _ (zne (by decide))).trans ((ju_i _ _ (zne (by decide))).trans ((ju_i _ _ (zne (by decide))).trans g_W)))) rfl ?_
        refine jr.iast (i := 4) (x := W) rfl (nlt rfl) rfl (Nat.le_of_ble_eq_true rfl) (by omega) (by omega) ?_
        exact jr.vreturn rfl rfl (q _ (CI.u (CI.u (CI.u (CI.u (CI.u hC_M (i := 0) (show kd 14 = 41 from rfl) (show (-2147483648 : Int) ≤ _ ∧ _ ≤ (2147483647 : Int) from by omega) rfl) (i := 1) (show kd 14 = 41 from rfl) (show (-2147483648 : Int) ≤ _ ∧ _ ≤ (2147483647 : Int) from by omega) rfl) (i := 2) (show kd 14 = 41 from rfl) (show (-2147483648 : Int) ≤ _ ∧ _ ≤ (2147483647 : Int) from by omega) rfl) (i := 3) (show kd 14 = 41 from rfl) (show (-2147483648 : Int) ≤ _ ∧ _ ≤ (2147483647 : Int) from by omega) rfl) (i := 4) (show kd 14 = 41 from rfl) (show (-2147483648 : Int) ≤ _ ∧ _ ≤ (2147483647 : Int) from by omega) rfl) (FR.o (FR.o (FR.o (FR.o (FR.o ht_M (show kd 14 = 41 from rfl) rfl) (show kd 14 = 41 from rfl) rfl) (show kd 14 = 41 from rfl) rfl) (show kd 14 = 41 from rfl) rfl) (show kd 14 = 41 from rfl) rfl)  (tki hy6 hy1 hy2 hy3.1 hy3.2 g_W g_K (by omega) hy4.2.2 (by omega) rfl rfl rfl rfl w3_0 rfl))
      · refine jr.aload_n rfl rfl ?_
        have k4 := kf_15_9 k_t
        refine jr.getf (i := 9) (v := .ref (t + 1)) rfl rfl (Nat.lt_trans (kx_15 k_t).1 (by decide)) (kx_15 k_t).2 (by decide) rfl rfl rfl (jval_ref rfl k4.1) ?_
        refine jr.iload rfl rfl ?_
        refine jr.iload rfl rfl ?_
        refine jr.iadd rfl ?_
        obtain ⟨v5, e5⟩ : ∃ z_, M ((t + 1)) (s + i) = z_ := ⟨_, rfl⟩
        have b5 : (-1) ≤ v5 ∧ v5 ≤ 255 := by rw [← e5]; exact (CI.r hC_M k4.2 (by decide) (s + i))
        refine jr.iald (i := (s + i)) (x := v5) rfl (Nat.lt_trans (kx_17 k4.2).1 (by decide)) (kx_17 k4.2).2 (by decide) (by omega) (by omega) e5 ?_
        refine jr.iconst rfl ?_
        refine jr.icmp_ne rfl rfl (by first | (refine rgb (by assumption) ?_; exact rfl) | omega) (rgl rfl) (fun h110 => ?_) (fun h110 => ?_)
        · have sx110 : (0 : Int) ≤ v5 := by omega
          clear h110
          refine jr.iinc (ls' := [_, _, _, _, _, _, _, _]) rfl rfl (nlt rfl) rfl ?_
          refine jr.iinc (ls' := [_, _, _, _, _, _, _, _]) rfl rfl (nlt rfl) rfl ?_
          refine jr.goto rfl rfl ?_
          refine jr.pick (ls := [_, _, _, _, _, _, _, _]) [2, 3, 4, 1, 0, 5, 6, 7] rfl rfl ?_
          exact ih (nM - 1) (by omega) M s d (o + 1) (i + 1) hC_M ht_M (by omega) (by omega) (by omega) (by omega) (by omega) g_C g_W g_K hy0 hy1 (TKR.n hy2 (by omega) (by omega) (by omega) e5 (by omega)) hy3 (by omega) (by omega) hy6 (by omega)
        · refine jr.aload_n rfl rfl ?_
          have k6 := kf_15_9 k_t
          refine jr.getf (i := 9) (v := .ref (t + 1)) rfl rfl (Nat.lt_trans (kx_15 k_t).1 (by decide)) (kx_15 k_t).2 (by decide) rfl rfl rfl (jval_ref rfl k6.1) ?_
          refine jr.iload rfl rfl ?_
          refine jr.iload rfl rfl ?_
          refine jr.iadd rfl ?_
          refine jr.aload_n rfl rfl ?_
          obtain ⟨v7, e7⟩ : ∃ z_, M 3 7 = z_ := ⟨_, rfl⟩
          have b7 : 0 ≤ v7 ∧ v7 ≤ 597 := by rw [← e7]; exact (CI.r hC_M (show kd 3 = 18 from rfl) (by decide) 7)
          have k8 : kd (v7).toNat = 33 := ((congrArg (fun z : Int => kd z.toNat) (show M 3 7 = v7 from e7)).symm.trans (CI.x hC_M (show kd 3 = 18 from rfl) 7 rfl (by decide)))
          refine jr.getf (i := 7) (x := v7) (v := .ref (v7.toNat)) rfl rfl (nlt rfl) rfl (nlt rfl) rfl rfl e7 rfl ?_
          refine jr.aload_n rfl rfl ?_
          refine jr.iload_n rfl rfl ?_
          refine jr_v rfl rfl (Or.inl rfl) rfl rfl (nlt rfl) rfl ⟨rfl, Nat.le_of_ble_eq_true rfl, Nat.le_of_ble_eq_true rfl⟩ rfl (jc.deep (c_Headers_endOf_x hC_M (show kd 3 = 18 from rfl) (by omega) g_C hy0 (fun r9 z9 w9_0 => ?_)) (Nat.le_of_ble_eq_true rfl))
          refine jr.iload rfl rfl ?_
          refine jr.iadd rfl ?_
          obtain ⟨v11, e11⟩ : ∃ z_, M ((v7.toNat)) 1 = z_ := ⟨_, rfl⟩
          have b11 : (-1) ≤ v11 ∧ v11 ≤ 400 := by rw [← e11]; exact (CI.r hC_M k8 (by decide) 1)
          have hnl : v11 = N := (by have hq := hy0.2.1; rw [e7, e11] at hq; exact hq)
          refine jr_v rfl rfl (Or.inl rfl) rfl rfl (Nat.lt_trans (kx_33 k8).1 (by decide)) (kx_33 k8).2 ⟨rfl, Nat.le_of_ble_eq_true rfl, Nat.le_of_ble_eq_true rfl⟩ rfl (jc.deep (c_Packet_byteAt_h hC_M k8 (by omega) e11 (by have hq := hy0.1; rw [e7] at hq; exact hq) (fun r10 z10 w10_0 => ?_)) (Nat.le_of_ble_eq_true rfl))
          refine jr.iast (i := (s + i)) (x := r10) rfl (Nat.lt_trans (kx_17 k6.2).1 (by decide)) (kx_17 k6.2).2 (by decide) (by omega) (by omega) ?_
          refine jr.goto rfl rfl ?_
          refine jr.iinc (ls' := [_, _, _, _, _, _, _, _]) rfl rfl (nlt rfl) rfl ?_
          refine jr.goto rfl rfl ?_
          refine jr.pick (ls := [_, _, _, _, _, _, _, _]) [1, 2, 3, 4, 0, 5, 6, 7] rfl rfl ?_
          exact ih (nM - 1) (by omega) ((ju M ((t + 1)) (s + i) r10)) s d o (i + 1) (CI.u hC_M (i := (s + i)) k6.2 (show (-1 : Int) ≤ _ ∧ _ ≤ (255 : Int) from by omega) rfl) (FR.o ht_M k6.2 rfl) (by omega) (by omega) (by omega) (by omega) (by omega) ((ju_c _ _ (kd_ne (by rw [(show kd 3 = 18 from rfl), k6.2]; decide))).trans g_C) ((ju_c _ _ (kd_ne (by rw [k_t, k6.2]; decide))).trans g_W) ((ju_c _ _ (kd_ne (by rw [k_t, k6.2]; decide))).trans g_K) (HS.fr hy0 (show kd 3 = 18 from rfl) hC_M (FR.o (FR.rfl [(17, 1000)] M) k6.2 rfl) rfl) (TKF.r hy1) (TKR.w hy2 (by omega) (by omega) (by omega) e5 (by omega) (by rw [w10_0.1, hb_i (by omega) (by omega), w9_0])) hy3 (by omega) (by omega) hy6 (by omega)
theorem c_Gathering_takeIn_x {A : Nat → Option (Nat × (Nat → Int32))} {Q : Option Value → jm → Prop} {f : Int → Int} {N : Int} {T : jm} {M : jm} (hC_M : CI M) (ht_M : FR W_c_Gathering_takeIn_x T M) {t : Nat} (k_t : kd t = 15) {y : Int} (h_y : 0 ≤ y ∧ y ≤ 11) {C : Int} (g_C : M 3 3 = C) (p0 : T = M) (p1 : HS M 3 f N) (p2 : y < C) (p3 : hX f N y = 2 ∨ hX f N y = 6) (p4 : 1 ≤ N - enf f N C y) (p5 : t ≠ 14 ∧ t + 1 ≠ 14 ∧ t + 2 ≠ 14) (q : ∀ (M' : jm), CI M' → FR W_c_Gathering_takeIn_x T M' → (TKI T M' t f N C y) → Q none M') : jc A 4 96 [.ref (t), .ref (3), .int (Int32.ofInt (y)), .ref (14)] M Q := by
  refine jc_of (m := xm_96) rfl (Nat.le_of_ble_eq_true rfl) rfl ?_
  have b_C : 0 ≤ C ∧ C ≤ 12 := by rw [← g_C]; exact (CI.r hC_M (show kd 3 = 18 from rfl) (by decide) 3)
  refine jr.aload_n rfl rfl ?_
  refine jr.iload_n rfl rfl ?_
  refine jr_v rfl rfl (Or.inl rfl) rfl rfl (nlt rfl) rfl ⟨rfl, Nat.le_of_ble_eq_true rfl, Nat.le_of_ble_eq_true rfl⟩ rfl (jc.deep (c_Headers_offsetOf_x hC_M (show kd 3 = 18 from rfl) (by omega) g_C p1 (by omega) (by omega) (fun r1 z1 w1_0 => ?_)) (Nat.le_of_ble_eq_true rfl))
  refine jr.istore (ls' := [_, _, _, _, _]) rfl (nlt rfl) rfl ?_
  refine jr.aload_n rfl rfl ?_
  refine jr.iload_n rfl rfl ?_
  obtain ⟨v3, e3⟩ : ∃ z_, M 3 7 = z_ := ⟨_, rfl⟩
  have b3 : 0 ≤ v3 ∧ v3 ≤ 597 := by rw [← e3]; exact (CI.r hC_M (show kd 3 = 18 from rfl) (by decide) 7)
  have k2_S : kd (v3).toNat = 33 := (congrArg (fun z : Int => kd z.toNat) e3).symm.trans (CI.x hC_M (show kd 3 = 18 from rfl) 7 rfl (by decide))
  refine jr_v rfl rfl (Or.inl rfl) rfl rfl (nlt rfl) rfl ⟨rfl, Nat.le_of_ble_eq_true rfl, Nat.le_of_ble_eq_true rfl⟩ rfl (jc.deep (c_Headers_dataBehind_x hC_M (show kd 3 = 18 from rfl) (by omega) g_C e3 p1 (fun r2 z2 w2_0 => ?_)) (Nat.le_of_ble_eq_true rfl))
  have hdb : 1 ≤ r2 ∧ r2 ≤ 400 ∧ enf f N C y + r2 = N ∧ 0 ≤ enf f N C y ∧ N ≤ 400 := (by have hq := enf_i (f := f) (N := N) (C := C) (x := y) (by omega); have hy := HS.y p1 g_C (x := y) (by omega); have hN := p1.2.2.1; omega)
  refine jr.istore (ls' := [_, _, _, _, _, _]) rfl (nlt rfl) rfl ?_
  refine jr.aload_n rfl rfl ?_
  obtain ⟨v4, e4⟩ : ∃ z_, M t 7 = z_ := ⟨_, rfl⟩
  have b4 : (-1) ≤ v4 ∧ v4 ≤ 70000 := by rw [← e4]; exact (CI.r hC_M k_t (by decide) 7)
  refine jr.getf (i := 7) (x := v4) (v := .int (Int32.ofInt (v4))) rfl rfl (Nat.lt_trans (kx_15 k_t).1 (by decide)) (kx_15 k_t).2 (by decide) rfl rfl e4 rfl ?_
  refine jr.iconst rfl ?_
  refine jr.icmp_ne rfl rfl (by first | (refine rgb (by assumption) ?_; exact rfl) | omega) (rgl rfl) (fun h19 => ?_) (fun h19 => ?_)
  · have sx19 : (0 : Int) ≤ v4 := by omega
    clear h19
    refine jr.aload_n rfl rfl ?_
    refine jr.aload_n rfl rfl ?_
    obtain ⟨v5, e5⟩ : ∃ z_, M t 8 = z_ := ⟨_, rfl⟩
    have b5 : (-2147483648) ≤ v5 ∧ v5 ≤ 2147483647 := by rw [← e5]; exact (CI.r hC_M k_t (by decide) 8)
    refine jr.getf (i := 8) (x := v5) (v := .int (Int32.ofInt (v5))) rfl rfl (Nat.lt_trans (kx_15 k_t).1 (by decide)) (kx_15 k_t).2 (by decide) rfl rfl e5 rfl ?_
    refine jr.iload rfl rfl ?_
    refine jr.iload rfl rfl ?_
    refine jr.iadd rfl ?_
    refine jr.imax rfl rfl (Nat.le_of_ble_eq_true rfl) (by omega) (by omega) ?_
    intro v6 d6 b6 c6
    refine jr.putf (i := 8) (x := v6) rfl rfl (Nat.lt_trans (kx_15 k_t).1 (by decide)) (kx_15 k_t).2 (by decide) rfl rfl rfl rfl rfl ?_
    refine jr.iload rfl rfl ?_
    refine jr.if_ne rfl rfl (by first | (refine rgb (by assumption) ?_; exact rfl) | omega) (fun h57 => ?_) (fun h57 => ?_)
    · have sx57 : (1 : Int) ≤ r1 := by omega
      clear h57
      refine jr.iconst rfl ?_
      refine jr.istore (ls' := [_, _, _, _, _, _, _]) rfl (nlt rfl) rfl ?_
      refine jr.iconst rfl ?_
      refine jr.istore (ls' := [_, _, _, _, _, _, _, _]) rfl (nlt rfl) rfl ?_
      obtain ⟨v7, e7⟩ : ∃ z_, M t 11 = z_ := ⟨_, rfl⟩
      have b7 : (-1) ≤ v7 ∧ v7 ≤ 400 := by rw [← e7]; exact (CI.r hC_M k_t (by decide) 11)
      refine jr.pick (ls := [_, _, _, _, _, _, _, _]) [6, 3, 2, 1, 0, 4, 5, 7] rfl rfl ?_
      exact c_Gathering_takeIn_x_L80 k_t q 400 ((ju M t 8 v6)) r1 r2 0 0 (CI.u hC_M (i := 8) k_t (show (-2147483648 : Int) ≤ _ ∧ _ ≤ (2147483647 : Int) from by omega) rfl) (FR.o ht_M k_t rfl) (by omega) (by omega) (by omega) (by omega) (by omega) ((ju_i _ _ (zne (by decide))).trans g_C) ((ju_i _ _ (zne (by decide))).trans e4) (ju_same _ _ _ _) (HS.fr p1 (show kd 3 = 18 from rfl) hC_M (FR.o (FR.rfl [(15, 8)] M) k_t rfl) rfl) (TK0.n (show TK0 T ((ju M t 8 v6)) t v4 v6 from ⟨((ju_i _ _ (zne (by decide))).trans e4), (ju_same _ _ _ _), fun k a b => by rw [ju_i _ _ b, p0], fun b k hb => by rw [ju_c _ _ hb, p0]⟩) (by unfold wh1; rw [← w1_0, ← w2_0, p0, e4]; first | (rw [if_neg (by omega)])) (by unfold cm1; rw [← w1_0, ← w2_0, p0, e5]; (split <;> omega)) (by rw [← w1_0, p0, e7]; omega)) (TKR.z (fun k => by rw [ju_c _ _ (show t + 1 ≠ t by omega), p0])) ⟨w1_0, w2_0⟩ (by omega) (by omega) p5 (by omega)
    · refine jr.aload_n rfl rfl ?_
      obtain ⟨v8, e8⟩ : ∃ z_, M t 11 = z_ := ⟨_, rfl⟩
      have b8 : (-1) ≤ v8 ∧ v8 ≤ 400 := by rw [← e8]; exact (CI.r hC_M k_t (by decide) 11)
      refine jr.getf (i := 11) (x := v8) (v := .int (Int32.ofInt (v8))) rfl rfl (Nat.lt_trans (kx_15 k_t).1 (by decide)) (kx_15 k_t).2 (by decide) rfl rfl ((ju_i _ _ (zne (by decide))).trans e8) rfl ?_
      refine jr.iconst rfl ?_
      refine jr.icmp_ne rfl rfl (by first | (refine rgb (by assumption) ?_; exact rfl) | omega) (rgl rfl) (fun h65 => ?_) (fun h65 => ?_)
      · have sx65 : (0 : Int) ≤ v8 := by omega
        clear h65
        refine jr.iconst rfl ?_
        refine jr.istore (ls' := [_, _, _, _, _, _, _]) rfl (nlt rfl) rfl ?_
        refine jr.iconst rfl ?_
        refine jr.istore (ls' := [_, _, _, _, _, _, _, _]) rfl (nlt rfl) rfl ?_
        refine jr.pick (ls := [_, _, _, _, _, _, _, _]) [6, 3, 2, 1, 0, 4, 5, 7] rfl rfl ?_
        exact c_Gathering_takeIn_x_L80 k_t q 400 ((ju M t 8 v6)) r1 r2 0 0 (CI.u hC_M (i := 8) k_t (show (-2147483648 : Int) ≤ _ ∧ _ ≤ (2147483647 : Int) from by omega) rfl) (FR.o ht_M k_t rfl) (by omega) (by omega) (by omega) (by omega) (by omega) ((ju_i _ _ (zne (by decide))).trans g_C) ((ju_i _ _ (zne (by decide))).trans e4) (ju_same _ _ _ _) (HS.fr p1 (show kd 3 = 18 from rfl) hC_M (FR.o (FR.rfl [(15, 8)] M) k_t rfl) rfl) (TK0.n (show TK0 T ((ju M t 8 v6)) t v4 v6 from ⟨((ju_i _ _ (zne (by decide))).trans e4), (ju_same _ _ _ _), fun k a b => by rw [ju_i _ _ b, p0], fun b k hb => by rw [ju_c _ _ hb, p0]⟩) (by unfold wh1; rw [← w1_0, ← w2_0, p0, e4]; first | (rw [if_neg (by omega)])) (by unfold cm1; rw [← w1_0, ← w2_0, p0, e5]; (split <;> omega)) (by rw [← w1_0, p0, e8]; omega)) (TKR.z (fun k => by rw [ju_c _ _ (show t + 1 ≠ t by omega), p0])) ⟨w1_0, w2_0⟩ (by omega) (by omega) p5 (by omega)
      · refine jr.aload_n rfl rfl ?_
        refine jr.aload_n rfl rfl ?_
        refine jr.iload_n rfl rfl ?_
        refine jr_v rfl rfl (Or.inl rfl) rfl rfl (Nat.lt_trans (kx_15 k_t).1 (by decide)) (kx_15 k_t).2 ⟨rfl, Nat.le_of_ble_eq_true rfl, Nat.le_of_ble_eq_true rfl⟩ rfl (jc.deep (c_Gathering_keepHeaders_x (CI.u hC_M (i := 8) k_t (show (-2147483648 : Int) ≤ _ ∧ _ ≤ (2147483647 : Int) from by omega) rfl) (FR.rfl _ ((ju M t 8 v6))) k_t (by omega) ((ju_i _ _ (zne (by decide))).trans g_C) rfl (HS.fr p1 (show kd 3 = 18 from rfl) hC_M (FR.o (FR.rfl [(15, 8)] M) k_t rfl) rfl) (by omega) (by omega) (fun M9 hC_M9 hf_M9 w9_0 => ?_)) (Nat.le_of_ble_eq_true rfl))
        have ht_M9 : FR W_c_Gathering_takeIn_x T M9 := FR.t (FR.o ht_M k_t rfl) hf_M9 (kw_sub rfl)
        refine jr.iconst rfl ?_
        refine jr.istore (ls' := [_, _, _, _, _, _, _]) rfl (nlt rfl) rfl ?_
        refine jr.iconst rfl ?_
        refine jr.istore (ls' := [_, _, _, _, _, _, _, _]) rfl (nlt rfl) rfl ?_
        have e10 : M9 3 3 = C := (hf_M9.g (show kd 3 = 18 from rfl) rfl).trans ((ju_i _ _ (zne (by decide))).trans g_C)
        have e11 : M9 t 7 = v4 := (hf_M9.g k_t rfl).trans ((ju_i _ _ (zne (by decide))).trans e4)
        have e12 : M9 t 8 = v6 := (hf_M9.g k_t rfl).trans (ju_same _ _ _ _)
        refine jr.pick (ls := [_, _, _, _, _, _, _, _]) [6, 3, 2, 1, 0, 4, 5, 7] rfl rfl ?_
        exact c_Gathering_takeIn_x_L80 k_t q 400 M9 r1 r2 0 0 hC_M9 ht_M9 (by omega) (by omega) (by omega) (by omega) (by omega) e10 e11 e12 (HS.fr (HS.fr p1 (show kd 3 = 18 from rfl) hC_M (FR.o (FR.rfl [(15, 8)] M) k_t rfl) rfl) (show kd 3 = 18 from rfl) (CI.u hC_M (i := 8) k_t (show (-2147483648 : Int) ≤ _ ∧ _ ≤ (2147483647 : Int) from by omega) rfl) hf_M9 rfl) (TK0.k (show TK0 T ((ju M t 8 v6)) t v4 v6 from ⟨((ju_i _ _ (zne (by decide))).trans e4), (ju_same _ _ _ _), fun k a b => by rw [ju_i _ _ b, p0], fun b k hb => by rw [ju_c _ _ hb, p0]⟩) (by unfold wh1; rw [← w1_0, ← w2_0, p0, e4]; first | (rw [if_neg (by omega)])) (by unfold cm1; rw [← w1_0, ← w2_0, p0, e5]; (split <;> omega)) (by rw [← w1_0, p0, e8]; omega) w9_0) (TKR.z (fun k => by rw [w9_0.2.2.2 (t + 1) k (by omega) (by omega), ju_c _ _ (show t + 1 ≠ t by omega), p0])) ⟨w1_0, w2_0⟩ (by omega) (by omega) p5 (by omega)
  · refine jr.aload_n rfl rfl ?_
    refine jr.iload_n rfl rfl ?_
    refine jr_v rfl rfl (Or.inl rfl) rfl rfl (nlt rfl) rfl ⟨rfl, Nat.le_of_ble_eq_true rfl, Nat.le_of_ble_eq_true rfl⟩ rfl (jc.deep (c_Headers_isMoreToCome_x hC_M (show kd 3 = 18 from rfl) (by omega) g_C p1 (fun r13 z13 w13_0 => ?_)) (Nat.le_of_ble_eq_true rfl))
    refine jr.if_ne rfl rfl (by first | (refine rgb (by assumption) ?_; exact rfl) | omega) (fun h27 => ?_) (fun h27 => ?_)
    · have sx27 : (1 : Int) ≤ r13 := by omega
      clear h27
      refine jr.aload_n rfl rfl ?_
      refine jr.aload_n rfl rfl ?_
      obtain ⟨v14, e14⟩ : ∃ z_, M t 8 = z_ := ⟨_, rfl⟩
      have b14 : (-2147483648) ≤ v14 ∧ v14 ≤ 2147483647 := by rw [← e14]; exact (CI.r hC_M k_t (by decide) 8)
      refine jr.getf (i := 8) (x := v14) (v := .int (Int32.ofInt (v14))) rfl rfl (Nat.lt_trans (kx_15 k_t).1 (by decide)) (kx_15 k_t).2 (by decide) rfl rfl e14 rfl ?_
      refine jr.iload rfl rfl ?_
      refine jr.iload rfl rfl ?_
      refine jr.iadd rfl ?_
      refine jr.imax rfl rfl (Nat.le_of_ble_eq_true rfl) (by omega) (by omega) ?_
      intro v15 d15 b15 c15
      refine jr.putf (i := 8) (x := v15) rfl rfl (Nat.lt_trans (kx_15 k_t).1 (by decide)) (kx_15 k_t).2 (by decide) rfl rfl rfl rfl rfl ?_
      refine jr.iload rfl rfl ?_
      refine jr.if_ne rfl rfl (by first | (refine rgb (by assumption) ?_; exact rfl) | omega) (fun h57 => ?_) (fun h57 => ?_)
      · have sx57 : (1 : Int) ≤ r1 := by omega
        clear h57
        refine jr.iconst rfl ?_
        refine jr.istore (ls' := [_, _, _, _, _, _, _]) rfl (nlt rfl) rfl ?_
        refine jr.iconst rfl ?_
        refine jr.istore (ls' := [_, _, _, _, _, _, _, _]) rfl (nlt rfl) rfl ?_
        obtain ⟨v16, e16⟩ : ∃ z_, M t 11 = z_ := ⟨_, rfl⟩
        have b16 : (-1) ≤ v16 ∧ v16 ≤ 400 := by rw [← e16]; exact (CI.r hC_M k_t (by decide) 11)
        refine jr.pick (ls := [_, _, _, _, _, _, _, _]) [6, 3, 2, 1, 0, 4, 5, 7] rfl rfl ?_
        exact c_Gathering_takeIn_x_L80 k_t q 400 ((ju M t 8 v15)) r1 r2 0 0 (CI.u hC_M (i := 8) k_t (show (-2147483648 : Int) ≤ _ ∧ _ ≤ (2147483647 : Int) from by omega) rfl) (FR.o ht_M k_t rfl) (by omega) (by omega) (by omega) (by omega) (by omega) ((ju_i _ _ (zne (by decide))).trans g_C) ((ju_i _ _ (zne (by decide))).trans e4) (ju_same _ _ _ _) (HS.fr p1 (show kd 3 = 18 from rfl) hC_M (FR.o (FR.rfl [(15, 8)] M) k_t rfl) rfl) (TK0.n (show TK0 T ((ju M t 8 v15)) t v4 v15 from ⟨((ju_i _ _ (zne (by decide))).trans e4), (ju_same _ _ _ _), fun k a b => by rw [ju_i _ _ b, p0], fun b k hb => by rw [ju_c _ _ hb, p0]⟩) (by unfold wh1; rw [← w1_0, ← w2_0, p0, e4]; first | (rw [← w13_0, if_pos (by omega)]) | (rw [← w13_0, if_neg (by omega)]) | (rw [if_neg (by omega)])) (by unfold cm1; rw [← w1_0, ← w2_0, p0, e14]; (split <;> omega)) (by rw [← w1_0, p0, e16]; omega)) (TKR.z (fun k => by rw [ju_c _ _ (show t + 1 ≠ t by omega), p0])) ⟨w1_0, w2_0⟩ (by omega) (by omega) p5 (by omega)
      · refine jr.aload_n rfl rfl ?_
        obtain ⟨v17, e17⟩ : ∃ z_, M t 11 = z_ := ⟨_, rfl⟩
        have b17 : (-1) ≤ v17 ∧ v17 ≤ 400 := by rw [← e17]; exact (CI.r hC_M k_t (by decide) 11)
        refine jr.getf (i := 11) (x := v17) (v := .int (Int32.ofInt (v17))) rfl rfl (Nat.lt_trans (kx_15 k_t).1 (by decide)) (kx_15 k_t).2 (by decide) rfl rfl ((ju_i _ _ (zne (by decide))).trans e17) rfl ?_
        refine jr.iconst rfl ?_
        refine jr.icmp_ne rfl rfl (by first | (refine rgb (by assumption) ?_; exact rfl) | omega) (rgl rfl) (fun h65 => ?_) (fun h65 => ?_)
        · have sx65 : (0 : Int) ≤ v17 := by omega
          clear h65
          refine jr.iconst rfl ?_
          refine jr.istore (ls' := [_, _, _, _, _, _, _]) rfl (nlt rfl) rfl ?_
          refine jr.iconst rfl ?_
          refine jr.istore (ls' := [_, _, _, _, _, _, _, _]) rfl (nlt rfl) rfl ?_
          refine jr.pick (ls := [_, _, _, _, _, _, _, _]) [6, 3, 2, 1, 0, 4, 5, 7] rfl rfl ?_
          exact c_Gathering_takeIn_x_L80 k_t q 400 ((ju M t 8 v15)) r1 r2 0 0 (CI.u hC_M (i := 8) k_t (show (-2147483648 : Int) ≤ _ ∧ _ ≤ (2147483647 : Int) from by omega) rfl) (FR.o ht_M k_t rfl) (by omega) (by omega) (by omega) (by omega) (by omega) ((ju_i _ _ (zne (by decide))).trans g_C) ((ju_i _ _ (zne (by decide))).trans e4) (ju_same _ _ _ _) (HS.fr p1 (show kd 3 = 18 from rfl) hC_M (FR.o (FR.rfl [(15, 8)] M) k_t rfl) rfl) (TK0.n (show TK0 T ((ju M t 8 v15)) t v4 v15 from ⟨((ju_i _ _ (zne (by decide))).trans e4), (ju_same _ _ _ _), fun k a b => by rw [ju_i _ _ b, p0], fun b k hb => by rw [ju_c _ _ hb, p0]⟩) (by unfold wh1; rw [← w1_0, ← w2_0, p0, e4]; first | (rw [← w13_0, if_pos (by omega)]) | (rw [← w13_0, if_neg (by omega)]) | (rw [if_neg (by omega)])) (by unfold cm1; rw [← w1_0, ← w2_0, p0, e14]; (split <;> omega)) (by rw [← w1_0, p0, e17]; omega)) (TKR.z (fun k => by rw [ju_c _ _ (show t + 1 ≠ t by omega), p0])) ⟨w1_0, w2_0⟩ (by omega) (by omega) p5 (by omega)
        · refine jr.aload_n rfl rfl ?_
          refine jr.aload_n rfl rfl ?_
          refine jr.iload_n rfl rfl ?_
          refine jr_v rfl rfl (Or.inl rfl) rfl rfl (Nat.lt_trans (kx_15 k_t).1 (by decide)) (kx_15 k_t).2 ⟨rfl, Nat.le_of_ble_eq_true rfl, Nat.le_of_ble_eq_true rfl⟩ rfl (jc.deep (c_Gathering_keepHeaders_x (CI.u hC_M (i := 8) k_t (show (-2147483648 : Int) ≤ _ ∧ _ ≤ (2147483647 : Int) from by omega) rfl) (FR.rfl _ ((ju M t 8 v15))) k_t (by omega) ((ju_i _ _ (zne (by decide))).trans g_C) rfl (HS.fr p1 (show kd 3 = 18 from rfl) hC_M (FR.o (FR.rfl [(15, 8)] M) k_t rfl) rfl) (by omega) (by omega) (fun M18 hC_M18 hf_M18 w18_0 => ?_)) (Nat.le_of_ble_eq_true rfl))
          have ht_M18 : FR W_c_Gathering_takeIn_x T M18 := FR.t (FR.o ht_M k_t rfl) hf_M18 (kw_sub rfl)
          refine jr.iconst rfl ?_
          refine jr.istore (ls' := [_, _, _, _, _, _, _]) rfl (nlt rfl) rfl ?_
          refine jr.iconst rfl ?_
          refine jr.istore (ls' := [_, _, _, _, _, _, _, _]) rfl (nlt rfl) rfl ?_
          have e19 : M18 3 3 = C := (hf_M18.g (show kd 3 = 18 from rfl) rfl).trans ((ju_i _ _ (zne (by decide))).trans g_C)
          have e20 : M18 t 7 = v4 := (hf_M18.g k_t rfl).trans ((ju_i _ _ (zne (by decide))).trans e4)
          have e21 : M18 t 8 = v15 := (hf_M18.g k_t rfl).trans (ju_same _ _ _ _)
          refine jr.pick (ls := [_, _, _, _, _, _, _, _]) [6, 3, 2, 1, 0, 4, 5, 7] rfl rfl ?_
          exact c_Gathering_takeIn_x_L80 k_t q 400 M18 r1 r2 0 0 hC_M18 ht_M18 (by omega) (by omega) (by omega) (by omega) (by omega) e19 e20 e21 (HS.fr (HS.fr p1 (show kd 3 = 18 from rfl) hC_M (FR.o (FR.rfl [(15, 8)] M) k_t rfl) rfl) (show kd 3 = 18 from rfl) (CI.u hC_M (i := 8) k_t (show (-2147483648 : Int) ≤ _ ∧ _ ≤ (2147483647 : Int) from by omega) rfl) hf_M18 rfl) (TK0.k (show TK0 T ((ju M t 8 v15)) t v4 v15 from ⟨((ju_i _ _ (zne (by decide))).trans e4), (ju_same _ _ _ _), fun k a b => by rw [ju_i _ _ b, p0], fun b k hb => by rw [ju_c _ _ hb, p0]⟩) (by unfold wh1; rw [← w1_0, ← w2_0, p0, e4]; first | (rw [← w13_0, if_pos (by omega)]) | (rw [← w13_0, if_neg (by omega)]) | (rw [if_neg (by omega)])) (by unfold cm1; rw [← w1_0, ← w2_0, p0, e14]; (split <;> omega)) (by rw [← w1_0, p0, e17]; omega) w18_0) (TKR.z (fun k => by rw [w18_0.2.2.2 (t + 1) k (by omega) (by omega), ju_c _ _ (show t + 1 ≠ t by omega), p0])) ⟨w1_0, w2_0⟩ (by omega) (by omega) p5 (by omega)
    · refine jr.aload_n rfl rfl ?_
      refine jr.iload rfl rfl ?_
      refine jr.iload rfl rfl ?_
      refine jr.iadd rfl ?_
      refine jr.putf (i := 7) (x := (r1 + r2)) rfl rfl (Nat.lt_trans (kx_15 k_t).1 (by decide)) (kx_15 k_t).2 (by decide) rfl rfl rfl rfl rfl ?_
      refine jr.aload_n rfl rfl ?_
      refine jr.aload_n rfl rfl ?_
      obtain ⟨v22, e22⟩ : ∃ z_, M t 8 = z_ := ⟨_, rfl⟩
      have b22 : (-2147483648) ≤ v22 ∧ v22 ≤ 2147483647 := by rw [← e22]; exact (CI.r hC_M k_t (by decide) 8)
      refine jr.getf (i := 8) (x := v22) (v := .int (Int32.ofInt (v22))) rfl rfl (Nat.lt_trans (kx_15 k_t).1 (by decide)) (kx_15 k_t).2 (by decide) rfl rfl ((ju_i _ _ (zne (by decide))).trans e22) rfl ?_
      refine jr.iload rfl rfl ?_
      refine jr.iload rfl rfl ?_
      refine jr.iadd rfl ?_
      refine jr.imax rfl rfl (Nat.le_of_ble_eq_true rfl) (by omega) (by omega) ?_
      intro v23 d23 b23 c23
      refine jr.putf (i := 8) (x := v23) rfl rfl (Nat.lt_trans (kx_15 k_t).1 (by decide)) (kx_15 k_t).2 (by decide) rfl rfl rfl rfl rfl ?_
      refine jr.iload rfl rfl ?_
      refine jr.if_ne rfl rfl (by first | (refine rgb (by assumption) ?_; exact rfl) | omega) (fun h57 => ?_) (fun h57 => ?_)
      · have sx57 : (1 : Int) ≤ r1 := by omega
        clear h57
        refine jr.iconst rfl ?_
        refine jr.istore (ls' := [_, _, _, _, _, _, _]) rfl (nlt rfl) rfl ?_
        refine jr.iconst rfl ?_
        refine jr.istore (ls' := [_, _, _, _, _, _, _, _]) rfl (nlt rfl) rfl ?_
        obtain ⟨v24, e24⟩ : ∃ z_, M t 11 = z_ := ⟨_, rfl⟩
        have b24 : (-1) ≤ v24 ∧ v24 ≤ 400 := by rw [← e24]; exact (CI.r hC_M k_t (by decide) 11)
        refine jr.pick (ls := [_, _, _, _, _, _, _, _]) [6, 3, 2, 1, 0, 4, 5, 7] rfl rfl ?_
        exact c_Gathering_takeIn_x_L80 k_t q 400 ((ju (ju M t 7 (r1 + r2)) t 8 v23)) r1 r2 0 0 (CI.u (CI.u hC_M (i := 7) k_t (show (-1 : Int) ≤ _ ∧ _ ≤ (70000 : Int) from by omega) rfl) (i := 8) k_t (show (-2147483648 : Int) ≤ _ ∧ _ ≤ (2147483647 : Int) from by omega) rfl) (FR.o (FR.o ht_M k_t rfl) k_t rfl) (by omega) (by omega) (by omega) (by omega) (by omega) ((ju_i _ _ (zne (by decide))).trans ((ju_i _ _ (zne (by decide))).trans g_C)) ((ju_i _ _ (zne (by decide))).trans (ju_same _ _ _ _)) (ju_same _ _ _ _) (HS.fr p1 (show kd 3 = 18 from rfl) hC_M (FR.o (FR.o (FR.rfl [(15, 7), (15, 8)] M) k_t rfl) k_t rfl) rfl) (TK0.n (show TK0 T ((ju (ju M t 7 (r1 + r2)) t 8 v23)) t (r1 + r2) v23 from ⟨((ju_i _ _ (zne (by decide))).trans (ju_same _ _ _ _)), (ju_same _ _ _ _), fun k a b => by rw [ju_i _ _ b, ju_i _ _ a, p0], fun b k hb => by rw [ju_c _ _ hb, ju_c _ _ hb, p0]⟩) (by unfold wh1; rw [← w1_0, ← w2_0, p0, e4]; first | (rw [← w13_0, if_pos (by omega)]) | (rw [← w13_0, if_neg (by omega)]) | (rw [if_neg (by omega)])) (by unfold cm1; rw [← w1_0, ← w2_0, p0, e22]; (split <;> omega)) (by rw [← w1_0, p0, e24]; omega)) (TKR.z (fun k => by rw [ju_c _ _ (show t + 1 ≠ t by omega), ju_c _ _ (show t + 1 ≠ t by omega), p0])) ⟨w1_0, w2_0⟩ (by omega) (by omega) p5 (by omega)
      · refine jr.aload_n rfl rfl ?_
        obtain ⟨v25, e25⟩ : ∃ z_, M t 11 = z_ := ⟨_, rfl⟩
        have b25 : (-1) ≤ v25 ∧ v25 ≤ 400 := by rw [← e25]; exact (CI.r hC_M k_t (by decide) 11)
        refine jr.getf (i := 11) (x := v25) (v := .int (Int32.ofInt (v25))) rfl rfl (Nat.lt_trans (kx_15 k_t).1 (by decide)) (kx_15 k_t).2 (by decide) rfl rfl ((ju_i _ _ (zne (by decide))).trans ((ju_i _ _ (zne (by decide))).trans e25)) rfl ?_
        refine jr.iconst rfl ?_
        refine jr.icmp_ne rfl rfl (by first | (refine rgb (by assumption) ?_; exact rfl) | omega) (rgl rfl) (fun h65 => ?_) (fun h65 => ?_)
        · have sx65 : (0 : Int) ≤ v25 := by omega
          clear h65
          refine jr.iconst rfl ?_
          refine jr.istore (ls' := [_, _, _, _, _, _, _]) rfl (nlt rfl) rfl ?_
          refine jr.iconst rfl ?_
          refine jr.istore (ls' := [_, _, _, _, _, _, _, _]) rfl (nlt rfl) rfl ?_
          refine jr.pick (ls := [_, _, _, _, _, _, _, _]) [6, 3, 2, 1, 0, 4, 5, 7] rfl rfl ?_
          exact c_Gathering_takeIn_x_L80 k_t q 400 ((ju (ju M t 7 (r1 + r2)) t 8 v23)) r1 r2 0 0 (CI.u (CI.u hC_M (i := 7) k_t (show (-1 : Int) ≤ _ ∧ _ ≤ (70000 : Int) from by omega) rfl) (i := 8) k_t (show (-2147483648 : Int) ≤ _ ∧ _ ≤ (2147483647 : Int) from by omega) rfl) (FR.o (FR.o ht_M k_t rfl) k_t rfl) (by omega) (by omega) (by omega) (by omega) (by omega) ((ju_i _ _ (zne (by decide))).trans ((ju_i _ _ (zne (by decide))).trans g_C)) ((ju_i _ _ (zne (by decide))).trans (ju_same _ _ _ _)) (ju_same _ _ _ _) (HS.fr p1 (show kd 3 = 18 from rfl) hC_M (FR.o (FR.o (FR.rfl [(15, 7), (15, 8)] M) k_t rfl) k_t rfl) rfl) (TK0.n (show TK0 T ((ju (ju M t 7 (r1 + r2)) t 8 v23)) t (r1 + r2) v23 from ⟨((ju_i _ _ (zne (by decide))).trans (ju_same _ _ _ _)), (ju_same _ _ _ _), fun k a b => by rw [ju_i _ _ b, ju_i _ _ a, p0], fun b k hb => by rw [ju_c _ _ hb, ju_c _ _ hb, p0]⟩) (by unfold wh1; rw [← w1_0, ← w2_0, p0, e4]; first | (rw [← w13_0, if_pos (by omega)]) | (rw [← w13_0, if_neg (by omega)]) | (rw [if_neg (by omega)])) (by unfold cm1; rw [← w1_0, ← w2_0, p0, e22]; (split <;> omega)) (by rw [← w1_0, p0, e25]; omega)) (TKR.z (fun k => by rw [ju_c _ _ (show t + 1 ≠ t by omega), ju_c _ _ (show t + 1 ≠ t by omega), p0])) ⟨w1_0, w2_0⟩ (by omega) (by omega) p5 (by omega)
        · refine jr.aload_n rfl rfl ?_
          refine jr.aload_n rfl rfl ?_
          refine jr.iload_n rfl rfl ?_
          refine jr_v rfl rfl (Or.inl rfl) rfl rfl (Nat.lt_trans (kx_15 k_t).1 (by decide)) (kx_15 k_t).2 ⟨rfl, Nat.le_of_ble_eq_true rfl, Nat.le_of_ble_eq_true rfl⟩ rfl (jc.deep (c_Gathering_keepHeaders_x (CI.u (CI.u hC_M (i := 7) k_t (show (-1 : Int) ≤ _ ∧ _ ≤ (70000 : Int) from by omega) rfl) (i := 8) k_t (show (-2147483648 : Int) ≤ _ ∧ _ ≤ (2147483647 : Int) from by omega) rfl) (FR.rfl _ ((ju (ju M t 7 (r1 + r2)) t 8 v23))) k_t (by omega) ((ju_i _ _ (zne (by decide))).trans ((ju_i _ _ (zne (by decide))).trans g_C)) rfl (HS.fr p1 (show kd 3 = 18 from rfl) hC_M (FR.o (FR.o (FR.rfl [(15, 7), (15, 8)] M) k_t rfl) k_t rfl) rfl) (by omega) (by omega) (fun M26 hC_M26 hf_M26 w26_0 => ?_)) (Nat.le_of_ble_eq_true rfl))
          have ht_M26 : FR W_c_Gathering_takeIn_x T M26 := FR.t (FR.o (FR.o ht_M k_t rfl) k_t rfl) hf_M26 (kw_sub rfl)
          refine jr.iconst rfl ?_
          refine jr.istore (ls' := [_, _, _, _, _, _, _]) rfl (nlt rfl) rfl ?_
          refine jr.iconst rfl ?_
          refine jr.istore (ls' := [_, _, _, _, _, _, _, _]) rfl (nlt rfl) rfl ?_
          have e27 : M26 3 3 = C := (hf_M26.g (show kd 3 = 18 from rfl) rfl).trans ((ju_i _ _ (zne (by decide))).trans ((ju_i _ _ (zne (by decide))).trans g_C))
          have e28 : M26 t 7 = r1 + r2 := (hf_M26.g k_t rfl).trans ((ju_i _ _ (zne (by decide))).trans (ju_same _ _ _ _))
          have e29 : M26 t 8 = v23 := (hf_M26.g k_t rfl).trans (ju_same _ _ _ _)
          refine jr.pick (ls := [_, _, _, _, _, _, _, _]) [6, 3, 2, 1, 0, 4, 5, 7] rfl rfl ?_
          exact c_Gathering_takeIn_x_L80 k_t q 400 M26 r1 r2 0 0 hC_M26 ht_M26 (by omega) (by omega) (by omega) (by omega) (by omega) e27 e28 e29 (HS.fr (HS.fr p1 (show kd 3 = 18 from rfl) hC_M (FR.o (FR.o (FR.rfl [(15, 7), (15, 8)] M) k_t rfl) k_t rfl) rfl) (show kd 3 = 18 from rfl) (CI.u (CI.u hC_M (i := 7) k_t (show (-1 : Int) ≤ _ ∧ _ ≤ (70000 : Int) from by omega) rfl) (i := 8) k_t (show (-2147483648 : Int) ≤ _ ∧ _ ≤ (2147483647 : Int) from by omega) rfl) hf_M26 rfl) (TK0.k (show TK0 T ((ju (ju M t 7 (r1 + r2)) t 8 v23)) t (r1 + r2) v23 from ⟨((ju_i _ _ (zne (by decide))).trans (ju_same _ _ _ _)), (ju_same _ _ _ _), fun k a b => by rw [ju_i _ _ b, ju_i _ _ a, p0], fun b k hb => by rw [ju_c _ _ hb, ju_c _ _ hb, p0]⟩) (by unfold wh1; rw [← w1_0, ← w2_0, p0, e4]; first | (rw [← w13_0, if_pos (by omega)]) | (rw [← w13_0, if_neg (by omega)]) | (rw [if_neg (by omega)])) (by unfold cm1; rw [← w1_0, ← w2_0, p0, e22]; (split <;> omega)) (by rw [← w1_0, p0, e25]; omega) w26_0) (TKR.z (fun k => by rw [w26_0.2.2.2 (t + 1) k (by omega) (by omega), ju_c _ _ (show t + 1 ≠ t by omega), ju_c _ _ (show t + 1 ≠ t by omega), p0])) ⟨w1_0, w2_0⟩ (by omega) (by omega) p5 (by omega)
end
section
/-! ===== the class: a packet is put together ===== -/
noncomputable def hlf (K L : Int) : Int := if K = 6 then L - 8 else L
noncomputable def mk0 (kp rw f : Int → Int) (A W : Int) : Int → Int := fun k => if 0 ≤ k ∧ k < A then kp k else if A ≤ k ∧ k < A + W then rw (k - A) else f k
noncomputable def mk2 (g : Int → Int) (nt ln : Int) : Int → Int := ptn (ptn g (nt + 2) 2 (ln - nt)) (nt + 6) 2 0
noncomputable def mkF (g : Int → Int) (K A W nt nx nv : Int) : Int → Int := if K = 2 then ptn (mk2 g nt (A + W)) (nt + 10) 2 (tn (sb (fz (mk2 g nt (A + W)) (nt + 10)) nt (A - nt).toNat)) else ptn (ptn g nx 1 nv) (nt + 2) 2 (A + W - nt - 24)
theorem ptn_2 (f : Int → Int) (y v w : Int) : ptn (ptn f y 2 v) y 2 w = ptn f y 2 w := by
  funext k
  unfold ptn
  by_cases q : y ≤ k ∧ k < y + 2
  · rw [if_pos q, if_pos q]
  · rw [if_neg q, if_neg q, if_neg q]
theorem sb_p0 {f : Int → Int} {y a : Int} (n : Nat) : sb (ptn f y 2 0) a n = sb (fz f y) a n := sb_e n (fun i _ _ => by
  unfold ptn fz
  by_cases q : y ≤ i ∧ i < y + 2
  · rw [if_pos q, if_pos (by omega)]
    unfold bt
    (repeat' split) <;> omega
  · rw [if_neg q, if_neg (by omega)])
/-- rows from which a packet is put together -/
noncomputable def MKP (M : jm) (t : Nat) (kp rw : Int → Int) (A W : Int) : Prop := (∀ k : Int, 0 ≤ k → k < A → M (t + 2) k = kp k ∧ 0 ≤ kp k ∧ kp k ≤ 255) ∧ ∀ k : Int, 0 ≤ k → k < W → M (t + 1) k = rw k ∧ 0 ≤ rw k ∧ rw k ≤ 255
theorem mk0_b {M1 M2 M : jm} {t c : Nat} {kp rw f : Int → Int} {A W : Int} (h : MKP M t kp rw A W) (hb : BY8 M c f) (hA : 0 ≤ A ∧ 0 ≤ W ∧ A + W ≤ 400) (c1 : t + 2 ≠ c) (c2 : t + 1 ≠ c) (e1 : ∀ (b : Nat) (k : Int), M1 b k = if b = c ∧ 0 ≤ k ∧ k < 0 + A then M (t + 2) (0 + (k - 0)) else M b k) (e2 : ∀ (b : Nat) (k : Int), M2 b k = if b = c ∧ A ≤ k ∧ k < A + W then M1 (t + 1) (0 + (k - A)) else M1 b k) : BY8 M2 c (mk0 kp rw f A W) := by
  intro i h0 h1
  rw [e2]
  unfold mk0
  by_cases q : A ≤ i ∧ i < A + W
  · rw [if_pos ⟨rfl, q⟩, if_neg (by omega), if_pos q, e1, if_neg (by intro h; exact c2 h.1), show 0 + (i - A) = i - A by omega]
    exact h.2 (i - A) (by omega) (by omega)
  · rw [if_neg (by intro h; exact q h.2), e1]
    by_cases q2 : 0 ≤ i ∧ i < A
    · rw [if_pos ⟨rfl, by omega⟩, if_pos q2, show 0 + (i - 0) = i by omega]
      exact h.1 i q2.1 q2.2
    · rw [if_neg (by intro h; exact q2 ⟨h.2.1, by omega⟩), if_neg q2, if_neg q]
      exact hb i h0 h1
theorem c_Gathering_headersLength_x {A : Nat → Option (Nat × (Nat → Int32))} {Q : Option Value → jm → Prop} {M : jm} (hC_M : CI M) {t : Nat} (k_t : kd t = 15) {K : Int} (g_K : M t 1 = K) {L : Int} (g_L : M t 11 = L) (q : ∀ (r : Int), (-9) ≤ r ∧ r ≤ 400 → (r = hlf K L) → Q (some (.int (Int32.ofInt r))) M) : jc A 1 101 [.ref (t)] M Q := by
  refine jc_of (m := xm_101) rfl (Nat.le_of_ble_eq_true rfl) rfl ?_
  have b_K : (-2147483648) ≤ K ∧ K ≤ 2147483647 := by rw [← g_K]; exact (CI.r hC_M k_t (by decide) 1)
  have b_L : (-1) ≤ L ∧ L ≤ 400 := by rw [← g_L]; exact (CI.r hC_M k_t (by decide) 11)
  refine jr.aload_n rfl rfl ?_
  refine jr.getf (i := 1) (x := K) (v := .int (Int32.ofInt (K))) rfl rfl (Nat.lt_trans (kx_15 k_t).1 (by decide)) (kx_15 k_t).2 (by decide) rfl rfl g_K rfl ?_
  refine jr.bipush rfl (jbp _ (nlt rfl)) ?_
  refine jr.icmp_ne rfl rfl (by first | (refine rgb (by assumption) ?_; exact rfl) | omega) (rgl rfl) (fun h6 => ?_) (fun h6 => ?_)
  · refine jr.aload_n rfl rfl ?_
    refine jr.getf (i := 11) (x := L) (v := .int (Int32.ofInt (L))) rfl rfl (Nat.lt_trans (kx_15 k_t).1 (by decide)) (kx_15 k_t).2 (by decide) rfl rfl g_L rfl ?_
    exact jr.ireturn rfl rfl rfl (q _ (by omega) (by unfold hlf; (repeat' split) <;> omega))
  · refine jr.aload_n rfl rfl ?_
    refine jr.getf (i := 11) (x := L) (v := .int (Int32.ofInt (L))) rfl rfl (Nat.lt_trans (kx_15 k_t).1 (by decide)) (kx_15 k_t).2 (by decide) rfl rfl g_L rfl ?_
    refine jr.bipush rfl (jbp _ (nlt rfl)) ?_
    refine jr.isub rfl ?_
    refine jr.goto rfl rfl ?_
    exact jr.ireturn rfl rfl rfl (q _ (by omega) (by unfold hlf; (repeat' split) <;> omega))
theorem c_Gathering_packetLength_x {A : Nat → Option (Nat × (Nat → Int32))} {Q : Option Value → jm → Prop} {M : jm} (hC_M : CI M) {t : Nat} (k_t : kd t = 15) {K : Int} (g_K : M t 1 = K) {L : Int} (g_L : M t 11 = L) {W : Int} (g_W : M t 7 = W) (q : ∀ (r : Int), (-10) ≤ r ∧ r ≤ 70400 → (r = hlf K L + W) → Q (some (.int (Int32.ofInt r))) M) : jc A 2 98 [.ref (t)] M Q := by
  refine jc_of (m := xm_98) rfl (Nat.le_of_ble_eq_true rfl) rfl ?_
  have b_K : (-2147483648) ≤ K ∧ K ≤ 2147483647 := by rw [← g_K]; exact (CI.r hC_M k_t (by decide) 1)
  have b_L : (-1) ≤ L ∧ L ≤ 400 := by rw [← g_L]; exact (CI.r hC_M k_t (by decide) 11)
  have b_W : (-1) ≤ W ∧ W ≤ 70000 := by rw [← g_W]; exact (CI.r hC_M k_t (by decide) 7)
  refine jr.aload_n rfl rfl ?_
  refine jr_v rfl rfl (Or.inl rfl) rfl rfl (Nat.lt_trans (kx_15 k_t).1 (by decide)) (kx_15 k_t).2 ⟨rfl, Nat.le_of_ble_eq_true rfl, Nat.le_of_ble_eq_true rfl⟩ rfl (jc.deep (c_Gathering_headersLength_x hC_M k_t g_K g_L (fun r1 z1 w1_0 => ?_)) (Nat.le_of_ble_eq_true rfl))
  refine jr.aload_n rfl rfl ?_
  refine jr.getf (i := 7) (x := W) (v := .int (Int32.ofInt (W))) rfl rfl (Nat.lt_trans (kx_15 k_t).1 (by decide)) (kx_15 k_t).2 (by decide) rfl rfl g_W rfl ?_
  refine jr.iadd rfl ?_
  exact jr.ireturn rfl rfl rfl (q _ (by omega) (by omega))
theorem mkF_2 {g : Int → Int} {K A W nt nx nv l a s v : Int} (hK : K = 2) (hl : l = A + W) (ha : a = A) (hs : s = sb (ptn (ptn (ptn g (nt + 2) 2 (l - nt)) (nt + 6) 2 0) (nt + 10) 2 0) nt (a - nt).toNat) (hv : v = tn s) : ptn (ptn (ptn (ptn g (nt + 2) 2 (l - nt)) (nt + 6) 2 0) (nt + 10) 2 0) (nt + 10) 2 v = mkF g K A W nt nx nv := by
  subst hl
  subst ha
  unfold mkF
  rw [if_pos hK, ptn_2, hv, hs, sb_p0]
  rfl
theorem mkF_6 {g : Int → Int} {K A W nt nx nv l : Int} (hK : K ≠ 2) (hl : l = A + W) : ptn (ptn g nx 1 nv) (nt + 2) 2 (l - nt - 24) = mkF g K A W nt nx nv := by
  subst hl
  unfold mkF
  rw [if_neg hK]
theorem lpf_w {w : Int} (h : 0 ≤ w ∧ w ≤ 360) : lpf w = w := by
  unfold lpf
  rw [if_neg (by omega), if_pos h.2]
/-- what makePacket leaves behind -/
noncomputable def MKD (T M : jm) (x : Nat) (h : Int → Int) (ln : Int) : Prop := BY8 M (x + 1) h ∧ M x 1 = ln ∧ M x 2 = 0 ∧ ∀ (b : Nat) (k : Int), b ≠ x → b ≠ x + 1 → M b k = T b k
noncomputable def W_c_Gathering_makePacket_x : List (Nat × Nat) := [(33, 1), (33, 2), (34, 1000)]
theorem c_Gathering_makePacket_x {A : Nat → Option (Nat × (Nat → Int32))} {Q : Option Value → jm → Prop} {kp rw f : Int → Int} {T : jm} {M : jm} (hC_M : CI M) (ht_M : FR W_c_Gathering_makePacket_x T M) {t : Nat} (k_t : kd t = 15) {x : Nat} (k_x : kd x = 33) {K : Int} (g_K : M t 1 = K) {W : Int} (g_W : M t 7 = W) {L : Int} (g_L : M t 11 = L) {P : Int} (g_P : M t 12 = P) {U : Int} (g_U : M t 13 = U) {X : Int} (g_X : M t 5 = X) (p0 : T = M) (p1 : MKP M t kp rw (hlf K L) W) (p2 : BY8 M (x + 1) f) (p3 : (0 ≤ W ∧ W ≤ 360) ∧ 8 ≤ L ∧ (0 ≤ hlf K L ∧ hlf K L + W ≤ 400)) (p4 : (K ≠ 2 ∨ (P + 20 ≤ hlf K L)) ∧ 0 ≤ P ∧ P ≤ 400) (q : ∀ (M' : jm), CI M' → FR W_c_Gathering_makePacket_x T M' → (MKD T M' x (mkF (mk0 kp rw f (hlf K L) W) K (hlf K L) W P U X) (hlf K L + W)) → Q none M') : jc A 3 99 [.ref (t), .ref (x)] M Q := by
  refine jc_of (m := xm_99) rfl (Nat.le_of_ble_eq_true rfl) rfl ?_
  have b_K : (-2147483648) ≤ K ∧ K ≤ 2147483647 := by rw [← g_K]; exact (CI.r hC_M k_t (by decide) 1)
  have b_W : (-1) ≤ W ∧ W ≤ 70000 := by rw [← g_W]; exact (CI.r hC_M k_t (by decide) 7)
  have b_L : (-1) ≤ L ∧ L ≤ 400 := by rw [← g_L]; exact (CI.r hC_M k_t (by decide) 11)
  have b_P : (-1) ≤ P ∧ P ≤ 400 := by rw [← g_P]; exact (CI.r hC_M k_t (by decide) 12)
  have b_U : (-1) ≤ U ∧ U ≤ 404 := by rw [← g_U]; exact (CI.r hC_M k_t (by decide) 13)
  have b_X : (-9223372036854775808) ≤ X ∧ X ≤ 9223372036854775807 := by rw [← g_X]; exact (CI.r hC_M k_t (by decide) 5)
  have k_by : kd (x + 1) = 34 := (kf_33_0 k_x).2
  refine jr.aload_n rfl rfl ?_
  refine jr_v rfl rfl (Or.inl rfl) rfl rfl (Nat.lt_trans (kx_15 k_t).1 (by decide)) (kx_15 k_t).2 ⟨rfl, Nat.le_of_ble_eq_true rfl, Nat.le_of_ble_eq_true rfl⟩ rfl (jc.deep (c_Gathering_headersLength_x hC_M k_t g_K g_L (fun r1 z1 w1_0 => ?_)) (Nat.le_of_ble_eq_true rfl))
  refine jr.istore_n (ls' := [_, _, _]) rfl (nlt rfl) rfl ?_
  refine jr.aload_n rfl rfl ?_
  have k2 := kf_15_10 k_t
  refine jr.getf (i := 10) (v := .ref (t + 2)) rfl rfl (Nat.lt_trans (kx_15 k_t).1 (by decide)) (kx_15 k_t).2 (by decide) rfl rfl rfl (jval_ref rfl k2.1) ?_
  refine jr.iconst rfl ?_
  refine jr.aload_n rfl rfl ?_
  have k3 := kf_33_0 k_x
  refine jr.getf (i := 0) (v := .ref (x + 1)) rfl rfl (Nat.lt_trans (kx_33 k_x).1 (by decide)) (kx_33 k_x).2 (by decide) rfl rfl rfl (jval_ref rfl k3.1) ?_
  refine jr.iconst rfl ?_
  refine jr.iload_n rfl rfl ?_
  refine jr.acp rfl rfl (Nat.le_of_ble_eq_true rfl) (Nat.lt_trans (kx_16 k2.2).1 (by decide)) (kx_16 k2.2).2 (Nat.lt_trans (kx_34 k3.2).1 (by decide)) (kx_34 k3.2).2 (by decide) (by decide) (by omega) (by omega) (by omega) (by omega) (by omega) ?_
  have hC_M4 : CI (jcpy M ((t + 2)) 0 ((x + 1)) 0 r1) := CI.cpy hC_M k2.2 k3.2 (by decide) (fun i j => (show (-1 : Int) ≤ (-1 : Int) ∧ (255 : Int) ≤ (255 : Int) from by decide)) (fun _ => rfl)
  have ht_M4 : FR W_c_Gathering_makePacket_x T (jcpy M ((t + 2)) 0 ((x + 1)) 0 r1) := FR.cpy ht_M k3.2 (fun _ => rfl)
  have hf_M4 : FR [(34, 1000)] M (jcpy M ((t + 2)) 0 ((x + 1)) 0 r1) := FR.cpy (FR.rfl _ _) k3.2 (fun _ => rfl)
  have hx_M4 : ∀ (b : Nat) (k : Int), jcpy M ((t + 2)) 0 ((x + 1)) 0 r1 b k = if b = (x + 1) ∧ 0 ≤ k ∧ k < 0 + r1 then M ((t + 2)) (0 + (k - 0)) else M b k := fun _ _ => rfl
  generalize jcpy M ((t + 2)) 0 ((x + 1)) 0 r1 = M4 at hC_M4 ht_M4 hf_M4 hx_M4 ⊢
  refine jr.aload_n rfl rfl ?_
  have k5 := kf_15_9 k_t
  refine jr.getf (i := 9) (v := .ref (t + 1)) rfl rfl (Nat.lt_trans (kx_15 k_t).1 (by decide)) (kx_15 k_t).2 (by decide) rfl rfl rfl (jval_ref rfl k5.1) ?_
  refine jr.iconst rfl ?_
  refine jr.aload_n rfl rfl ?_
  have k6 := kf_33_0 k_x
  refine jr.getf (i := 0) (v := .ref (x + 1)) rfl rfl (Nat.lt_trans (kx_33 k_x).1 (by decide)) (kx_33 k_x).2 (by decide) rfl rfl rfl (jval_ref rfl k6.1) ?_
  refine jr.iload_n rfl rfl ?_
  refine jr.aload_n rfl rfl ?_
  have e8 : M4 t 7 = W := (hf_M4.g k_t rfl).trans g_W
  refine jr_v rfl rfl (Or.inl rfl) rfl rfl (Nat.lt_trans (kx_15 k_t).1 (by decide)) (kx_15 k_t).2 ⟨rfl, Nat.le_of_ble_eq_true rfl, Nat.le_of_ble_eq_true rfl⟩ rfl (jc.deep (c_Gathering_lastPlace_x hC_M4 k_t e8 (fun r7 z7 w7_0 => ?_)) (Nat.le_of_ble_eq_true rfl))
  have hlw : r7 = W := (by rw [w7_0, lpf_w (by omega)])
  refine jr.acp rfl rfl (Nat.le_of_ble_eq_true rfl) (Nat.lt_trans (kx_17 k5.2).1 (by decide)) (kx_17 k5.2).2 (Nat.lt_trans (kx_34 k6.2).1 (by decide)) (kx_34 k6.2).2 (by decide) (by decide) (by omega) (by omega) (by omega) (by omega) (by omega) ?_
  have hC_M9 : CI (jcpy M4 ((t + 1)) 0 ((x + 1)) r1 r7) := CI.cpy hC_M4 k5.2 k6.2 (by decide) (fun i j => (show (-1 : Int) ≤ (-1 : Int) ∧ (255 : Int) ≤ (255 : Int) from by decide)) (fun _ => rfl)
  have ht_M9 : FR W_c_Gathering_makePacket_x T (jcpy M4 ((t + 1)) 0 ((x + 1)) r1 r7) := FR.cpy ht_M4 k6.2 (fun _ => rfl)
  have hf_M9 : FR [(34, 1000)] M4 (jcpy M4 ((t + 1)) 0 ((x + 1)) r1 r7) := FR.cpy (FR.rfl _ _) k6.2 (fun _ => rfl)
  have hx_M9 : ∀ (b : Nat) (k : Int), jcpy M4 ((t + 1)) 0 ((x + 1)) r1 r7 b k = if b = (x + 1) ∧ r1 ≤ k ∧ k < r1 + r7 then M4 ((t + 1)) (0 + (k - r1)) else M4 b k := fun _ _ => rfl
  generalize jcpy M4 ((t + 1)) 0 ((x + 1)) r1 r7 = M9 at hC_M9 ht_M9 hf_M9 hx_M9 ⊢
  refine jr.aload_n rfl rfl ?_
  refine jr.aload_n rfl rfl ?_
  have e11 : M4 t 1 = K := (hf_M4.g k_t rfl).trans g_K
  have e12 : M9 t 1 = K := (hf_M9.g k_t rfl).trans e11
  have e13 : M4 t 11 = L := (hf_M4.g k_t rfl).trans g_L
  have e14 : M9 t 11 = L := (hf_M9.g k_t rfl).trans e13
  have e15 : M9 t 7 = W := (hf_M9.g k_t rfl).trans e8
  refine jr_v rfl rfl (Or.inl rfl) rfl rfl (Nat.lt_trans (kx_15 k_t).1 (by decide)) (kx_15 k_t).2 ⟨rfl, Nat.le_of_ble_eq_true rfl, Nat.le_of_ble_eq_true rfl⟩ rfl (jc.deep (c_Gathering_packetLength_x hC_M9 k_t e12 e14 e15 (fun r10 z10 w10_0 => ?_)) (Nat.le_of_ble_eq_true rfl))
  refine jr.putf (i := 1) (x := r10) rfl rfl (Nat.lt_trans (kx_33 k_x).1 (by decide)) (kx_33 k_x).2 (by decide) rfl rfl rfl rfl rfl ?_
  refine jr.aload_n rfl rfl ?_
  refine jr.lconst (x := 0) rfl (by decide) ?_
  refine jr.putf (i := 2) (x := 0) rfl rfl (Nat.lt_trans (kx_33 k_x).1 (by decide)) (kx_33 k_x).2 (by decide) rfl rfl rfl rfl rfl ?_
  refine jr.aload_n rfl rfl ?_
  refine jr.getf (i := 1) (x := K) (v := .int (Int32.ofInt (K))) rfl rfl (Nat.lt_trans (kx_15 k_t).1 (by decide)) (kx_15 k_t).2 (by decide) rfl rfl ((ju_i _ _ (zne (by decide))).trans ((ju_c _ _ (kd_ne (by rw [k_t, k_x]; decide))).trans e12)) rfl ?_
  refine jr.iconst rfl ?_
  refine jr.icmp_ne rfl rfl (by first | (refine rgb (by assumption) ?_; exact rfl) | omega) (rgl rfl) (fun h54 => ?_) (fun h54 => ?_)
  · refine jr.aload_n rfl rfl ?_
    have k16 := kf_33_0 k_x
    refine jr.getf (i := 0) (v := .ref (x + 1)) rfl rfl (Nat.lt_trans (kx_33 k_x).1 (by decide)) (kx_33 k_x).2 (by decide) rfl rfl rfl (jval_ref rfl k16.1) ?_
    refine jr.aload_n rfl rfl ?_
    have e17 : M4 t 13 = U := (hf_M4.g k_t rfl).trans g_U
    have e18 : M9 t 13 = U := (hf_M9.g k_t rfl).trans e17
    refine jr.getf (i := 13) (x := U) (v := .int (Int32.ofInt (U))) rfl rfl (Nat.lt_trans (kx_15 k_t).1 (by decide)) (kx_15 k_t).2 (by decide) rfl rfl ((ju_i _ _ (zne (by decide))).trans ((ju_i _ _ (zne (by decide))).trans e18)) rfl ?_
    refine jr.iconst rfl ?_
    refine jr.aload_n rfl rfl ?_
    have e19 : M4 t 5 = X := (hf_M4.g k_t rfl).trans g_X
    have e20 : M9 t 5 = X := (hf_M9.g k_t rfl).trans e19
    refine jr.getf (i := 5) (x := X) (v := .long (Int64.ofInt (X))) rfl rfl (Nat.lt_trans (kx_15 k_t).1 (by decide)) (kx_15 k_t).2 (by decide) rfl rfl ((ju_i _ _ (zne (by decide))).trans ((ju_i _ _ (zne (by decide))).trans e20)) rfl ?_
    refine jr_s rfl rfl (Or.inr rfl) ⟨Nat.le_of_ble_eq_true rfl, Nat.le_of_ble_eq_true rfl⟩ rfl rfl (jc.deep (c_PacketWall_putNumber_pf (CI.u (CI.u hC_M9 (i := 1) k_x (show (-1 : Int) ≤ _ ∧ _ ≤ (400 : Int) from by omega) rfl) (i := 2) k_x (show (-9223372036854775808 : Int) ≤ _ ∧ _ ≤ (9223372036854775807 : Int) from by omega) rfl) (FR.rfl _ ((ju (ju M9 x 1 r10) x 2 0))) k16.2 (by omega) (by omega) (by omega) rfl (fun M21 hC_M21 hf_M21 w21_0 => ?_)) (Nat.le_of_ble_eq_true rfl))
    have ht_M21 : FR W_c_Gathering_makePacket_x T M21 := FR.t (FR.o (FR.o ht_M9 k_x rfl) k_x rfl) hf_M21 (kw_sub rfl)
    refine jr.aload_n rfl rfl ?_
    have k22 := kf_33_0 k_x
    refine jr.getf (i := 0) (v := .ref (x + 1)) rfl rfl (Nat.lt_trans (kx_33 k_x).1 (by decide)) (kx_33 k_x).2 (by decide) rfl rfl rfl (jval_ref rfl k22.1) ?_
    refine jr.aload_n rfl rfl ?_
    have e23 : M4 t 12 = P := (hf_M4.g k_t rfl).trans g_P
    have e24 : M9 t 12 = P := (hf_M9.g k_t rfl).trans e23
    have e25 : M21 t 12 = P := (hf_M21.g k_t rfl).trans ((ju_i _ _ (zne (by decide))).trans ((ju_i _ _ (zne (by decide))).trans e24))
    refine jr.getf (i := 12) (x := P) (v := .int (Int32.ofInt (P))) rfl rfl (Nat.lt_trans (kx_15 k_t).1 (by decide)) (kx_15 k_t).2 (by decide) rfl rfl e25 rfl ?_
    refine jr.iconst rfl ?_
    refine jr.iadd rfl ?_
    refine jr.iconst rfl ?_
    refine jr.aload_n rfl rfl ?_
    have e26 : M21 x 1 = r10 := (hf_M21.g k_x rfl).trans ((ju_i _ _ (zne (by decide))).trans (ju_same _ _ _ _))
    refine jr.getf (i := 1) (x := r10) (v := .int (Int32.ofInt (r10))) rfl rfl (Nat.lt_trans (kx_33 k_x).1 (by decide)) (kx_33 k_x).2 (by decide) rfl rfl e26 rfl ?_
    refine jr.aload_n rfl rfl ?_
    refine jr.getf (i := 12) (x := P) (v := .int (Int32.ofInt (P))) rfl rfl (Nat.lt_trans (kx_15 k_t).1 (by decide)) (kx_15 k_t).2 (by decide) rfl rfl e25 rfl ?_
    refine jr.isub rfl ?_
    refine jr.bipush rfl (jbp _ (nlt rfl)) ?_
    refine jr.isub rfl ?_
    refine jr.i2l rfl (by omega) ?_
    refine jr_s rfl rfl (Or.inr rfl) ⟨Nat.le_of_ble_eq_true rfl, Nat.le_of_ble_eq_true rfl⟩ rfl rfl (jc.deep (c_PacketWall_putNumber_pf hC_M21 (FR.rfl _ M21) k22.2 (by omega) (by omega) (by omega) rfl (fun M27 hC_M27 hf_M27 w27_0 => ?_)) (Nat.le_of_ble_eq_true rfl))
    have ht_M27 : FR W_c_Gathering_makePacket_x T M27 := FR.t ht_M21 hf_M27 (kw_sub rfl)
    have e28 : M27 x 1 = r10 := (hf_M27.g k_x rfl).trans e26
    have e29 : M21 x 2 = 0 := (hf_M21.g k_x rfl).trans (ju_same _ _ _ _)
    have e30 : M27 x 2 = 0 := (hf_M27.g k_x rfl).trans e29
    exact jr.vreturn rfl rfl (q _ hC_M27 ht_M27  ⟨by rw [← (mkF_6 (by omega) w10_0)]; exact (PN.by8 w27_0 (PN.by8 w21_0 (BY8.fr (mk0_b (M1 := M4) (M2 := M9) (c := x + 1) (A := hlf K L) (W := W) p1 p2 (by omega) (kd_ne (by rw [(kf_15_10 k_t).2, k_by]; decide)) (kd_ne (by rw [(kf_15_9 k_t).2, k_by]; decide)) (by rw [← w1_0]; exact hx_M4) (by rw [← w1_0, ← hlw]; exact hx_M9)) k_by (FR.o (FR.o (FR.rfl [(33, 1), (33, 2)] M9) k_x rfl) k_x rfl) rfl))), (e28).trans w10_0, e30, fun b k h1 h2 => by rw [w27_0.2 b k h2, w21_0.2 b k h2, ju_c _ _ h1, ju_c _ _ h1, hx_M9, if_neg (fun h => h2 h.1), hx_M4, if_neg (fun h => h2 h.1), p0]⟩)
  · refine jr.aload_n rfl rfl ?_
    have k31 := kf_33_0 k_x
    refine jr.getf (i := 0) (v := .ref (x + 1)) rfl rfl (Nat.lt_trans (kx_33 k_x).1 (by decide)) (kx_33 k_x).2 (by decide) rfl rfl rfl (jval_ref rfl k31.1) ?_
    refine jr.aload_n rfl rfl ?_
    have e32 : M4 t 12 = P := (hf_M4.g k_t rfl).trans g_P
    have e33 : M9 t 12 = P := (hf_M9.g k_t rfl).trans e32
    refine jr.getf (i := 12) (x := P) (v := .int (Int32.ofInt (P))) rfl rfl (Nat.lt_trans (kx_15 k_t).1 (by decide)) (kx_15 k_t).2 (by decide) rfl rfl ((ju_i _ _ (zne (by decide))).trans ((ju_i _ _ (zne (by decide))).trans e33)) rfl ?_
    refine jr.iconst rfl ?_
    refine jr.iadd rfl ?_
    refine jr.iconst rfl ?_
    refine jr.aload_n rfl rfl ?_
    refine jr.getf (i := 1) (x := r10) (v := .int (Int32.ofInt (r10))) rfl rfl (Nat.lt_trans (kx_33 k_x).1 (by decide)) (kx_33 k_x).2 (by decide) rfl rfl ((ju_i _ _ (zne (by decide))).trans (ju_same _ _ _ _)) rfl ?_
    refine jr.aload_n rfl rfl ?_
    refine jr.getf (i := 12) (x := P) (v := .int (Int32.ofInt (P))) rfl rfl (Nat.lt_trans (kx_15 k_t).1 (by decide)) (kx_15 k_t).2 (by decide) rfl rfl ((ju_i _ _ (zne (by decide))).trans ((ju_i _ _ (zne (by decide))).trans e33)) rfl ?_
    refine jr.isub rfl ?_
    refine jr.i2l rfl (by omega) ?_
    refine jr_s rfl rfl (Or.inr rfl) ⟨Nat.le_of_ble_eq_true rfl, Nat.le_of_ble_eq_true rfl⟩ rfl rfl (jc.deep (c_PacketWall_putNumber_pf (CI.u (CI.u hC_M9 (i := 1) k_x (show (-1 : Int) ≤ _ ∧ _ ≤ (400 : Int) from by omega) rfl) (i := 2) k_x (show (-9223372036854775808 : Int) ≤ _ ∧ _ ≤ (9223372036854775807 : Int) from by omega) rfl) (FR.rfl _ ((ju (ju M9 x 1 r10) x 2 0))) k31.2 (by omega) (by omega) (by omega) rfl (fun M34 hC_M34 hf_M34 w34_0 => ?_)) (Nat.le_of_ble_eq_true rfl))
    have ht_M34 : FR W_c_Gathering_makePacket_x T M34 := FR.t (FR.o (FR.o ht_M9 k_x rfl) k_x rfl) hf_M34 (kw_sub rfl)
    refine jr.aload_n rfl rfl ?_
    have k35 := kf_33_0 k_x
    refine jr.getf (i := 0) (v := .ref (x + 1)) rfl rfl (Nat.lt_trans (kx_33 k_x).1 (by decide)) (kx_33 k_x).2 (by decide) rfl rfl rfl (jval_ref rfl k35.1) ?_
    refine jr.aload_n rfl rfl ?_
    have e36 : M34 t 12 = P := (hf_M34.g k_t rfl).trans ((ju_i _ _ (zne (by decide))).trans ((ju_i _ _ (zne (by decide))).trans e33))
    refine jr.getf (i := 12) (x := P) (v := .int (Int32.ofInt (P))) rfl rfl (Nat.lt_trans (kx_15 k_t).1 (by decide)) (kx_15 k_t).2 (by decide) rfl rfl e36 rfl ?_
    refine jr.bipush rfl (jbp _ (nlt rfl)) ?_
    refine jr.iadd rfl ?_
    refine jr.iconst rfl ?_
    refine jr.lconst (x := 0) rfl (by decide) ?_
    refine jr_s rfl rfl (Or.inr rfl) ⟨Nat.le_of_ble_eq_true rfl, Nat.le_of_ble_eq_true rfl⟩ rfl rfl (jc.deep (c_PacketWall_putNumber_pf hC_M34 (FR.rfl _ M34) k35.2 (by omega) (by omega) (by omega) rfl (fun M37 hC_M37 hf_M37 w37_0 => ?_)) (Nat.le_of_ble_eq_true rfl))
    have ht_M37 : FR W_c_Gathering_makePacket_x T M37 := FR.t ht_M34 hf_M37 (kw_sub rfl)
    refine jr.aload_n rfl rfl ?_
    have k38 := kf_33_0 k_x
    refine jr.getf (i := 0) (v := .ref (x + 1)) rfl rfl (Nat.lt_trans (kx_33 k_x).1 (by decide)) (kx_33 k_x).2 (by decide) rfl rfl rfl (jval_ref rfl k38.1) ?_
    refine jr.aload_n rfl rfl ?_
    have e39 : M37 t 12 = P := (hf_M37.g k_t rfl).trans e36
    refine jr.getf (i := 12) (x := P) (v := .int (Int32.ofInt (P))) rfl rfl (Nat.lt_trans (kx_15 k_t).1 (by decide)) (kx_15 k_t).2 (by decide) rfl rfl e39 rfl ?_
    refine jr.bipush rfl (jbp _ (nlt rfl)) ?_
    refine jr.iadd rfl ?_
    refine jr.iconst rfl ?_
    refine jr.lconst (x := 0) rfl (by decide) ?_
    refine jr_s rfl rfl (Or.inr rfl) ⟨Nat.le_of_ble_eq_true rfl, Nat.le_of_ble_eq_true rfl⟩ rfl rfl (jc.deep (c_PacketWall_putNumber_pf hC_M37 (FR.rfl _ M37) k38.2 (by omega) (by omega) (by omega) rfl (fun M40 hC_M40 hf_M40 w40_0 => ?_)) (Nat.le_of_ble_eq_true rfl))
    have ht_M40 : FR W_c_Gathering_makePacket_x T M40 := FR.t ht_M37 hf_M40 (kw_sub rfl)
    refine jr.aload_n rfl rfl ?_
    have k41 := kf_33_0 k_x
    refine jr.getf (i := 0) (v := .ref (x + 1)) rfl rfl (Nat.lt_trans (kx_33 k_x).1 (by decide)) (kx_33 k_x).2 (by decide) rfl rfl rfl (jval_ref rfl k41.1) ?_
    refine jr.aload_n rfl rfl ?_
    have e42 : M40 t 12 = P := (hf_M40.g k_t rfl).trans e39
    refine jr.getf (i := 12) (x := P) (v := .int (Int32.ofInt (P))) rfl rfl (Nat.lt_trans (kx_15 k_t).1 (by decide)) (kx_15 k_t).2 (by decide) rfl rfl e42 rfl ?_
    refine jr.bipush rfl (jbp _ (nlt rfl)) ?_
    refine jr.iadd rfl ?_
    refine jr.iconst rfl ?_
    refine jr.aload_n rfl rfl ?_
    have k43 := kf_33_0 k_x
    refine jr.getf (i := 0) (v := .ref (x + 1)) rfl rfl (Nat.lt_trans (kx_33 k_x).1 (by decide)) (kx_33 k_x).2 (by decide) rfl rfl rfl (jval_ref rfl k43.1) ?_
    refine jr.aload_n rfl rfl ?_
    refine jr.getf (i := 12) (x := P) (v := .int (Int32.ofInt (P))) rfl rfl (Nat.lt_trans (kx_15 k_t).1 (by decide)) (kx_15 k_t).2 (by decide) rfl rfl e42 rfl ?_
    refine jr.iload_n rfl rfl ?_
    refine jr_s rfl rfl (Or.inr rfl) ⟨Nat.le_of_ble_eq_true rfl, Nat.le_of_ble_eq_true rfl⟩ rfl rfl (jc.deep (c_PacketWall_addedTwos_pw hC_M40 k43.2 (by omega) (by omega) (by omega) (PN.by8 w40_0 (PN.by8 w37_0 (PN.by8 w34_0 (BY8.fr (mk0_b (M1 := M4) (M2 := M9) (c := x + 1) (A := hlf K L) (W := W) p1 p2 (by omega) (kd_ne (by rw [(kf_15_10 k_t).2, k_by]; decide)) (kd_ne (by rw [(kf_15_9 k_t).2, k_by]; decide)) (by rw [← w1_0]; exact hx_M4) (by rw [← w1_0, ← hlw]; exact hx_M9)) k_by (FR.o (FR.o (FR.rfl [(33, 1), (33, 2)] M9) k_x rfl) k_x rfl) rfl)))) (fun r44 z44 w44_0 => ?_)) (Nat.le_of_ble_eq_true rfl))
    refine jr_s rfl rfl (Or.inr rfl) ⟨Nat.le_of_ble_eq_true rfl, Nat.le_of_ble_eq_true rfl⟩ rfl rfl (jc.deep (c_PacketWall_foldedSum_x hC_M40 (by omega) (fun r45 z45 w45_0 => ?_)) (Nat.le_of_ble_eq_true rfl))
    refine jr.i2l rfl (by omega) ?_
    refine jr_s rfl rfl (Or.inr rfl) ⟨Nat.le_of_ble_eq_true rfl, Nat.le_of_ble_eq_true rfl⟩ rfl rfl (jc.deep (c_PacketWall_putNumber_pf hC_M40 (FR.rfl _ M40) k41.2 (by omega) (by omega) (by omega) rfl (fun M46 hC_M46 hf_M46 w46_0 => ?_)) (Nat.le_of_ble_eq_true rfl))
    have ht_M46 : FR W_c_Gathering_makePacket_x T M46 := FR.t ht_M40 hf_M46 (kw_sub rfl)
    refine jr.goto rfl rfl ?_
    have e47 : M34 x 1 = r10 := (hf_M34.g k_x rfl).trans ((ju_i _ _ (zne (by decide))).trans (ju_same _ _ _ _))
    have e48 : M37 x 1 = r10 := (hf_M37.g k_x rfl).trans e47
    have e49 : M40 x 1 = r10 := (hf_M40.g k_x rfl).trans e48
    have e50 : M46 x 1 = r10 := (hf_M46.g k_x rfl).trans e49
    have e51 : M34 x 2 = 0 := (hf_M34.g k_x rfl).trans (ju_same _ _ _ _)
    have e52 : M37 x 2 = 0 := (hf_M37.g k_x rfl).trans e51
    have e53 : M40 x 2 = 0 := (hf_M40.g k_x rfl).trans e52
    have e54 : M46 x 2 = 0 := (hf_M46.g k_x rfl).trans e53
    exact jr.vreturn rfl rfl (q _ hC_M46 ht_M46  ⟨by rw [← (mkF_2 (by omega) w10_0 w1_0 w44_0 w45_0)]; exact (PN.by8 w46_0 (PN.by8 w40_0 (PN.by8 w37_0 (PN.by8 w34_0 (BY8.fr (mk0_b (M1 := M4) (M2 := M9) (c := x + 1) (A := hlf K L) (W := W) p1 p2 (by omega) (kd_ne (by rw [(kf_15_10 k_t).2, k_by]; decide)) (kd_ne (by rw [(kf_15_9 k_t).2, k_by]; decide)) (by rw [← w1_0]; exact hx_M4) (by rw [← w1_0, ← hlw]; exact hx_M9)) k_by (FR.o (FR.o (FR.rfl [(33, 1), (33, 2)] M9) k_x rfl) k_x rfl) rfl))))), (e50).trans w10_0, e54, fun b k h1 h2 => by rw [w46_0.2 b k h2, w40_0.2 b k h2, w37_0.2 b k h2, w34_0.2 b k h2, ju_c _ _ h1, ju_c _ _ h1, hx_M9, if_neg (fun h => h2 h.1), hx_M4, if_neg (fun h => h2 h.1), p0]⟩)
end
section
/-! ===== the class: gather ===== -/
noncomputable def pF (M : jm) : Nat → Int → Int
  | 0, _ => -1
  | n + 1, i => if M (xe 2 i) 1 = -1 then i else pF M n (i + 1)
theorem pF_s {M : jm} {i : Int} (h : i < 24) : pF M (24 - i).toNat i = if M (xe 2 i) 1 = -1 then i else pF M (24 - (i + 1)).toNat (i + 1) := by
  obtain ⟨n, hn⟩ : ∃ n : Nat, i = 23 - n := ⟨(23 - i).toNat, by omega⟩
  subst hn
  rw [show (24 - (23 - (n : Int))).toNat = n + 1 by omega, show (24 - (23 - (n : Int) + 1)).toNat = n by omega]
  rfl
theorem pF_r (M : jm) : ∀ (n : Nat) (i : Int), 0 ≤ i → pF M n i = -1 ∨ (i ≤ pF M n i ∧ pF M n i < i + n ∧ M (xe 2 (pF M n i)) 1 = -1) := by
  intro n
  induction n with
  | zero => intro i _; exact Or.inl rfl
  | succ n ih =>
    intro i h0
    unfold pF
    by_cases q : M (xe 2 i) 1 = -1
    · rw [if_pos q]; exact Or.inr ⟨Int.le_refl _, by omega, q⟩
    · rw [if_neg q]
      rcases ih (i + 1) (by omega) with r | r
      · exact Or.inl r
      · exact Or.inr ⟨by omega, by omega, r.2.2⟩
/-- the bytes of all packets -/
noncomputable def PBS (M : jm) (F : Int → Int → Int) : Prop := ∀ p : Int, 0 ≤ p → p < 24 → BY8 M (xe 2 p + 1) (F p)
noncomputable def mkA (M : jm) (G : Nat) (f : Int → Int) : Int → Int := mkF (mk0 (M (G + 2)) (M (G + 1)) f (hlf (M G 1) (M G 11)) (M G 7)) (M G 1) (hlf (M G 1) (M G 11)) (M G 7) (M G 12) (M G 13) (M G 5)
noncomputable def PTO (T M : jm) (G : Nat) (F : Int → Int → Int) (r : Int) : Prop := ((pF T 24 0 = -1 ∨ 400 < hlf (T G 1) (T G 11) + T G 7) ∧ r = -5 ∧ M = T) ∨ ((pF T 24 0 ≠ -1 ∧ hlf (T G 1) (T G 11) + T G 7 ≤ 400) ∧ r = pF T 24 0 ∧ ∃ M1 : jm, MKD T M1 (xe 2 (pF T 24 0)) (mkA T G (F (pF T 24 0))) (hlf (T G 1) (T G 11) + T G 7) ∧ M = ju M1 G 0 0)
/-- a gathering that is ready can be made a packet -/
noncomputable def GRD (M : jm) (G : Nat) : Prop := (0 ≤ M G 7 ∧ M G 7 ≤ 360) ∧ (8 ≤ M G 11 ∧ M G 11 ≤ 400) ∧ (M G 1 ≠ 2 ∨ M G 12 + 20 ≤ hlf (M G 1) (M G 11)) ∧ (0 ≤ M G 12 ∧ M G 12 ≤ 400) ∧ (∀ k : Int, 0 ≤ k → k < M G 11 → 0 ≤ M (G + 2) k ∧ M (G + 2) k ≤ 255) ∧ ∀ k : Int, 0 ≤ k → k < M G 7 → 0 ≤ M (G + 1) k ∧ M (G + 1) k ≤ 255
theorem hlf_r {K L : Int} (h : 8 ≤ L) : 0 ≤ hlf K L ∧ hlf K L ≤ L := by
  unfold hlf
  split <;> omega
theorem GRD.m {M : jm} {G : Nat} (h : GRD M G) : MKP M G (M (G + 2)) (M (G + 1)) (hlf (M G 1) (M G 11)) (M G 7) := by
  have q := hlf_r (K := M G 1) h.2.1.1
  exact ⟨fun k k0 k1 => ⟨rfl, h.2.2.2.2.1 k k0 (by omega)⟩, fun k k0 k1 => ⟨rfl, h.2.2.2.2.2 k k0 k1⟩⟩
noncomputable def W_c_PacketWall_putTogether_x : List (Nat × Nat) := [(15, 0), (33, 1), (33, 2), (34, 1000)]
theorem c_PacketWall_putTogether_x_L5 {A : Nat → Option (Nat × (Nat → Int32))} {Q : Option Value → jm → Prop} {F : Int → Int → Int} {T : jm} {x : Nat} (k_x : kd x = 15) {K : Int} {W : Int} {L : Int} {P : Int} {U : Int} {X : Int} (q : ∀ (r : Int) (M' : jm), CI M' → FR W_c_PacketWall_putTogether_x T M' → (-2147483648) ≤ r ∧ r ≤ 2147483647 → (PTO T M' x F r) → Q (some (.int (Int32.ofInt r))) M') : ∀ (nM : Nat) (M : jm) (f : Int) (i : Int), CI M → FR W_c_PacketWall_putTogether_x T M → (-1) ≤ f ∧ f ≤ 23 → (-1) ≤ i ∧ i ≤ 23 → M x 1 = K → M x 7 = W → M x 11 = L → M x 12 = P → M x 13 = U → M x 5 = X → (f = pF M (24 - (i + 1)).toNat (i + 1)) → (M = T) → (PBS M F) → (GRD M x) → i + 1 ≤ nM → jr A 3 xm_48 5 [(2, .int (Int32.ofInt (f))), (3, .int (Int32.ofInt (i))), (0, .ref (0)), (1, .ref (x))] [] M Q := by
  intro nM
  induction nM using Nat.strongRecOn with
  | ind nM ih =>
    intro M f i hC_M ht_M h_f h_i g_K g_W g_L g_P g_U g_X hy0 hy1 hy2 hy3 hm
    have b_K : (-2147483648) ≤ K ∧ K ≤ 2147483647 := by rw [← g_K]; exact (CI.r hC_M k_x (by decide) 1)
    have b_W : (-1) ≤ W ∧ W ≤ 70000 := by rw [← g_W]; exact (CI.r hC_M k_x (by decide) 7)
    have b_L : (-1) ≤ L ∧ L ≤ 400 := by rw [← g_L]; exact (CI.r hC_M k_x (by decide) 11)
    have b_P : (-1) ≤ P ∧ P ≤ 400 := by rw [← g_P]; exact (CI.r hC_M k_x (by decide) 12)
    have b_U : (-1) ≤ U ∧ U ≤ 404 := by rw [← g_U]; exact (CI.r hC_M k_x (by decide) 13)
    have b_X : (-9223372036854775808) ≤ X ∧ X ≤ 9223372036854775807 := by rw [← g_X]; exact (CI.r hC_M k_x (by decide) 5)
    have hG := hy3
    unfold GRD at hG
    rw [g_K, g_L, g_W, g_P] at hG
    obtain ⟨hG1, hG2, hG3, hG4, hG5, hG6⟩ := hG
    have hG7 := hlf_r (K := K) (L := L) hG2.1
    have eG : T = M := hy1.symm
    refine jr.iload_n rfl rfl ?_
    refine jr.if_lt rfl rfl (by first | (refine rgb (by assumption) ?_; exact rfl) | omega) (fun h6 => ?_) (fun h6 => ?_)
    · refine jr.iload_n rfl rfl ?_
      refine jr.iconst rfl ?_
      refine jr.icmp_eq rfl rfl (by first | (refine rgb (by assumption) ?_; exact rfl) | omega) (rgl rfl) (fun h31 => ?_) (fun h31 => ?_)
      · refine jr.bipush rfl (by decide) ?_
        exact jr.ireturn rfl rfl rfl (q _ _ hC_M ht_M (by first | exact rgq rfl | omega) (by have hpf : pF T 24 0 = f := (by have h9 := hy0; rw [show (24 - (i + 1)).toNat = 24 from by omega, show i + 1 = 0 from by omega] at h9; rw [eG]; exact h9.symm); have hT : hlf (T x 1) (T x 11) + T x 7 = hlf K L + W := (by rw [eG, g_K, g_L, g_W]); unfold PTO; rw [hpf, hT]; exact Or.inl ⟨by omega, by omega, hy1⟩))
      · have sx31 : (0 : Int) ≤ f := by omega
        clear h31
        refine jr.aload_n rfl rfl ?_
        refine jr_v rfl rfl (Or.inl rfl) rfl rfl (Nat.lt_trans (kx_15 k_x).1 (by decide)) (kx_15 k_x).2 ⟨rfl, Nat.le_of_ble_eq_true rfl, Nat.le_of_ble_eq_true rfl⟩ rfl (jc.deep (c_Gathering_packetLength_x hC_M k_x g_K g_L g_W (fun r1 z1 w1_0 => ?_)) (Nat.le_of_ble_eq_true rfl))
        refine jr.sipush rfl (by decide) ?_
        refine jr.icmp_le rfl rfl (by first | (refine rgb (by assumption) ?_; exact rfl) | omega) (rgl rfl) (fun h41 => ?_) (fun h41 => ?_)
        · refine jr.aload_n rfl rfl ?_
          refine jr.aload_n rfl rfl ?_
          refine jr.getf (i := 2) (v := .ref 2) rfl rfl (nlt rfl) rfl (nlt rfl) rfl rfl rfl rfl ?_
          refine jr.iload_n rfl rfl ?_
          have k2 := kxe_42 (a := 2) rfl (i := f) (by omega) (by omega)
          refine jr.aald (c := (xe 2 f)) rfl (by decide) rfl (by decide) (by decide) rfl (by decide) (by omega) (by omega) k2.1 ?_
          refine jr_v rfl rfl (Or.inl rfl) rfl rfl (Nat.lt_trans (kx_15 k_x).1 (by decide)) (kx_15 k_x).2 ⟨rfl, Nat.le_of_ble_eq_true rfl, Nat.le_of_ble_eq_true rfl⟩ rfl (jc.deep (c_Gathering_makePacket_x hC_M (FR.rfl _ M) k_x k2.2 g_K g_W g_L g_P g_U g_X rfl (by have h9 := GRD.m hy3; rw [g_K, g_L, g_W] at h9; exact h9) (hy2 f (by omega) (by omega)) (by omega) (by omega) (fun M3 hC_M3 hf_M3 w3_0 => ?_)) (Nat.le_of_ble_eq_true rfl))
          have ht_M3 : FR W_c_PacketWall_putTogether_x T M3 := FR.t ht_M hf_M3 (kw_sub rfl)
          refine jr.aload_n rfl rfl ?_
          refine jr.iconst rfl ?_
          refine jr.putf (i := 0) (x := 0) rfl rfl (Nat.lt_trans (kx_15 k_x).1 (by decide)) (kx_15 k_x).2 (by decide) rfl rfl rfl rfl rfl ?_
          refine jr.iload_n rfl rfl ?_
          exact jr.ireturn rfl rfl rfl (q _ _ (CI.u hC_M3 (i := 0) k_x (show (0 : Int) ≤ _ ∧ _ ≤ (1 : Int) from by omega) rfl) (FR.o ht_M3 k_x rfl) (by omega) (by have hpf : pF T 24 0 = f := (by have h9 := hy0; rw [show (24 - (i + 1)).toNat = 24 from by omega, show i + 1 = 0 from by omega] at h9; rw [eG]; exact h9.symm); have hT : hlf (T x 1) (T x 11) + T x 7 = hlf K L + W := (by rw [eG, g_K, g_L, g_W]); unfold PTO; rw [hpf, hT]; exact Or.inr ⟨⟨by omega, by omega⟩, rfl, M3, by unfold mkA; rw [eG, g_K, g_L, g_W, g_P, g_U, g_X]; exact w3_0, rfl⟩))
        · refine jr.bipush rfl (by decide) ?_
          exact jr.ireturn rfl rfl rfl (q _ _ hC_M ht_M (by first | exact rgq rfl | omega) (by have hpf : pF T 24 0 = f := (by have h9 := hy0; rw [show (24 - (i + 1)).toNat = 24 from by omega, show i + 1 = 0 from by omega] at h9; rw [eG]; exact h9.symm); have hT : hlf (T x 1) (T x 11) + T x 7 = hlf K L + W := (by rw [eG, g_K, g_L, g_W]); unfold PTO; rw [hpf, hT]; exact Or.inl ⟨by omega, by omega, hy1⟩))
    · refine jr.aload_n rfl rfl ?_
      refine jr.getf (i := 2) (v := .ref 2) rfl rfl (nlt rfl) rfl (nlt rfl) rfl rfl rfl rfl ?_
      refine jr.iload_n rfl rfl ?_
      have k4 := kxe_42 (a := 2) rfl (i := i) (by omega) (by omega)
      refine jr.aald (c := (xe 2 i)) rfl (by decide) rfl (by decide) (by decide) rfl (by decide) (by omega) (by omega) k4.1 ?_
      refine jr_v rfl rfl (Or.inl rfl) rfl rfl (Nat.lt_trans (kx_33 k4.2).1 (by decide)) (kx_33 k4.2).2 ⟨rfl, Nat.le_of_ble_eq_true rfl, Nat.le_of_ble_eq_true rfl⟩ rfl (jc.deep (c_Packet_isThere hC_M k4.2 (fun r5 z5 w5_0 => ?_)) (Nat.le_of_ble_eq_true rfl))
      obtain ⟨v6, e6⟩ : ∃ z_, M ((xe 2 i)) 1 = z_ := ⟨_, rfl⟩
      have b6 : (-1) ≤ v6 ∧ v6 ≤ 400 := by rw [← e6]; exact (CI.r hC_M k4.2 (by decide) 1)
      refine jr.if_ne rfl rfl (by first | (refine rgb (by assumption) ?_; exact rfl) | omega) (fun h18 => ?_) (fun h18 => ?_)
      · have sx18 : (1 : Int) ≤ r5 := by omega
        clear h18
        refine jr.iinc (ls' := [_, _, _, _]) rfl rfl (nlt rfl) rfl ?_
        refine jr.goto rfl rfl ?_
        refine jr.pick (ls := [_, _, _, _]) [1, 0, 2, 3] rfl rfl ?_
        exact ih (nM - 1) (by omega) M f (i + (-1)) hC_M ht_M (by omega) (by omega) g_K g_W g_L g_P g_U g_X (by rw [show i + -1 + 1 = i from by omega, pF_s (by omega)]; first | (rw [if_pos (by omega)]; done) | (rw [if_neg (by omega)]; exact hy0)) hy1 hy2 hy3 (by omega)
      · refine jr.iload_n rfl rfl ?_
        refine jr.istore_n (ls' := [_, _, _, _]) rfl (nlt rfl) rfl ?_
        refine jr.iinc (ls' := [_, _, _, _]) rfl rfl (nlt rfl) rfl ?_
        refine jr.goto rfl rfl ?_
        refine jr.pick (ls := [_, _, _, _]) [1, 0, 2, 3] rfl rfl ?_
        exact ih (nM - 1) (by omega) M i (i + (-1)) hC_M ht_M (by omega) (by omega) g_K g_W g_L g_P g_U g_X (by rw [show i + -1 + 1 = i from by omega, pF_s (by omega)]; first | (rw [if_pos (by omega)]; done) | (rw [if_neg (by omega)]; exact hy0)) hy1 hy2 hy3 (by omega)
theorem c_PacketWall_putTogether_x {A : Nat → Option (Nat × (Nat → Int32))} {Q : Option Value → jm → Prop} {F : Int → Int → Int} {T : jm} {M : jm} (hC_M : CI M) (ht_M : FR W_c_PacketWall_putTogether_x T M) {x : Nat} (k_x : kd x = 15) (p0 : T = M) (p1 : PBS M F) (p2 : GRD M x) (q : ∀ (r : Int) (M' : jm), CI M' → FR W_c_PacketWall_putTogether_x T M' → (-2147483648) ≤ r ∧ r ≤ 2147483647 → (PTO T M' x F r) → Q (some (.int (Int32.ofInt r))) M') : jc A 4 48 [.ref (0), .ref (x)] M Q := by
  refine jc_of (m := xm_48) rfl (Nat.le_of_ble_eq_true rfl) rfl ?_
  refine jr.iconst rfl ?_
  refine jr.istore_n (ls' := [_, _, _]) rfl (nlt rfl) rfl ?_
  refine jr.bipush rfl (jbp _ (nlt rfl)) ?_
  refine jr.istore_n (ls' := [_, _, _, _]) rfl (nlt rfl) rfl ?_
  obtain ⟨v1, e1⟩ : ∃ z_, M x 1 = z_ := ⟨_, rfl⟩
  have b1 : (-2147483648) ≤ v1 ∧ v1 ≤ 2147483647 := by rw [← e1]; exact (CI.r hC_M k_x (by decide) 1)
  obtain ⟨v2, e2⟩ : ∃ z_, M x 7 = z_ := ⟨_, rfl⟩
  have b2 : (-1) ≤ v2 ∧ v2 ≤ 70000 := by rw [← e2]; exact (CI.r hC_M k_x (by decide) 7)
  obtain ⟨v3, e3⟩ : ∃ z_, M x 11 = z_ := ⟨_, rfl⟩
  have b3 : (-1) ≤ v3 ∧ v3 ≤ 400 := by rw [← e3]; exact (CI.r hC_M k_x (by decide) 11)
  obtain ⟨v4, e4⟩ : ∃ z_, M x 12 = z_ := ⟨_, rfl⟩
  have b4 : (-1) ≤ v4 ∧ v4 ≤ 400 := by rw [← e4]; exact (CI.r hC_M k_x (by decide) 12)
  obtain ⟨v5, e5⟩ : ∃ z_, M x 13 = z_ := ⟨_, rfl⟩
  have b5 : (-1) ≤ v5 ∧ v5 ≤ 404 := by rw [← e5]; exact (CI.r hC_M k_x (by decide) 13)
  obtain ⟨v6, e6⟩ : ∃ z_, M x 5 = z_ := ⟨_, rfl⟩
  have b6 : (-9223372036854775808) ≤ v6 ∧ v6 ≤ 9223372036854775807 := by rw [← e6]; exact (CI.r hC_M k_x (by decide) 5)
  refine jr.pick (ls := [_, _, _, _]) [1, 0, 2, 3] rfl rfl ?_
  exact c_PacketWall_putTogether_x_L5 k_x q 24 M (-1) 23 hC_M ht_M (by omega) (by omega) e1 e2 e3 e4 e5 e6 rfl p0.symm p1 p2 (by omega)
end
section
/-! ===== the class: gather, whole ===== -/
theorem xgn0 : ∀ n : Nat, n < 8 → xe 10 (n : Int) ≠ 11 ∧ xe 10 (n : Int) ≠ 14 ∧ xe 10 (n : Int) + 1 ≠ 14 ∧ xe 10 (n : Int) + 2 ≠ 14 := by decide +kernel
theorem xg_ {g : Int} (h : 0 ≤ g ∧ g < 8) : xe 10 g ≠ 11 ∧ xe 10 g ≠ 14 ∧ xe 10 g + 1 ≠ 14 ∧ xe 10 g + 2 ≠ 14 := by
  obtain ⟨n, rfl⟩ := Int.eq_ofNat_of_zero_le h.1
  exact xgn0 n (by omega)
theorem pcf_r {f : Int → Int} {N C : Int} (hC : 0 ≤ C) : pcf f N C = -1 ∨ ((0 ≤ pcf f N C ∧ pcf f N C < C) ∧ ((hX f N (pcf f N C) = 2 ∧ pcf f N C = ntf f N C) ∨ hX f N (pcf f N C) = 6)) := by
  have hn := ntf_r (f := f) (N := N) hC
  unfold pcf
  split
  · exact Or.inl rfl
  · rename_i h1
    have hn2 := hn.resolve_left h1
    split
    · rename_i h2
      split
      · right
        rw [kA_i hn2.1] at h2
        exact ⟨hn2.1, Or.inl ⟨h2, rfl⟩⟩
      · exact Or.inl rfl
    · split
      · rename_i h3
        right
        have hi := inf_r (f := f) (N := N) (C := C) (x := ntf f N C) (by omega)
        have hin : 0 ≤ inf f N C (ntf f N C) ∧ inf f N C (ntf f N C) < C := by
          unfold kA at h3
          split at h3
          · assumption
          · omega
        rw [kA_i hin] at h3
        exact ⟨hin, Or.inr h3⟩
      · exact Or.inl rfl
theorem gS_r (M : jm) : ∀ (n : Nat) (i : Int), 0 ≤ i → gS M n i = -1 ∨ ((i ≤ gS M n i ∧ gS M n i < i + n) ∧ M (xe 10 (gS M n i)) 0 ≠ 0 ∧ M (xe 10 (gS M n i)) 1 = M 11 1) := by
  intro n
  induction n with
  | zero => intro i _; exact Or.inl rfl
  | succ n ih =>
    intro i h0
    unfold gS
    split
    · rename_i q; exact Or.inr ⟨⟨Int.le_refl _, by omega⟩, q.1, q.2.1⟩
    · rcases ih (i + 1) (by omega) with r | r
      · exact Or.inl r
      · exact Or.inr ⟨⟨by omega, by omega⟩, r.2⟩
theorem rdy_1 {w : Int → Int} : ∀ (n : Nat) (i : Int), rdy w n i ≠ 0 → ∀ k : Int, i ≤ k → k < i + n → w k ≠ -1 := by
  intro n
  induction n with
  | zero => intro i _ k h0 h1; omega
  | succ n ih =>
    intro i h k h0 h1
    unfold rdy at h
    split at h
    · exact absurd rfl h
    · rename_i q
      by_cases e : k = i
      · rw [e]; exact q
      · exact ih (i + 1) h k (by omega) (by omega)
/-- all but headers and the name that is sought is as it was -/
noncomputable def NH (T M : jm) : Prop := ∀ (b : Nat) (k : Int), (kd b < 18 ∨ 21 < kd b) → b ≠ 11 → M b k = T b k
noncomputable def GK1 (M : jm) (G : Nat) : Prop := (M G 7 = -1 ∨ (0 ≤ M G 7 ∧ M G 7 ≤ 360)) ∧ (M G 11 = -1 ∨ ((8 ≤ M G 11 ∧ M G 11 ≤ 400) ∧ (0 ≤ M G 12 ∧ M G 12 ≤ 400) ∧ (M G 1 ≠ 2 ∨ M G 12 + 20 ≤ hlf (M G 1) (M G 11)) ∧ ∀ k : Int, 0 ≤ k → k < M G 11 → 0 ≤ M (G + 2) k ∧ M (G + 2) k ≤ 255))
noncomputable def GOK (M : jm) : Prop := ∀ g : Int, 0 ≤ g → g < 8 → M (xe 10 g) 0 ≠ 0 → GK1 M (xe 10 g)
noncomputable def fstv (M : jm) : Int := if gS M 8 0 = -1 ∨ M (xe 10 (gS M 8 0)) 7 = -1 then 1 else 0
noncomputable def GBG (M2 M3 : jm) (g Z : Int) : Prop := (gS M2 8 0 ≠ -1 ∧ g = gS M2 8 0 ∧ M3 = M2) ∨ (gS M2 8 0 = -1 ∧ g = gF M2 8 0 ∧ g ≠ -1 ∧ BGA M2 M3 (xe 10 g) 11 (Z + 30))
noncomputable def NRD (M : jm) (G : Nat) : Prop := M G 7 = -1 ∨ M G 11 = -1 ∨ rdy (M (G + 1)) (lpf (M G 7)).toNat 0 = 0
noncomputable def NM5 (M : jm) (f : Int → Int) (N C y : Int) : Prop := M 11 1 = kA f N C y ∧ M 11 2 = adf f N C (ntf f N C) 0 ∧ M 11 3 = adf f N C (ntf f N C) 1 ∧ M 11 4 = vA f N C y 3 ∧ M 11 5 = vA f N C y (if kA f N C y = 2 then 7 else 0)
noncomputable def GAK (M2 M : jm) (f : Int → Int) (N C Z : Int) (F : Int → Int → Int) (r : Int) : Prop := (rfq f N C (pcf f N C) (fstv M2) ∧ r = -4 ∧ M = M2) ∨ (¬ rfq f N C (pcf f N C) (fstv M2) ∧ gS M2 8 0 = -1 ∧ gF M2 8 0 = -1 ∧ r = -5 ∧ M = M2) ∨ (¬ rfq f N C (pcf f N C) (fstv M2) ∧ ∃ (g : Int) (M3 M4 : jm), GBG M2 M3 g Z ∧ TKI M3 M4 (xe 10 g) f N C (pcf f N C) ∧ ((NRD M4 (xe 10 g) ∧ r = -1 ∧ M = M4) ∨ (¬ NRD M4 (xe 10 g) ∧ PTO M4 M (xe 10 g) F r)))
noncomputable def GAQ (T M : jm) (f : Int → Int) (N C Z : Int) (F : Int → Int → Int) (r : Int) : Prop := ((hX f N C ≠ -1 ∨ pcf f N C = -1) ∧ r = -4 ∧ NH T M) ∨ (hX f N C = -1 ∧ pcf f N C ≠ -1 ∧ ∃ M2 : jm, NH T M2 ∧ NM5 M2 f N C (pcf f N C) ∧ GAK M2 M f N C Z F r)
theorem kw_hd {W : List (Nat × Nat)} (h1 : W.all (fun w => Nat.ble 18 w.1 && Nat.ble w.1 21) = true) {K : Nat} {i : Int} (hk : K < 18 ∨ 21 < K) : kw W K i = false := by
  induction W with
  | nil => rfl
  | cons w r ih =>
    rw [List.all_cons, Bool.and_eq_true] at h1
    unfold kw
    rw [ih h1.2, Bool.or_false]
    unfold kh
    have q2 := h1.1
    rw [Bool.and_eq_true] at q2
    have a := Nat.le_of_ble_eq_true q2.1
    have b := Nat.le_of_ble_eq_true q2.2
    cases e : Nat.beq w.1 K with
    | false => rfl
    | true => have q := Nat.eq_of_beq_eq_true e; omega
theorem NH.f {W : List (Nat × Nat)} {T M : jm} (h : FR W T M) (h1 : W.all (fun w => Nat.ble 18 w.1 && Nat.ble w.1 21) = true) : NH T M := fun b k hb _ => h b k (kw_hd h1 hb)
theorem NH.t {T M M2 : jm} (h : NH T M) (h2 : ∀ (b : Nat) (k : Int), b ≠ 11 → M2 b k = M b k) : NH T M2 := fun b k hb h0 => (h2 b k h0).trans (h b k hb h0)
theorem nxN_m {f : Int → Int} {N : Int} : ∀ (n : Nat) (i j : Int), i ≤ j → j < i + n → (hX f N j = 2 ∨ hX f N j = 3) → nxN f N n i ≠ -1 ∨ i < 0 := by
  intro n
  induction n with
  | zero => intro i j h0 h1 _; omega
  | succ n ih =>
    intro i j h0 h1 h2
    unfold nxN
    by_cases q : hX f N i = 2 ∨ hX f N i = 3
    · rw [if_pos q]; omega
    · rw [if_neg q]
      have e : i ≠ j := fun e => q (by rw [e]; exact h2)
      rcases ih (i + 1) j (by omega) (by omega) h2 with u | u
      · exact Or.inl u
      · right; omega
theorem hX_n0 {M : jm} {f : Int → Int} {N C y : Int} (hs : HS M 3 f N) (hC : M 3 3 = C) (hy : 0 ≤ y ∧ y < C) (h4 : 4 ≤ hX f N y ∧ hX f N y ≤ 9) : ntf f N C ≠ -1 := by
  have q := hX_n f N y.toNat (by rw [Int.toNat_of_nonneg hy.1]; exact h4)
  have r := (nxD_r f N y.toNat).resolve_left q
  have u := nxN_m (f := f) (N := N) C.toNat 0 (nxD f N y.toNat) r.1 (by omega) r.2.2
  unfold ntf
  omega
theorem GRD.t {M0 M3 M4 : jm} {G : Nat} {f : Int → Int} {N C y : Int} (hs : HS M0 3 f N) (hC : M0 3 3 = C) (hy : 0 ≤ y ∧ y < C) (hk2 : (hX f N y = 2 ∧ y = ntf f N C) ∨ hX f N y = 6) (hK : GK1 M3 G) (hn : M3 G 1 = kA f N C y) (ht : TKI M3 M4 G f N C y) (hf : wh1 f N C y (M3 G 7) = M3 G 7 ∨ (0 ≤ wh1 f N C y (M3 G 7) ∧ wh1 f N C y (M3 G 7) ≤ 360)) (hC4 : CI M4) (kG : kd G = 15) (h7 : M4 G 7 ≠ -1) (h11 : M4 G 11 ≠ -1) (hr : rdy (M4 (G + 1)) (lpf (M4 G 7)).toNat 0 ≠ 0) : GRD M4 G := by
  obtain ⟨⟨⟨e7, e8⟩, eo, ek, _⟩, _, _⟩ := ht
  have hN := hs.2.2.1
  have q := HS.y hs hC hy
  have hen := enf_i (f := f) (N := N) (C := C) hy
  have e1 : M4 G 1 = M3 G 1 := eo 1 (by decide) (by decide) (by decide) (by decide) (by decide)
  have hW : 0 ≤ M4 G 7 ∧ M4 G 7 ≤ 360 := by
    rw [e7] at h7 ⊢
    rcases hf with hf | hf
    · rw [hf] at h7 ⊢
      exact hK.1.resolve_left h7
    · exact hf
  have hlp : lpf (M4 G 7) = M4 G 7 := lpf_w hW
  have hrow : ∀ k : Int, 0 ≤ k → k < M4 G 7 → 0 ≤ M4 (G + 1) k ∧ M4 (G + 1) k ≤ 255 := fun k k0 k1 => by
    have a := rdy_1 _ _ hr k k0 (by rw [hlp]; omega)
    have b : (-1 : Int) ≤ M4 (G + 1) k ∧ M4 (G + 1) k ≤ (255 : Int) := CI.r hC4 (kf_15_9 kG).2 (by decide) k
    omega
  have h8 : 8 ≤ enf f N C y := by rw [hen]; omega
  rcases ek with ⟨z1, z2, ⟨z3, z4, z5⟩, z6⟩ | ⟨z1, ⟨z3, z4, z5⟩, z6⟩
  · have hnt : pA f N C (ntf f N C) = -1 ∨ (0 ≤ pA f N C (ntf f N C) ∧ pA f N C (ntf f N C) ≤ 400) := by
      unfold pA
      split
      · rename_i hh
        have := HS.y hs hC hh
        have l := hls_r (hX f N (ntf f N C))
        right
        omega
      · exact Or.inl rfl
    have hnr := ntf_r (f := f) (N := N) (C := C) (by omega)
    have hn0 : 0 ≤ ntf f N C ∧ ntf f N C < C := by
      rcases hk2 with h | h
      · rw [← h.2]; exact hy
      · rcases hnr with u | u
        · exfalso
          have hh := hX_n0 hs hC hy (by omega)
          exact hh u
        · exact u.1
    have hnt2 : pA f N C (ntf f N C) = hY f N (ntf f N C) := by unfold pA; rw [if_pos hn0]
    have qn := HS.y hs hC hn0
    refine ⟨hW, ⟨by rw [z3]; omega, by rw [z3, hen]; omega⟩, ?_, ⟨by rw [z4, hnt2]; omega, by rw [z4, hnt2]; omega⟩, fun k k0 k1 => ?_, hrow⟩
    · rcases hk2 with h | h
      · right
        rw [e1, hn, kA_i hy, h.1, z4, hnt2, z3, hen, ← h.2]
        show hY f N y + 20 ≤ hY f N y + hZ f N y
        omega
      · left
        rw [e1, hn, kA_i hy, h]
        decide
    · rw [z3] at k1
      rw [z6 k k0 k1]
      exact (hs.1 k k0 (by omega)).2
  · rw [z3] at h11
    obtain ⟨g1, g2, g3, g4⟩ := hK.2.resolve_left h11
    refine ⟨hW, by rw [z3]; exact g1, by rw [e1, z4, z3]; exact g3, by rw [z4]; exact g2, fun k k0 k1 => ?_, hrow⟩
    rw [z6 k]
    exact g4 k k0 (by rw [← z3]; exact k1)
end
section
/-! ===== the class: gather, the walk ===== -/
theorem PBS.fr {W : List (Nat × Nat)} {T M : jm} {F : Int → Int → Int} (h : PBS T F) (g : FR W T M) (h1 : ksep W [(34, 1000)] = true) : PBS M F := fun p h0 h2 => BY8.fr (h p h0 h2) (kf_33_0 (kxe_42 (show kd 2 = 42 from rfl) h0 h2).2).2 g h1
theorem GK1.e {T M : jm} {G : Nat} (h : GK1 T G) (e : ∀ k : Int, M G k = T G k) (e2 : ∀ k : Int, M (G + 2) k = T (G + 2) k) : GK1 M G := by
  unfold GK1 at h ⊢
  simp only [e, e2]
  exact h
theorem wh1_b {f : Int → Int} {N C y W s : Int} (h : ¬ rfq f N C y s) (hs : W = -1 → s = 1) (ho : 0 ≤ ofs f N C y) : wh1 f N C y W = W ∨ (0 ≤ wh1 f N C y W ∧ wh1 f N C y W ≤ 360) := by
  unfold rfq at h
  unfold wh1
  split
  · rename_i q
    have := hs q.1
    right
    omega
  · exact Or.inl rfl
theorem rfq_d {f : Int → Int} {N C y s : Int} (h : ¬ rfq f N C y s) : 1 ≤ N - enf f N C y := by
  unfold rfq at h
  omega
theorem hxc_z {M : jm} {t : Nat} {f : Int → Int} {N C : Int} (h : HS M t f N) (hC : M t 3 = C) (h0 : M t 4 = 0) : hX f N C = -1 := by
  subst hC
  rcases h.2.2.2.2.2 with g | g
  · exact g.1
  · exact absurd (g.2.2.1.symm.trans h0) g.2.1
theorem hxc_n {M : jm} {t : Nat} {f : Int → Int} {N C : Int} (h : HS M t f N) (hC : M t 3 = C) (h0 : M t 4 ≠ 0) : hX f N C ≠ -1 := by
  subst hC
  rcases h.2.2.2.2.2 with g | g
  · exact absurd g.2.1 h0
  · exact g.1
noncomputable def W_c_PacketWall_gather_x : List (Nat × Nat) := [(15, 0), (15, 1), (15, 2), (15, 3), (15, 4), (15, 5), (15, 6), (15, 7), (15, 8), (15, 11), (15, 12), (15, 13), (16, 1000), (17, 1000), (18, 3), (18, 4), (18, 5), (18, 6), (18, 7), (19, 1000), (20, 1000), (21, 1000), (33, 1), (33, 2), (34, 1000), (41, 1000)]
theorem c_PacketWall_gather_x {A : Nat → Option (Nat × (Nat → Int32))} {Q : Option Value → jm → Prop} {F : Int → Int → Int} {T : jm} {M : jm} (hC_M : CI M) (ht_M : FR W_c_PacketWall_gather_x T M) {x : Int} (h_x : (-2147483648) ≤ x ∧ x ≤ 2147483647) {Z : Int} (g_Z : M 0 8 = Z) (p0 : T = M) (p1 : PBS M F) (p2 : GOK M) (p3 : 0 ≤ Z ∧ Z ≤ 2000000000) (q : ∀ (r : Int) (M' : jm), CI M' → FR W_c_PacketWall_gather_x T M' → (-2147483648) ≤ r ∧ r ≤ 2147483647 → (((x < 0 ∨ 23 < x ∨ T (xe 2 x) 1 = -1) ∧ r = -2 ∧ NH T M') ∨ (((0 ≤ x ∧ x ≤ 23) ∧ T (xe 2 x) 1 ≠ -1) ∧ ∃ C : Int, HE (F x) (T (xe 2 x) 1) C ∧ GAQ T M' (F x) (T (xe 2 x) 1) C Z F r)) → Q (some (.int (Int32.ofInt r))) M') : jc A 6 16 [.ref (0), .int (Int32.ofInt (x))] M Q := by
  refine jc_of (m := xm_16) rfl (Nat.le_of_ble_eq_true rfl) rfl ?_
  have b_Z : (-2147483648) ≤ Z ∧ Z ≤ 2147483647 := by rw [← g_Z]; exact (CI.r hC_M (show kd 0 = 35 from rfl) (by decide) 8)
  refine jr.aload_n rfl rfl ?_
  refine jr.iload_n rfl rfl ?_
  refine jr_v rfl rfl (Or.inl rfl) rfl rfl (nlt rfl) rfl ⟨rfl, Nat.le_of_ble_eq_true rfl, Nat.le_of_ble_eq_true rfl⟩ rfl (jc.deep (c_PacketWall_isPacket_x hC_M (by omega) (fun r1 z1 w1_0 w1_1 => ?_)) (Nat.le_of_ble_eq_true rfl))
  refine jr.if_ne rfl rfl (by first | (refine rgb (by assumption) ?_; exact rfl) | omega) (fun h5 => ?_) (fun h5 => ?_)
  · have sx5 : (1 : Int) ≤ r1 := by omega
    clear h5
    refine jr.aload_n rfl rfl ?_
    refine jr.getf (i := 3) (v := .ref 3) rfl rfl (nlt rfl) rfl (nlt rfl) rfl rfl rfl rfl ?_
    refine jr.aload_n rfl rfl ?_
    refine jr.getf (i := 2) (v := .ref 2) rfl rfl (nlt rfl) rfl (nlt rfl) rfl rfl rfl rfl ?_
    refine jr.iload_n rfl rfl ?_
    have k2 := kxe_42 (a := 2) rfl (i := x) (by omega) (by omega)
    refine jr.aald (c := (xe 2 x)) rfl (by decide) rfl (by decide) (by decide) rfl (by decide) (by omega) (by omega) k2.1 ?_
    obtain ⟨v4, e4⟩ : ∃ z_, M ((xe 2 x)) 1 = z_ := ⟨_, rfl⟩
    have b4 : (-1) ≤ v4 ∧ v4 ≤ 400 := by rw [← e4]; exact (CI.r hC_M k2.2 (by decide) 1)
    refine jr_v rfl rfl (Or.inl rfl) rfl rfl (nlt rfl) rfl ⟨rfl, Nat.le_of_ble_eq_true rfl, Nat.le_of_ble_eq_true rfl⟩ rfl (jc.deep (c_Headers_readAll_x hC_M (FR.rfl _ M) (show kd 3 = 18 from rfl) k2.2 e4 (p1 x (by omega) (by omega)) (fun M3 hC_M3 hf_M3 w3_0 w3_1 w3_2 => ?_)) (Nat.le_of_ble_eq_true rfl))
    have ht_M3 : FR W_c_PacketWall_gather_x T M3 := FR.t ht_M hf_M3 (kw_sub rfl)
    refine jr.aload_n rfl rfl ?_
    refine jr.getf (i := 3) (v := .ref 3) rfl rfl (nlt rfl) rfl (nlt rfl) rfl rfl rfl rfl ?_
    obtain ⟨v6, e6⟩ : ∃ z_, M3 3 3 = z_ := ⟨_, rfl⟩
    have b6 : 0 ≤ v6 ∧ v6 ≤ 12 := by rw [← e6]; exact (CI.r hC_M3 (show kd 3 = 18 from rfl) (by decide) 3)
    obtain ⟨v7, e7⟩ : ∃ z_, M3 3 4 = z_ := ⟨_, rfl⟩
    have b7 : (-2147483648) ≤ v7 ∧ v7 ≤ 2147483647 := by rw [← e7]; exact (CI.r hC_M3 (show kd 3 = 18 from rfl) (by decide) 4)
    refine jr_v rfl rfl (Or.inl rfl) rfl rfl (nlt rfl) rfl ⟨rfl, Nat.le_of_ble_eq_true rfl, Nat.le_of_ble_eq_true rfl⟩ rfl (jc.deep (c_Headers_pieceHeader_x hC_M3 (show kd 3 = 18 from rfl) e6 e7 ((w3_1.resolve_left (fun h => by omega)).2) (fun r5 z5 w5_0 => ?_)) (Nat.le_of_ble_eq_true rfl))
    have hpc : r5 = -1 ∨ (v7 = 0 ∧ r5 = pcf (F x) v4 v6 ∧ (0 ≤ r5 ∧ r5 < v6) ∧ ((hX (F x) v4 r5 = 2 ∧ r5 = ntf (F x) v4 v6) ∨ hX (F x) v4 r5 = 6)) := Or.elim w5_0 (fun h => Or.inl h.2) (fun h => Or.elim (pcf_r (f := F x) (N := v4) (C := v6) (by omega)) (fun u => Or.inl (by omega)) (fun u => Or.inr ⟨h.1, h.2, by rw [h.2]; exact u.1, by rw [h.2]; exact u.2⟩))
    refine jr.istore_n (ls' := [_, _, _]) rfl (nlt rfl) rfl ?_
    refine jr.iload_n rfl rfl ?_
    refine jr.iconst rfl ?_
    refine jr.icmp_ne rfl rfl (by first | (refine rgb (by assumption) ?_; exact rfl) | omega) (rgl rfl) (fun h34 => ?_) (fun h34 => ?_)
    · have sx34 : (0 : Int) ≤ r5 := by omega
      clear h34
      refine jr.aload_n rfl rfl ?_
      refine jr.getf (i := 6) (v := .ref 11) rfl rfl (nlt rfl) rfl (nlt rfl) rfl rfl rfl rfl ?_
      refine jr.aload_n rfl rfl ?_
      refine jr.getf (i := 3) (v := .ref 3) rfl rfl (nlt rfl) rfl (nlt rfl) rfl rfl rfl rfl ?_
      refine jr.iload_n rfl rfl ?_
      obtain ⟨hF0, hpe, hp0, hp6⟩ := hpc.resolve_left (by omega)
      have hxc : hX (F x) v4 v6 = -1 := hxc_z ((w3_1.resolve_left (fun h => by omega)).2) e6 (by rw [e7]; exact hF0)
      refine jr_v rfl rfl (Or.inl rfl) rfl rfl (nlt rfl) rfl ⟨rfl, Nat.le_of_ble_eq_true rfl, Nat.le_of_ble_eq_true rfl⟩ rfl (jc.deep (c_Gathering_nameBy_x hC_M3 (FR.rfl _ M3) (show kd 11 = 15 from rfl) (by omega) e6 rfl ((w3_1.resolve_left (fun h => by omega)).2) (fun M8 hC_M8 hf_M8 w8_0 => ?_)) (Nat.le_of_ble_eq_true rfl))
      have ht_M8 : FR W_c_PacketWall_gather_x T M8 := FR.t ht_M3 hf_M8 (kw_sub rfl)
      refine jr.aload_n rfl rfl ?_
      refine jr_v rfl rfl (Or.inl rfl) rfl rfl (nlt rfl) rfl ⟨rfl, Nat.le_of_ble_eq_true rfl, Nat.le_of_ble_eq_true rfl⟩ rfl (jc.deep (c_PacketWall_soughtGathering_x hC_M8  (fun r9 z9 w9_0 => ?_)) (Nat.le_of_ble_eq_true rfl))
      have hgs := gS_r M8 8 0 (by decide)
      rw [← w9_0] at hgs
      refine jr.istore_n (ls' := [_, _, _, _]) rfl (nlt rfl) rfl ?_
      refine jr.iload_n rfl rfl ?_
      refine jr.iconst rfl ?_
      refine jr.icmp_eq rfl rfl (by first | (refine rgb (by assumption) ?_; exact rfl) | omega) (rgl rfl) (fun h59 => ?_) (fun h59 => ?_)
      · refine jr.iconst rfl ?_
        refine jr.goto rfl rfl ?_
        refine jr.istore (ls' := [_, _, _, _, _]) rfl (nlt rfl) rfl ?_
        refine jr.aload_n rfl rfl ?_
        refine jr.iload_n rfl rfl ?_
        refine jr.iload rfl rfl ?_
        have e11 : M8 3 3 = v6 := (hf_M8.g (show kd 3 = 18 from rfl) rfl).trans e6
        refine jr_v rfl rfl (Or.inl rfl) rfl rfl (nlt rfl) rfl ⟨rfl, Nat.le_of_ble_eq_true rfl, Nat.le_of_ble_eq_true rfl⟩ rfl (jc.deep (c_PacketWall_isRefusedPiece_x hC_M8 (by omega) (by omega) e11 (HS.fr ((w3_1.resolve_left (fun h => by omega)).2) (show kd 3 = 18 from rfl) hC_M3 hf_M8 rfl) (by omega) (by omega) (fun r10 z10 w10_0 => ?_)) (Nat.le_of_ble_eq_true rfl))
        refine jr.if_eq rfl rfl (by first | (refine rgb (by assumption) ?_; exact rfl) | omega) (fun h89 => ?_) (fun h89 => ?_)
        · refine jr.iload_n rfl rfl ?_
          refine jr.iconst rfl ?_
          refine jr.icmp_ne rfl rfl (by first | (refine rgb (by assumption) ?_; exact rfl) | omega) (rgl rfl) (fun h97 => ?_) (fun h97 => ?_)
          · exact absurd h97 (by omega)
          · refine jr.aload_n rfl rfl ?_
            refine jr_v rfl rfl (Or.inl rfl) rfl rfl (nlt rfl) rfl ⟨rfl, Nat.le_of_ble_eq_true rfl, Nat.le_of_ble_eq_true rfl⟩ rfl (jc.deep (c_PacketWall_freeGathering_x hC_M8  (fun r12 z12 w12_0 => ?_)) (Nat.le_of_ble_eq_true rfl))
            refine jr.istore_n (ls' := [_, _, _, _, _]) rfl (nlt rfl) rfl ?_
            refine jr.iload_n rfl rfl ?_
            refine jr.iconst rfl ?_
            refine jr.icmp_ne rfl rfl (by first | (refine rgb (by assumption) ?_; exact rfl) | omega) (rgl rfl) (fun h107 => ?_) (fun h107 => ?_)
            · have sx107 : (0 : Int) ≤ r12 := by omega
              clear h107
              refine jr.aload_n rfl rfl ?_
              refine jr.getf (i := 5) (v := .ref 10) rfl rfl (nlt rfl) rfl (nlt rfl) rfl rfl rfl rfl ?_
              refine jr.iload_n rfl rfl ?_
              have k13 := kxe_40 (a := 10) rfl (i := r12) (by omega) (by omega)
              refine jr.aald (c := (xe 10 r12)) rfl (by decide) rfl (by decide) (by decide) rfl (by decide) (by omega) (by omega) k13.1 ?_
              refine jr.aload_n rfl rfl ?_
              refine jr.getf (i := 6) (v := .ref 11) rfl rfl (nlt rfl) rfl (nlt rfl) rfl rfl rfl rfl ?_
              refine jr.aload_n rfl rfl ?_
              have e14 : M3 0 8 = Z := (hf_M3.g (show kd 0 = 35 from rfl) rfl).trans g_Z
              have e15 : M8 0 8 = Z := (hf_M8.g (show kd 0 = 35 from rfl) rfl).trans e14
              refine jr.getf (i := 8) (x := Z) (v := .int (Int32.ofInt (Z))) rfl rfl (nlt rfl) rfl (nlt rfl) rfl rfl e15 rfl ?_
              refine jr.bipush rfl (jbp _ (nlt rfl)) ?_
              refine jr.iadd rfl ?_
              refine jr_v rfl rfl (Or.inl rfl) rfl rfl (Nat.lt_trans (kx_15 k13.2).1 (by decide)) (kx_15 k13.2).2 ⟨rfl, Nat.le_of_ble_eq_true rfl, Nat.le_of_ble_eq_true rfl⟩ rfl (jc.deep (c_Gathering_beginAs_x hC_M8 (FR.rfl _ M8) k13.2 (by omega) rfl (xg_ (by omega)).1 (fun M16 hC_M16 hf_M16 w16_0 => ?_)) (Nat.le_of_ble_eq_true rfl))
              have ht_M16 : FR W_c_PacketWall_gather_x T M16 := FR.t ht_M8 hf_M16 (kw_sub rfl)
              refine jr.aload_n rfl rfl ?_
              refine jr.getf (i := 5) (v := .ref 10) rfl rfl (nlt rfl) rfl (nlt rfl) rfl rfl rfl rfl ?_
              refine jr.iload_n rfl rfl ?_
              have k17 := kxe_40 (a := 10) rfl (i := r12) (by omega) (by omega)
              refine jr.aald (c := (xe 10 r12)) rfl (by decide) rfl (by decide) (by decide) rfl (by decide) (by omega) (by omega) k17.1 ?_
              refine jr.aload_n rfl rfl ?_
              refine jr.getf (i := 3) (v := .ref 3) rfl rfl (nlt rfl) rfl (nlt rfl) rfl rfl rfl rfl ?_
              refine jr.iload_n rfl rfl ?_
              refine jr.aload_n rfl rfl ?_
              refine jr.getf (i := 7) (v := .ref 14) rfl rfl (nlt rfl) rfl (nlt rfl) rfl rfl rfl rfl ?_
              have e19 : M16 3 3 = v6 := (hf_M16.g (show kd 3 = 18 from rfl) rfl).trans e11
              refine jr_v rfl rfl (Or.inl rfl) rfl rfl (Nat.lt_trans (kx_15 k17.2).1 (by decide)) (kx_15 k17.2).2 ⟨rfl, Nat.le_of_ble_eq_true rfl, Nat.le_of_ble_eq_true rfl⟩ rfl (jc.deep (c_Gathering_takeIn_x hC_M16 (FR.rfl _ M16) k17.2 (by omega) e19 rfl (HS.fr (HS.fr ((w3_1.resolve_left (fun h => by omega)).2) (show kd 3 = 18 from rfl) hC_M3 hf_M8 rfl) (show kd 3 = 18 from rfl) hC_M8 hf_M16 rfl) (by omega) (by omega) (rfq_d ((w10_0.resolve_left (fun h => by omega)).2)) (xg_ (by omega)).2 (fun M18 hC_M18 hf_M18 w18_0 => ?_)) (Nat.le_of_ble_eq_true rfl))
              have ht_M18 : FR W_c_PacketWall_gather_x T M18 := FR.t ht_M16 hf_M18 (kw_sub rfl)
              refine jr.aload_n rfl rfl ?_
              refine jr.getf (i := 5) (v := .ref 10) rfl rfl (nlt rfl) rfl (nlt rfl) rfl rfl rfl rfl ?_
              refine jr.iload_n rfl rfl ?_
              have k20 := kxe_40 (a := 10) rfl (i := r12) (by omega) (by omega)
              refine jr.aald (c := (xe 10 r12)) rfl (by decide) rfl (by decide) (by decide) rfl (by decide) (by omega) (by omega) k20.1 ?_
              obtain ⟨v22, e22⟩ : ∃ z_, M18 ((xe 10 r12)) 7 = z_ := ⟨_, rfl⟩
              have b22 : (-1) ≤ v22 ∧ v22 ≤ 70000 := by rw [← e22]; exact (CI.r hC_M18 k20.2 (by decide) 7)
              obtain ⟨v23, e23⟩ : ∃ z_, M18 ((xe 10 r12)) 11 = z_ := ⟨_, rfl⟩
              have b23 : (-1) ≤ v23 ∧ v23 ≤ 400 := by rw [← e23]; exact (CI.r hC_M18 k20.2 (by decide) 11)
              refine jr_v rfl rfl (Or.inl rfl) rfl rfl (Nat.lt_trans (kx_15 k20.2).1 (by decide)) (kx_15 k20.2).2 ⟨rfl, Nat.le_of_ble_eq_true rfl, Nat.le_of_ble_eq_true rfl⟩ rfl (jc.deep (c_Gathering_isReady_x hC_M18 k20.2 e22 e23 (fun r21 z21 w21_0 => ?_)) (Nat.le_of_ble_eq_true rfl))
              refine jr.if_eq rfl rfl (by first | (refine rgb (by assumption) ?_; exact rfl) | omega) (fun h160 => ?_) (fun h160 => ?_)
              · refine jr.iconst rfl ?_
                exact jr.ireturn rfl rfl rfl (q _ _ hC_M18 ht_M18 (by first | exact rgq rfl | omega) (Or.inr ⟨by rw [p0]; omega, by rw [p0, e4]; exact ⟨v6, (by have hq := HQ.e ((w3_1.resolve_left (fun h => by omega)).2).2.2.2; rw [e6] at hq; exact hq), Or.inr ⟨hxc, by rw [← hpe]; omega, M8, (by rw [← p0]; exact (NH.t (show NH T M3 from by rw [p0]; exact NH.f hf_M3 rfl) (fun b k h => w8_0.2.1 b k h))), (by rw [← hpe]; exact w8_0.1), (by unfold GAK; rw [← hpe, (show fstv M8 = 1 from by unfold fstv; rw [← w9_0]; exact if_pos (by first | (left; omega) | (right; omega))), ← w9_0]; exact Or.inr (Or.inr ⟨((w10_0.resolve_left (fun h => by omega)).2), r12, M16, M18, Or.inr ⟨by rw [← w9_0]; omega, w12_0, by omega, w16_0⟩, by have h9 := w18_0; rw [hpe] at h9; rw [hpe]; exact h9, Or.inl ⟨(show NRD M18 (xe 10 r12) from by unfold NRD; rw [e22, e23]; exact Or.elim w21_0 (fun h => Or.elim h.1 (fun u => Or.inl u) (fun u => Or.inr (Or.inl u))) (fun h => Or.inr (Or.inr (by have h9 := h.2.2; omega)))), by omega, rfl⟩⟩))⟩⟩⟩))
              · have sx160 : (1 : Int) ≤ r21 := by omega
                clear h160
                refine jr.aload_n rfl rfl ?_
                refine jr.aload_n rfl rfl ?_
                refine jr.getf (i := 5) (v := .ref 10) rfl rfl (nlt rfl) rfl (nlt rfl) rfl rfl rfl rfl ?_
                refine jr.iload_n rfl rfl ?_
                have k24 := kxe_40 (a := 10) rfl (i := r12) (by omega) (by omega)
                refine jr.aald (c := (xe 10 r12)) rfl (by decide) rfl (by decide) (by decide) rfl (by decide) (by omega) (by omega) k24.1 ?_
                have e26 : M18 3 3 = v6 := (hf_M18.g (show kd 3 = 18 from rfl) rfl).trans e19
                refine jr_v rfl rfl (Or.inl rfl) rfl rfl (nlt rfl) rfl ⟨rfl, Nat.le_of_ble_eq_true rfl, Nat.le_of_ble_eq_true rfl⟩ rfl (jc.deep (c_PacketWall_putTogether_x hC_M18 (FR.rfl _ M18) k24.2 rfl (PBS.fr (PBS.fr (PBS.fr (PBS.fr p1 hf_M3 rfl) hf_M8 rfl) hf_M16 rfl) hf_M18 rfl) (GRD.t (M3 := M16) ((w3_1.resolve_left (fun h => by omega)).2) e6 hp0 hp6 (show GK1 M16 (xe 10 r12) from ⟨Or.inl w16_0.1.2.2.2.2.2.2.2.1, Or.inl w16_0.1.2.2.2.2.2.2.2.2.2⟩) (w16_0.1.2.1.trans w8_0.1.1) w18_0 (wh1_b ((w10_0.resolve_left (fun h => by omega)).2) (fun _ => rfl) (by unfold ofs; have h9 := ofs_r (f := F x) (N := v4) (C := v6) (x := r5) (by omega) (by omega); omega)) hC_M18 (kxe_40 (show kd 10 = 40 from rfl) (i := r12) (by omega) (by omega)).2 (by rw [e22]; exact (w21_0.resolve_left (fun h => by omega)).1) (by rw [e23]; exact (w21_0.resolve_left (fun h => by omega)).2.1) (by rw [e22]; have h9 := (w21_0.resolve_left (fun h => by omega)).2.2; omega)) (fun r25 M25 hC_M25 hf_M25 z25 w25_0 => ?_)) (Nat.le_of_ble_eq_true rfl))
                have ht_M25 : FR W_c_PacketWall_gather_x T M25 := FR.t ht_M18 hf_M25 (kw_sub rfl)
                refine jr.goto rfl rfl ?_
                exact jr.ireturn rfl rfl rfl (q _ _ hC_M25 ht_M25 (by omega) (Or.inr ⟨by rw [p0]; omega, by rw [p0, e4]; exact ⟨v6, (by have hq := HQ.e ((w3_1.resolve_left (fun h => by omega)).2).2.2.2; rw [e6] at hq; exact hq), Or.inr ⟨hxc, by rw [← hpe]; omega, M8, (by rw [← p0]; exact (NH.t (show NH T M3 from by rw [p0]; exact NH.f hf_M3 rfl) (fun b k h => w8_0.2.1 b k h))), (by rw [← hpe]; exact w8_0.1), (by unfold GAK; rw [← hpe, (show fstv M8 = 1 from by unfold fstv; rw [← w9_0]; exact if_pos (by first | (left; omega) | (right; omega))), ← w9_0]; exact Or.inr (Or.inr ⟨((w10_0.resolve_left (fun h => by omega)).2), r12, M16, M18, Or.inr ⟨by rw [← w9_0]; omega, w12_0, by omega, w16_0⟩, by have h9 := w18_0; rw [hpe] at h9; rw [hpe]; exact h9, Or.inr ⟨(fun h => by unfold NRD at h; rw [e22, e23] at h; exact Or.elim w21_0 (fun u => by omega) (fun u => Or.elim h (fun z => u.1 z) (fun z => Or.elim z (fun z => u.2.1 z) (fun z => by have h9 := u.2.2; omega)))), w25_0⟩⟩))⟩⟩⟩))
            · refine jr.bipush rfl (by decide) ?_
              exact jr.ireturn rfl rfl rfl (q _ _ hC_M8 ht_M8 (by first | exact rgq rfl | omega) (Or.inr ⟨by rw [p0]; omega, by rw [p0, e4]; exact ⟨v6, (by have hq := HQ.e ((w3_1.resolve_left (fun h => by omega)).2).2.2.2; rw [e6] at hq; exact hq), Or.inr ⟨hxc, by rw [← hpe]; omega, M8, (by rw [← p0]; exact (NH.t (show NH T M3 from by rw [p0]; exact NH.f hf_M3 rfl) (fun b k h => w8_0.2.1 b k h))), (by rw [← hpe]; exact w8_0.1), (by unfold GAK; rw [← hpe, (show fstv M8 = 1 from by unfold fstv; rw [← w9_0]; exact if_pos (by first | (left; omega) | (right; omega))), ← w9_0]; exact Or.inr (Or.inl ⟨((w10_0.resolve_left (fun h => by omega)).2), by omega, by rw [← w12_0]; omega, by omega, rfl⟩))⟩⟩⟩))
        · have sx89 : (1 : Int) ≤ r10 := by omega
          clear h89
          refine jr.bipush rfl (by decide) ?_
          exact jr.ireturn rfl rfl rfl (q _ _ hC_M8 ht_M8 (by first | exact rgq rfl | omega) (Or.inr ⟨by rw [p0]; omega, by rw [p0, e4]; exact ⟨v6, (by have hq := HQ.e ((w3_1.resolve_left (fun h => by omega)).2).2.2.2; rw [e6] at hq; exact hq), Or.inr ⟨hxc, by rw [← hpe]; omega, M8, (by rw [← p0]; exact (NH.t (show NH T M3 from by rw [p0]; exact NH.f hf_M3 rfl) (fun b k h => w8_0.2.1 b k h))), (by rw [← hpe]; exact w8_0.1), (by unfold GAK; rw [← hpe, (show fstv M8 = 1 from by unfold fstv; rw [← w9_0]; exact if_pos (by first | (left; omega) | (right; omega))), ← w9_0]; exact Or.inl ⟨(w10_0.resolve_right (fun h => by omega)).2, by omega, rfl⟩)⟩⟩⟩))
      · have sx59 : (0 : Int) ≤ r9 := by omega
        clear h59
        refine jr.aload_n rfl rfl ?_
        refine jr.getf (i := 5) (v := .ref 10) rfl rfl (nlt rfl) rfl (nlt rfl) rfl rfl rfl rfl ?_
        refine jr.iload_n rfl rfl ?_
        have k27 := kxe_40 (a := 10) rfl (i := r9) (by omega) (by omega)
        refine jr.aald (c := (xe 10 r9)) rfl (by decide) rfl (by decide) (by decide) rfl (by decide) (by omega) (by omega) k27.1 ?_
        obtain ⟨v28, e28⟩ : ∃ z_, M ((xe 10 r9)) 7 = z_ := ⟨_, rfl⟩
        have b28 : (-1) ≤ v28 ∧ v28 ≤ 70000 := by rw [← e28]; exact (CI.r hC_M k27.2 (by decide) 7)
        have e29 : M3 ((xe 10 r9)) 7 = v28 := (hf_M3.g k27.2 rfl).trans e28
        have e30 : M8 ((xe 10 r9)) 7 = v28 := (hf_M8.g k27.2 rfl).trans e29
        refine jr.getf (i := 7) (x := v28) (v := .int (Int32.ofInt (v28))) rfl rfl (Nat.lt_trans (kx_15 k27.2).1 (by decide)) (kx_15 k27.2).2 (by decide) rfl rfl e30 rfl ?_
        refine jr.iconst rfl ?_
        refine jr.icmp_ne rfl rfl (by first | (refine rgb (by assumption) ?_; exact rfl) | omega) (rgl rfl) (fun h72 => ?_) (fun h72 => ?_)
        · have sx72 : (0 : Int) ≤ v28 := by omega
          clear h72
          refine jr.iconst rfl ?_
          refine jr.istore (ls' := [_, _, _, _, _]) rfl (nlt rfl) rfl ?_
          refine jr.aload_n rfl rfl ?_
          refine jr.iload_n rfl rfl ?_
          refine jr.iload rfl rfl ?_
          have e32 : M8 3 3 = v6 := (hf_M8.g (show kd 3 = 18 from rfl) rfl).trans e6
          refine jr_v rfl rfl (Or.inl rfl) rfl rfl (nlt rfl) rfl ⟨rfl, Nat.le_of_ble_eq_true rfl, Nat.le_of_ble_eq_true rfl⟩ rfl (jc.deep (c_PacketWall_isRefusedPiece_x hC_M8 (by omega) (by omega) e32 (HS.fr ((w3_1.resolve_left (fun h => by omega)).2) (show kd 3 = 18 from rfl) hC_M3 hf_M8 rfl) (by omega) (by omega) (fun r31 z31 w31_0 => ?_)) (Nat.le_of_ble_eq_true rfl))
          refine jr.if_eq rfl rfl (by first | (refine rgb (by assumption) ?_; exact rfl) | omega) (fun h89 => ?_) (fun h89 => ?_)
          · refine jr.iload_n rfl rfl ?_
            refine jr.iconst rfl ?_
            refine jr.icmp_ne rfl rfl (by first | (refine rgb (by assumption) ?_; exact rfl) | omega) (rgl rfl) (fun h97 => ?_) (fun h97 => ?_)
            · refine jr.aload_n rfl rfl ?_
              refine jr.getf (i := 5) (v := .ref 10) rfl rfl (nlt rfl) rfl (nlt rfl) rfl rfl rfl rfl ?_
              refine jr.iload_n rfl rfl ?_
              have k33 := kxe_40 (a := 10) rfl (i := r9) (by omega) (by omega)
              refine jr.aald (c := (xe 10 r9)) rfl (by decide) rfl (by decide) (by decide) rfl (by decide) (by omega) (by omega) k33.1 ?_
              refine jr.aload_n rfl rfl ?_
              refine jr.getf (i := 3) (v := .ref 3) rfl rfl (nlt rfl) rfl (nlt rfl) rfl rfl rfl rfl ?_
              refine jr.iload_n rfl rfl ?_
              refine jr.aload_n rfl rfl ?_
              refine jr.getf (i := 7) (v := .ref 14) rfl rfl (nlt rfl) rfl (nlt rfl) rfl rfl rfl rfl ?_
              refine jr_v rfl rfl (Or.inl rfl) rfl rfl (Nat.lt_trans (kx_15 k33.2).1 (by decide)) (kx_15 k33.2).2 ⟨rfl, Nat.le_of_ble_eq_true rfl, Nat.le_of_ble_eq_true rfl⟩ rfl (jc.deep (c_Gathering_takeIn_x hC_M8 (FR.rfl _ M8) k33.2 (by omega) e32 rfl (HS.fr ((w3_1.resolve_left (fun h => by omega)).2) (show kd 3 = 18 from rfl) hC_M3 hf_M8 rfl) (by omega) (by omega) (rfq_d ((w31_0.resolve_left (fun h => by omega)).2)) (xg_ (by omega)).2 (fun M34 hC_M34 hf_M34 w34_0 => ?_)) (Nat.le_of_ble_eq_true rfl))
              have ht_M34 : FR W_c_PacketWall_gather_x T M34 := FR.t ht_M8 hf_M34 (kw_sub rfl)
              refine jr.aload_n rfl rfl ?_
              refine jr.getf (i := 5) (v := .ref 10) rfl rfl (nlt rfl) rfl (nlt rfl) rfl rfl rfl rfl ?_
              refine jr.iload_n rfl rfl ?_
              have k35 := kxe_40 (a := 10) rfl (i := r9) (by omega) (by omega)
              refine jr.aald (c := (xe 10 r9)) rfl (by decide) rfl (by decide) (by decide) rfl (by decide) (by omega) (by omega) k35.1 ?_
              obtain ⟨v37, e37⟩ : ∃ z_, M34 ((xe 10 r9)) 7 = z_ := ⟨_, rfl⟩
              have b37 : (-1) ≤ v37 ∧ v37 ≤ 70000 := by rw [← e37]; exact (CI.r hC_M34 k35.2 (by decide) 7)
              obtain ⟨v38, e38⟩ : ∃ z_, M34 ((xe 10 r9)) 11 = z_ := ⟨_, rfl⟩
              have b38 : (-1) ≤ v38 ∧ v38 ≤ 400 := by rw [← e38]; exact (CI.r hC_M34 k35.2 (by decide) 11)
              refine jr_v rfl rfl (Or.inl rfl) rfl rfl (Nat.lt_trans (kx_15 k35.2).1 (by decide)) (kx_15 k35.2).2 ⟨rfl, Nat.le_of_ble_eq_true rfl, Nat.le_of_ble_eq_true rfl⟩ rfl (jc.deep (c_Gathering_isReady_x hC_M34 k35.2 e37 e38 (fun r36 z36 w36_0 => ?_)) (Nat.le_of_ble_eq_true rfl))
              refine jr.if_eq rfl rfl (by first | (refine rgb (by assumption) ?_; exact rfl) | omega) (fun h160 => ?_) (fun h160 => ?_)
              · refine jr.iconst rfl ?_
                exact jr.ireturn rfl rfl rfl (q _ _ hC_M34 ht_M34 (by first | exact rgq rfl | omega) (Or.inr ⟨by rw [p0]; omega, by rw [p0, e4]; exact ⟨v6, (by have hq := HQ.e ((w3_1.resolve_left (fun h => by omega)).2).2.2.2; rw [e6] at hq; exact hq), Or.inr ⟨hxc, by rw [← hpe]; omega, M8, (by rw [← p0]; exact (NH.t (show NH T M3 from by rw [p0]; exact NH.f hf_M3 rfl) (fun b k h => w8_0.2.1 b k h))), (by rw [← hpe]; exact w8_0.1), (by unfold GAK; rw [← hpe, (show fstv M8 = 0 from by unfold fstv; rw [← w9_0]; exact if_neg (by omega)), ← w9_0]; exact Or.inr (Or.inr ⟨((w31_0.resolve_left (fun h => by omega)).2), r9, M8, M34, Or.inl ⟨by rw [← w9_0]; omega, w9_0, rfl⟩, by have h9 := w34_0; rw [hpe] at h9; rw [hpe]; exact h9, Or.inl ⟨(show NRD M34 (xe 10 r9) from by unfold NRD; rw [e37, e38]; exact Or.elim w36_0 (fun h => Or.elim h.1 (fun u => Or.inl u) (fun u => Or.inr (Or.inl u))) (fun h => Or.inr (Or.inr (by have h9 := h.2.2; omega)))), by omega, rfl⟩⟩))⟩⟩⟩))
              · have sx160 : (1 : Int) ≤ r36 := by omega
                clear h160
                refine jr.aload_n rfl rfl ?_
                refine jr.aload_n rfl rfl ?_
                refine jr.getf (i := 5) (v := .ref 10) rfl rfl (nlt rfl) rfl (nlt rfl) rfl rfl rfl rfl ?_
                refine jr.iload_n rfl rfl ?_
                have k39 := kxe_40 (a := 10) rfl (i := r9) (by omega) (by omega)
                refine jr.aald (c := (xe 10 r9)) rfl (by decide) rfl (by decide) (by decide) rfl (by decide) (by omega) (by omega) k39.1 ?_
                have e41 : M34 3 3 = v6 := (hf_M34.g (show kd 3 = 18 from rfl) rfl).trans e32
                refine jr_v rfl rfl (Or.inl rfl) rfl rfl (nlt rfl) rfl ⟨rfl, Nat.le_of_ble_eq_true rfl, Nat.le_of_ble_eq_true rfl⟩ rfl (jc.deep (c_PacketWall_putTogether_x hC_M34 (FR.rfl _ M34) k39.2 rfl (PBS.fr (PBS.fr (PBS.fr p1 hf_M3 rfl) hf_M8 rfl) hf_M34 rfl) (GRD.t (M3 := M8) ((w3_1.resolve_left (fun h => by omega)).2) e6 hp0 hp6 (GK1.e (T := T) (by rw [p0]; exact p2 r9 (by omega) (by omega) (by rw [← p0]; exact (by rw [← (NH.t (show NH T M3 from by rw [p0]; exact NH.f hf_M3 rfl) (fun b k h => w8_0.2.1 b k h)) (xe 10 r9) 0 (by rw [(kxe_40 (show kd 10 = 40 from rfl) (i := r9) (by omega) (by omega)).2]; decide) (xg_ (by omega)).1]; exact (hgs.resolve_left (by omega)).2.1))) (fun k => ((NH.t (show NH T M3 from by rw [p0]; exact NH.f hf_M3 rfl) (fun b k h => w8_0.2.1 b k h)) (xe 10 r9) k (by rw [(kxe_40 (show kd 10 = 40 from rfl) (i := r9) (by omega) (by omega)).2]; decide) (by first | exact (xg_ (by omega)).1 | omega))) (fun k => ((NH.t (show NH T M3 from by rw [p0]; exact NH.f hf_M3 rfl) (fun b k h => w8_0.2.1 b k h)) ((xe 10 r9) + 2) k (by rw [(kf_15_10 (kxe_40 (show kd 10 = 40 from rfl) (i := r9) (by omega) (by omega)).2).2]; decide) (kd_ne (by rw [(kf_15_10 (kxe_40 (show kd 10 = 40 from rfl) (i := r9) (by omega) (by omega)).2).2]; decide))))) ((hgs.resolve_left (by omega)).2.2.trans w8_0.1.1) w34_0 (wh1_b ((w31_0.resolve_left (fun h => by omega)).2) (fun h => by exfalso; omega) (by unfold ofs; have h9 := ofs_r (f := F x) (N := v4) (C := v6) (x := r5) (by omega) (by omega); omega)) hC_M34 (kxe_40 (show kd 10 = 40 from rfl) (i := r9) (by omega) (by omega)).2 (by rw [e37]; exact (w36_0.resolve_left (fun h => by omega)).1) (by rw [e38]; exact (w36_0.resolve_left (fun h => by omega)).2.1) (by rw [e37]; have h9 := (w36_0.resolve_left (fun h => by omega)).2.2; omega)) (fun r40 M40 hC_M40 hf_M40 z40 w40_0 => ?_)) (Nat.le_of_ble_eq_true rfl))
                have ht_M40 : FR W_c_PacketWall_gather_x T M40 := FR.t ht_M34 hf_M40 (kw_sub rfl)
                refine jr.goto rfl rfl ?_
                exact jr.ireturn rfl rfl rfl (q _ _ hC_M40 ht_M40 (by omega) (Or.inr ⟨by rw [p0]; omega, by rw [p0, e4]; exact ⟨v6, (by have hq := HQ.e ((w3_1.resolve_left (fun h => by omega)).2).2.2.2; rw [e6] at hq; exact hq), Or.inr ⟨hxc, by rw [← hpe]; omega, M8, (by rw [← p0]; exact (NH.t (show NH T M3 from by rw [p0]; exact NH.f hf_M3 rfl) (fun b k h => w8_0.2.1 b k h))), (by rw [← hpe]; exact w8_0.1), (by unfold GAK; rw [← hpe, (show fstv M8 = 0 from by unfold fstv; rw [← w9_0]; exact if_neg (by omega)), ← w9_0]; exact Or.inr (Or.inr ⟨((w31_0.resolve_left (fun h => by omega)).2), r9, M8, M34, Or.inl ⟨by rw [← w9_0]; omega, w9_0, rfl⟩, by have h9 := w34_0; rw [hpe] at h9; rw [hpe]; exact h9, Or.inr ⟨(fun h => by unfold NRD at h; rw [e37, e38] at h; exact Or.elim w36_0 (fun u => by omega) (fun u => Or.elim h (fun z => u.1 z) (fun z => Or.elim z (fun z => u.2.1 z) (fun z => by have h9 := u.2.2; omega)))), w40_0⟩⟩))⟩⟩⟩))
            · exact absurd (by omega) h97
          · have sx89 : (1 : Int) ≤ r31 := by omega
            clear h89
            refine jr.bipush rfl (by decide) ?_
            exact jr.ireturn rfl rfl rfl (q _ _ hC_M8 ht_M8 (by first | exact rgq rfl | omega) (Or.inr ⟨by rw [p0]; omega, by rw [p0, e4]; exact ⟨v6, (by have hq := HQ.e ((w3_1.resolve_left (fun h => by omega)).2).2.2.2; rw [e6] at hq; exact hq), Or.inr ⟨hxc, by rw [← hpe]; omega, M8, (by rw [← p0]; exact (NH.t (show NH T M3 from by rw [p0]; exact NH.f hf_M3 rfl) (fun b k h => w8_0.2.1 b k h))), (by rw [← hpe]; exact w8_0.1), (by unfold GAK; rw [← hpe, (show fstv M8 = 0 from by unfold fstv; rw [← w9_0]; exact if_neg (by omega)), ← w9_0]; exact Or.inl ⟨(w31_0.resolve_right (fun h => by omega)).2, by omega, rfl⟩)⟩⟩⟩))
        · refine jr.iconst rfl ?_
          refine jr.goto rfl rfl ?_
          refine jr.istore (ls' := [_, _, _, _, _]) rfl (nlt rfl) rfl ?_
          refine jr.aload_n rfl rfl ?_
          refine jr.iload_n rfl rfl ?_
          refine jr.iload rfl rfl ?_
          have e43 : M8 3 3 = v6 := (hf_M8.g (show kd 3 = 18 from rfl) rfl).trans e6
          refine jr_v rfl rfl (Or.inl rfl) rfl rfl (nlt rfl) rfl ⟨rfl, Nat.le_of_ble_eq_true rfl, Nat.le_of_ble_eq_true rfl⟩ rfl (jc.deep (c_PacketWall_isRefusedPiece_x hC_M8 (by omega) (by omega) e43 (HS.fr ((w3_1.resolve_left (fun h => by omega)).2) (show kd 3 = 18 from rfl) hC_M3 hf_M8 rfl) (by omega) (by omega) (fun r42 z42 w42_0 => ?_)) (Nat.le_of_ble_eq_true rfl))
          refine jr.if_eq rfl rfl (by first | (refine rgb (by assumption) ?_; exact rfl) | omega) (fun h89 => ?_) (fun h89 => ?_)
          · refine jr.iload_n rfl rfl ?_
            refine jr.iconst rfl ?_
            refine jr.icmp_ne rfl rfl (by first | (refine rgb (by assumption) ?_; exact rfl) | omega) (rgl rfl) (fun h97 => ?_) (fun h97 => ?_)
            · refine jr.aload_n rfl rfl ?_
              refine jr.getf (i := 5) (v := .ref 10) rfl rfl (nlt rfl) rfl (nlt rfl) rfl rfl rfl rfl ?_
              refine jr.iload_n rfl rfl ?_
              have k44 := kxe_40 (a := 10) rfl (i := r9) (by omega) (by omega)
              refine jr.aald (c := (xe 10 r9)) rfl (by decide) rfl (by decide) (by decide) rfl (by decide) (by omega) (by omega) k44.1 ?_
              refine jr.aload_n rfl rfl ?_
              refine jr.getf (i := 3) (v := .ref 3) rfl rfl (nlt rfl) rfl (nlt rfl) rfl rfl rfl rfl ?_
              refine jr.iload_n rfl rfl ?_
              refine jr.aload_n rfl rfl ?_
              refine jr.getf (i := 7) (v := .ref 14) rfl rfl (nlt rfl) rfl (nlt rfl) rfl rfl rfl rfl ?_
              refine jr_v rfl rfl (Or.inl rfl) rfl rfl (Nat.lt_trans (kx_15 k44.2).1 (by decide)) (kx_15 k44.2).2 ⟨rfl, Nat.le_of_ble_eq_true rfl, Nat.le_of_ble_eq_true rfl⟩ rfl (jc.deep (c_Gathering_takeIn_x hC_M8 (FR.rfl _ M8) k44.2 (by omega) e43 rfl (HS.fr ((w3_1.resolve_left (fun h => by omega)).2) (show kd 3 = 18 from rfl) hC_M3 hf_M8 rfl) (by omega) (by omega) (rfq_d ((w42_0.resolve_left (fun h => by omega)).2)) (xg_ (by omega)).2 (fun M45 hC_M45 hf_M45 w45_0 => ?_)) (Nat.le_of_ble_eq_true rfl))
              have ht_M45 : FR W_c_PacketWall_gather_x T M45 := FR.t ht_M8 hf_M45 (kw_sub rfl)
              refine jr.aload_n rfl rfl ?_
              refine jr.getf (i := 5) (v := .ref 10) rfl rfl (nlt rfl) rfl (nlt rfl) rfl rfl rfl rfl ?_
              refine jr.iload_n rfl rfl ?_
              have k46 := kxe_40 (a := 10) rfl (i := r9) (by omega) (by omega)
              refine jr.aald (c := (xe 10 r9)) rfl (by decide) rfl (by decide) (by decide) rfl (by decide) (by omega) (by omega) k46.1 ?_
              obtain ⟨v48, e48⟩ : ∃ z_, M45 ((xe 10 r9)) 7 = z_ := ⟨_, rfl⟩
              have b48 : (-1) ≤ v48 ∧ v48 ≤ 70000 := by rw [← e48]; exact (CI.r hC_M45 k46.2 (by decide) 7)
              obtain ⟨v49, e49⟩ : ∃ z_, M45 ((xe 10 r9)) 11 = z_ := ⟨_, rfl⟩
              have b49 : (-1) ≤ v49 ∧ v49 ≤ 400 := by rw [← e49]; exact (CI.r hC_M45 k46.2 (by decide) 11)
              refine jr_v rfl rfl (Or.inl rfl) rfl rfl (Nat.lt_trans (kx_15 k46.2).1 (by decide)) (kx_15 k46.2).2 ⟨rfl, Nat.le_of_ble_eq_true rfl, Nat.le_of_ble_eq_true rfl⟩ rfl (jc.deep (c_Gathering_isReady_x hC_M45 k46.2 e48 e49 (fun r47 z47 w47_0 => ?_)) (Nat.le_of_ble_eq_true rfl))
              refine jr.if_eq rfl rfl (by first | (refine rgb (by assumption) ?_; exact rfl) | omega) (fun h160 => ?_) (fun h160 => ?_)
              · refine jr.iconst rfl ?_
                exact jr.ireturn rfl rfl rfl (q _ _ hC_M45 ht_M45 (by first | exact rgq rfl | omega) (Or.inr ⟨by rw [p0]; omega, by rw [p0, e4]; exact ⟨v6, (by have hq := HQ.e ((w3_1.resolve_left (fun h => by omega)).2).2.2.2; rw [e6] at hq; exact hq), Or.inr ⟨hxc, by rw [← hpe]; omega, M8, (by rw [← p0]; exact (NH.t (show NH T M3 from by rw [p0]; exact NH.f hf_M3 rfl) (fun b k h => w8_0.2.1 b k h))), (by rw [← hpe]; exact w8_0.1), (by unfold GAK; rw [← hpe, (show fstv M8 = 1 from by unfold fstv; rw [← w9_0]; exact if_pos (by first | (left; omega) | (right; omega))), ← w9_0]; exact Or.inr (Or.inr ⟨((w42_0.resolve_left (fun h => by omega)).2), r9, M8, M45, Or.inl ⟨by rw [← w9_0]; omega, w9_0, rfl⟩, by have h9 := w45_0; rw [hpe] at h9; rw [hpe]; exact h9, Or.inl ⟨(show NRD M45 (xe 10 r9) from by unfold NRD; rw [e48, e49]; exact Or.elim w47_0 (fun h => Or.elim h.1 (fun u => Or.inl u) (fun u => Or.inr (Or.inl u))) (fun h => Or.inr (Or.inr (by have h9 := h.2.2; omega)))), by omega, rfl⟩⟩))⟩⟩⟩))
              · have sx160 : (1 : Int) ≤ r47 := by omega
                clear h160
                refine jr.aload_n rfl rfl ?_
                refine jr.aload_n rfl rfl ?_
                refine jr.getf (i := 5) (v := .ref 10) rfl rfl (nlt rfl) rfl (nlt rfl) rfl rfl rfl rfl ?_
                refine jr.iload_n rfl rfl ?_
                have k50 := kxe_40 (a := 10) rfl (i := r9) (by omega) (by omega)
                refine jr.aald (c := (xe 10 r9)) rfl (by decide) rfl (by decide) (by decide) rfl (by decide) (by omega) (by omega) k50.1 ?_
                have e52 : M45 3 3 = v6 := (hf_M45.g (show kd 3 = 18 from rfl) rfl).trans e43
                refine jr_v rfl rfl (Or.inl rfl) rfl rfl (nlt rfl) rfl ⟨rfl, Nat.le_of_ble_eq_true rfl, Nat.le_of_ble_eq_true rfl⟩ rfl (jc.deep (c_PacketWall_putTogether_x hC_M45 (FR.rfl _ M45) k50.2 rfl (PBS.fr (PBS.fr (PBS.fr p1 hf_M3 rfl) hf_M8 rfl) hf_M45 rfl) (GRD.t (M3 := M8) ((w3_1.resolve_left (fun h => by omega)).2) e6 hp0 hp6 (GK1.e (T := T) (by rw [p0]; exact p2 r9 (by omega) (by omega) (by rw [← p0]; exact (by rw [← (NH.t (show NH T M3 from by rw [p0]; exact NH.f hf_M3 rfl) (fun b k h => w8_0.2.1 b k h)) (xe 10 r9) 0 (by rw [(kxe_40 (show kd 10 = 40 from rfl) (i := r9) (by omega) (by omega)).2]; decide) (xg_ (by omega)).1]; exact (hgs.resolve_left (by omega)).2.1))) (fun k => ((NH.t (show NH T M3 from by rw [p0]; exact NH.f hf_M3 rfl) (fun b k h => w8_0.2.1 b k h)) (xe 10 r9) k (by rw [(kxe_40 (show kd 10 = 40 from rfl) (i := r9) (by omega) (by omega)).2]; decide) (by first | exact (xg_ (by omega)).1 | omega))) (fun k => ((NH.t (show NH T M3 from by rw [p0]; exact NH.f hf_M3 rfl) (fun b k h => w8_0.2.1 b k h)) ((xe 10 r9) + 2) k (by rw [(kf_15_10 (kxe_40 (show kd 10 = 40 from rfl) (i := r9) (by omega) (by omega)).2).2]; decide) (kd_ne (by rw [(kf_15_10 (kxe_40 (show kd 10 = 40 from rfl) (i := r9) (by omega) (by omega)).2).2]; decide))))) ((hgs.resolve_left (by omega)).2.2.trans w8_0.1.1) w45_0 (wh1_b ((w42_0.resolve_left (fun h => by omega)).2) (fun _ => rfl) (by unfold ofs; have h9 := ofs_r (f := F x) (N := v4) (C := v6) (x := r5) (by omega) (by omega); omega)) hC_M45 (kxe_40 (show kd 10 = 40 from rfl) (i := r9) (by omega) (by omega)).2 (by rw [e48]; exact (w47_0.resolve_left (fun h => by omega)).1) (by rw [e49]; exact (w47_0.resolve_left (fun h => by omega)).2.1) (by rw [e48]; have h9 := (w47_0.resolve_left (fun h => by omega)).2.2; omega)) (fun r51 M51 hC_M51 hf_M51 z51 w51_0 => ?_)) (Nat.le_of_ble_eq_true rfl))
                have ht_M51 : FR W_c_PacketWall_gather_x T M51 := FR.t ht_M45 hf_M51 (kw_sub rfl)
                refine jr.goto rfl rfl ?_
                exact jr.ireturn rfl rfl rfl (q _ _ hC_M51 ht_M51 (by omega) (Or.inr ⟨by rw [p0]; omega, by rw [p0, e4]; exact ⟨v6, (by have hq := HQ.e ((w3_1.resolve_left (fun h => by omega)).2).2.2.2; rw [e6] at hq; exact hq), Or.inr ⟨hxc, by rw [← hpe]; omega, M8, (by rw [← p0]; exact (NH.t (show NH T M3 from by rw [p0]; exact NH.f hf_M3 rfl) (fun b k h => w8_0.2.1 b k h))), (by rw [← hpe]; exact w8_0.1), (by unfold GAK; rw [← hpe, (show fstv M8 = 1 from by unfold fstv; rw [← w9_0]; exact if_pos (by first | (left; omega) | (right; omega))), ← w9_0]; exact Or.inr (Or.inr ⟨((w42_0.resolve_left (fun h => by omega)).2), r9, M8, M45, Or.inl ⟨by rw [← w9_0]; omega, w9_0, rfl⟩, by have h9 := w45_0; rw [hpe] at h9; rw [hpe]; exact h9, Or.inr ⟨(fun h => by unfold NRD at h; rw [e48, e49] at h; exact Or.elim w47_0 (fun u => by omega) (fun u => Or.elim h (fun z => u.1 z) (fun z => Or.elim z (fun z => u.2.1 z) (fun z => by have h9 := u.2.2; omega)))), w51_0⟩⟩))⟩⟩⟩))
            · exact absurd (by omega) h97
          · have sx89 : (1 : Int) ≤ r42 := by omega
            clear h89
            refine jr.bipush rfl (by decide) ?_
            exact jr.ireturn rfl rfl rfl (q _ _ hC_M8 ht_M8 (by first | exact rgq rfl | omega) (Or.inr ⟨by rw [p0]; omega, by rw [p0, e4]; exact ⟨v6, (by have hq := HQ.e ((w3_1.resolve_left (fun h => by omega)).2).2.2.2; rw [e6] at hq; exact hq), Or.inr ⟨hxc, by rw [← hpe]; omega, M8, (by rw [← p0]; exact (NH.t (show NH T M3 from by rw [p0]; exact NH.f hf_M3 rfl) (fun b k h => w8_0.2.1 b k h))), (by rw [← hpe]; exact w8_0.1), (by unfold GAK; rw [← hpe, (show fstv M8 = 1 from by unfold fstv; rw [← w9_0]; exact if_pos (by first | (left; omega) | (right; omega))), ← w9_0]; exact Or.inl ⟨(w42_0.resolve_right (fun h => by omega)).2, by omega, rfl⟩)⟩⟩⟩))
    · refine jr.bipush rfl (by decide) ?_
      exact jr.ireturn rfl rfl rfl (q _ _ hC_M3 ht_M3 (by first | exact rgq rfl | omega) (Or.inr ⟨by rw [p0]; omega, by rw [p0, e4]; exact ⟨v6, (by have hq := HQ.e ((w3_1.resolve_left (fun h => by omega)).2).2.2.2; rw [e6] at hq; exact hq), Or.inl ⟨Or.elim w5_0 (fun h => Or.inl (hxc_n ((w3_1.resolve_left (fun h => by omega)).2) e6 (by rw [e7]; exact h.1))) (fun h => Or.inr (by omega)), by omega, by rw [← p0]; exact (show NH T M3 from by rw [p0]; exact NH.f hf_M3 rfl)⟩⟩⟩))
  · refine jr.bipush rfl (by decide) ?_
    exact jr.ireturn rfl rfl rfl (q _ _ hC_M ht_M (by first | exact rgq rfl | omega) (Or.inl ⟨by rw [p0]; omega, by omega, by rw [p0]; exact fun _ _ _ _ => rfl⟩))
end
