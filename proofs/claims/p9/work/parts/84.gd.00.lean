section
/-! ===== the class: a gathering keeps headers, takes a piece in ===== -/
noncomputable def KPH (T M : jm) (t : Nat) (f : Int → Int) (N C y : Int) : Prop := (M t 11 = enf f N C y ∧ M t 12 = pA f N C (ntf f N C) ∧ ((T t 1 = 6 ∧ M t 13 = pA f N C (y - 1) + (if kA f N C (y - 1) = 3 then 4 else 0)) ∨ (T t 1 ≠ 6 ∧ M t 13 = T t 13))) ∧ (∀ k : Int, 0 ≤ k → k < enf f N C y → M (t + 2) k = f k) ∧ (∀ k : Int, k ≠ 11 → k ≠ 12 → k ≠ 13 → M t k = T t k) ∧ ∀ (b : Nat) (k : Int), b ≠ t → b ≠ t + 2 → M b k = T b k
theorem hst_y {f : Int → Int} {N : Int} (hf : ∀ i : Int, 0 ≤ i → i < 400 → 0 ≤ f i ∧ f i ≤ 255) (hN : N ≤ 400) : ∀ n : Nat, (∀ i : Int, 0 ≤ i → i < n → hok f N i) → 0 ≤ hY f N (n : Int) := by
  intro n
  induction n with
  | zero => intro _; exact Int.le_refl _
  | succ n ih =>
    intro h
    have h1 := ih (fun i h0 h1 => h i h0 (by omega))
    have s := (hst_s (f := f) (N := N) (i := (n : Int)) (by omega)).2
    have hl := hok_l (h n (by omega) (by omega)) hf hN
    rw [show ((n + 1 : Nat) : Int) = (n : Int) + 1 by omega, s]
    omega
theorem HS.y {M : jm} {t : Nat} {f : Int → Int} {N C x : Int} (h : HS M t f N) (hC : M t 3 = C) (hx : 0 ≤ x ∧ x < C) : 0 ≤ hY f N x ∧ hY f N x + lst (hX f N x) ≤ N ∧ hY f N x + hZ f N x ≤ N ∧ 0 ≤ hZ f N x ∧ ¬ ((hX f N x = 2 ∨ hX f N x = 8) ∧ hZ f N x < 20) ∧ (hX f N x ≠ 6 ∨ hZ f N x = 8) := by
  have hf : ∀ i : Int, 0 ≤ i → i < 400 → 0 ≤ f i ∧ f i ≤ 255 := fun i h0 h1 => (h.1 i h0 h1).2
  have hr := h.2.2.2.2.1 x hx.1 (by omega)
  have hl := hok_l hr.1 hf h.2.2.1.2
  have hy := hst_y hf h.2.2.1.2 x.toNat (fun i h0 h1 => (h.2.2.2.2.1 i h0 (by omega)).1)
  rw [Int.toNat_of_nonneg hx.1] at hy
  have h6 := (hsZ_r hf h.2.2.1.2 (hsF_z hr.1.2).2.1).2
  exact ⟨hy, hl.1, hl.2.1, hl.2.2.1, hl.2.2.2, h6⟩
noncomputable def W_c_Gathering_keepHeaders_x : List (Nat × Nat) := [(15, 11), (15, 12), (15, 13), (16, 1000)]
theorem c_Gathering_keepHeaders_x {A : Nat → Option (Nat × (Nat → Int32))} {Q : Option Value → jm → Prop} {f : Int → Int} {N : Int} {T : jm} {M : jm} (hC_M : CI M) (ht_M : FR W_c_Gathering_keepHeaders_x T M) {t : Nat} (k_t : kd t = 15) {y : Int} (h_y : 0 ≤ y ∧ y ≤ 11) {C : Int} (g_C : M 3 3 = C) (p0 : T = M) (p1 : HS M 3 f N) (p2 : y < C) (p3 : hX f N y = 2 ∨ hX f N y = 6) (q : ∀ (M' : jm), CI M' → FR W_c_Gathering_keepHeaders_x T M' → (KPH T M' t f N C y) → Q none M') : jc A 3 100 [.ref (t), .ref (3), .int (Int32.ofInt (y))] M Q := by
  refine jc_of (m := xm_100) rfl (Nat.le_of_ble_eq_true rfl) rfl ?_
  have b_C : 0 ≤ C ∧ C ≤ 12 := by rw [← g_C]; exact (CI.r hC_M (show kd 3 = 18 from rfl) (by decide) 3)
  refine jr.aload_n rfl rfl ?_
  refine jr.aload_n rfl rfl ?_
  refine jr.iload_n rfl rfl ?_
  refine jr_v rfl rfl (Or.inl rfl) rfl rfl (by decide) rfl ⟨rfl, Nat.le_of_ble_eq_true rfl, Nat.le_of_ble_eq_true rfl⟩ rfl (jc.deep (c_Headers_endOf_x hC_M (show kd 3 = 18 from rfl) (by omega) g_C p1 (fun r1 z1 w1_0 => ?_)) (by decide))
  have hen : 0 ≤ r1 ∧ r1 ≤ 400 ∧ 8 ≤ r1 := (by have hq := enf_i (f := f) (N := N) (C := C) (x := y) (by omega); have hy := HS.y p1 g_C (x := y) (by omega); have hN := p1.2.2.1; omega)
  refine jr.putf (i := 11) (x := r1) rfl rfl (Nat.lt_trans (kx_15 k_t).1 (by decide)) (kx_15 k_t).2 (by decide) rfl rfl rfl rfl rfl ?_
  refine jr.aload_n rfl rfl ?_
  obtain ⟨v2, e2⟩ : ∃ z_, M 3 7 = z_ := ⟨_, rfl⟩
  have b2 : 0 ≤ v2 ∧ v2 ≤ 597 := by rw [← e2]; exact (CI.r hC_M (show kd 3 = 18 from rfl) (by decide) 7)
  have k3 : kd (v2).toNat = 33 := ((congrArg (fun z : Int => kd z.toNat) (show (ju M t 11 r1) 3 7 = v2 from ((ju_i _ _ (by decide)).trans e2))).symm.trans (CI.x (CI.u hC_M (i := 11) k_t (show (-1 : Int) ≤ _ ∧ _ ≤ (400 : Int) from by omega) rfl) (show kd 3 = 18 from rfl) 7 rfl (by decide)))
  refine jr.getf (i := 7) (x := v2) (v := .ref (v2.toNat)) rfl rfl (by decide) rfl (by decide) rfl rfl ((ju_i _ _ (by decide)).trans e2) rfl ?_
  have k4 := kf_33_0 k3
  refine jr.getf (i := 0) (v := .ref ((v2.toNat) + 1)) rfl rfl (Nat.lt_trans (kx_33 k3).1 (by decide)) (kx_33 k3).2 (by decide) rfl rfl rfl (jval_ref rfl k4.1) ?_
  refine jr.iconst rfl ?_
  refine jr.aload_n rfl rfl ?_
  have k5 := kf_15_10 k_t
  refine jr.getf (i := 10) (v := .ref (t + 2)) rfl rfl (Nat.lt_trans (kx_15 k_t).1 (by decide)) (kx_15 k_t).2 (by decide) rfl rfl rfl (jval_ref rfl k5.1) ?_
  refine jr.iconst rfl ?_
  refine jr.aload_n rfl rfl ?_
  refine jr.getf (i := 11) (x := r1) (v := .int (Int32.ofInt (r1))) rfl rfl (Nat.lt_trans (kx_15 k_t).1 (by decide)) (kx_15 k_t).2 (by decide) rfl rfl (ju_same _ _ _ _) rfl ?_
  refine jr.acp rfl rfl (Nat.le_of_ble_eq_true rfl) (Nat.lt_trans (kx_34 k4.2).1 (by decide)) (kx_34 k4.2).2 (Nat.lt_trans (kx_16 k5.2).1 (by decide)) (kx_16 k5.2).2 (by decide) (by decide) (by omega) (by omega) (by omega) (by omega) (by omega) ?_
  have hC_M6 : CI (jcpy ((ju M t 11 r1)) (((v2.toNat) + 1)) 0 ((t + 2)) 0 r1) := CI.cpy (CI.u hC_M (i := 11) k_t (show (-1 : Int) ≤ _ ∧ _ ≤ (400 : Int) from by omega) rfl) k4.2 k5.2 (by decide) (fun i j => (show (-1 : Int) ≤ (-1 : Int) ∧ (255 : Int) ≤ (255 : Int) from by decide)) (fun _ => rfl)
  have ht_M6 : FR W_c_Gathering_keepHeaders_x T (jcpy ((ju M t 11 r1)) (((v2.toNat) + 1)) 0 ((t + 2)) 0 r1) := FR.cpy (FR.o ht_M k_t rfl) k5.2 (fun _ => rfl)
  have hf_M6 : FR [(16, 1000)] ((ju M t 11 r1)) (jcpy ((ju M t 11 r1)) (((v2.toNat) + 1)) 0 ((t + 2)) 0 r1) := FR.cpy (FR.rfl _ _) k5.2 (fun _ => rfl)
  have hx_M6 : ∀ (b : Nat) (k : Int), jcpy ((ju M t 11 r1)) (((v2.toNat) + 1)) 0 ((t + 2)) 0 r1 b k = if b = (t + 2) ∧ 0 ≤ k ∧ k < 0 + r1 then ((ju M t 11 r1)) (((v2.toNat) + 1)) (0 + (k - 0)) else ((ju M t 11 r1)) b k := fun _ _ => rfl
  generalize jcpy ((ju M t 11 r1)) (((v2.toNat) + 1)) 0 ((t + 2)) 0 r1 = M6 at hC_M6 ht_M6 hf_M6 hx_M6 ⊢
  refine jr.aload_n rfl rfl ?_
  refine jr.aload_n rfl rfl ?_
  refine jr.aload_n rfl rfl ?_
  refine jr.bipush rfl (by decide) ?_
  have e8 : M6 3 3 = C := (hf_M6.g (show kd 3 = 18 from rfl) rfl).trans ((ju_i _ _ (by decide)).trans g_C)
  refine jr_v rfl rfl (Or.inl rfl) rfl rfl (by decide) rfl ⟨rfl, Nat.le_of_ble_eq_true rfl, Nat.le_of_ble_eq_true rfl⟩ rfl (jc.deep (c_Headers_firstOf_x hC_M6 (show kd 3 = 18 from rfl) (by omega) e8 (HS.fr (HS.fr p1 (show kd 3 = 18 from rfl) hC_M (FR.o (FR.rfl [(15, 11)] M) k_t rfl) rfl) (show kd 3 = 18 from rfl) (CI.u hC_M (i := 11) k_t (show (-1 : Int) ≤ _ ∧ _ ≤ (400 : Int) from by omega) rfl) hf_M6 rfl) (fun r7 z7 w7_0 => ?_)) (by decide))
  refine jr_v rfl rfl (Or.inl rfl) rfl rfl (by decide) rfl ⟨rfl, Nat.le_of_ble_eq_true rfl, Nat.le_of_ble_eq_true rfl⟩ rfl (jc.deep (c_Headers_placeAt_x hC_M6 (show kd 3 = 18 from rfl) (by omega) e8 (HS.fr (HS.fr p1 (show kd 3 = 18 from rfl) hC_M (FR.o (FR.rfl [(15, 11)] M) k_t rfl) rfl) (show kd 3 = 18 from rfl) (CI.u hC_M (i := 11) k_t (show (-1 : Int) ≤ _ ∧ _ ≤ (400 : Int) from by omega) rfl) hf_M6 rfl) (fun r9 z9 w9_0 => ?_)) (by decide))
  refine jr.putf (i := 12) (x := r9) rfl rfl (Nat.lt_trans (kx_15 k_t).1 (by decide)) (kx_15 k_t).2 (by decide) rfl rfl rfl rfl rfl ?_
  refine jr.aload_n rfl rfl ?_
  obtain ⟨v10, e10⟩ : ∃ z_, M t 1 = z_ := ⟨_, rfl⟩
  have b10 : (-2147483648) ≤ v10 ∧ v10 ≤ 2147483647 := by rw [← e10]; exact (CI.r hC_M k_t (by decide) 1)
  have e11 : M6 t 1 = v10 := (hf_M6.g k_t rfl).trans ((ju_i _ _ (by decide)).trans e10)
  refine jr.getf (i := 1) (x := v10) (v := .int (Int32.ofInt (v10))) rfl rfl (Nat.lt_trans (kx_15 k_t).1 (by decide)) (kx_15 k_t).2 (by decide) rfl rfl ((ju_i _ _ (by decide)).trans e11) rfl ?_
  refine jr.bipush rfl (by decide) ?_
  refine jr.icmp_ne rfl rfl (by omega) (by omega) (fun h49 => ?_) (fun h49 => ?_)
  · have e12 : M6 t 11 = r1 := (hf_M6.g k_t rfl).trans (ju_same _ _ _ _)
    exact jr.vreturn rfl rfl (q _ (CI.u hC_M6 (i := 12) k_t (show (-1 : Int) ≤ _ ∧ _ ≤ (400 : Int) from by omega) rfl) (FR.o ht_M6 k_t rfl)  ⟨⟨(by rw [show (ju M6 t 12 r9) t 11 = r1 from ((ju_i _ _ (by decide)).trans e12)]; exact w1_0), (by rw [show (ju M6 t 12 r9) t 12 = r9 from (ju_same _ _ _ _)]; rw [← w7_0]; exact w9_0), Or.inr ⟨by rw [p0]; omega, by rw [ju_i _ _ (by decide), hx_M6, if_neg (by omega), ju_i _ _ (by decide), p0]⟩⟩, fun k k0 k1 => by rw [ju_c _ _ (show t + 2 ≠ t by omega), hx_M6, if_pos (by omega)]; have h9 := (p1.1 (0 + (k - 0)) (by omega) (by omega)).1; rw [e2] at h9; rw [ju_c _ _ (kd_ne (by rw [(kf_33_0 (show kd (v2).toNat = 33 from (congrArg (fun z : Int => kd z.toNat) e2).symm.trans (CI.x hC_M (show kd 3 = 18 from rfl) 7 rfl (by decide)))).2, k_t]; decide)), h9, show 0 + (k - 0) = k from by omega], fun k a b c => by rw [ju_i _ _ b, hx_M6, if_neg (by omega), ju_i _ _ a, p0], fun b k hb hb2 => by rw [ju_c _ _ hb, hx_M6, if_neg (by intro h; exact hb2 h.1), ju_c _ _ hb, p0]⟩)
  · refine jr.aload_n rfl rfl ?_
    refine jr.aload_n rfl rfl ?_
    refine jr.iload_n rfl rfl ?_
    refine jr.iconst rfl ?_
    refine jr.isub rfl ?_
    refine jr_v rfl rfl (Or.inl rfl) rfl rfl (by decide) rfl ⟨rfl, Nat.le_of_ble_eq_true rfl, Nat.le_of_ble_eq_true rfl⟩ rfl (jc.deep (c_Headers_placeAt_x (CI.u hC_M6 (i := 12) k_t (show (-1 : Int) ≤ _ ∧ _ ≤ (400 : Int) from by omega) rfl) (show kd 3 = 18 from rfl) (by omega) ((ju_i _ _ (by decide)).trans e8) (HS.fr (HS.fr (HS.fr p1 (show kd 3 = 18 from rfl) hC_M (FR.o (FR.rfl [(15, 11)] M) k_t rfl) rfl) (show kd 3 = 18 from rfl) (CI.u hC_M (i := 11) k_t (show (-1 : Int) ≤ _ ∧ _ ≤ (400 : Int) from by omega) rfl) hf_M6 rfl) (show kd 3 = 18 from rfl) hC_M6 (FR.o (FR.rfl [(15, 12)] M6) k_t rfl) rfl) (fun r13 z13 w13_0 => ?_)) (by decide))
    refine jr.aload_n rfl rfl ?_
    refine jr.iload_n rfl rfl ?_
    refine jr.iconst rfl ?_
    refine jr.isub rfl ?_
    refine jr_v rfl rfl (Or.inl rfl) rfl rfl (by decide) rfl ⟨rfl, Nat.le_of_ble_eq_true rfl, Nat.le_of_ble_eq_true rfl⟩ rfl (jc.deep (c_Headers_kindAt_x (CI.u hC_M6 (i := 12) k_t (show (-1 : Int) ≤ _ ∧ _ ≤ (400 : Int) from by omega) rfl) (show kd 3 = 18 from rfl) (by omega) ((ju_i _ _ (by decide)).trans e8) (HS.fr (HS.fr (HS.fr p1 (show kd 3 = 18 from rfl) hC_M (FR.o (FR.rfl [(15, 11)] M) k_t rfl) rfl) (show kd 3 = 18 from rfl) (CI.u hC_M (i := 11) k_t (show (-1 : Int) ≤ _ ∧ _ ≤ (400 : Int) from by omega) rfl) hf_M6 rfl) (show kd 3 = 18 from rfl) hC_M6 (FR.o (FR.rfl [(15, 12)] M6) k_t rfl) rfl) (fun r14 z14 w14_0 => ?_)) (by decide))
    refine jr.iconst rfl ?_
    refine jr.icmp_ne rfl rfl (by omega) (by omega) (fun h68 => ?_) (fun h68 => ?_)
    · refine jr.iconst rfl ?_
      refine jr.iadd rfl ?_
      refine jr.putf (i := 13) (x := (r13 + 0)) rfl rfl (Nat.lt_trans (kx_15 k_t).1 (by decide)) (kx_15 k_t).2 (by decide) rfl rfl rfl rfl rfl ?_
      have e15 : M6 t 11 = r1 := (hf_M6.g k_t rfl).trans (ju_same _ _ _ _)
      exact jr.vreturn rfl rfl (q _ (CI.u (CI.u hC_M6 (i := 12) k_t (show (-1 : Int) ≤ _ ∧ _ ≤ (400 : Int) from by omega) rfl) (i := 13) k_t (show (-1 : Int) ≤ _ ∧ _ ≤ (404 : Int) from by omega) rfl) (FR.o (FR.o ht_M6 k_t rfl) k_t rfl)  ⟨⟨(by rw [show (ju (ju M6 t 12 r9) t 13 (r13 + 0)) t 11 = r1 from ((ju_i _ _ (by decide)).trans ((ju_i _ _ (by decide)).trans e15))]; exact w1_0), (by rw [show (ju (ju M6 t 12 r9) t 13 (r13 + 0)) t 12 = r9 from ((ju_i _ _ (by decide)).trans (ju_same _ _ _ _))]; rw [← w7_0]; exact w9_0), Or.inl ⟨by rw [p0]; omega, by rw [show (ju (ju M6 t 12 r9) t 13 (r13 + 0)) t 13 = r13 + 0 from (ju_same _ _ _ _), ← w13_0, ← w14_0]; first | (rw [if_pos (by omega)]) | (rw [if_neg (by omega)])⟩⟩, fun k k0 k1 => by rw [ju_c _ _ (show t + 2 ≠ t by omega), ju_c _ _ (show t + 2 ≠ t by omega), hx_M6, if_pos (by omega)]; have h9 := (p1.1 (0 + (k - 0)) (by omega) (by omega)).1; rw [e2] at h9; rw [ju_c _ _ (kd_ne (by rw [(kf_33_0 (show kd (v2).toNat = 33 from (congrArg (fun z : Int => kd z.toNat) e2).symm.trans (CI.x hC_M (show kd 3 = 18 from rfl) 7 rfl (by decide)))).2, k_t]; decide)), h9, show 0 + (k - 0) = k from by omega], fun k a b c => by rw [ju_i _ _ c, ju_i _ _ b, hx_M6, if_neg (by omega), ju_i _ _ a, p0], fun b k hb hb2 => by rw [ju_c _ _ hb, ju_c _ _ hb, hx_M6, if_neg (by intro h; exact hb2 h.1), ju_c _ _ hb, p0]⟩)
    · refine jr.iconst rfl ?_
      refine jr.goto rfl rfl ?_
      refine jr.iadd rfl ?_
      refine jr.putf (i := 13) (x := (r13 + 4)) rfl rfl (Nat.lt_trans (kx_15 k_t).1 (by decide)) (kx_15 k_t).2 (by decide) rfl rfl rfl rfl rfl ?_
      have e16 : M6 t 11 = r1 := (hf_M6.g k_t rfl).trans (ju_same _ _ _ _)
      exact jr.vreturn rfl rfl (q _ (CI.u (CI.u hC_M6 (i := 12) k_t (show (-1 : Int) ≤ _ ∧ _ ≤ (400 : Int) from by omega) rfl) (i := 13) k_t (show (-1 : Int) ≤ _ ∧ _ ≤ (404 : Int) from by omega) rfl) (FR.o (FR.o ht_M6 k_t rfl) k_t rfl)  ⟨⟨(by rw [show (ju (ju M6 t 12 r9) t 13 (r13 + 4)) t 11 = r1 from ((ju_i _ _ (by decide)).trans ((ju_i _ _ (by decide)).trans e16))]; exact w1_0), (by rw [show (ju (ju M6 t 12 r9) t 13 (r13 + 4)) t 12 = r9 from ((ju_i _ _ (by decide)).trans (ju_same _ _ _ _))]; rw [← w7_0]; exact w9_0), Or.inl ⟨by rw [p0]; omega, by rw [show (ju (ju M6 t 12 r9) t 13 (r13 + 4)) t 13 = r13 + 4 from (ju_same _ _ _ _), ← w13_0, ← w14_0]; first | (rw [if_pos (by omega)]) | (rw [if_neg (by omega)])⟩⟩, fun k k0 k1 => by rw [ju_c _ _ (show t + 2 ≠ t by omega), ju_c _ _ (show t + 2 ≠ t by omega), hx_M6, if_pos (by omega)]; have h9 := (p1.1 (0 + (k - 0)) (by omega) (by omega)).1; rw [e2] at h9; rw [ju_c _ _ (kd_ne (by rw [(kf_33_0 (show kd (v2).toNat = 33 from (congrArg (fun z : Int => kd z.toNat) e2).symm.trans (CI.x hC_M (show kd 3 = 18 from rfl) 7 rfl (by decide)))).2, k_t]; decide)), h9, show 0 + (k - 0) = k from by omega], fun k a b c => by rw [ju_i _ _ c, ju_i _ _ b, hx_M6, if_neg (by omega), ju_i _ _ a, p0], fun b k hb hb2 => by rw [ju_c _ _ hb, ju_c _ _ hb, hx_M6, if_neg (by intro h; exact hb2 h.1), ju_c _ _ hb, p0]⟩)
noncomputable def gov (w : Int → Int) (s : Int) : Nat → Int
  | 0 => 0
  | n + 1 => gov w s n + (if w (s + n) = -1 then 0 else 1)
theorem gov_s {w : Int → Int} {s i : Int} (h : 0 ≤ i) : gov w s (i + 1).toNat = gov w s i.toNat + (if w (s + i) = -1 then 0 else 1) := by
  obtain ⟨n, rfl⟩ := Int.eq_ofNat_of_zero_le h
  rw [show ((n : Int) + 1).toNat = n + 1 by omega, show ((n : Int)).toNat = n by omega]
  rfl
/-- a row with m bytes of f from e on laid at s, where it was empty -/
noncomputable def glay (w f : Int → Int) (s e m : Int) : Int → Int := fun k => if s ≤ k ∧ k < s + m ∧ w k = -1 then f (e + (k - s)) else w k
noncomputable def wh1 (f : Int → Int) (N C y W : Int) : Int := if W = -1 ∧ mrf f N C y ≠ 1 then ofs f N C y + (N - enf f N C y) else W
noncomputable def cm1 (f : Int → Int) (N C y K : Int) : Int := if K ≤ ofs f N C y + (N - enf f N C y) then ofs f N C y + (N - enf f N C y) else K
noncomputable def mlf (D s L : Int) : Int := if D ≤ L - s then D else if 0 ≤ L - s then L - s else 0
noncomputable def TK0 (T M : jm) (t : Nat) (W K : Int) : Prop := M t 7 = W ∧ M t 8 = K ∧ (∀ k : Int, k ≠ 7 → k ≠ 8 → M t k = T t k) ∧ ∀ (b : Nat) (k : Int), b ≠ t → M b k = T b k
noncomputable def TKF (T M : jm) (t : Nat) (f : Int → Int) (N C y : Int) : Prop := (M t 7 = wh1 f N C y (T t 7) ∧ M t 8 = cm1 f N C y (T t 8)) ∧ (∀ k : Int, k ≠ 7 → k ≠ 8 → k ≠ 11 → k ≠ 12 → k ≠ 13 → M t k = T t k) ∧ ((ofs f N C y = 0 ∧ T t 11 = -1 ∧ (M t 11 = enf f N C y ∧ M t 12 = pA f N C (ntf f N C) ∧ ((T t 1 = 6 ∧ M t 13 = pA f N C (y - 1) + (if kA f N C (y - 1) = 3 then 4 else 0)) ∨ (T t 1 ≠ 6 ∧ M t 13 = T t 13))) ∧ ∀ k : Int, 0 ≤ k → k < enf f N C y → M (t + 2) k = f k) ∨ (¬ (ofs f N C y = 0 ∧ T t 11 = -1) ∧ (M t 11 = T t 11 ∧ M t 12 = T t 12 ∧ M t 13 = T t 13) ∧ ∀ k : Int, M (t + 2) k = T (t + 2) k)) ∧ ∀ (b : Nat) (k : Int), b ≠ t → b ≠ t + 1 → b ≠ t + 2 → b ≠ 14 → M b k = T b k
theorem TK0.n {T M : jm} {t : Nat} {f : Int → Int} {N C y W K : Int} (h : TK0 T M t W K) (hW : W = wh1 f N C y (T t 7)) (hK : K = cm1 f N C y (T t 8)) (hn : ¬ (ofs f N C y = 0 ∧ T t 11 = -1)) : TKF T M t f N C y := ⟨⟨h.1.trans hW, h.2.1.trans hK⟩, fun k a b _ _ _ => h.2.2.1 k a b, Or.inr ⟨hn, ⟨h.2.2.1 11 (by decide) (by decide), h.2.2.1 12 (by decide) (by decide), h.2.2.1 13 (by decide) (by decide)⟩, fun k => h.2.2.2 (t + 2) k (by omega)⟩, fun b k b0 _ _ _ => h.2.2.2 b k b0⟩
theorem TK0.k {T M M1 : jm} {t : Nat} {f : Int → Int} {N C y W K : Int} (h : TK0 T M t W K) (hW : W = wh1 f N C y (T t 7)) (hK : K = cm1 f N C y (T t 8)) (hn : ofs f N C y = 0 ∧ T t 11 = -1) (w : KPH M M1 t f N C y) : TKF T M1 t f N C y := by
  obtain ⟨w1, w2, w3, w4⟩ := w
  have e1 : M t 1 = T t 1 := h.2.2.1 1 (by decide) (by decide)
  have e13 : M t 13 = T t 13 := h.2.2.1 13 (by decide) (by decide)
  rw [e1, e13] at w1
  refine ⟨⟨?_, ?_⟩, fun k a b c d e => ?_, Or.inl ⟨hn.1, hn.2, w1, w2⟩, fun b k b0 b1 b2 b3 => ?_⟩
  · rw [w3 7 (by decide) (by decide) (by decide)]; exact h.1.trans hW
  · rw [w3 8 (by decide) (by decide) (by decide)]; exact h.2.1.trans hK
  · rw [w3 k c d e]; exact h.2.2.1 k a b
  · rw [w4 b k b0 b2]; exact h.2.2.2 b k b0
theorem TKF.r {T M : jm} {t : Nat} {f : Int → Int} {N C y i v : Int} (h : TKF T M t f N C y) : TKF T (ju M (t + 1) i v) t f N C y := by
  have n0 : t ≠ t + 1 := by omega
  have n2 : t + 2 ≠ t + 1 := by omega
  unfold TKF at h ⊢
  simp only [ju_c M v n0, ju_c M v n2]
  exact ⟨h.1, h.2.1, h.2.2.1, fun b k b0 b1 b2 b3 => by rw [ju_c M v b1]; exact h.2.2.2 b k b0 b1 b2 b3⟩
theorem TKF.l {T M : jm} {t : Nat} {f : Int → Int} {N C y i v : Int} (h : TKF T M t f N C y) (ht : t ≠ 14) (ht2 : t + 2 ≠ 14) : TKF T (ju M 14 i v) t f N C y := by
  unfold TKF at h ⊢
  simp only [ju_c M v ht, ju_c M v ht2]
  exact ⟨h.1, h.2.1, h.2.2.1, fun b k b0 b1 b2 b3 => by rw [ju_c M v b3]; exact h.2.2.2 b k b0 b1 b2 b3⟩
/-- the row as far as it is laid -/
noncomputable def TKR (T M : jm) (t : Nat) (f : Int → Int) (s e i o : Int) : Prop := (∀ k : Int, 0 ≤ k → k < 360 → M (t + 1) k = glay (T (t + 1)) f s e i k) ∧ o = gov (T (t + 1)) s i.toNat
theorem TKR.z {T M : jm} {t : Nat} {f : Int → Int} {s e : Int} (h : ∀ k : Int, M (t + 1) k = T (t + 1) k) : TKR T M t f s e 0 0 := ⟨fun k _ _ => by rw [h k]; unfold glay; rw [if_neg (by omega)], rfl⟩
theorem TKR.w {T M : jm} {t : Nat} {f : Int → Int} {s e i o v r : Int} (h : TKR T M t f s e i o) (hi : 0 ≤ i) (h0 : 0 ≤ s) (h1 : s + i < 360) (hv : M (t + 1) (s + i) = v) (he : v = -1) (hr : r = f (e + i)) : TKR T (ju M (t + 1) (s + i) r) t f s e (i + 1) o := by
  have q := h.1 (s + i) (by omega) h1
  unfold glay at q
  rw [if_neg (by omega), hv, he] at q
  refine ⟨fun k k0 k1 => ?_, ?_⟩
  · unfold glay
    by_cases e1 : k = s + i
    · subst e1
      rw [ju_same, if_pos ⟨by omega, by omega, q.symm⟩, hr, show e + (s + i - s) = e + i by omega]
    · rw [ju_i _ _ e1, h.1 k k0 k1]
      unfold glay
      by_cases c : s ≤ k ∧ k < s + i ∧ T (t + 1) k = -1
      · rw [if_pos c, if_pos ⟨c.1, by omega, c.2.2⟩]
      · rw [if_neg c, if_neg (by intro d; exact c ⟨d.1, by omega, d.2.2⟩)]
  · rw [gov_s hi, if_pos q.symm, h.2]; omega
theorem TKR.n {T M : jm} {t : Nat} {f : Int → Int} {s e i o v : Int} (h : TKR T M t f s e i o) (hi : 0 ≤ i) (h0 : 0 ≤ s) (h1 : s + i < 360) (hv : M (t + 1) (s + i) = v) (he : v ≠ -1) : TKR T M t f s e (i + 1) (o + 1) := by
  have q := h.1 (s + i) (by omega) h1
  unfold glay at q
  rw [if_neg (by omega), hv] at q
  refine ⟨fun k k0 k1 => ?_, ?_⟩
  · rw [h.1 k k0 k1]
    unfold glay
    by_cases c : s ≤ k ∧ k < s + i ∧ T (t + 1) k = -1
    · rw [if_pos c, if_pos ⟨c.1, by omega, c.2.2⟩]
    · rw [if_neg c, if_neg (by
        intro d
        by_cases e1 : k = s + i
        · subst e1; rw [← q] at d; exact he d.2.2
        · exact c ⟨d.1, by omega, d.2.2⟩)]
  · rw [gov_s hi, if_neg (by rw [← q]; exact he), h.2]
noncomputable def TKI (T M : jm) (t : Nat) (f : Int → Int) (N C y : Int) : Prop := TKF T M t f N C y ∧ (∀ k : Int, 0 ≤ k → k < 360 → M (t + 1) k = glay (T (t + 1)) f (ofs f N C y) (enf f N C y) (mlf (N - enf f N C y) (ofs f N C y) (lpf (wh1 f N C y (T t 7)))) k) ∧ (M 14 0 = mlf (N - enf f N C y) (ofs f N C y) (lpf (wh1 f N C y (T t 7))) - gov (T (t + 1)) (ofs f N C y) (mlf (N - enf f N C y) (ofs f N C y) (lpf (wh1 f N C y (T t 7)))).toNat ∧ M 14 1 = gov (T (t + 1)) (ofs f N C y) (mlf (N - enf f N C y) (ofs f N C y) (lpf (wh1 f N C y (T t 7)))).toNat ∧ M 14 2 = N - enf f N C y - mlf (N - enf f N C y) (ofs f N C y) (lpf (wh1 f N C y (T t 7))) ∧ M 14 3 = rbf (wh1 f N C y (T t 7)) (cm1 f N C y (T t 8)) ∧ M 14 4 = wh1 f N C y (T t 7))
theorem lpf_r (w : Int) : lpf w ≤ 360 := by
  unfold lpf
  (repeat' split) <;> omega
theorem tki {T M M2 : jm} {t : Nat} {f : Int → Int} {N C y s d i o W K v0 v1 v2 v3 v4 : Int} (ht : t ≠ 14 ∧ t + 1 ≠ 14 ∧ t + 2 ≠ 14) (h1 : TKF T M t f N C y) (h2 : TKR T M t f s (enf f N C y) i o) (hs : s = ofs f N C y) (hd : d = N - enf f N C y) (h7 : M t 7 = W) (h8 : M t 8 = K) (hi : 0 ≤ i ∧ i ≤ d) (hx : i = 0 ∨ s + i ≤ lpf W) (he : d ≤ i ∨ lpf W ≤ s + i) (e : M2 = ju (ju (ju (ju (ju M 14 0 v0) 14 1 v1) 14 2 v2) 14 3 v3) 14 4 v4) (e0 : v0 = i - o) (e1 : v1 = o) (e2 : v2 = d - i) (e3 : v3 = rbf W K) (e4 : v4 = W) : TKI T M2 t f N C y := by
  have hW : wh1 f N C y (T t 7) = W := by rw [← h7]; exact h1.1.1.symm
  have hK : cm1 f N C y (T t 8) = K := by rw [← h8]; exact h1.1.2.symm
  have hm : mlf (N - enf f N C y) (ofs f N C y) (lpf (wh1 f N C y (T t 7))) = i := by
    rw [hW, ← hs, ← hd]
    unfold mlf
    (repeat' split) <;> omega
  subst e
  refine ⟨(((((h1.l ht.1 ht.2.2).l ht.1 ht.2.2).l ht.1 ht.2.2).l ht.1 ht.2.2).l ht.1 ht.2.2), fun k k0 k1 => ?_, ?_⟩
  · rw [hm, ← hs, ju_c _ _ ht.2.1, ju_c _ _ ht.2.1, ju_c _ _ ht.2.1, ju_c _ _ ht.2.1, ju_c _ _ ht.2.1]
    exact h2.1 k k0 k1
  · rw [hm, ← hs, ← hd, hW, hK, ← h2.2]
    refine ⟨?_, ?_, ?_, ?_, ?_⟩
    · rw [ju_i _ _ (by decide), ju_i _ _ (by decide), ju_i _ _ (by decide), ju_i _ _ (by decide), ju_same]; exact e0
    · rw [ju_i _ _ (by decide), ju_i _ _ (by decide), ju_i _ _ (by decide), ju_same]; exact e1
    · rw [ju_i _ _ (by decide), ju_i _ _ (by decide), ju_same]; exact e2
    · rw [ju_i _ _ (by decide), ju_same]; exact e3
    · rw [ju_same]; exact e4
noncomputable def W_c_Gathering_takeIn_x : List (Nat × Nat) := [(15, 7), (15, 8), (15, 11), (15, 12), (15, 13), (16, 1000), (17, 1000), (41, 1000)]
end
