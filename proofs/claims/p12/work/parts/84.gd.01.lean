section
theorem c_Gathering_keepHeaders_x {A : Nat → Option (Nat × (Nat → Int32))} {Q : Option Value → jm → Prop} {f : Int → Int} {N : Int} {T : jm} {M : jm} (hC_M : CI M) (ht_M : FR W_c_Gathering_keepHeaders_x T M) {t : Nat} (k_t : kd t = 15) {y : Int} (h_y : 0 ≤ y ∧ y ≤ 11) {C : Int} (g_C : M 3 3 = C) (p0 : T = M) (p1 : HS M 3 f N) (p2 : y < C) (p3 : hX f N y = 2 ∨ hX f N y = 6) (q : ∀ (M' : jm), CI M' → FR W_c_Gathering_keepHeaders_x T M' → (KPH T M' t f N C y) → Q none M') : jc A 3 100 [.ref (t), .ref (3), .int (Int32.ofInt (y))] M Q := by
  refine jc_of (m := xm_100) rfl (Nat.le_of_ble_eq_true rfl) rfl ?_
  have b_C : 0 ≤ C ∧ C ≤ 12 := by rw [← g_C]; exact (CI.r hC_M (show kd 3 = 18 from rfl) (by decide) 3)
  refine jr.aload_n rfl rfl ?_
  refine jr.aload_n rfl rfl ?_
  refine jr.iload_n rfl rfl ?_
  refine jr_v rfl rfl (Or.inl rfl) rfl rfl (by decide) rfl ⟨rfl, Nat.le_of_ble_eq_true rfl, Nat.le_of_ble_eq_true rfl⟩ rfl (jc.deep (c_Headers_endOf_x hC_M (show kd 3 = 18 from rfl) (by omega) g_C p1 (fun r1 z1 w1_0 => ?_)) (by decide))
  have hen : 0 ≤ r1 ∧ r1 ≤ 400 ∧ 8 ≤ r1 := (by have hq := enf_i (f := f) (N := N) (C := C) (x := y) (by omega); have hy := HS.y p1 g_C (x := y) (by omega); have hN := p1.2.2.1; omega)
  refine jr.putf (i := 11) (x := r1) rfl rfl (Nat.lt_trans (kx_15 k_t).1 (by decide)) (kx_15 k_t).2 (by decide) rfl rfl rfl rfl rfl ?_
  refine jr.aload_n rfl rfl ?_
  obtain ⟨v2, e2⟩ : ∃ z_, M 3 7 = z_ := ⟨_, rfl⟩
  have b2 : 0 ≤ v2 ∧ v2 ≤ 597 := by rw [← e2]; exact (CI.r hC_M (show kd 3 = 18 from rfl) (by decide) 7)
  have k3 : kd (v2).toNat = 33 := ((congrArg (fun z : Int => kd z.toNat) (show (ju M t 11 r1) 3 7 = v2 from ((ju_i _ _ (by decide)).trans e2))).symm.trans (CI.x (CI.u hC_M (i := 11) k_t (show (-1 : Int) ≤ _ ∧ _ ≤ (400 : Int) from by omega) rfl) (show kd 3 = 18 from rfl) 7 rfl (by decide)))
  refine jr.getf (i := 7) (x := v2) (v := .ref (v2.toNat)) rfl rfl (by decide) rfl (by decide) rfl rfl ((ju_i _ _ (by decide)).trans e2) rfl ?_
  have k4 := kf_33_0 k3
  refine jr.getf (i := 0) (v := .ref ((v2.toNat) + 1)) rfl rfl (Nat.lt_trans (kx_33 k3).1 (by decide)) (kx_33 k3).2 (by decide) rfl rfl rfl (jval_ref rfl k4.1) ?_
  refine jr.iconst rfl ?_
  refine jr.aload_n rfl rfl ?_
  have k5 := kf_15_10 k_t
  refine jr.getf (i := 10) (v := .ref (t + 2)) rfl rfl (Nat.lt_trans (kx_15 k_t).1 (by decide)) (kx_15 k_t).2 (by decide) rfl rfl rfl (jval_ref rfl k5.1) ?_
  refine jr.iconst rfl ?_
  refine jr.aload_n rfl rfl ?_
  refine jr.getf (i := 11) (x := r1) (v := .int (Int32.ofInt (r1))) rfl rfl (Nat.lt_trans (kx_15 k_t).1 (by decide)) (kx_15 k_t).2 (by decide) rfl rfl (ju_same _ _ _ _) rfl ?_
  refine jr.acp rfl rfl (Nat.le_of_ble_eq_true rfl) (Nat.lt_trans (kx_34 k4.2).1 (by decide)) (kx_34 k4.2).2 (Nat.lt_trans (kx_16 k5.2).1 (by decide)) (kx_16 k5.2).2 (by decide) (by decide) (by omega) (by omega) (by omega) (by omega) (by omega) ?_
  have hC_M6 : CI (jcpy ((ju M t 11 r1)) (((v2.toNat) + 1)) 0 ((t + 2)) 0 r1) := CI.cpy (CI.u hC_M (i := 11) k_t (show (-1 : Int) ≤ _ ∧ _ ≤ (400 : Int) from by omega) rfl) k4.2 k5.2 (by decide) (fun i j => (show (-1 : Int) ≤ (-1 : Int) ∧ (255 : Int) ≤ (255 : Int) from by decide)) (fun _ => rfl)
  have ht_M6 : FR W_c_Gathering_keepHeaders_x T (jcpy ((ju M t 11 r1)) (((v2.toNat) + 1)) 0 ((t + 2)) 0 r1) := FR.cpy (FR.o ht_M k_t rfl) k5.2 (fun _ => rfl)
  have hf_M6 : FR [(16, 1000)] ((ju M t 11 r1)) (jcpy ((ju M t 11 r1)) (((v2.toNat) + 1)) 0 ((t + 2)) 0 r1) := FR.cpy (FR.rfl _ _) k5.2 (fun _ => rfl)
  have hx_M6 : ∀ (b : Nat) (k : Int), jcpy ((ju M t 11 r1)) (((v2.toNat) + 1)) 0 ((t + 2)) 0 r1 b k = if b = (t + 2) ∧ 0 ≤ k ∧ k < 0 + r1 then ((ju M t 11 r1)) (((v2.toNat) + 1)) (0 + (k - 0)) else ((ju M t 11 r1)) b k := fun _ _ => rfl
  generalize jcpy ((ju M t 11 r1)) (((v2.toNat) + 1)) 0 ((t + 2)) 0 r1 = M6 at hC_M6 ht_M6 hf_M6 hx_M6 ⊢
  refine jr.aload_n rfl rfl ?_
  refine jr.aload_n rfl rfl ?_
  refine jr.aload_n rfl rfl ?_
  refine jr.bipush rfl (by decide) ?_
  have e8 : M6 3 3 = C := (hf_M6.g (show kd 3 = 18 from rfl) rfl).trans ((ju_i _ _ (by decide)).trans g_C)
  refine jr_v rfl rfl (Or.inl rfl) rfl rfl (by decide) rfl ⟨rfl, Nat.le_of_ble_eq_true rfl, Nat.le_of_ble_eq_true rfl⟩ rfl (jc.deep (c_Headers_firstOf_x hC_M6 (show kd 3 = 18 from rfl) (by omega) e8 (HS.fr (HS.fr p1 (show kd 3 = 18 from rfl) hC_M (FR.o (FR.rfl [(15, 11)] M) k_t rfl) rfl) (show kd 3 = 18 from rfl) (CI.u hC_M (i := 11) k_t (show (-1 : Int) ≤ _ ∧ _ ≤ (400 : Int) from by omega) rfl) hf_M6 rfl) (fun r7 z7 w7_0 => ?_)) (by decide))
  refine jr_v rfl rfl (Or.inl rfl) rfl rfl (by decide) rfl ⟨rfl, Nat.le_of_ble_eq_true rfl, Nat.le_of_ble_eq_true rfl⟩ rfl (jc.deep (c_Headers_placeAt_x hC_M6 (show kd 3 = 18 from rfl) (by omega) e8 (HS.fr (HS.fr p1 (show kd 3 = 18 from rfl) hC_M (FR.o (FR.rfl [(15, 11)] M) k_t rfl) rfl) (show kd 3 = 18 from rfl) (CI.u hC_M (i := 11) k_t (show (-1 : Int) ≤ _ ∧ _ ≤ (400 : Int) from by omega) rfl) hf_M6 rfl) (fun r9 z9 w9_0 => ?_)) (by decide))
  refine jr.putf (i := 12) (x := r9) rfl rfl (Nat.lt_trans (kx_15 k_t).1 (by decide)) (kx_15 k_t).2 (by decide) rfl rfl rfl rfl rfl ?_
  refine jr.aload_n rfl rfl ?_
  obtain ⟨v10, e10⟩ : ∃ z_, M t 1 = z_ := ⟨_, rfl⟩
  have b10 : (-2147483648) ≤ v10 ∧ v10 ≤ 2147483647 := by rw [← e10]; exact (CI.r hC_M k_t (by decide) 1)
  have e11 : M6 t 1 = v10 := (hf_M6.g k_t rfl).trans ((ju_i _ _ (by decide)).trans e10)
  refine jr.getf (i := 1) (x := v10) (v := .int (Int32.ofInt (v10))) rfl rfl (Nat.lt_trans (kx_15 k_t).1 (by decide)) (kx_15 k_t).2 (by decide) rfl rfl ((ju_i _ _ (by decide)).trans e11) rfl ?_
  refine jr.bipush rfl (by decide) ?_
  refine jr.icmp_ne rfl rfl (by omega) (by omega) (fun h49 => ?_) (fun h49 => ?_)
  · have e12 : M6 t 11 = r1 := (hf_M6.g k_t rfl).trans (ju_same _ _ _ _)
    exact jr.vreturn rfl rfl (q _ (CI.u hC_M6 (i := 12) k_t (show (-1 : Int) ≤ _ ∧ _ ≤ (400 : Int) from by omega) rfl) (FR.o ht_M6 k_t rfl)  ⟨⟨(by rw [show (ju M6 t 12 r9) t 11 = r1 from ((ju_i _ _ (by decide)).trans e12)]; exact w1_0), (by rw [show (ju M6 t 12 r9) t 12 = r9 from (ju_same _ _ _ _)]; rw [← w7_0]; exact w9_0), Or.inr ⟨by rw [p0]; omega, by rw [ju_i _ _ (by decide), hx_M6, if_neg (by omega), ju_i _ _ (by decide), p0]⟩⟩, fun k k0 k1 => by rw [ju_c _ _ (show t + 2 ≠ t by omega), hx_M6, if_pos (by omega)]; have h9 := (p1.1 (0 + (k - 0)) (by omega) (by omega)).1; rw [e2] at h9; rw [ju_c _ _ (kd_ne (by rw [(kf_33_0 (show kd (v2).toNat = 33 from (congrArg (fun z : Int => kd z.toNat) e2).symm.trans (CI.x hC_M (show kd 3 = 18 from rfl) 7 rfl (by decide)))).2, k_t]; decide)), h9, show 0 + (k - 0) = k from by omega], fun k a b c => by rw [ju_i _ _ b, hx_M6, if_neg (by omega), ju_i _ _ a, p0], fun b k hb hb2 => by rw [ju_c _ _ hb, hx_M6, if_neg (by intro h; exact hb2 h.1), ju_c _ _ hb, p0]⟩)
  · refine jr.aload_n rfl rfl ?_
    refine jr.aload_n rfl rfl ?_
    refine jr.iload_n rfl rfl ?_
    refine jr.iconst rfl ?_
    refine jr.isub rfl ?_
    refine jr_v rfl rfl (Or.inl rfl) rfl rfl (by decide) rfl ⟨rfl, Nat.le_of_ble_eq_true rfl, Nat.le_of_ble_eq_true rfl⟩ rfl (jc.deep (c_Headers_placeAt_x (CI.u hC_M6 (i := 12) k_t (show (-1 : Int) ≤ _ ∧ _ ≤ (400 : Int) from by omega) rfl) (show kd 3 = 18 from rfl) (by omega) ((ju_i _ _ (by decide)).trans e8) (HS.fr (HS.fr (HS.fr p1 (show kd 3 = 18 from rfl) hC_M (FR.o (FR.rfl [(15, 11)] M) k_t rfl) rfl) (show kd 3 = 18 from rfl) (CI.u hC_M (i := 11) k_t (show (-1 : Int) ≤ _ ∧ _ ≤ (400 : Int) from by omega) rfl) hf_M6 rfl) (show kd 3 = 18 from rfl) hC_M6 (FR.o (FR.rfl [(15, 12)] M6) k_t rfl) rfl) (fun r13 z13 w13_0 => ?_)) (by decide))
    refine jr.aload_n rfl rfl ?_
    refine jr.iload_n rfl rfl ?_
    refine jr.iconst rfl ?_
    refine jr.isub rfl ?_
    refine jr_v rfl rfl (Or.inl rfl) rfl rfl (by decide) rfl ⟨rfl, Nat.le_of_ble_eq_true rfl, Nat.le_of_ble_eq_true rfl⟩ rfl (jc.deep (c_Headers_kindAt_x (CI.u hC_M6 (i := 12) k_t (show (-1 : Int) ≤ _ ∧ _ ≤ (400 : Int) from by omega) rfl) (show kd 3 = 18 from rfl) (by omega) ((ju_i _ _ (by decide)).trans e8) (HS.fr (HS.fr (HS.fr p1 (show kd 3 = 18 from rfl) hC_M (FR.o (FR.rfl [(15, 11)] M) k_t rfl) rfl) (show kd 3 = 18 from rfl) (CI.u hC_M (i := 11) k_t (show (-1 : Int) ≤ _ ∧ _ ≤ (400 : Int) from by omega) rfl) hf_M6 rfl) (show kd 3 = 18 from rfl) hC_M6 (FR.o (FR.rfl [(15, 12)] M6) k_t rfl) rfl) (fun r14 z14 w14_0 => ?_)) (by decide))
    refine jr.iconst rfl ?_
    refine jr.icmp_ne rfl rfl (by omega) (by omega) (fun h68 => ?_) (fun h68 => ?_)
    · refine jr.iconst rfl ?_
      refine jr.iadd rfl ?_
      refine jr.putf (i := 13) (x := (r13 + 0)) rfl rfl (Nat.lt_trans (kx_15 k_t).1 (by decide)) (kx_15 k_t).2 (by decide) rfl rfl rfl rfl rfl ?_
      have e15 : M6 t 11 = r1 := (hf_M6.g k_t rfl).trans (ju_same _ _ _ _)
      exact jr.vreturn rfl rfl (q _ (CI.u (CI.u hC_M6 (i := 12) k_t (show (-1 : Int) ≤ _ ∧ _ ≤ (400 : Int) from by omega) rfl) (i := 13) k_t (show (-1 : Int) ≤ _ ∧ _ ≤ (404 : Int) from by omega) rfl) (FR.o (FR.o ht_M6 k_t rfl) k_t rfl)  ⟨⟨(by rw [show (ju (ju M6 t 12 r9) t 13 (r13 + 0)) t 11 = r1 from ((ju_i _ _ (by decide)).trans ((ju_i _ _ (by decide)).trans e15))]; exact w1_0), (by rw [show (ju (ju M6 t 12 r9) t 13 (r13 + 0)) t 12 = r9 from ((ju_i _ _ (by decide)).trans (ju_same _ _ _ _))]; rw [← w7_0]; exact w9_0), Or.inl ⟨by rw [p0]; omega, by rw [show (ju (ju M6 t 12 r9) t 13 (r13 + 0)) t 13 = r13 + 0 from (ju_same _ _ _ _), ← w13_0, ← w14_0]; first | (rw [if_pos (by omega)]) | (rw [if_neg (by omega)])⟩⟩, fun k k0 k1 => by rw [ju_c _ _ (show t + 2 ≠ t by omega), ju_c _ _ (show t + 2 ≠ t by omega), hx_M6, if_pos (by omega)]; have h9 := (p1.1 (0 + (k - 0)) (by omega) (by omega)).1; rw [e2] at h9; rw [ju_c _ _ (kd_ne (by rw [(kf_33_0 (show kd (v2).toNat = 33 from (congrArg (fun z : Int => kd z.toNat) e2).symm.trans (CI.x hC_M (show kd 3 = 18 from rfl) 7 rfl (by decide)))).2, k_t]; decide)), h9, show 0 + (k - 0) = k from by omega], fun k a b c => by rw [ju_i _ _ c, ju_i _ _ b, hx_M6, if_neg (by omega), ju_i _ _ a, p0], fun b k hb hb2 => by rw [ju_c _ _ hb, ju_c _ _ hb, hx_M6, if_neg (by intro h; exact hb2 h.1), ju_c _ _ hb, p0]⟩)
    · refine jr.iconst rfl ?_
      refine jr.goto rfl rfl ?_
      refine jr.iadd rfl ?_
      refine jr.putf (i := 13) (x := (r13 + 4)) rfl rfl (Nat.lt_trans (kx_15 k_t).1 (by decide)) (kx_15 k_t).2 (by decide) rfl rfl rfl rfl rfl ?_
      have e16 : M6 t 11 = r1 := (hf_M6.g k_t rfl).trans (ju_same _ _ _ _)
      exact jr.vreturn rfl rfl (q _ (CI.u (CI.u hC_M6 (i := 12) k_t (show (-1 : Int) ≤ _ ∧ _ ≤ (400 : Int) from by omega) rfl) (i := 13) k_t (show (-1 : Int) ≤ _ ∧ _ ≤ (404 : Int) from by omega) rfl) (FR.o (FR.o ht_M6 k_t rfl) k_t rfl)  ⟨⟨(by rw [show (ju (ju M6 t 12 r9) t 13 (r13 + 4)) t 11 = r1 from ((ju_i _ _ (by decide)).trans ((ju_i _ _ (by decide)).trans e16))]; exact w1_0), (by rw [show (ju (ju M6 t 12 r9) t 13 (r13 + 4)) t 12 = r9 from ((ju_i _ _ (by decide)).trans (ju_same _ _ _ _))]; rw [← w7_0]; exact w9_0), Or.inl ⟨by rw [p0]; omega, by rw [show (ju (ju M6 t 12 r9) t 13 (r13 + 4)) t 13 = r13 + 4 from (ju_same _ _ _ _), ← w13_0, ← w14_0]; first | (rw [if_pos (by omega)]) | (rw [if_neg (by omega)])⟩⟩, fun k k0 k1 => by rw [ju_c _ _ (show t + 2 ≠ t by omega), ju_c _ _ (show t + 2 ≠ t by omega), hx_M6, if_pos (by omega)]; have h9 := (p1.1 (0 + (k - 0)) (by omega) (by omega)).1; rw [e2] at h9; rw [ju_c _ _ (kd_ne (by rw [(kf_33_0 (show kd (v2).toNat = 33 from (congrArg (fun z : Int => kd z.toNat) e2).symm.trans (CI.x hC_M (show kd 3 = 18 from rfl) 7 rfl (by decide)))).2, k_t]; decide)), h9, show 0 + (k - 0) = k from by omega], fun k a b c => by rw [ju_i _ _ c, ju_i _ _ b, hx_M6, if_neg (by omega), ju_i _ _ a, p0], fun b k hb hb2 => by rw [ju_c _ _ hb, ju_c _ _ hb, hx_M6, if_neg (by intro h; exact hb2 h.1), ju_c _ _ hb, p0]⟩)
noncomputable def gov (w : Int → Int) (s : Int) : Nat → Int
  | 0 => 0
  | n + 1 => gov w s n + (if w (s + n) = -1 then 0 else 1)
end
