/-! ===== the class: gatherings ===== -/
theorem HS.fr {W : List (Nat × Nat)} {T M : jm} {t : Nat} {f : Int → Int} {N : Int} (h : HS T t f N) (k : kd t = 18) (hC : CI T) (g : FR W T M) (h1 : ksep W [(18, 3), (18, 4), (18, 5), (18, 6), (18, 7), (19, 1000), (20, 1000), (21, 1000), (33, 1), (34, 1000)] = true) : HS M t f N := by
  have k7 : kd (T t 7).toNat = 33 := CI.x hC k 7 rfl (by decide)
  have e7 : M t 7 = T t 7 := g.s h1 k 7 (by decide) 7 (Or.inr rfl)
  have e3 : M t 3 = T t 3 := g.s h1 k 3 (by decide) 3 (Or.inr rfl)
  have e4 : M t 4 = T t 4 := g.s h1 k 4 (by decide) 4 (Or.inr rfl)
  have e5 : M t 5 = T t 5 := g.s h1 k 5 (by decide) 5 (Or.inr rfl)
  have e6 : M t 6 = T t 6 := g.s h1 k 6 (by decide) 6 (Or.inr rfl)
  obtain ⟨hb, hn, h0, hq⟩ := h
  refine ⟨?_, ?_, h0, ?_⟩
  · rw [e7]
    intro i i0 i1
    rw [g.s h1 (kf_33_0 k7).2 1000 (by decide) i (Or.inl rfl)]
    exact hb i i0 i1
  · rw [e7, g.s h1 k7 1 (by decide) 1 (Or.inr rfl)]
    exact hn
  · unfold HQ at hq ⊢
    rw [e3, e4, e5, e6]
    refine ⟨hq.1, fun i i0 i1 => ?_, hq.2.2⟩
    rw [g.s h1 (kf_18_0 k).2 1000 (by decide) i (Or.inl rfl), g.s h1 (kf_18_1 k).2 1000 (by decide) i (Or.inl rfl), g.s h1 (kf_18_2 k).2 1000 (by decide) i (Or.inl rfl)]
    exact hq.2.1 i i0 i1
/-- a piece's name, in the gathering t -/
def NMB (T M : jm) (t : Nat) (f : Int → Int) (N C y : Int) : Prop := (M t 1 = kA f N C y ∧ M t 2 = adf f N C (ntf f N C) 0 ∧ M t 3 = adf f N C (ntf f N C) 1 ∧ M t 4 = vA f N C y 3 ∧ M t 5 = vA f N C y (if kA f N C y = 2 then 7 else 0)) ∧ (∀ (b : Nat) (k : Int), b ≠ t → M b k = T b k) ∧ M t 0 = T t 0
def nmq (M : jm) (a b : Nat) : Prop := M a 1 = M b 1 ∧ M a 2 = M b 2 ∧ M a 3 = M b 3 ∧ M a 4 = M b 4 ∧ M a 5 = M b 5
def gS (M : jm) : Nat → Int → Int
  | 0, _ => -1
  | n + 1, i => if M (xe 10 i) 0 ≠ 0 ∧ (M (xe 10 i) 1 = M 11 1 ∧ M (xe 10 i) 2 = M 11 2 ∧ M (xe 10 i) 3 = M 11 3 ∧ M (xe 10 i) 4 = M 11 4 ∧ M (xe 10 i) 5 = M 11 5) then i else gS M n (i + 1)
def gF (M : jm) : Nat → Int → Int
  | 0, _ => -1
  | n + 1, i => if M (xe 10 i) 0 = 0 then i else gF M n (i + 1)
theorem gS_s {M : jm} {i : Int} (h : i < 8) : gS M (8 - i).toNat i = if M (xe 10 i) 0 ≠ 0 ∧ (M (xe 10 i) 1 = M 11 1 ∧ M (xe 10 i) 2 = M 11 2 ∧ M (xe 10 i) 3 = M 11 3 ∧ M (xe 10 i) 4 = M 11 4 ∧ M (xe 10 i) 5 = M 11 5) then i else gS M (8 - (i + 1)).toNat (i + 1) := by
  obtain ⟨n, hn⟩ : ∃ n : Nat, i = 7 - n := ⟨(7 - i).toNat, by omega⟩
  subst hn
  rw [show (8 - (7 - (n : Int))).toNat = n + 1 by omega, show (8 - (7 - (n : Int) + 1)).toNat = n by omega]
  rfl
theorem gF_s {M : jm} {i : Int} (h : i < 8) : gF M (8 - i).toNat i = if M (xe 10 i) 0 = 0 then i else gF M (8 - (i + 1)).toNat (i + 1) := by
  obtain ⟨n, hn⟩ : ∃ n : Nat, i = 7 - n := ⟨(7 - i).toNat, by omega⟩
  subst hn
  rw [show (8 - (7 - (n : Int))).toNat = n + 1 by omega, show (8 - (7 - (n : Int) + 1)).toNat = n by omega]
  rfl
def rfq (f : Int → Int) (N C x y : Int) : Prop := N - enf f N C x ≤ 0 ∨ (mrf f N C x = 1 ∧ (N - enf f N C x) % 8 ≠ 0) ∨ (mrf f N C x ≠ 1 ∧ y = 1 ∧ 360 < ofs f N C x + (N - enf f N C x))
def W_c_Gathering_nameBy_x : List (Nat × Nat) := [(15, 1), (15, 2), (15, 3), (15, 4), (15, 5)]
theorem c_Gathering_nameBy_x {A : Nat → Option (Nat × (Nat → Int32))} {Q : Option Value → jm → Prop} {f : Int → Int} {N : Int} {T : jm} {M : jm} (hC_M : CI M) (ht_M : FR W_c_Gathering_nameBy_x T M) {t : Nat} (k_t : kd t = 15) {y : Int} (h_y : 0 ≤ y ∧ y ≤ 11) {C : Int} (g_C : M 3 3 = C) (p0 : T = M) (p1 : HS M 3 f N) (q : ∀ (M' : jm), CI M' → FR W_c_Gathering_nameBy_x T M' → (NMB T M' t f N C y) → Q none M') : jc A 4 93 [.ref (t), .ref (3), .int (Int32.ofInt (y))] M Q := by
  refine jc_of (m := xm_93) rfl (Nat.le_of_ble_eq_true rfl) rfl ?_
  have b_C : 0 ≤ C ∧ C ≤ 12 := by rw [← g_C]; exact (CI.r hC_M (show kd 3 = 18 from rfl) (by decide) 3)
  refine jr.aload_n rfl rfl ?_
  refine jr.bipush rfl (by decide) ?_
  refine jr_v rfl rfl (Or.inl rfl) rfl rfl (by decide) rfl ⟨rfl, Nat.le_of_ble_eq_true rfl, Nat.le_of_ble_eq_true rfl⟩ rfl (jc.deep (c_Headers_firstOf_x hC_M (show kd 3 = 18 from rfl) (by omega) g_C p1 (fun r1 z1 w1_0 => ?_)) (by decide))
  refine jr.istore_n rfl (by decide) rfl ?_
  refine jr.aload_n rfl rfl ?_
  refine jr.aload_n rfl rfl ?_
  refine jr.iload_n rfl rfl ?_
  refine jr_v rfl rfl (Or.inl rfl) rfl rfl (by decide) rfl ⟨rfl, Nat.le_of_ble_eq_true rfl, Nat.le_of_ble_eq_true rfl⟩ rfl (jc.deep (c_Headers_kindAt_x hC_M (show kd 3 = 18 from rfl) (by omega) g_C p1 (fun r2 z2 w2_0 => ?_)) (by decide))
  refine jr.putf (i := 1) (x := r2) rfl rfl (Nat.lt_trans (kx_15 k_t).1 (by decide)) (kx_15 k_t).2 (by decide) rfl rfl rfl rfl rfl ?_
  refine jr.aload_n rfl rfl ?_
  refine jr.aload_n rfl rfl ?_
  refine jr.iload_n rfl rfl ?_
  refine jr.iconst rfl ?_
  refine jr_v rfl rfl (Or.inl rfl) rfl rfl (by decide) rfl ⟨rfl, Nat.le_of_ble_eq_true rfl, Nat.le_of_ble_eq_true rfl⟩ rfl (jc.deep (c_Headers_addressOf_x (CI.u hC_M (i := 1) k_t (show (-2147483648 : Int) ≤ _ ∧ _ ≤ (2147483647 : Int) from by omega) rfl) (show kd 3 = 18 from rfl) (by omega) (by omega) ((ju_i _ _ (by decide)).trans g_C) (HS.fr p1 (show kd 3 = 18 from rfl) hC_M (FR.o (FR.rfl [(15, 1)] M) k_t rfl) rfl) (fun r3 z3 w3_0 => ?_)) (by decide))
  refine jr.putf (i := 2) (x := r3) rfl rfl (Nat.lt_trans (kx_15 k_t).1 (by decide)) (kx_15 k_t).2 (by decide) rfl rfl rfl rfl rfl ?_
  refine jr.aload_n rfl rfl ?_
  refine jr.aload_n rfl rfl ?_
  refine jr.iload_n rfl rfl ?_
  refine jr.iconst rfl ?_
  refine jr_v rfl rfl (Or.inl rfl) rfl rfl (by decide) rfl ⟨rfl, Nat.le_of_ble_eq_true rfl, Nat.le_of_ble_eq_true rfl⟩ rfl (jc.deep (c_Headers_addressOf_x (CI.u (CI.u hC_M (i := 1) k_t (show (-2147483648 : Int) ≤ _ ∧ _ ≤ (2147483647 : Int) from by omega) rfl) (i := 2) k_t (show (-9223372036854775808 : Int) ≤ _ ∧ _ ≤ (9223372036854775807 : Int) from by omega) rfl) (show kd 3 = 18 from rfl) (by omega) (by omega) ((ju_i _ _ (by decide)).trans ((ju_i _ _ (by decide)).trans g_C)) (HS.fr p1 (show kd 3 = 18 from rfl) hC_M (FR.o (FR.o (FR.rfl [(15, 1), (15, 2)] M) k_t rfl) k_t rfl) rfl) (fun r4 z4 w4_0 => ?_)) (by decide))
  refine jr.putf (i := 3) (x := r4) rfl rfl (Nat.lt_trans (kx_15 k_t).1 (by decide)) (kx_15 k_t).2 (by decide) rfl rfl rfl rfl rfl ?_
  refine jr.aload_n rfl rfl ?_
  refine jr.aload_n rfl rfl ?_
  refine jr.iload_n rfl rfl ?_
  refine jr.aload_n rfl rfl ?_
  refine jr.getf (i := 1) (x := r2) (v := .int (Int32.ofInt (r2))) rfl rfl (Nat.lt_trans (kx_15 k_t).1 (by decide)) (kx_15 k_t).2 (by decide) rfl rfl ((ju_i _ _ (by decide)).trans ((ju_i _ _ (by decide)).trans (ju_same _ _ _ _))) rfl ?_
  refine jr.iconst rfl ?_
  refine jr.icmp_ne rfl rfl (by omega) (by omega) (fun h44 => ?_) (fun h44 => ?_)
  · refine jr.iconst rfl ?_
    refine jr_v rfl rfl (Or.inl rfl) rfl rfl (by decide) rfl ⟨rfl, Nat.le_of_ble_eq_true rfl, Nat.le_of_ble_eq_true rfl⟩ rfl (jc.deep (c_Headers_valueOf_x (CI.u (CI.u (CI.u hC_M (i := 1) k_t (show (-2147483648 : Int) ≤ _ ∧ _ ≤ (2147483647 : Int) from by omega) rfl) (i := 2) k_t (show (-9223372036854775808 : Int) ≤ _ ∧ _ ≤ (9223372036854775807 : Int) from by omega) rfl) (i := 3) k_t (show (-9223372036854775808 : Int) ≤ _ ∧ _ ≤ (9223372036854775807 : Int) from by omega) rfl) (show kd 3 = 18 from rfl) (by omega) (by omega) ((ju_c _ _ (kd_ne (by rw [(show kd 3 = 18 from rfl), k_t]; decide))).trans ((ju_i _ _ (by decide)).trans ((ju_i _ _ (by decide)).trans g_C))) (HS.fr p1 (show kd 3 = 18 from rfl) hC_M (FR.o (FR.o (FR.o (FR.rfl [(15, 1), (15, 2), (15, 3)] M) k_t rfl) k_t rfl) k_t rfl) rfl) (fun r5 z5 w5_0 => ?_)) (by decide))
    refine jr.putf (i := 4) (x := r5) rfl rfl (Nat.lt_trans (kx_15 k_t).1 (by decide)) (kx_15 k_t).2 (by decide) rfl rfl rfl rfl rfl ?_
    refine jr.aload_n rfl rfl ?_
    refine jr.aload_n rfl rfl ?_
    refine jr.iload_n rfl rfl ?_
    refine jr.aload_n rfl rfl ?_
    refine jr.getf (i := 1) (x := r2) (v := .int (Int32.ofInt (r2))) rfl rfl (Nat.lt_trans (kx_15 k_t).1 (by decide)) (kx_15 k_t).2 (by decide) rfl rfl ((ju_i _ _ (by decide)).trans ((ju_i _ _ (by decide)).trans ((ju_i _ _ (by decide)).trans (ju_same _ _ _ _)))) rfl ?_
    refine jr.iconst rfl ?_
    refine jr.icmp_ne rfl rfl (by omega) (by omega) (fun h66 => ?_) (fun h66 => ?_)
    · refine jr.iconst rfl ?_
      refine jr_v rfl rfl (Or.inl rfl) rfl rfl (by decide) rfl ⟨rfl, Nat.le_of_ble_eq_true rfl, Nat.le_of_ble_eq_true rfl⟩ rfl (jc.deep (c_Headers_valueOf_x (CI.u (CI.u (CI.u (CI.u hC_M (i := 1) k_t (show (-2147483648 : Int) ≤ _ ∧ _ ≤ (2147483647 : Int) from by omega) rfl) (i := 2) k_t (show (-9223372036854775808 : Int) ≤ _ ∧ _ ≤ (9223372036854775807 : Int) from by omega) rfl) (i := 3) k_t (show (-9223372036854775808 : Int) ≤ _ ∧ _ ≤ (9223372036854775807 : Int) from by omega) rfl) (i := 4) k_t (show (-9223372036854775808 : Int) ≤ _ ∧ _ ≤ (9223372036854775807 : Int) from by omega) rfl) (show kd 3 = 18 from rfl) (by omega) (by omega) ((ju_i _ _ (by decide)).trans ((ju_c _ _ (kd_ne (by rw [(show kd 3 = 18 from rfl), k_t]; decide))).trans ((ju_i _ _ (by decide)).trans ((ju_i _ _ (by decide)).trans g_C)))) (HS.fr p1 (show kd 3 = 18 from rfl) hC_M (FR.o (FR.o (FR.o (FR.o (FR.rfl [(15, 1), (15, 2), (15, 3), (15, 4)] M) k_t rfl) k_t rfl) k_t rfl) k_t rfl) rfl) (fun r6 z6 w6_0 => ?_)) (by decide))
      refine jr.putf (i := 5) (x := r6) rfl rfl (Nat.lt_trans (kx_15 k_t).1 (by decide)) (kx_15 k_t).2 (by decide) rfl rfl rfl rfl rfl ?_
      exact jr.vreturn rfl rfl (q _ (CI.u (CI.u (CI.u (CI.u (CI.u hC_M (i := 1) k_t (show (-2147483648 : Int) ≤ _ ∧ _ ≤ (2147483647 : Int) from by omega) rfl) (i := 2) k_t (show (-9223372036854775808 : Int) ≤ _ ∧ _ ≤ (9223372036854775807 : Int) from by omega) rfl) (i := 3) k_t (show (-9223372036854775808 : Int) ≤ _ ∧ _ ≤ (9223372036854775807 : Int) from by omega) rfl) (i := 4) k_t (show (-9223372036854775808 : Int) ≤ _ ∧ _ ≤ (9223372036854775807 : Int) from by omega) rfl) (i := 5) k_t (show (-9223372036854775808 : Int) ≤ _ ∧ _ ≤ (9223372036854775807 : Int) from by omega) rfl) (FR.o (FR.o (FR.o (FR.o (FR.o ht_M k_t rfl) k_t rfl) k_t rfl) k_t rfl) k_t rfl)  ⟨⟨(by rw [show (ju (ju (ju (ju (ju M t 1 r2) t 2 r3) t 3 r4) t 4 r5) t 5 r6) t 1 = r2 from ((ju_i _ _ (by decide)).trans ((ju_i _ _ (by decide)).trans ((ju_i _ _ (by decide)).trans ((ju_i _ _ (by decide)).trans (ju_same _ _ _ _)))))]; exact w2_0), (by rw [show (ju (ju (ju (ju (ju M t 1 r2) t 2 r3) t 3 r4) t 4 r5) t 5 r6) t 2 = r3 from ((ju_i _ _ (by decide)).trans ((ju_i _ _ (by decide)).trans ((ju_i _ _ (by decide)).trans (ju_same _ _ _ _))))]; rw [← w1_0]; exact w3_0), (by rw [show (ju (ju (ju (ju (ju M t 1 r2) t 2 r3) t 3 r4) t 4 r5) t 5 r6) t 3 = r4 from ((ju_i _ _ (by decide)).trans ((ju_i _ _ (by decide)).trans (ju_same _ _ _ _)))]; rw [← w1_0]; exact w4_0), (by rw [show (ju (ju (ju (ju (ju M t 1 r2) t 2 r3) t 3 r4) t 4 r5) t 5 r6) t 4 = r5 from ((ju_i _ _ (by decide)).trans (ju_same _ _ _ _))]; exact w5_0), (by rw [show (ju (ju (ju (ju (ju M t 1 r2) t 2 r3) t 3 r4) t 4 r5) t 5 r6) t 5 = r6 from (ju_same _ _ _ _)]; rw [← w2_0]; first | (rw [if_pos (by omega)]; exact w6_0) | (rw [if_neg (by omega)]; exact w6_0))⟩, fun b k hb => by rw [ju_c _ _ hb, ju_c _ _ hb, ju_c _ _ hb, ju_c _ _ hb, ju_c _ _ hb, p0], by rw [ju_i _ _ (by decide), ju_i _ _ (by decide), ju_i _ _ (by decide), ju_i _ _ (by decide), ju_i _ _ (by decide), p0]⟩)
    · refine jr.bipush rfl (by decide) ?_
      refine jr.goto rfl rfl ?_
      refine jr_v rfl rfl (Or.inl rfl) rfl rfl (by decide) rfl ⟨rfl, Nat.le_of_ble_eq_true rfl, Nat.le_of_ble_eq_true rfl⟩ rfl (jc.deep (c_Headers_valueOf_x (CI.u (CI.u (CI.u (CI.u hC_M (i := 1) k_t (show (-2147483648 : Int) ≤ _ ∧ _ ≤ (2147483647 : Int) from by omega) rfl) (i := 2) k_t (show (-9223372036854775808 : Int) ≤ _ ∧ _ ≤ (9223372036854775807 : Int) from by omega) rfl) (i := 3) k_t (show (-9223372036854775808 : Int) ≤ _ ∧ _ ≤ (9223372036854775807 : Int) from by omega) rfl) (i := 4) k_t (show (-9223372036854775808 : Int) ≤ _ ∧ _ ≤ (9223372036854775807 : Int) from by omega) rfl) (show kd 3 = 18 from rfl) (by omega) (by omega) ((ju_i _ _ (by decide)).trans ((ju_c _ _ (kd_ne (by rw [(show kd 3 = 18 from rfl), k_t]; decide))).trans ((ju_i _ _ (by decide)).trans ((ju_i _ _ (by decide)).trans g_C)))) (HS.fr p1 (show kd 3 = 18 from rfl) hC_M (FR.o (FR.o (FR.o (FR.o (FR.rfl [(15, 1), (15, 2), (15, 3), (15, 4)] M) k_t rfl) k_t rfl) k_t rfl) k_t rfl) rfl) (fun r7 z7 w7_0 => ?_)) (by decide))
      refine jr.putf (i := 5) (x := r7) rfl rfl (Nat.lt_trans (kx_15 k_t).1 (by decide)) (kx_15 k_t).2 (by decide) rfl rfl rfl rfl rfl ?_
      exact jr.vreturn rfl rfl (q _ (CI.u (CI.u (CI.u (CI.u (CI.u hC_M (i := 1) k_t (show (-2147483648 : Int) ≤ _ ∧ _ ≤ (2147483647 : Int) from by omega) rfl) (i := 2) k_t (show (-9223372036854775808 : Int) ≤ _ ∧ _ ≤ (9223372036854775807 : Int) from by omega) rfl) (i := 3) k_t (show (-9223372036854775808 : Int) ≤ _ ∧ _ ≤ (9223372036854775807 : Int) from by omega) rfl) (i := 4) k_t (show (-9223372036854775808 : Int) ≤ _ ∧ _ ≤ (9223372036854775807 : Int) from by omega) rfl) (i := 5) k_t (show (-9223372036854775808 : Int) ≤ _ ∧ _ ≤ (9223372036854775807 : Int) from by omega) rfl) (FR.o (FR.o (FR.o (FR.o (FR.o ht_M k_t rfl) k_t rfl) k_t rfl) k_t rfl) k_t rfl)  ⟨⟨(by rw [show (ju (ju (ju (ju (ju M t 1 r2) t 2 r3) t 3 r4) t 4 r5) t 5 r7) t 1 = r2 from ((ju_i _ _ (by decide)).trans ((ju_i _ _ (by decide)).trans ((ju_i _ _ (by decide)).trans ((ju_i _ _ (by decide)).trans (ju_same _ _ _ _)))))]; exact w2_0), (by rw [show (ju (ju (ju (ju (ju M t 1 r2) t 2 r3) t 3 r4) t 4 r5) t 5 r7) t 2 = r3 from ((ju_i _ _ (by decide)).trans ((ju_i _ _ (by decide)).trans ((ju_i _ _ (by decide)).trans (ju_same _ _ _ _))))]; rw [← w1_0]; exact w3_0), (by rw [show (ju (ju (ju (ju (ju M t 1 r2) t 2 r3) t 3 r4) t 4 r5) t 5 r7) t 3 = r4 from ((ju_i _ _ (by decide)).trans ((ju_i _ _ (by decide)).trans (ju_same _ _ _ _)))]; rw [← w1_0]; exact w4_0), (by rw [show (ju (ju (ju (ju (ju M t 1 r2) t 2 r3) t 3 r4) t 4 r5) t 5 r7) t 4 = r5 from ((ju_i _ _ (by decide)).trans (ju_same _ _ _ _))]; exact w5_0), (by rw [show (ju (ju (ju (ju (ju M t 1 r2) t 2 r3) t 3 r4) t 4 r5) t 5 r7) t 5 = r7 from (ju_same _ _ _ _)]; rw [← w2_0]; first | (rw [if_pos (by omega)]; exact w7_0) | (rw [if_neg (by omega)]; exact w7_0))⟩, fun b k hb => by rw [ju_c _ _ hb, ju_c _ _ hb, ju_c _ _ hb, ju_c _ _ hb, ju_c _ _ hb, p0], by rw [ju_i _ _ (by decide), ju_i _ _ (by decide), ju_i _ _ (by decide), ju_i _ _ (by decide), ju_i _ _ (by decide), p0]⟩)
  · refine jr.iconst rfl ?_
    refine jr.goto rfl rfl ?_
    refine jr_v rfl rfl (Or.inl rfl) rfl rfl (by decide) rfl ⟨rfl, Nat.le_of_ble_eq_true rfl, Nat.le_of_ble_eq_true rfl⟩ rfl (jc.deep (c_Headers_valueOf_x (CI.u (CI.u (CI.u hC_M (i := 1) k_t (show (-2147483648 : Int) ≤ _ ∧ _ ≤ (2147483647 : Int) from by omega) rfl) (i := 2) k_t (show (-9223372036854775808 : Int) ≤ _ ∧ _ ≤ (9223372036854775807 : Int) from by omega) rfl) (i := 3) k_t (show (-9223372036854775808 : Int) ≤ _ ∧ _ ≤ (9223372036854775807 : Int) from by omega) rfl) (show kd 3 = 18 from rfl) (by omega) (by omega) ((ju_c _ _ (kd_ne (by rw [(show kd 3 = 18 from rfl), k_t]; decide))).trans ((ju_i _ _ (by decide)).trans ((ju_i _ _ (by decide)).trans g_C))) (HS.fr p1 (show kd 3 = 18 from rfl) hC_M (FR.o (FR.o (FR.o (FR.rfl [(15, 1), (15, 2), (15, 3)] M) k_t rfl) k_t rfl) k_t rfl) rfl) (fun r8 z8 w8_0 => ?_)) (by decide))
    refine jr.putf (i := 4) (x := r8) rfl rfl (Nat.lt_trans (kx_15 k_t).1 (by decide)) (kx_15 k_t).2 (by decide) rfl rfl rfl rfl rfl ?_
    refine jr.aload_n rfl rfl ?_
    refine jr.aload_n rfl rfl ?_
    refine jr.iload_n rfl rfl ?_
    refine jr.aload_n rfl rfl ?_
    refine jr.getf (i := 1) (x := r2) (v := .int (Int32.ofInt (r2))) rfl rfl (Nat.lt_trans (kx_15 k_t).1 (by decide)) (kx_15 k_t).2 (by decide) rfl rfl ((ju_i _ _ (by decide)).trans ((ju_i _ _ (by decide)).trans ((ju_i _ _ (by decide)).trans (ju_same _ _ _ _)))) rfl ?_
    refine jr.iconst rfl ?_
    refine jr.icmp_ne rfl rfl (by omega) (by omega) (fun h66 => ?_) (fun h66 => ?_)
    · exact absurd h66 (by omega)
    · refine jr.bipush rfl (by decide) ?_
      refine jr.goto rfl rfl ?_
      refine jr_v rfl rfl (Or.inl rfl) rfl rfl (by decide) rfl ⟨rfl, Nat.le_of_ble_eq_true rfl, Nat.le_of_ble_eq_true rfl⟩ rfl (jc.deep (c_Headers_valueOf_x (CI.u (CI.u (CI.u (CI.u hC_M (i := 1) k_t (show (-2147483648 : Int) ≤ _ ∧ _ ≤ (2147483647 : Int) from by omega) rfl) (i := 2) k_t (show (-9223372036854775808 : Int) ≤ _ ∧ _ ≤ (9223372036854775807 : Int) from by omega) rfl) (i := 3) k_t (show (-9223372036854775808 : Int) ≤ _ ∧ _ ≤ (9223372036854775807 : Int) from by omega) rfl) (i := 4) k_t (show (-9223372036854775808 : Int) ≤ _ ∧ _ ≤ (9223372036854775807 : Int) from by omega) rfl) (show kd 3 = 18 from rfl) (by omega) (by omega) ((ju_i _ _ (by decide)).trans ((ju_c _ _ (kd_ne (by rw [(show kd 3 = 18 from rfl), k_t]; decide))).trans ((ju_i _ _ (by decide)).trans ((ju_i _ _ (by decide)).trans g_C)))) (HS.fr p1 (show kd 3 = 18 from rfl) hC_M (FR.o (FR.o (FR.o (FR.o (FR.rfl [(15, 1), (15, 2), (15, 3), (15, 4)] M) k_t rfl) k_t rfl) k_t rfl) k_t rfl) rfl) (fun r9 z9 w9_0 => ?_)) (by decide))
      refine jr.putf (i := 5) (x := r9) rfl rfl (Nat.lt_trans (kx_15 k_t).1 (by decide)) (kx_15 k_t).2 (by decide) rfl rfl rfl rfl rfl ?_
      exact jr.vreturn rfl rfl (q _ (CI.u (CI.u (CI.u (CI.u (CI.u hC_M (i := 1) k_t (show (-2147483648 : Int) ≤ _ ∧ _ ≤ (2147483647 : Int) from by omega) rfl) (i := 2) k_t (show (-9223372036854775808 : Int) ≤ _ ∧ _ ≤ (9223372036854775807 : Int) from by omega) rfl) (i := 3) k_t (show (-9223372036854775808 : Int) ≤ _ ∧ _ ≤ (9223372036854775807 : Int) from by omega) rfl) (i := 4) k_t (show (-9223372036854775808 : Int) ≤ _ ∧ _ ≤ (9223372036854775807 : Int) from by omega) rfl) (i := 5) k_t (show (-9223372036854775808 : Int) ≤ _ ∧ _ ≤ (9223372036854775807 : Int) from by omega) rfl) (FR.o (FR.o (FR.o (FR.o (FR.o ht_M k_t rfl) k_t rfl) k_t rfl) k_t rfl) k_t rfl)  ⟨⟨(by rw [show (ju (ju (ju (ju (ju M t 1 r2) t 2 r3) t 3 r4) t 4 r8) t 5 r9) t 1 = r2 from ((ju_i _ _ (by decide)).trans ((ju_i _ _ (by decide)).trans ((ju_i _ _ (by decide)).trans ((ju_i _ _ (by decide)).trans (ju_same _ _ _ _)))))]; exact w2_0), (by rw [show (ju (ju (ju (ju (ju M t 1 r2) t 2 r3) t 3 r4) t 4 r8) t 5 r9) t 2 = r3 from ((ju_i _ _ (by decide)).trans ((ju_i _ _ (by decide)).trans ((ju_i _ _ (by decide)).trans (ju_same _ _ _ _))))]; rw [← w1_0]; exact w3_0), (by rw [show (ju (ju (ju (ju (ju M t 1 r2) t 2 r3) t 3 r4) t 4 r8) t 5 r9) t 3 = r4 from ((ju_i _ _ (by decide)).trans ((ju_i _ _ (by decide)).trans (ju_same _ _ _ _)))]; rw [← w1_0]; exact w4_0), (by rw [show (ju (ju (ju (ju (ju M t 1 r2) t 2 r3) t 3 r4) t 4 r8) t 5 r9) t 4 = r8 from ((ju_i _ _ (by decide)).trans (ju_same _ _ _ _))]; exact w8_0), (by rw [show (ju (ju (ju (ju (ju M t 1 r2) t 2 r3) t 3 r4) t 4 r8) t 5 r9) t 5 = r9 from (ju_same _ _ _ _)]; rw [← w2_0]; first | (rw [if_pos (by omega)]; exact w9_0) | (rw [if_neg (by omega)]; exact w9_0))⟩, fun b k hb => by rw [ju_c _ _ hb, ju_c _ _ hb, ju_c _ _ hb, ju_c _ _ hb, ju_c _ _ hb, p0], by rw [ju_i _ _ (by decide), ju_i _ _ (by decide), ju_i _ _ (by decide), ju_i _ _ (by decide), ju_i _ _ (by decide), p0]⟩)
theorem c_Gathering_isNamedLike_x {A : Nat → Option (Nat × (Nat → Int32))} {Q : Option Value → jm → Prop} {M : jm} (hC_M : CI M) {t : Nat} (k_t : kd t = 15) {x : Nat} (k_x : kd x = 15) (q : ∀ (r : Int), 0 ≤ r ∧ r ≤ 1 → ((r = 1 ∧ (M t 1 = M x 1 ∧ M t 2 = M x 2 ∧ M t 3 = M x 3 ∧ M t 4 = M x 4 ∧ M t 5 = M x 5)) ∨ (r = 0 ∧ ¬ (M t 1 = M x 1 ∧ M t 2 = M x 2 ∧ M t 3 = M x 3 ∧ M t 4 = M x 4 ∧ M t 5 = M x 5))) → Q (some (.int (Int32.ofInt r))) M) : jc A 1 94 [.ref (t), .ref (x)] M Q := by
  refine jc_of (m := xm_94) rfl (Nat.le_of_ble_eq_true rfl) rfl ?_
  refine jr.aload_n rfl rfl ?_
  obtain ⟨v1, e1⟩ : ∃ z_, M t 1 = z_ := ⟨_, rfl⟩
  have b1 : (-2147483648) ≤ v1 ∧ v1 ≤ 2147483647 := by rw [← e1]; exact (CI.r hC_M k_t (by decide) 1)
  refine jr.getf (i := 1) (x := v1) (v := .int (Int32.ofInt (v1))) rfl rfl (Nat.lt_trans (kx_15 k_t).1 (by decide)) (kx_15 k_t).2 (by decide) rfl rfl e1 rfl ?_
  refine jr.aload_n rfl rfl ?_
  obtain ⟨v2, e2⟩ : ∃ z_, M x 1 = z_ := ⟨_, rfl⟩
  have b2 : (-2147483648) ≤ v2 ∧ v2 ≤ 2147483647 := by rw [← e2]; exact (CI.r hC_M k_x (by decide) 1)
  refine jr.getf (i := 1) (x := v2) (v := .int (Int32.ofInt (v2))) rfl rfl (Nat.lt_trans (kx_15 k_x).1 (by decide)) (kx_15 k_x).2 (by decide) rfl rfl e2 rfl ?_
  refine jr.icmp_ne rfl rfl (by omega) (by omega) (fun h8 => ?_) (fun h8 => ?_)
  · refine jr.iconst rfl ?_
    exact jr.ireturn rfl rfl rfl (q _ (by omega) (by omega))
  · refine jr.aload_n rfl rfl ?_
    obtain ⟨v3, e3⟩ : ∃ z_, M t 2 = z_ := ⟨_, rfl⟩
    have b3 : (-9223372036854775808) ≤ v3 ∧ v3 ≤ 9223372036854775807 := by rw [← e3]; exact (CI.r hC_M k_t (by decide) 2)
    refine jr.getf (i := 2) (x := v3) (v := .long (Int64.ofInt (v3))) rfl rfl (Nat.lt_trans (kx_15 k_t).1 (by decide)) (kx_15 k_t).2 (by decide) rfl rfl e3 rfl ?_
    refine jr.aload_n rfl rfl ?_
    obtain ⟨v4, e4⟩ : ∃ z_, M x 2 = z_ := ⟨_, rfl⟩
    have b4 : (-9223372036854775808) ≤ v4 ∧ v4 ≤ 9223372036854775807 := by rw [← e4]; exact (CI.r hC_M k_x (by decide) 2)
    refine jr.getf (i := 2) (x := v4) (v := .long (Int64.ofInt (v4))) rfl rfl (Nat.lt_trans (kx_15 k_x).1 (by decide)) (kx_15 k_x).2 (by decide) rfl rfl e4 rfl ?_
    refine jr.lcmp_ne rfl rfl rfl (by omega) (by omega) (fun h19 => ?_) (fun h19 => ?_)
    · refine jr.iconst rfl ?_
      exact jr.ireturn rfl rfl rfl (q _ (by omega) (by omega))
    · refine jr.aload_n rfl rfl ?_
      obtain ⟨v5, e5⟩ : ∃ z_, M t 3 = z_ := ⟨_, rfl⟩
      have b5 : (-9223372036854775808) ≤ v5 ∧ v5 ≤ 9223372036854775807 := by rw [← e5]; exact (CI.r hC_M k_t (by decide) 3)
      refine jr.getf (i := 3) (x := v5) (v := .long (Int64.ofInt (v5))) rfl rfl (Nat.lt_trans (kx_15 k_t).1 (by decide)) (kx_15 k_t).2 (by decide) rfl rfl e5 rfl ?_
      refine jr.aload_n rfl rfl ?_
      obtain ⟨v6, e6⟩ : ∃ z_, M x 3 = z_ := ⟨_, rfl⟩
      have b6 : (-9223372036854775808) ≤ v6 ∧ v6 ≤ 9223372036854775807 := by rw [← e6]; exact (CI.r hC_M k_x (by decide) 3)
      refine jr.getf (i := 3) (x := v6) (v := .long (Int64.ofInt (v6))) rfl rfl (Nat.lt_trans (kx_15 k_x).1 (by decide)) (kx_15 k_x).2 (by decide) rfl rfl e6 rfl ?_
      refine jr.lcmp_ne rfl rfl rfl (by omega) (by omega) (fun h31 => ?_) (fun h31 => ?_)
      · refine jr.iconst rfl ?_
        exact jr.ireturn rfl rfl rfl (q _ (by omega) (by omega))
      · refine jr.aload_n rfl rfl ?_
        obtain ⟨v7, e7⟩ : ∃ z_, M t 4 = z_ := ⟨_, rfl⟩
        have b7 : (-9223372036854775808) ≤ v7 ∧ v7 ≤ 9223372036854775807 := by rw [← e7]; exact (CI.r hC_M k_t (by decide) 4)
        refine jr.getf (i := 4) (x := v7) (v := .long (Int64.ofInt (v7))) rfl rfl (Nat.lt_trans (kx_15 k_t).1 (by decide)) (kx_15 k_t).2 (by decide) rfl rfl e7 rfl ?_
        refine jr.aload_n rfl rfl ?_
        obtain ⟨v8, e8⟩ : ∃ z_, M x 4 = z_ := ⟨_, rfl⟩
        have b8 : (-9223372036854775808) ≤ v8 ∧ v8 ≤ 9223372036854775807 := by rw [← e8]; exact (CI.r hC_M k_x (by decide) 4)
        refine jr.getf (i := 4) (x := v8) (v := .long (Int64.ofInt (v8))) rfl rfl (Nat.lt_trans (kx_15 k_x).1 (by decide)) (kx_15 k_x).2 (by decide) rfl rfl e8 rfl ?_
        refine jr.lcmp_ne rfl rfl rfl (by omega) (by omega) (fun h43 => ?_) (fun h43 => ?_)
        · refine jr.iconst rfl ?_
          exact jr.ireturn rfl rfl rfl (q _ (by omega) (by omega))
        · refine jr.aload_n rfl rfl ?_
          obtain ⟨v9, e9⟩ : ∃ z_, M t 5 = z_ := ⟨_, rfl⟩
          have b9 : (-9223372036854775808) ≤ v9 ∧ v9 ≤ 9223372036854775807 := by rw [← e9]; exact (CI.r hC_M k_t (by decide) 5)
          refine jr.getf (i := 5) (x := v9) (v := .long (Int64.ofInt (v9))) rfl rfl (Nat.lt_trans (kx_15 k_t).1 (by decide)) (kx_15 k_t).2 (by decide) rfl rfl e9 rfl ?_
          refine jr.aload_n rfl rfl ?_
          obtain ⟨v10, e10⟩ : ∃ z_, M x 5 = z_ := ⟨_, rfl⟩
          have b10 : (-9223372036854775808) ≤ v10 ∧ v10 ≤ 9223372036854775807 := by rw [← e10]; exact (CI.r hC_M k_x (by decide) 5)
          refine jr.getf (i := 5) (x := v10) (v := .long (Int64.ofInt (v10))) rfl rfl (Nat.lt_trans (kx_15 k_x).1 (by decide)) (kx_15 k_x).2 (by decide) rfl rfl e10 rfl ?_
          refine jr.lcmp_ne rfl rfl rfl (by omega) (by omega) (fun h55 => ?_) (fun h55 => ?_)
          · refine jr.iconst rfl ?_
            exact jr.ireturn rfl rfl rfl (q _ (by omega) (by omega))
          · refine jr.iconst rfl ?_
            refine jr.goto rfl rfl ?_
            exact jr.ireturn rfl rfl rfl (q _ (by omega) (by omega))
theorem c_PacketWall_soughtGathering_x_L2 {A : Nat → Option (Nat × (Nat → Int32))} {Q : Option Value → jm → Prop} {M : jm} (hC_M : CI M) (q : ∀ (r : Int), (-1) ≤ r ∧ r ≤ 7 → (r = gS M 8 0) → Q (some (.int (Int32.ofInt r))) M) : ∀ (nM : Nat) (i : Int), 0 ≤ i ∧ i ≤ 8 → (gS M 8 0 = gS M (8 - i).toNat i) → 8 - i ≤ nM → jr A 1 xm_45 2 [(1, .int (Int32.ofInt (i))), (0, .ref (0))] [] M Q := by
  intro nM
  induction nM using Nat.strongRecOn with
  | ind nM ih =>
    intro i h_i hy0 hm
    refine jr.iload_n rfl rfl ?_
    refine jr.bipush rfl (by decide) ?_
    refine jr.icmp_ge rfl rfl (by omega) (by omega) (fun h5 => ?_) (fun h5 => ?_)
    · refine jr.iconst rfl ?_
      exact jr.ireturn rfl rfl rfl (q _ (by omega) (by rw [hy0, show (8 - i).toNat = 0 from by omega]; rfl))
    · refine jr.aload_n rfl rfl ?_
      refine jr.getf (i := 5) (v := .ref 10) rfl rfl (by decide) rfl (by decide) rfl rfl rfl rfl ?_
      refine jr.iload_n rfl rfl ?_
      have k1 := kxe_40 (a := 10) rfl (i := i) (by omega) (by omega)
      refine jr.aald (c := (xe 10 i)) rfl (by decide) rfl (by decide) (by decide) rfl (by decide) (by omega) (by omega) k1.1 ?_
      obtain ⟨v2, e2⟩ : ∃ z_, M ((xe 10 i)) 0 = z_ := ⟨_, rfl⟩
      have b2 : 0 ≤ v2 ∧ v2 ≤ 1 := by rw [← e2]; exact (CI.r hC_M k1.2 (by decide) 0)
      refine jr.getf (i := 0) (x := v2) (v := .int (Int32.ofInt (v2))) rfl rfl (Nat.lt_trans (kx_15 k1.2).1 (by decide)) (kx_15 k1.2).2 (by decide) rfl rfl e2 rfl ?_
      refine jr.if_eq rfl rfl (by omega) (fun h17 => ?_) (fun h17 => ?_)
      · refine jr.iinc rfl rfl (by decide) rfl ?_
        refine jr.goto rfl rfl ?_
        refine jr.pick [0, 1] rfl rfl ?_
        exact ih (nM - 1) (by omega) (i + 1) (by omega) (by rw [hy0, gS_s (by omega), if_neg (by omega)]) (by omega)
      · refine jr.aload_n rfl rfl ?_
        refine jr.getf (i := 5) (v := .ref 10) rfl rfl (by decide) rfl (by decide) rfl rfl rfl rfl ?_
        refine jr.iload_n rfl rfl ?_
        have k3 := kxe_40 (a := 10) rfl (i := i) (by omega) (by omega)
        refine jr.aald (c := (xe 10 i)) rfl (by decide) rfl (by decide) (by decide) rfl (by decide) (by omega) (by omega) k3.1 ?_
        refine jr.aload_n rfl rfl ?_
        refine jr.getf (i := 6) (v := .ref 11) rfl rfl (by decide) rfl (by decide) rfl rfl rfl rfl ?_
        refine jr_v rfl rfl (Or.inl rfl) rfl rfl (Nat.lt_trans (kx_15 k3.2).1 (by decide)) (kx_15 k3.2).2 ⟨rfl, Nat.le_of_ble_eq_true rfl, Nat.le_of_ble_eq_true rfl⟩ rfl (jc.deep (c_Gathering_isNamedLike_x hC_M k3.2 (show kd 11 = 15 from rfl) (fun r4 z4 w4_0 => ?_)) (by decide))
        refine jr.if_eq rfl rfl (by omega) (fun h33 => ?_) (fun h33 => ?_)
        · refine jr.iinc rfl rfl (by decide) rfl ?_
          refine jr.goto rfl rfl ?_
          refine jr.pick [0, 1] rfl rfl ?_
          exact ih (nM - 1) (by omega) (i + 1) (by omega) (by rw [hy0, gS_s (by omega), if_neg (by omega)]) (by omega)
        · refine jr.iload_n rfl rfl ?_
          exact jr.ireturn rfl rfl rfl (q _ (by omega) (by rw [hy0, gS_s (by omega), if_pos (by omega)]))
theorem c_PacketWall_soughtGathering_x {A : Nat → Option (Nat × (Nat → Int32))} {Q : Option Value → jm → Prop} {M : jm} (hC_M : CI M) (q : ∀ (r : Int), (-1) ≤ r ∧ r ≤ 7 → (r = gS M 8 0) → Q (some (.int (Int32.ofInt r))) M) : jc A 2 45 [.ref (0)] M Q := by
  refine jc_of (m := xm_45) rfl (Nat.le_of_ble_eq_true rfl) rfl ?_
  refine jr.iconst rfl ?_
  refine jr.istore_n rfl (by decide) rfl ?_
  refine jr.pick [0, 1] rfl rfl ?_
  exact c_PacketWall_soughtGathering_x_L2 hC_M  q 8 0 (by omega) rfl (by omega)
theorem c_PacketWall_freeGathering_x_L2 {A : Nat → Option (Nat × (Nat → Int32))} {Q : Option Value → jm → Prop} {M : jm} (hC_M : CI M) (q : ∀ (r : Int), (-1) ≤ r ∧ r ≤ 7 → (r = gF M 8 0) → Q (some (.int (Int32.ofInt r))) M) : ∀ (nM : Nat) (i : Int), 0 ≤ i ∧ i ≤ 8 → (gF M 8 0 = gF M (8 - i).toNat i) → 8 - i ≤ nM → jr A 0 xm_46 2 [(1, .int (Int32.ofInt (i))), (0, .ref (0))] [] M Q := by
  intro nM
  induction nM using Nat.strongRecOn with
  | ind nM ih =>
    intro i h_i hy0 hm
    refine jr.iload_n rfl rfl ?_
    refine jr.bipush rfl (by decide) ?_
    refine jr.icmp_ge rfl rfl (by omega) (by omega) (fun h5 => ?_) (fun h5 => ?_)
    · refine jr.iconst rfl ?_
      exact jr.ireturn rfl rfl rfl (q _ (by omega) (by rw [hy0, show (8 - i).toNat = 0 from by omega]; rfl))
    · refine jr.aload_n rfl rfl ?_
      refine jr.getf (i := 5) (v := .ref 10) rfl rfl (by decide) rfl (by decide) rfl rfl rfl rfl ?_
      refine jr.iload_n rfl rfl ?_
      have k1 := kxe_40 (a := 10) rfl (i := i) (by omega) (by omega)
      refine jr.aald (c := (xe 10 i)) rfl (by decide) rfl (by decide) (by decide) rfl (by decide) (by omega) (by omega) k1.1 ?_
      obtain ⟨v2, e2⟩ : ∃ z_, M ((xe 10 i)) 0 = z_ := ⟨_, rfl⟩
      have b2 : 0 ≤ v2 ∧ v2 ≤ 1 := by rw [← e2]; exact (CI.r hC_M k1.2 (by decide) 0)
      refine jr.getf (i := 0) (x := v2) (v := .int (Int32.ofInt (v2))) rfl rfl (Nat.lt_trans (kx_15 k1.2).1 (by decide)) (kx_15 k1.2).2 (by decide) rfl rfl e2 rfl ?_
      refine jr.if_ne rfl rfl (by omega) (fun h17 => ?_) (fun h17 => ?_)
      · refine jr.iinc rfl rfl (by decide) rfl ?_
        refine jr.goto rfl rfl ?_
        refine jr.pick [0, 1] rfl rfl ?_
        exact ih (nM - 1) (by omega) (i + 1) (by omega) (by rw [hy0, gF_s (by omega), if_neg (by omega)]) (by omega)
      · refine jr.iload_n rfl rfl ?_
        exact jr.ireturn rfl rfl rfl (q _ (by omega) (by rw [hy0, gF_s (by omega), if_pos (by omega)]))
theorem c_PacketWall_freeGathering_x {A : Nat → Option (Nat × (Nat → Int32))} {Q : Option Value → jm → Prop} {M : jm} (hC_M : CI M) (q : ∀ (r : Int), (-1) ≤ r ∧ r ≤ 7 → (r = gF M 8 0) → Q (some (.int (Int32.ofInt r))) M) : jc A 1 46 [.ref (0)] M Q := by
  refine jc_of (m := xm_46) rfl (Nat.le_of_ble_eq_true rfl) rfl ?_
  refine jr.iconst rfl ?_
  refine jr.istore_n rfl (by decide) rfl ?_
  refine jr.pick [0, 1] rfl rfl ?_
  exact c_PacketWall_freeGathering_x_L2 hC_M  q 8 0 (by omega) rfl (by omega)
theorem c_PacketWall_isRefusedPiece_x {A : Nat → Option (Nat × (Nat → Int32))} {Q : Option Value → jm → Prop} {f : Int → Int} {N : Int} {M : jm} (hC_M : CI M) {x : Int} (h_x : 0 ≤ x ∧ x ≤ 11) {y : Int} (h_y : 0 ≤ y ∧ y ≤ 1) {C : Int} (g_C : M 3 3 = C) (p0 : HS M 3 f N) (p1 : x < C) (p2 : hX f N x = 2 ∨ hX f N x = 6) (q : ∀ (r : Int), 0 ≤ r ∧ r ≤ 1 → ((r = 1 ∧ rfq f N C x y) ∨ (r = 0 ∧ ¬ rfq f N C x y)) → Q (some (.int (Int32.ofInt r))) M) : jc A 4 47 [.ref (0), .int (Int32.ofInt (x)), .int (Int32.ofInt (y))] M Q := by
  refine jc_of (m := xm_47) rfl (Nat.le_of_ble_eq_true rfl) rfl ?_
  have b_C : 0 ≤ C ∧ C ≤ 12 := by rw [← g_C]; exact (CI.r hC_M (show kd 3 = 18 from rfl) (by decide) 3)
  refine jr.aload_n rfl rfl ?_
  refine jr.getf (i := 3) (v := .ref 3) rfl rfl (by decide) rfl (by decide) rfl rfl rfl rfl ?_
  refine jr.iload_n rfl rfl ?_
  obtain ⟨v2, e2⟩ : ∃ z_, M 3 7 = z_ := ⟨_, rfl⟩
  have b2 : 0 ≤ v2 ∧ v2 ≤ 597 := by rw [← e2]; exact (CI.r hC_M (show kd 3 = 18 from rfl) (by decide) 7)
  have k1_S : kd (v2).toNat = 33 := (congrArg (fun z : Int => kd z.toNat) e2).symm.trans (CI.x hC_M (show kd 3 = 18 from rfl) 7 rfl (by decide))
  refine jr_v rfl rfl (Or.inl rfl) rfl rfl (by decide) rfl ⟨rfl, Nat.le_of_ble_eq_true rfl, Nat.le_of_ble_eq_true rfl⟩ rfl (jc.deep (c_Headers_dataBehind_x hC_M (show kd 3 = 18 from rfl) (by omega) g_C e2 p0 (fun r1 z1 w1_0 => ?_)) (by decide))
  refine jr.istore_n rfl (by decide) rfl ?_
  refine jr.iload_n rfl rfl ?_
  refine jr.if_gt rfl rfl (by omega) (fun h10 => ?_) (fun h10 => ?_)
  · refine jr.aload_n rfl rfl ?_
    refine jr.getf (i := 3) (v := .ref 3) rfl rfl (by decide) rfl (by decide) rfl rfl rfl rfl ?_
    refine jr.iload_n rfl rfl ?_
    refine jr_v rfl rfl (Or.inl rfl) rfl rfl (by decide) rfl ⟨rfl, Nat.le_of_ble_eq_true rfl, Nat.le_of_ble_eq_true rfl⟩ rfl (jc.deep (c_Headers_isMoreToCome_x hC_M (show kd 3 = 18 from rfl) (by omega) g_C p0 (fun r3 z3 w3_0 => ?_)) (by decide))
    refine jr.if_eq rfl rfl (by omega) (fun h23 => ?_) (fun h23 => ?_)
    · refine jr.iload_n rfl rfl ?_
      refine jr.if_eq rfl rfl (by omega) (fun h40 => ?_) (fun h40 => ?_)
      · refine jr.iconst rfl ?_
        exact jr.ireturn rfl rfl rfl (q _ (by omega) (by have hd : N - enf f N C x = r1 := w1_0.symm; have hm : mrf f N C x = r3 := w3_0.symm; unfold rfq; rw [hd, hm]; omega))
      · refine jr.aload_n rfl rfl ?_
        refine jr.getf (i := 3) (v := .ref 3) rfl rfl (by decide) rfl (by decide) rfl rfl rfl rfl ?_
        refine jr.iload_n rfl rfl ?_
        refine jr_v rfl rfl (Or.inl rfl) rfl rfl (by decide) rfl ⟨rfl, Nat.le_of_ble_eq_true rfl, Nat.le_of_ble_eq_true rfl⟩ rfl (jc.deep (c_Headers_offsetOf_x hC_M (show kd 3 = 18 from rfl) (by omega) g_C p0 (by omega) (by omega) (fun r4 z4 w4_0 => ?_)) (by decide))
        refine jr.iload_n rfl rfl ?_
        refine jr.iadd rfl ?_
        refine jr.sipush rfl (by decide) ?_
        refine jr.icmp_le rfl rfl (by omega) (by omega) (fun h56 => ?_) (fun h56 => ?_)
        · refine jr.iconst rfl ?_
          exact jr.ireturn rfl rfl rfl (q _ (by omega) (by have hd : N - enf f N C x = r1 := w1_0.symm; have hm : mrf f N C x = r3 := w3_0.symm; (try have ho : ofs f N C x = r4 := w4_0.symm); unfold rfq; rw [hd, hm]; omega))
        · refine jr.iconst rfl ?_
          refine jr.goto rfl rfl ?_
          exact jr.ireturn rfl rfl rfl (q _ (by omega) (by have hd : N - enf f N C x = r1 := w1_0.symm; have hm : mrf f N C x = r3 := w3_0.symm; (try have ho : ofs f N C x = r4 := w4_0.symm); unfold rfq; rw [hd, hm]; omega))
    · refine jr.iload_n rfl rfl ?_
      refine jr.bipush rfl (by decide) ?_
      refine jr.irem rfl (by decide) ?_
      have b5 : j_rem r1 8 = r1 % 8 := j_rem_ex (by omega) (by omega)
      generalize j_rem r1 8 = v5 at b5 ⊢
      refine jr.if_eq rfl rfl (by omega) (fun h30 => ?_) (fun h30 => ?_)
      · refine jr.iconst rfl ?_
        exact jr.ireturn rfl rfl rfl (q _ (by omega) (by have hd : N - enf f N C x = r1 := w1_0.symm; have hm : mrf f N C x = r3 := w3_0.symm; unfold rfq; rw [hd, hm]; omega))
      · refine jr.iconst rfl ?_
        refine jr.goto rfl rfl ?_
        exact jr.ireturn rfl rfl rfl (q _ (by omega) (by have hd : N - enf f N C x = r1 := w1_0.symm; have hm : mrf f N C x = r3 := w3_0.symm; unfold rfq; rw [hd, hm]; omega))
  · refine jr.iconst rfl ?_
    exact jr.ireturn rfl rfl rfl (q _ (by omega) (by have hd : N - enf f N C x = r1 := w1_0.symm; unfold rfq; rw [hd]; omega))
