section
/-- a piece's name, in the gathering t -/
noncomputable def NMB (T M : jm) (t : Nat) (f : Int → Int) (N C y : Int) : Prop := (M t 1 = kA f N C y ∧ M t 2 = adf f N C (ntf f N C) 0 ∧ M t 3 = adf f N C (ntf f N C) 1 ∧ M t 4 = vA f N C y 3 ∧ M t 5 = vA f N C y (if kA f N C y = 2 then 7 else 0)) ∧ (∀ (b : Nat) (k : Int), b ≠ t → M b k = T b k) ∧ M t 0 = T t 0
noncomputable def nmq (M : jm) (a b : Nat) : Prop := M a 1 = M b 1 ∧ M a 2 = M b 2 ∧ M a 3 = M b 3 ∧ M a 4 = M b 4 ∧ M a 5 = M b 5
noncomputable def gS (M : jm) : Nat → Int → Int
  | 0, _ => -1
  | n + 1, i => if M (xe 10 i) 0 ≠ 0 ∧ (M (xe 10 i) 1 = M 11 1 ∧ M (xe 10 i) 2 = M 11 2 ∧ M (xe 10 i) 3 = M 11 3 ∧ M (xe 10 i) 4 = M 11 4 ∧ M (xe 10 i) 5 = M 11 5) then i else gS M n (i + 1)
noncomputable def gF (M : jm) : Nat → Int → Int
  | 0, _ => -1
  | n + 1, i => if M (xe 10 i) 0 = 0 then i else gF M n (i + 1)
theorem gS_s {M : jm} {i : Int} (h : i < 8) : gS M (8 - i).toNat i = if M (xe 10 i) 0 ≠ 0 ∧ (M (xe 10 i) 1 = M 11 1 ∧ M (xe 10 i) 2 = M 11 2 ∧ M (xe 10 i) 3 = M 11 3 ∧ M (xe 10 i) 4 = M 11 4 ∧ M (xe 10 i) 5 = M 11 5) then i else gS M (8 - (i + 1)).toNat (i + 1) := by
  obtain ⟨n, hn⟩ : ∃ n : Nat, i = 7 - n := ⟨(7 - i).toNat, by omega⟩
  subst hn
  rw [show (8 - (7 - (n : Int))).toNat = n + 1 by omega, show (8 - (7 - (n : Int) + 1)).toNat = n by omega]
  rfl
theorem gF_s {M : jm} {i : Int} (h : i < 8) : gF M (8 - i).toNat i = if M (xe 10 i) 0 = 0 then i else gF M (8 - (i + 1)).toNat (i + 1) := by
  obtain ⟨n, hn⟩ : ∃ n : Nat, i = 7 - n := ⟨(7 - i).toNat, by omega⟩
  subst hn
  rw [show (8 - (7 - (n : Int))).toNat = n + 1 by omega, show (8 - (7 - (n : Int) + 1)).toNat = n by omega]
  rfl
noncomputable def rfq (f : Int → Int) (N C x y : Int) : Prop := N - enf f N C x ≤ 0 ∨ (mrf f N C x = 1 ∧ (N - enf f N C x) % 8 ≠ 0) ∨ (mrf f N C x ≠ 1 ∧ y = 1 ∧ 360 < ofs f N C x + (N - enf f N C x))
noncomputable def W_c_Gathering_nameBy_x : List (Nat × Nat) := [(15, 1), (15, 2), (15, 3), (15, 4), (15, 5)]
theorem c_Gathering_nameBy_x {A : Nat → Option (Nat × (Nat → Int32))} {Q : Option Value → jm → Prop} {f : Int → Int} {N : Int} {T : jm} {M : jm} (hC_M : CI M) (ht_M : FR W_c_Gathering_nameBy_x T M) {t : Nat} (k_t : kd t = 15) {y : Int} (h_y : 0 ≤ y ∧ y ≤ 11) {C : Int} (g_C : M 3 3 = C) (p0 : T = M) (p1 : HS M 3 f N) (q : ∀ (M' : jm), CI M' → FR W_c_Gathering_nameBy_x T M' → (NMB T M' t f N C y) → Q none M') : jc A 4 93 [.ref (t), .ref (3), .int (Int32.ofInt (y))] M Q := by
  refine jc_of (m := xm_93) rfl (Nat.le_of_ble_eq_true rfl) rfl ?_
  have b_C : 0 ≤ C ∧ C ≤ 12 := by rw [← g_C]; exact (CI.r hC_M (show kd 3 = 18 from rfl) (by decide) 3)
  refine jr.aload_n rfl rfl ?_
  refine jr.bipush rfl (by decide) ?_
  refine jr_v rfl rfl (Or.inl rfl) rfl rfl (by decide) rfl ⟨rfl, Nat.le_of_ble_eq_true rfl, Nat.le_of_ble_eq_true rfl⟩ rfl (jc.deep (c_Headers_firstOf_x hC_M (show kd 3 = 18 from rfl) (by omega) g_C p1 (fun r1 z1 w1_0 => ?_)) (by decide))
  refine jr.istore_n rfl (by decide) rfl ?_
  refine jr.aload_n rfl rfl ?_
  refine jr.aload_n rfl rfl ?_
  refine jr.iload_n rfl rfl ?_
  refine jr_v rfl rfl (Or.inl rfl) rfl rfl (by decide) rfl ⟨rfl, Nat.le_of_ble_eq_true rfl, Nat.le_of_ble_eq_true rfl⟩ rfl (jc.deep (c_Headers_kindAt_x hC_M (show kd 3 = 18 from rfl) (by omega) g_C p1 (fun r2 z2 w2_0 => ?_)) (by decide))
  refine jr.putf (i := 1) (x := r2) rfl rfl (Nat.lt_trans (kx_15 k_t).1 (by decide)) (kx_15 k_t).2 (by decide) rfl rfl rfl rfl rfl ?_
  refine jr.aload_n rfl rfl ?_
  refine jr.aload_n rfl rfl ?_
  refine jr.iload_n rfl rfl ?_
  refine jr.iconst rfl ?_
  refine jr_v rfl rfl (Or.inl rfl) rfl rfl (by decide) rfl ⟨rfl, Nat.le_of_ble_eq_true rfl, Nat.le_of_ble_eq_true rfl⟩ rfl (jc.deep (c_Headers_addressOf_x (CI.u hC_M (i := 1) k_t (show (-2147483648 : Int) ≤ _ ∧ _ ≤ (2147483647 : Int) from by omega) rfl) (show kd 3 = 18 from rfl) (by omega) (by omega) ((ju_i _ _ (by decide)).trans g_C) (HS.fr p1 (show kd 3 = 18 from rfl) hC_M (FR.o (FR.rfl [(15, 1)] M) k_t rfl) rfl) (fun r3 z3 w3_0 => ?_)) (by decide))
  refine jr.putf (i := 2) (x := r3) rfl rfl (Nat.lt_trans (kx_15 k_t).1 (by decide)) (kx_15 k_t).2 (by decide) rfl rfl rfl rfl rfl ?_
  refine jr.aload_n rfl rfl ?_
  refine jr.aload_n rfl rfl ?_
  refine jr.iload_n rfl rfl ?_
  refine jr.iconst rfl ?_
  refine jr_v rfl rfl (Or.inl rfl) rfl rfl (by decide) rfl ⟨rfl, Nat.le_of_ble_eq_true rfl, Nat.le_of_ble_eq_true rfl⟩ rfl (jc.deep (c_Headers_addressOf_x (CI.u (CI.u hC_M (i := 1) k_t (show (-2147483648 : Int) ≤ _ ∧ _ ≤ (2147483647 : Int) from by omega) rfl) (i := 2) k_t (show (-9223372036854775808 : Int) ≤ _ ∧ _ ≤ (9223372036854775807 : Int) from by omega) rfl) (show kd 3 = 18 from rfl) (by omega) (by omega) ((ju_i _ _ (by decide)).trans ((ju_i _ _ (by decide)).trans g_C)) (HS.fr p1 (show kd 3 = 18 from rfl) hC_M (FR.o (FR.o (FR.rfl [(15, 1), (15, 2)] M) k_t rfl) k_t rfl) rfl) (fun r4 z4 w4_0 => ?_)) (by decide))
  refine jr.putf (i := 3) (x := r4) rfl rfl (Nat.lt_trans (kx_15 k_t).1 (by decide)) (kx_15 k_t).2 (by decide) rfl rfl rfl rfl rfl ?_
  refine jr.aload_n rfl rfl ?_
  refine jr.aload_n rfl rfl ?_
  refine jr.iload_n rfl rfl ?_
  refine jr.aload_n rfl rfl ?_
  refine jr.getf (i := 1) (x := r2) (v := .int (Int32.ofInt (r2))) rfl rfl (Nat.lt_trans (kx_15 k_t).1 (by decide)) (kx_15 k_t).2 (by decide) rfl rfl ((ju_i _ _ (by decide)).trans ((ju_i _ _ (by decide)).trans (ju_same _ _ _ _))) rfl ?_
  refine jr.iconst rfl ?_
  refine jr.icmp_ne rfl rfl (by omega) (by omega) (fun h44 => ?_) (fun h44 => ?_)
  · refine jr.iconst rfl ?_
    refine jr_v rfl rfl (Or.inl rfl) rfl rfl (by decide) rfl ⟨rfl, Nat.le_of_ble_eq_true rfl, Nat.le_of_ble_eq_true rfl⟩ rfl (jc.deep (c_Headers_valueOf_x (CI.u (CI.u (CI.u hC_M (i := 1) k_t (show (-2147483648 : Int) ≤ _ ∧ _ ≤ (2147483647 : Int) from by omega) rfl) (i := 2) k_t (show (-9223372036854775808 : Int) ≤ _ ∧ _ ≤ (9223372036854775807 : Int) from by omega) rfl) (i := 3) k_t (show (-9223372036854775808 : Int) ≤ _ ∧ _ ≤ (9223372036854775807 : Int) from by omega) rfl) (show kd 3 = 18 from rfl) (by omega) (by omega) ((ju_c _ _ (kd_ne (by rw [(show kd 3 = 18 from rfl), k_t]; decide))).trans ((ju_i _ _ (by decide)).trans ((ju_i _ _ (by decide)).trans g_C))) (HS.fr p1 (show kd 3 = 18 from rfl) hC_M (FR.o (FR.o (FR.o (FR.rfl [(15, 1), (15, 2), (15, 3)] M) k_t rfl) k_t rfl) k_t rfl) rfl) (fun r5 z5 w5_0 => ?_)) (by decide))
    refine jr.putf (i := 4) (x := r5) rfl rfl (Nat.lt_trans (kx_15 k_t).1 (by decide)) (kx_15 k_t).2 (by decide) rfl rfl rfl rfl rfl ?_
    refine jr.aload_n rfl rfl ?_
    refine jr.aload_n rfl rfl ?_
    refine jr.iload_n rfl rfl ?_
    refine jr.aload_n rfl rfl ?_
    refine jr.getf (i := 1) (x := r2) (v := .int (Int32.ofInt (r2))) rfl rfl (Nat.lt_trans (kx_15 k_t).1 (by decide)) (kx_15 k_t).2 (by decide) rfl rfl ((ju_i _ _ (by decide)).trans ((ju_i _ _ (by decide)).trans ((ju_i _ _ (by decide)).trans (ju_same _ _ _ _)))) rfl ?_
    refine jr.iconst rfl ?_
    refine jr.icmp_ne rfl rfl (by omega) (by omega) (fun h66 => ?_) (fun h66 => ?_)
    · refine jr.iconst rfl ?_
      refine jr_v rfl rfl (Or.inl rfl) rfl rfl (by decide) rfl ⟨rfl, Nat.le_of_ble_eq_true rfl, Nat.le_of_ble_eq_true rfl⟩ rfl (jc.deep (c_Headers_valueOf_x (CI.u (CI.u (CI.u (CI.u hC_M (i := 1) k_t (show (-2147483648 : Int) ≤ _ ∧ _ ≤ (2147483647 : Int) from by omega) rfl) (i := 2) k_t (show (-9223372036854775808 : Int) ≤ _ ∧ _ ≤ (9223372036854775807 : Int) from by omega) rfl) (i := 3) k_t (show (-9223372036854775808 : Int) ≤ _ ∧ _ ≤ (9223372036854775807 : Int) from by omega) rfl) (i := 4) k_t (show (-9223372036854775808 : Int) ≤ _ ∧ _ ≤ (9223372036854775807 : Int) from by omega) rfl) (show kd 3 = 18 from rfl) (by omega) (by omega) ((ju_i _ _ (by decide)).trans ((ju_c _ _ (kd_ne (by rw [(show kd 3 = 18 from rfl), k_t]; decide))).trans ((ju_i _ _ (by decide)).trans ((ju_i _ _ (by decide)).trans g_C)))) (HS.fr p1 (show kd 3 = 18 from rfl) hC_M (FR.o (FR.o (FR.o (FR.o (FR.rfl [(15, 1), (15, 2), (15, 3), (15, 4)] M) k_t rfl) k_t rfl) k_t rfl) k_t rfl) rfl) (fun r6 z6 w6_0 => ?_)) (by decide))
      refine jr.putf (i := 5) (x := r6) rfl rfl (Nat.lt_trans (kx_15 k_t).1 (by decide)) (kx_15 k_t).2 (by decide) rfl rfl rfl rfl rfl ?_
      exact jr.vreturn rfl rfl (q _ (CI.u (CI.u (CI.u (CI.u (CI.u hC_M (i := 1) k_t (show (-2147483648 : Int) ≤ _ ∧ _ ≤ (2147483647 : Int) from by omega) rfl) (i := 2) k_t (show (-9223372036854775808 : Int) ≤ _ ∧ _ ≤ (9223372036854775807 : Int) from by omega) rfl) (i := 3) k_t (show (-9223372036854775808 : Int) ≤ _ ∧ _ ≤ (9223372036854775807 : Int) from by omega) rfl) (i := 4) k_t (show (-9223372036854775808 : Int) ≤ _ ∧ _ ≤ (9223372036854775807 : Int) from by omega) rfl) (i := 5) k_t (show (-9223372036854775808 : Int) ≤ _ ∧ _ ≤ (9223372036854775807 : Int) from by omega) rfl) (FR.o (FR.o (FR.o (FR.o (FR.o ht_M k_t rfl) k_t rfl) k_t rfl) k_t rfl) k_t rfl)  ⟨⟨(by rw [show (ju (ju (ju (ju (ju M t 1 r2) t 2 r3) t 3 r4) t 4 r5) t 5 r6) t 1 = r2 from ((ju_i _ _ (by decide)).trans ((ju_i _ _ (by decide)).trans ((ju_i _ _ (by decide)).trans ((ju_i _ _ (by decide)).trans (ju_same _ _ _ _)))))]; exact w2_0), (by rw [show (ju (ju (ju (ju (ju M t 1 r2) t 2 r3) t 3 r4) t 4 r5) t 5 r6) t 2 = r3 from ((ju_i _ _ (by decide)).trans ((ju_i _ _ (by decide)).trans ((ju_i _ _ (by decide)).trans (ju_same _ _ _ _))))]; rw [← w1_0]; exact w3_0), (by rw [show (ju (ju (ju (ju (ju M t 1 r2) t 2 r3) t 3 r4) t 4 r5) t 5 r6) t 3 = r4 from ((ju_i _ _ (by decide)).trans ((ju_i _ _ (by decide)).trans (ju_same _ _ _ _)))]; rw [← w1_0]; exact w4_0), (by rw [show (ju (ju (ju (ju (ju M t 1 r2) t 2 r3) t 3 r4) t 4 r5) t 5 r6) t 4 = r5 from ((ju_i _ _ (by decide)).trans (ju_same _ _ _ _))]; exact w5_0), (by rw [show (ju (ju (ju (ju (ju M t 1 r2) t 2 r3) t 3 r4) t 4 r5) t 5 r6) t 5 = r6 from (ju_same _ _ _ _)]; rw [← w2_0]; first | (rw [if_pos (by omega)]; exact w6_0) | (rw [if_neg (by omega)]; exact w6_0))⟩, fun b k hb => by rw [ju_c _ _ hb, ju_c _ _ hb, ju_c _ _ hb, ju_c _ _ hb, ju_c _ _ hb, p0], by rw [ju_i _ _ (by decide), ju_i _ _ (by decide), ju_i _ _ (by decide), ju_i _ _ (by decide), ju_i _ _ (by decide), p0]⟩)
    · refine jr.bipush rfl (by decide) ?_
      refine jr.goto rfl rfl ?_
      refine jr_v rfl rfl (Or.inl rfl) rfl rfl (by decide) rfl ⟨rfl, Nat.le_of_ble_eq_true rfl, Nat.le_of_ble_eq_true rfl⟩ rfl (jc.deep (c_Headers_valueOf_x (CI.u (CI.u (CI.u (CI.u hC_M (i := 1) k_t (show (-2147483648 : Int) ≤ _ ∧ _ ≤ (2147483647 : Int) from by omega) rfl) (i := 2) k_t (show (-9223372036854775808 : Int) ≤ _ ∧ _ ≤ (9223372036854775807 : Int) from by omega) rfl) (i := 3) k_t (show (-9223372036854775808 : Int) ≤ _ ∧ _ ≤ (9223372036854775807 : Int) from by omega) rfl) (i := 4) k_t (show (-9223372036854775808 : Int) ≤ _ ∧ _ ≤ (9223372036854775807 : Int) from by omega) rfl) (show kd 3 = 18 from rfl) (by omega) (by omega) ((ju_i _ _ (by decide)).trans ((ju_c _ _ (kd_ne (by rw [(show kd 3 = 18 from rfl), k_t]; decide))).trans ((ju_i _ _ (by decide)).trans ((ju_i _ _ (by decide)).trans g_C)))) (HS.fr p1 (show kd 3 = 18 from rfl) hC_M (FR.o (FR.o (FR.o (FR.o (FR.rfl [(15, 1), (15, 2), (15, 3), (15, 4)] M) k_t rfl) k_t rfl) k_t rfl) k_t rfl) rfl) (fun r7 z7 w7_0 => ?_)) (by decide))
      refine jr.putf (i := 5) (x := r7) rfl rfl (Nat.lt_trans (kx_15 k_t).1 (by decide)) (kx_15 k_t).2 (by decide) rfl rfl rfl rfl rfl ?_
      exact jr.vreturn rfl rfl (q _ (CI.u (CI.u (CI.u (CI.u (CI.u hC_M (i := 1) k_t (show (-2147483648 : Int) ≤ _ ∧ _ ≤ (2147483647 : Int) from by omega) rfl) (i := 2) k_t (show (-9223372036854775808 : Int) ≤ _ ∧ _ ≤ (9223372036854775807 : Int) from by omega) rfl) (i := 3) k_t (show (-9223372036854775808 : Int) ≤ _ ∧ _ ≤ (9223372036854775807 : Int) from by omega) rfl) (i := 4) k_t (show (-9223372036854775808 : Int) ≤ _ ∧ _ ≤ (9223372036854775807 : Int) from by omega) rfl) (i := 5) k_t (show (-9223372036854775808 : Int) ≤ _ ∧ _ ≤ (9223372036854775807 : Int) from by omega) rfl) (FR.o (FR.o (FR.o (FR.o (FR.o ht_M k_t rfl) k_t rfl) k_t rfl) k_t rfl) k_t rfl)  ⟨⟨(by rw [show (ju (ju (ju (ju (ju M t 1 r2) t 2 r3) t 3 r4) t 4 r5) t 5 r7) t 1 = r2 from ((ju_i _ _ (by decide)).trans ((ju_i _ _ (by decide)).trans ((ju_i _ _ (by decide)).trans ((ju_i _ _ (by decide)).trans (ju_same _ _ _ _)))))]; exact w2_0), (by rw [show (ju (ju (ju (ju (ju M t 1 r2) t 2 r3) t 3 r4) t 4 r5) t 5 r7) t 2 = r3 from ((ju_i _ _ (by decide)).trans ((ju_i _ _ (by decide)).trans ((ju_i _ _ (by decide)).trans (ju_same _ _ _ _))))]; rw [← w1_0]; exact w3_0), (by rw [show (ju (ju (ju (ju (ju M t 1 r2) t 2 r3) t 3 r4) t 4 r5) t 5 r7) t 3 = r4 from ((ju_i _ _ (by decide)).trans ((ju_i _ _ (by decide)).trans (ju_same _ _ _ _)))]; rw [← w1_0]; exact w4_0), (by rw [show (ju (ju (ju (ju (ju M t 1 r2) t 2 r3) t 3 r4) t 4 r5) t 5 r7) t 4 = r5 from ((ju_i _ _ (by decide)).trans (ju_same _ _ _ _))]; exact w5_0), (by rw [show (ju (ju (ju (ju (ju M t 1 r2) t 2 r3) t 3 r4) t 4 r5) t 5 r7) t 5 = r7 from (ju_same _ _ _ _)]; rw [← w2_0]; first | (rw [if_pos (by omega)]; exact w7_0) | (rw [if_neg (by omega)]; exact w7_0))⟩, fun b k hb => by rw [ju_c _ _ hb, ju_c _ _ hb, ju_c _ _ hb, ju_c _ _ hb, ju_c _ _ hb, p0], by rw [ju_i _ _ (by decide), ju_i _ _ (by decide), ju_i _ _ (by decide), ju_i _ _ (by decide), ju_i _ _ (by decide), p0]⟩)
  · refine jr.iconst rfl ?_
    refine jr.goto rfl rfl ?_
    refine jr_v rfl rfl (Or.inl rfl) rfl rfl (by decide) rfl ⟨rfl, Nat.le_of_ble_eq_true rfl, Nat.le_of_ble_eq_true rfl⟩ rfl (jc.deep (c_Headers_valueOf_x (CI.u (CI.u (CI.u hC_M (i := 1) k_t (show (-2147483648 : Int) ≤ _ ∧ _ ≤ (2147483647 : Int) from by omega) rfl) (i := 2) k_t (show (-9223372036854775808 : Int) ≤ _ ∧ _ ≤ (9223372036854775807 : Int) from by omega) rfl) (i := 3) k_t (show (-9223372036854775808 : Int) ≤ _ ∧ _ ≤ (9223372036854775807 : Int) from by omega) rfl) (show kd 3 = 18 from rfl) (by omega) (by omega) ((ju_c _ _ (kd_ne (by rw [(show kd 3 = 18 from rfl), k_t]; decide))).trans ((ju_i _ _ (by decide)).trans ((ju_i _ _ (by decide)).trans g_C))) (HS.fr p1 (show kd 3 = 18 from rfl) hC_M (FR.o (FR.o (FR.o (FR.rfl [(15, 1), (15, 2), (15, 3)] M) k_t rfl) k_t rfl) k_t rfl) rfl) (fun r8 z8 w8_0 => ?_)) (by decide))
    refine jr.putf (i := 4) (x := r8) rfl rfl (Nat.lt_trans (kx_15 k_t).1 (by decide)) (kx_15 k_t).2 (by decide) rfl rfl rfl rfl rfl ?_
    refine jr.aload_n rfl rfl ?_
    refine jr.aload_n rfl rfl ?_
    refine jr.iload_n rfl rfl ?_
    refine jr.aload_n rfl rfl ?_
    refine jr.getf (i := 1) (x := r2) (v := .int (Int32.ofInt (r2))) rfl rfl (Nat.lt_trans (kx_15 k_t).1 (by decide)) (kx_15 k_t).2 (by decide) rfl rfl ((ju_i _ _ (by decide)).trans ((ju_i _ _ (by decide)).trans ((ju_i _ _ (by decide)).trans (ju_same _ _ _ _)))) rfl ?_
    refine jr.iconst rfl ?_
    refine jr.icmp_ne rfl rfl (by omega) (by omega) (fun h66 => ?_) (fun h66 => ?_)
    · exact absurd h66 (by omega)
    · refine jr.bipush rfl (by decide) ?_
      refine jr.goto rfl rfl ?_
      refine jr_v rfl rfl (Or.inl rfl) rfl rfl (by decide) rfl ⟨rfl, Nat.le_of_ble_eq_true rfl, Nat.le_of_ble_eq_true rfl⟩ rfl (jc.deep (c_Headers_valueOf_x (CI.u (CI.u (CI.u (CI.u hC_M (i := 1) k_t (show (-2147483648 : Int) ≤ _ ∧ _ ≤ (2147483647 : Int) from by omega) rfl) (i := 2) k_t (show (-9223372036854775808 : Int) ≤ _ ∧ _ ≤ (9223372036854775807 : Int) from by omega) rfl) (i := 3) k_t (show (-9223372036854775808 : Int) ≤ _ ∧ _ ≤ (9223372036854775807 : Int) from by omega) rfl) (i := 4) k_t (show (-9223372036854775808 : Int) ≤ _ ∧ _ ≤ (9223372036854775807 : Int) from by omega) rfl) (show kd 3 = 18 from rfl) (by omega) (by omega) ((ju_i _ _ (by decide)).trans ((ju_c _ _ (kd_ne (by rw [(show kd 3 = 18 from rfl), k_t]; decide))).trans ((ju_i _ _ (by decide)).trans ((ju_i _ _ (by decide)).trans g_C)))) (HS.fr p1 (show kd 3 = 18 from rfl) hC_M (FR.o (FR.o (FR.o (FR.o (FR.rfl [(15, 1), (15, 2), (15, 3), (15, 4)] M) k_t rfl) k_t rfl) k_t rfl) k_t rfl) rfl) (fun r9 z9 w9_0 => ?_)) (by decide))
      refine jr.putf (i := 5) (x := r9) rfl rfl (Nat.lt_trans (kx_15 k_t).1 (by decide)) (kx_15 k_t).2 (by decide) rfl rfl rfl rfl rfl ?_
      exact jr.vreturn rfl rfl (q _ (CI.u (CI.u (CI.u (CI.u (CI.u hC_M (i := 1) k_t (show (-2147483648 : Int) ≤ _ ∧ _ ≤ (2147483647 : Int) from by omega) rfl) (i := 2) k_t (show (-9223372036854775808 : Int) ≤ _ ∧ _ ≤ (9223372036854775807 : Int) from by omega) rfl) (i := 3) k_t (show (-9223372036854775808 : Int) ≤ _ ∧ _ ≤ (9223372036854775807 : Int) from by omega) rfl) (i := 4) k_t (show (-9223372036854775808 : Int) ≤ _ ∧ _ ≤ (9223372036854775807 : Int) from by omega) rfl) (i := 5) k_t (show (-9223372036854775808 : Int) ≤ _ ∧ _ ≤ (9223372036854775807 : Int) from by omega) rfl) (FR.o (FR.o (FR.o (FR.o (FR.o ht_M k_t rfl) k_t rfl) k_t rfl) k_t rfl) k_t rfl)  ⟨⟨(by rw [show (ju (ju (ju (ju (ju M t 1 r2) t 2 r3) t 3 r4) t 4 r8) t 5 r9) t 1 = r2 from ((ju_i _ _ (by decide)).trans ((ju_i _ _ (by decide)).trans ((ju_i _ _ (by decide)).trans ((ju_i _ _ (by decide)).trans (ju_same _ _ _ _)))))]; exact w2_0), (by rw [show (ju (ju (ju (ju (ju M t 1 r2) t 2 r3) t 3 r4) t 4 r8) t 5 r9) t 2 = r3 from ((ju_i _ _ (by decide)).trans ((ju_i _ _ (by decide)).trans ((ju_i _ _ (by decide)).trans (ju_same _ _ _ _))))]; rw [← w1_0]; exact w3_0), (by rw [show (ju (ju (ju (ju (ju M t 1 r2) t 2 r3) t 3 r4) t 4 r8) t 5 r9) t 3 = r4 from ((ju_i _ _ (by decide)).trans ((ju_i _ _ (by decide)).trans (ju_same _ _ _ _)))]; rw [← w1_0]; exact w4_0), (by rw [show (ju (ju (ju (ju (ju M t 1 r2) t 2 r3) t 3 r4) t 4 r8) t 5 r9) t 4 = r8 from ((ju_i _ _ (by decide)).trans (ju_same _ _ _ _))]; exact w8_0), (by rw [show (ju (ju (ju (ju (ju M t 1 r2) t 2 r3) t 3 r4) t 4 r8) t 5 r9) t 5 = r9 from (ju_same _ _ _ _)]; rw [← w2_0]; first | (rw [if_pos (by omega)]; exact w9_0) | (rw [if_neg (by omega)]; exact w9_0))⟩, fun b k hb => by rw [ju_c _ _ hb, ju_c _ _ hb, ju_c _ _ hb, ju_c _ _ hb, ju_c _ _ hb, p0], by rw [ju_i _ _ (by decide), ju_i _ _ (by decide), ju_i _ _ (by decide), ju_i _ _ (by decide), ju_i _ _ (by decide), p0]⟩)
theorem c_Gathering_isNamedLike_x {A : Nat → Option (Nat × (Nat → Int32))} {Q : Option Value → jm → Prop} {M : jm} (hC_M : CI M) {t : Nat} (k_t : kd t = 15) {x : Nat} (k_x : kd x = 15) (q : ∀ (r : Int), 0 ≤ r ∧ r ≤ 1 → ((r = 1 ∧ (M t 1 = M x 1 ∧ M t 2 = M x 2 ∧ M t 3 = M x 3 ∧ M t 4 = M x 4 ∧ M t 5 = M x 5)) ∨ (r = 0 ∧ ¬ (M t 1 = M x 1 ∧ M t 2 = M x 2 ∧ M t 3 = M x 3 ∧ M t 4 = M x 4 ∧ M t 5 = M x 5))) → Q (some (.int (Int32.ofInt r))) M) : jc A 1 94 [.ref (t), .ref (x)] M Q := by
  refine jc_of (m := xm_94) rfl (Nat.le_of_ble_eq_true rfl) rfl ?_
  refine jr.aload_n rfl rfl ?_
  obtain ⟨v1, e1⟩ : ∃ z_, M t 1 = z_ := ⟨_, rfl⟩
  have b1 : (-2147483648) ≤ v1 ∧ v1 ≤ 2147483647 := by rw [← e1]; exact (CI.r hC_M k_t (by decide) 1)
  refine jr.getf (i := 1) (x := v1) (v := .int (Int32.ofInt (v1))) rfl rfl (Nat.lt_trans (kx_15 k_t).1 (by decide)) (kx_15 k_t).2 (by decide) rfl rfl e1 rfl ?_
  refine jr.aload_n rfl rfl ?_
  obtain ⟨v2, e2⟩ : ∃ z_, M x 1 = z_ := ⟨_, rfl⟩
  have b2 : (-2147483648) ≤ v2 ∧ v2 ≤ 2147483647 := by rw [← e2]; exact (CI.r hC_M k_x (by decide) 1)
  refine jr.getf (i := 1) (x := v2) (v := .int (Int32.ofInt (v2))) rfl rfl (Nat.lt_trans (kx_15 k_x).1 (by decide)) (kx_15 k_x).2 (by decide) rfl rfl e2 rfl ?_
  refine jr.icmp_ne rfl rfl (by omega) (by omega) (fun h8 => ?_) (fun h8 => ?_)
  · refine jr.iconst rfl ?_
    exact jr.ireturn rfl rfl rfl (q _ (by omega) (by omega))
  · refine jr.aload_n rfl rfl ?_
    obtain ⟨v3, e3⟩ : ∃ z_, M t 2 = z_ := ⟨_, rfl⟩
    have b3 : (-9223372036854775808) ≤ v3 ∧ v3 ≤ 9223372036854775807 := by rw [← e3]; exact (CI.r hC_M k_t (by decide) 2)
    refine jr.getf (i := 2) (x := v3) (v := .long (Int64.ofInt (v3))) rfl rfl (Nat.lt_trans (kx_15 k_t).1 (by decide)) (kx_15 k_t).2 (by decide) rfl rfl e3 rfl ?_
    refine jr.aload_n rfl rfl ?_
    obtain ⟨v4, e4⟩ : ∃ z_, M x 2 = z_ := ⟨_, rfl⟩
    have b4 : (-9223372036854775808) ≤ v4 ∧ v4 ≤ 9223372036854775807 := by rw [← e4]; exact (CI.r hC_M k_x (by decide) 2)
    refine jr.getf (i := 2) (x := v4) (v := .long (Int64.ofInt (v4))) rfl rfl (Nat.lt_trans (kx_15 k_x).1 (by decide)) (kx_15 k_x).2 (by decide) rfl rfl e4 rfl ?_
    refine jr.lcmp_ne rfl rfl rfl (by omega) (by omega) (fun h19 => ?_) (fun h19 => ?_)
    · refine jr.iconst rfl ?_
      exact jr.ireturn rfl rfl rfl (q _ (by omega) (by omega))
    · refine jr.aload_n rfl rfl ?_
      obtain ⟨v5, e5⟩ : ∃ z_, M t 3 = z_ := ⟨_, rfl⟩
      have b5 : (-9223372036854775808) ≤ v5 ∧ v5 ≤ 9223372036854775807 := by rw [← e5]; exact (CI.r hC_M k_t (by decide) 3)
      refine jr.getf (i := 3) (x := v5) (v := .long (Int64.ofInt (v5))) rfl rfl (Nat.lt_trans (kx_15 k_t).1 (by decide)) (kx_15 k_t).2 (by decide) rfl rfl e5 rfl ?_
      refine jr.aload_n rfl rfl ?_
      obtain ⟨v6, e6⟩ : ∃ z_, M x 3 = z_ := ⟨_, rfl⟩
      have b6 : (-9223372036854775808) ≤ v6 ∧ v6 ≤ 9223372036854775807 := by rw [← e6]; exact (CI.r hC_M k_x (by decide) 3)
      refine jr.getf (i := 3) (x := v6) (v := .long (Int64.ofInt (v6))) rfl rfl (Nat.lt_trans (kx_15 k_x).1 (by decide)) (kx_15 k_x).2 (by decide) rfl rfl e6 rfl ?_
      refine jr.lcmp_ne rfl rfl rfl (by omega) (by omega) (fun h31 => ?_) (fun h31 => ?_)
      · refine jr.iconst rfl ?_
        exact jr.ireturn rfl rfl rfl (q _ (by omega) (by omega))
      · refine jr.aload_n rfl rfl ?_
        obtain ⟨v7, e7⟩ : ∃ z_, M t 4 = z_ := ⟨_, rfl⟩
        have b7 : (-9223372036854775808) ≤ v7 ∧ v7 ≤ 9223372036854775807 := by rw [← e7]; exact (CI.r hC_M k_t (by decide) 4)
        refine jr.getf (i := 4) (x := v7) (v := .long (Int64.ofInt (v7))) rfl rfl (Nat.lt_trans (kx_15 k_t).1 (by decide)) (kx_15 k_t).2 (by decide) rfl rfl e7 rfl ?_
        refine jr.aload_n rfl rfl ?_
        obtain ⟨v8, e8⟩ : ∃ z_, M x 4 = z_ := ⟨_, rfl⟩
        have b8 : (-9223372036854775808) ≤ v8 ∧ v8 ≤ 9223372036854775807 := by rw [← e8]; exact (CI.r hC_M k_x (by decide) 4)
        refine jr.getf (i := 4) (x := v8) (v := .long (Int64.ofInt (v8))) rfl rfl (Nat.lt_trans (kx_15 k_x).1 (by decide)) (kx_15 k_x).2 (by decide) rfl rfl e8 rfl ?_
        refine jr.lcmp_ne rfl rfl rfl (by omega) (by omega) (fun h43 => ?_) (fun h43 => ?_)
        · refine jr.iconst rfl ?_
          exact jr.ireturn rfl rfl rfl (q _ (by omega) (by omega))
        · refine jr.aload_n rfl rfl ?_
          obtain ⟨v9, e9⟩ : ∃ z_, M t 5 = z_ := ⟨_, rfl⟩
          have b9 : (-9223372036854775808) ≤ v9 ∧ v9 ≤ 9223372036854775807 := by rw [← e9]; exact (CI.r hC_M k_t (by decide) 5)
          refine jr.getf (i := 5) (x := v9) (v := .long (Int64.ofInt (v9))) rfl rfl (Nat.lt_trans (kx_15 k_t).1 (by decide)) (kx_15 k_t).2 (by decide) rfl rfl e9 rfl ?_
          refine jr.aload_n rfl rfl ?_
          obtain ⟨v10, e10⟩ : ∃ z_, M x 5 = z_ := ⟨_, rfl⟩
          have b10 : (-9223372036854775808) ≤ v10 ∧ v10 ≤ 9223372036854775807 := by rw [← e10]; exact (CI.r hC_M k_x (by decide) 5)
          refine jr.getf (i := 5) (x := v10) (v := .long (Int64.ofInt (v10))) rfl rfl (Nat.lt_trans (kx_15 k_x).1 (by decide)) (kx_15 k_x).2 (by decide) rfl rfl e10 rfl ?_
          refine jr.lcmp_ne rfl rfl rfl (by omega) (by omega) (fun h55 => ?_) (fun h55 => ?_)
          · refine jr.iconst rfl ?_
            exact jr.ireturn rfl rfl rfl (q _ (by omega) (by omega))
          · refine jr.iconst rfl ?_
            refine jr.goto rfl rfl ?_
            exact jr.ireturn rfl rfl rfl (q _ (by omega) (by omega))
end
