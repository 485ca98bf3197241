/-! ===== the class: track ===== -/
theorem xf0 : ∀ n : Nat, n < 24 → xe 16 (n : Int) = 29 + 16 * n ∧ xe 17 (n : Int) = 37 + 16 * n := by decide +kernel
theorem xfl {V i : Int} (hV : 16 ≤ V ∧ V ≤ 17) (h : 0 ≤ i ∧ i < 24) : (V = 16 ∧ xe V.toNat i = 29 + 16 * i.toNat) ∨ (V = 17 ∧ xe V.toNat i = 37 + 16 * i.toNat) := by
  obtain ⟨n, rfl⟩ := Int.eq_ofNat_of_zero_le h.1
  have q := xf0 n (by omega)
  rcases (show V = 16 ∨ V = 17 by omega) with rfl | rfl
  · exact Or.inl ⟨rfl, q.1⟩
  · exact Or.inr ⟨rfl, q.2⟩
theorem xfl_b {V i : Int} (hV : 16 ≤ V ∧ V ≤ 17) (h : 0 ≤ i ∧ i < 24) : xe V.toNat i ≠ 18 ∧ xe V.toNat i + 1 ≠ 20 ∧ xe V.toNat i ≠ 19 ∧ xe V.toNat i ≠ 20 ∧ xe V.toNat i + 2 ≠ 19 := by
  have q := xfl hV h
  omega
/-- the first place where no flow lives -/
def frF (M : jm) (V : Nat) : Nat → Int → Int
  | 0, _ => -1
  | n + 1, i => if M (xe V i) 0 = 0 then i else frF M V n (i + 1)
theorem frF_s {M : jm} {V : Nat} {i : Int} (h : i < 24) : frF M V (24 - i).toNat i = if M (xe V i) 0 = 0 then i else frF M V (24 - (i + 1)).toNat (i + 1) := by
  obtain ⟨n, hn⟩ : ∃ n : Nat, i = 23 - n := ⟨(23 - i).toNat, by omega⟩
  subst hn
  rw [show (24 - (23 - (n : Int))).toNat = n + 1 by omega, show (24 - (23 - (n : Int) + 1)).toNat = n by omega]
  rfl
def mayF (f : Int → Int) (N C I e : Int) : Prop := (e = 6 → tsS f N C I = 0) ∧ (e = 1 → vA f N C I 0 = 8)
def BEQ (T M : jm) (f : Int → Int) (N C : Int) (V : Nat) (I y r : Int) : Prop := (¬ mayF f N C I (T 18 2) ∧ r = -6 ∧ M = T) ∨ (mayF f N C I (T 18 2) ∧ frF T V 24 0 = -1 ∧ r = -5 ∧ M = T) ∨ (mayF f N C I (T 18 2) ∧ frF T V 24 0 ≠ -1 ∧ r = frF T V 24 0 ∧ ∃ (B : jm) (q : Int), BGN T B (xe V r) ∧ TIQ B M (xe V r) f N C I 0 y q)
def PTQ (T M : jm) (f : Int → Int) (N C F : Int) (V : Nat) (y r : Int) : Prop := (FND T M f N C F 0 ∧ r = -4) ∨ ∃ E : jm, FND T E f N C F 1 ∧ ((E 15 5 ≠ 0 ∧ r = (if feF E V 24 0 = -1 then -6 else feF E V 24 0) ∧ M = E) ∨ (E 15 5 = 0 ∧ feF E V 24 0 = -1 ∧ BEQ E M f N C V (E 15 4) y r) ∨ (E 15 5 = 0 ∧ feF E V 24 0 ≠ -1 ∧ ∃ q : Int, TIQ E M (xe V (feF E V 24 0)) f N C (E 15 4) (sdF E (xe V (feF E V 24 0)) 18) y q ∧ r = (if q = 0 then feF E V 24 0 else q)))
def W_c_Flows_begin_x : List (Nat × Nat) := [(1, 0), (1, 1), (1, 2), (1, 5), (1, 6), (1, 12), (1, 13), (1, 15), (2, 1000), (3, 1000), (4, 1000), (5, 1000), (6, 1000), (7, 1000), (8, 1000)]
theorem c_Flows_begin_x_L63 {A : Nat → Option (Nat × (Nat → Int32))} {Q : Option Value → jm → Prop} {f : Int → Int} {N : Int} {T : jm} {C : Int} {I : Int} {E : Int} {V : Int} {y : Int} (q : ∀ (r : Int) (M' : jm), CI M' → FR W_c_Flows_begin_x T M' → (-6) ≤ r ∧ r ≤ 23 → (BEQ T M' f N C V.toNat I y r) → Q (some (.int (Int32.ofInt r))) M') : ∀ (nM : Nat) (M : jm) (i : Int), CI M → FR W_c_Flows_begin_x T M → 0 ≤ y ∧ y ≤ 2000000000 → 0 ≤ i ∧ i ≤ 24 → M 3 3 = C → M 15 4 = I → M 18 2 = E → M 15 0 = V → (HS M 3 f N) → (frF T V.toNat 24 0 = frF T V.toNat (24 - i).toNat i) → (mayF f N C I (T 18 2)) → (M = T) → ((E = 6 → kA f N C I = 8) ∧ (0 ≤ I ∧ I ≤ 11)) → 24 - i ≤ nM → jr A 5 xm_87 63 [(2, .int (Int32.ofInt (y))), (3, .int (Int32.ofInt (i))), (0, .ref (15)), (1, .ref (3))] [] M Q := by
  intro nM
  induction nM using Nat.strongRecOn with
  | ind nM ih =>
    intro M i hC_M ht_M h_y h_i g_C g_I g_E g_V hy0 hy1 hy2 hy3 hy4 hm
    have b_C : 0 ≤ C ∧ C ≤ 12 := by rw [← g_C]; exact (CI.r hC_M (show kd 3 = 18 from rfl) (by decide) 3)
    have b_I : (-2147483648) ≤ I ∧ I ≤ 2147483647 := by rw [← g_I]; exact (CI.r hC_M (show kd 15 = 9 from rfl) (by decide) 4)
    have b_E : (-2147483648) ≤ E ∧ E ≤ 2147483647 := by rw [← g_E]; exact (CI.r hC_M (show kd 18 = 1 from rfl) (by decide) 2)
    have b_V : 16 ≤ V ∧ V ≤ 17 := by rw [← g_V]; exact (CI.r hC_M (show kd 15 = 9 from rfl) (by decide) 0)
    refine jr.iload_n rfl rfl ?_
    refine jr.bipush rfl (by decide) ?_
    refine jr.icmp_ge rfl rfl (by omega) (by omega) (fun h66 => ?_) (fun h66 => ?_)
    · refine jr.bipush rfl (by decide) ?_
      exact jr.ireturn rfl rfl rfl (q _ _ hC_M ht_M (by omega) (Or.inr (Or.inl ⟨hy2, by rw [hy1, show (24 - i).toNat = 0 from by omega]; rfl, rfl, hy3⟩)))
    · refine jr.aload_n rfl rfl ?_
      have k1 : kd (V).toNat = 13 := by rcases (show V = 16 ∨ V = 17 by omega) with h | h <;> (rw [h]; rfl)
      refine jr.getf (i := 0) (x := V) (v := .ref (V.toNat)) rfl rfl (by decide) rfl (by decide) rfl rfl g_V rfl ?_
      refine jr.iload_n rfl rfl ?_
      have k2 := kxe_13 k1 (i := i) (by omega) (by omega)
      refine jr.aald (c := (xe ((V.toNat)) i)) rfl (Nat.lt_trans (kx_13 k1).1 (by decide)) (kx_13 k1).2 (by decide) (by decide) rfl (by decide) (by omega) (by omega) k2.1 ?_
      obtain ⟨v3, e3⟩ : ∃ z_, M ((xe ((V.toNat)) i)) 0 = z_ := ⟨_, rfl⟩
      have b3 : 0 ≤ v3 ∧ v3 ≤ 1 := by rw [← e3]; exact (CI.r hC_M k2.2 (by decide) 0)
      refine jr.getf (i := 0) (x := v3) (v := .int (Int32.ofInt (v3))) rfl rfl (Nat.lt_trans (kx_1 k2.2).1 (by decide)) (kx_1 k2.2).2 (by decide) rfl rfl e3 rfl ?_
      refine jr.if_ne rfl rfl (by omega) (fun h78 => ?_) (fun h78 => ?_)
      · refine jr.iinc rfl rfl (by decide) rfl ?_
        refine jr.goto rfl rfl ?_
        refine jr.pick [1, 0, 2, 3] rfl rfl ?_
        exact ih (nM - 1) (by omega) M (i + 1) hC_M ht_M (by omega) (by omega) g_C g_I g_E g_V hy0 (by rw [hy1, ← hy3, frF_s (by omega), if_neg (by omega)]) hy2 hy3 hy4 (by omega)
      · refine jr.aload_n rfl rfl ?_
        have k4 : kd (V).toNat = 13 := by rcases (show V = 16 ∨ V = 17 by omega) with h | h <;> (rw [h]; rfl)
        refine jr.getf (i := 0) (x := V) (v := .ref (V.toNat)) rfl rfl (by decide) rfl (by decide) rfl rfl g_V rfl ?_
        refine jr.iload_n rfl rfl ?_
        have k5 := kxe_13 k4 (i := i) (by omega) (by omega)
        refine jr.aald (c := (xe ((V.toNat)) i)) rfl (Nat.lt_trans (kx_13 k4).1 (by decide)) (kx_13 k4).2 (by decide) (by decide) rfl (by decide) (by omega) (by omega) k5.1 ?_
        refine jr.aload_n rfl rfl ?_
        refine jr.getf (i := 2) (v := .ref 18) rfl rfl (by decide) rfl (by decide) rfl rfl rfl rfl ?_
        refine jr_v rfl rfl (Or.inl rfl) rfl rfl (Nat.lt_trans (kx_1 k5.2).1 (by decide)) (kx_1 k5.2).2 ⟨rfl, Nat.le_of_ble_eq_true rfl, Nat.le_of_ble_eq_true rfl⟩ rfl (jc.deep (c_Flow_beginAs_x hC_M (FR.rfl _ M) k5.2 rfl (xfl_b (by omega) (by omega)) (fun M6 hC_M6 hf_M6 w6_0 => ?_)) (by decide))
        have ht_M6 : FR W_c_Flows_begin_x T M6 := FR.t ht_M hf_M6 (kw_sub rfl)
        refine jr.aload_n rfl rfl ?_
        have e7 : M6 15 0 = V := (hf_M6.g (show kd 15 = 9 from rfl) rfl).trans g_V
        have k8 : kd (V).toNat = 13 := by rcases (show V = 16 ∨ V = 17 by omega) with h | h <;> (rw [h]; rfl)
        refine jr.getf (i := 0) (x := V) (v := .ref (V.toNat)) rfl rfl (by decide) rfl (by decide) rfl rfl e7 rfl ?_
        refine jr.iload_n rfl rfl ?_
        have k9 := kxe_13 k8 (i := i) (by omega) (by omega)
        refine jr.aald (c := (xe ((V.toNat)) i)) rfl (Nat.lt_trans (kx_13 k8).1 (by decide)) (kx_13 k8).2 (by decide) (by decide) rfl (by decide) (by omega) (by omega) k9.1 ?_
        refine jr.aload_n rfl rfl ?_
        refine jr.aload_n rfl rfl ?_
        have e10 : M6 15 4 = I := (hf_M6.g (show kd 15 = 9 from rfl) rfl).trans g_I
        refine jr.getf (i := 4) (x := I) (v := .int (Int32.ofInt (I))) rfl rfl (by decide) rfl (by decide) rfl rfl e10 rfl ?_
        refine jr.iconst rfl ?_
        refine jr.iload_n rfl rfl ?_
        have e12 : M6 3 3 = C := (hf_M6.g (show kd 3 = 18 from rfl) rfl).trans g_C
        obtain ⟨v13, e13⟩ : ∃ z_, M 3 7 = z_ := ⟨_, rfl⟩
        have b13 : 0 ≤ v13 ∧ v13 ≤ 597 := by rw [← e13]; exact (CI.r hC_M (show kd 3 = 18 from rfl) (by decide) 7)
        have e14 : M6 3 7 = v13 := (hf_M6.g (show kd 3 = 18 from rfl) rfl).trans e13
        have k11_S : kd (v13).toNat = 33 := (congrArg (fun z : Int => kd z.toNat) e14).symm.trans (CI.x hC_M6 (show kd 3 = 18 from rfl) 7 rfl (by decide))
        obtain ⟨v15, e15⟩ : ∃ z_, M ((v13.toNat)) 1 = z_ := ⟨_, rfl⟩
        have b15 : (-1) ≤ v15 ∧ v15 ≤ 400 := by rw [← e15]; exact (CI.r hC_M k11_S (by decide) 1)
        have e16 : M6 ((v13.toNat)) 1 = v15 := (hf_M6.g k11_S rfl).trans e15
        refine jr_v rfl rfl (Or.inl rfl) rfl rfl (Nat.lt_trans (kx_1 k9.2).1 (by decide)) (kx_1 k9.2).2 ⟨rfl, Nat.le_of_ble_eq_true rfl, Nat.le_of_ble_eq_true rfl⟩ rfl (jc.deep (c_Flow_takeIn_x hC_M6 (FR.rfl _ M6) k9.2 (by omega) (by omega) (by omega) e12 e14 e16 rfl (HS.fr hy0 (show kd 3 = 18 from rfl) hC_M hf_M6 rfl) (by have h9 := w6_0.1.2.2.1; rw [g_E] at h9; rw [h9]; exact (Decidable.em (E = 6)).elim (fun h => Or.inr (hy4.1 h)) (fun h => Or.inl h)) (fun r11 M11 hC_M11 hf_M11 z11 w11_0 => ?_)) (by decide))
        have ht_M11 : FR W_c_Flows_begin_x T M11 := FR.t ht_M6 hf_M11 (kw_sub rfl)
        refine jr.pop rfl rfl ?_
        refine jr.iload_n rfl rfl ?_
        exact jr.ireturn rfl rfl rfl (q _ _ hC_M11 ht_M11 (by omega) (by have hfr : frF T V.toNat 24 0 = i := (by rw [hy1, ← hy3, frF_s (by omega), if_pos (by omega)]); exact Or.inr (Or.inr ⟨hy2, by rw [hfr]; omega, by rw [hfr], M6, _, by rw [← hy3]; exact w6_0, w11_0⟩)))
theorem c_Flows_begin_x {A : Nat → Option (Nat × (Nat → Int32))} {Q : Option Value → jm → Prop} {f : Int → Int} {N : Int} {T : jm} {M : jm} (hC_M : CI M) (ht_M : FR W_c_Flows_begin_x T M) {y : Int} (h_y : 0 ≤ y ∧ y ≤ 2000000000) {C : Int} (g_C : M 3 3 = C) {I : Int} (g_I : M 15 4 = I) {E : Int} (g_E : M 18 2 = E) {V : Int} (g_V : M 15 0 = V) (p0 : T = M) (p1 : HS M 3 f N) (p2 : (E = 6 → kA f N C I = 8) ∧ (0 ≤ I ∧ I ≤ 11)) (q : ∀ (r : Int) (M' : jm), CI M' → FR W_c_Flows_begin_x T M' → (-6) ≤ r ∧ r ≤ 23 → (BEQ T M' f N C V.toNat I y r) → Q (some (.int (Int32.ofInt r))) M') : jc A 6 87 [.ref (15), .ref (3), .int (Int32.ofInt (y))] M Q := by
  refine jc_of (m := xm_87) rfl (Nat.le_of_ble_eq_true rfl) rfl ?_
  have b_C : 0 ≤ C ∧ C ≤ 12 := by rw [← g_C]; exact (CI.r hC_M (show kd 3 = 18 from rfl) (by decide) 3)
  have b_I : (-2147483648) ≤ I ∧ I ≤ 2147483647 := by rw [← g_I]; exact (CI.r hC_M (show kd 15 = 9 from rfl) (by decide) 4)
  have b_E : (-2147483648) ≤ E ∧ E ≤ 2147483647 := by rw [← g_E]; exact (CI.r hC_M (show kd 18 = 1 from rfl) (by decide) 2)
  have b_V : 16 ≤ V ∧ V ≤ 17 := by rw [← g_V]; exact (CI.r hC_M (show kd 15 = 9 from rfl) (by decide) 0)
  refine jr.aload_n rfl rfl ?_
  refine jr.getf (i := 2) (v := .ref 18) rfl rfl (by decide) rfl (by decide) rfl rfl rfl rfl ?_
  refine jr.getf (i := 2) (x := E) (v := .int (Int32.ofInt (E))) rfl rfl (by decide) rfl (by decide) rfl rfl g_E rfl ?_
  refine jr.bipush rfl (by decide) ?_
  refine jr.icmp_ne rfl rfl (by omega) (by omega) (fun h9 => ?_) (fun h9 => ?_)
  · refine jr.aload_n rfl rfl ?_
    refine jr.getf (i := 2) (v := .ref 18) rfl rfl (by decide) rfl (by decide) rfl rfl rfl rfl ?_
    refine jr.getf (i := 2) (x := E) (v := .int (Int32.ofInt (E))) rfl rfl (by decide) rfl (by decide) rfl rfl g_E rfl ?_
    refine jr.iconst rfl ?_
    refine jr.icmp_ne rfl rfl (by omega) (by omega) (fun h39 => ?_) (fun h39 => ?_)
    · refine jr.iconst rfl ?_
      refine jr.istore_n rfl (by decide) rfl ?_
      refine jr.pick [3, 0, 1, 2] rfl rfl ?_
      exact c_Flows_begin_x_L63  q 24 M 0 hC_M ht_M (by omega) (by omega) g_C g_I g_E g_V p1 rfl (by rw [p0, g_E]; exact ⟨(by first | exact (fun h => absurd h (by omega)) | exact (fun h => absurd h (by omega))), (by first | exact (fun h => absurd h (by omega)) | exact (fun h => absurd h (by omega)))⟩) p0.symm p2 (by omega)
    · refine jr.aload_n rfl rfl ?_
      refine jr.aload_n rfl rfl ?_
      refine jr.getf (i := 4) (x := I) (v := .int (Int32.ofInt (I))) rfl rfl (by decide) rfl (by decide) rfl rfl g_I rfl ?_
      refine jr.iconst rfl ?_
      refine jr_v rfl rfl (Or.inl rfl) rfl rfl (by decide) rfl ⟨rfl, Nat.le_of_ble_eq_true rfl, Nat.le_of_ble_eq_true rfl⟩ rfl (jc.deep (c_Headers_valueOf_x hC_M (show kd 3 = 18 from rfl) (by omega) (by omega) g_C p1 (fun r1 z1 w1_0 => ?_)) (by decide))
      skip
      refine jr.ldc2 (x := 8) rfl rfl (by decide) ?_
      refine jr.lcmp_eq rfl rfl rfl (by omega) (by omega) (fun h54 => ?_) (fun h54 => ?_)
      · refine jr.iconst rfl ?_
        refine jr.istore_n rfl (by decide) rfl ?_
        refine jr.pick [3, 0, 1, 2] rfl rfl ?_
        exact c_Flows_begin_x_L63  q 24 M 0 hC_M ht_M (by omega) (by omega) g_C g_I g_E g_V p1 rfl (by rw [p0, g_E]; exact ⟨(by first | exact (fun h => absurd h (by omega)) | exact (fun h => absurd h (by omega))), (by first | exact (fun h => absurd h (by omega)) | exact (fun h => by rw [← w1_0]; omega))⟩) p0.symm p2 (by omega)
      · refine jr.bipush rfl (by decide) ?_
        exact jr.ireturn rfl rfl rfl (q _ _ hC_M ht_M (by omega) (by rw [p0]; exact Or.inl ⟨(fun h => by have h1 := h.2; rw [g_E] at h1; have h2 := h1 (by omega); rw [← w1_0] at h2; omega), rfl, rfl⟩))
  · refine jr.aload_n rfl rfl ?_
    refine jr.aload_n rfl rfl ?_
    refine jr.getf (i := 4) (x := I) (v := .int (Int32.ofInt (I))) rfl rfl (by decide) rfl (by decide) rfl rfl g_I rfl ?_
    refine jr.iconst rfl ?_
    refine jr_v rfl rfl (Or.inl rfl) rfl rfl (by decide) rfl ⟨rfl, Nat.le_of_ble_eq_true rfl, Nat.le_of_ble_eq_true rfl⟩ rfl (jc.deep (c_Headers_valueOf_x hC_M (show kd 3 = 18 from rfl) (by omega) (by omega) g_C p1 (fun r2 z2 w2_0 => ?_)) (by decide))
    have hv2 : 0 ≤ r2 ∧ r2 ≤ 255 := (by have h9 := (st_v (p2.1 (by omega))).1; rw [← w2_0] at h9; exact h9)
    refine jr.l2i rfl ?_
    refine jr_s rfl rfl (Or.inl rfl) ⟨Nat.le_of_ble_eq_true rfl, Nat.le_of_ble_eq_true rfl⟩ rfl rfl (jc.deep (c_Flow_streamClass_x hC_M (by omega) (fun r3 z3 w3_0 => ?_)) (by decide))
    skip
    refine jr.if_eq rfl rfl (by omega) (fun h25 => ?_) (fun h25 => ?_)
    · refine jr.aload_n rfl rfl ?_
      refine jr.getf (i := 2) (v := .ref 18) rfl rfl (by decide) rfl (by decide) rfl rfl rfl rfl ?_
      refine jr.getf (i := 2) (x := E) (v := .int (Int32.ofInt (E))) rfl rfl (by decide) rfl (by decide) rfl rfl g_E rfl ?_
      refine jr.iconst rfl ?_
      refine jr.icmp_ne rfl rfl (by omega) (by omega) (fun h39 => ?_) (fun h39 => ?_)
      · refine jr.iconst rfl ?_
        refine jr.istore_n rfl (by decide) rfl ?_
        refine jr.pick [3, 0, 1, 2] rfl rfl ?_
        exact c_Flows_begin_x_L63  q 24 M 0 hC_M ht_M (by omega) (by omega) g_C g_I g_E g_V p1 rfl (by rw [p0, g_E]; exact ⟨(by first | exact (fun h => absurd h (by omega)) | exact (fun h => by unfold tsS; rw [← w2_0, ← w3_0]; omega)), (by first | exact (fun h => absurd h (by omega)) | exact (fun h => absurd h (by omega)))⟩) p0.symm p2 (by omega)
      · exact absurd (by omega) h39
    · refine jr.bipush rfl (by decide) ?_
      exact jr.ireturn rfl rfl rfl (q _ _ hC_M ht_M (by omega) (by rw [p0]; exact Or.inl ⟨(fun h => by have h1 := h.1; rw [g_E] at h1; have h2 := h1 (by omega); unfold tsS at h2; rw [← w2_0, ← w3_0] at h2; omega), rfl, rfl⟩))
theorem FND.k {T E : jm} {f : Int → Int} {N C F : Int} (h : FND T E f N C F 1) (h5 : E 15 5 = 0) : (0 ≤ E 15 4 ∧ E 15 4 < C) ∧ E 18 2 = nxk (kA f N C (E 15 4)) ∧ (7 ≤ kA f N C (E 15 4) ∧ kA f N C (E 15 4) ≤ 9) := by
  rcases h with h | h
  · exact absurd h.2.1 (by decide)
  · obtain ⟨h1, -, -, h3, h4⟩ := h
    rcases h4 with h4 | h4
    · exact absurd (h4.2.1.symm.trans h5) (by decide)
    · rw [h3.2]
      refine ⟨kA_in (f := f) (N := N) (C := C) (by have := h1.2.2.2; omega), h4.2.2.1.2, h1.2.2.2⟩
theorem FND.s {T E : jm} {f : Int → Int} {N C F : Int} (h : FND T E f N C F 1) (h5 : E 15 5 = 0) : E 18 2 = 6 → kA f N C (E 15 4) = 8 := by
  have q := FND.k h h5
  intro h6
  rw [q.2.1] at h6
  unfold nxk at h6
  split at h6
  · omega
  · split at h6 <;> omega
theorem feF_r (M : jm) (V : Nat) : ∀ (n : Nat) (i : Int), 0 ≤ i → feF M V n i = -1 ∨ ((i ≤ feF M V n i ∧ feF M V n i < i + n) ∧ sdF M (xe V (feF M V n i)) 18 ≠ -1) := by
  intro n
  induction n with
  | zero => intro i _; exact Or.inl rfl
  | succ n ih =>
    intro i hi
    unfold feF
    by_cases h : sdF M (xe V i) 18 ≠ -1
    · rw [if_pos h]; exact Or.inr ⟨by omega, h⟩
    · rw [if_neg h]
      rcases ih (i + 1) (by omega) with q | q
      · exact Or.inl q
      · exact Or.inr ⟨by omega, q.2⟩
theorem frF_r (M : jm) (V : Nat) : ∀ (n : Nat) (i : Int), 0 ≤ i → frF M V n i = -1 ∨ ((i ≤ frF M V n i ∧ frF M V n i < i + n) ∧ M (xe V (frF M V n i)) 0 = 0) := by
  intro n
  induction n with
  | zero => intro i _; exact Or.inl rfl
  | succ n ih =>
    intro i hi
    unfold frF
    by_cases h : M (xe V i) 0 = 0
    · rw [if_pos h]; exact Or.inr ⟨by omega, h⟩
    · rw [if_neg h]
      rcases ih (i + 1) (by omega) with q | q
      · exact Or.inl q
      · exact Or.inr ⟨by omega, q.2⟩
def W_c_Flows_passThrough_x : List (Nat × Nat) := [(1, 0), (1, 1), (1, 2), (1, 5), (1, 6), (1, 12), (1, 13), (1, 15), (2, 1000), (3, 1000), (4, 1000), (5, 1000), (6, 1000), (7, 1000), (8, 1000), (9, 3), (9, 4), (9, 5)]
theorem c_Flows_passThrough_x {A : Nat → Option (Nat × (Nat → Int32))} {Q : Option Value → jm → Prop} {f : Int → Int} {N : Int} {T : jm} {M : jm} (hC_M : CI M) (ht_M : FR W_c_Flows_passThrough_x T M) {y : Int} (h_y : 0 ≤ y ∧ y ≤ 2000000000) {C : Int} (g_C : M 3 3 = C) {F : Int} (g_F : M 3 4 = F) {V : Int} (g_V : M 15 0 = V) (p0 : T = M) (p1 : HS M 3 f N) (q : ∀ (r : Int) (M' : jm), CI M' → FR W_c_Flows_passThrough_x T M' → (-8) ≤ r ∧ r ≤ 23 → (PTQ T M' f N C F V.toNat y r) → Q (some (.int (Int32.ofInt r))) M') : jc A 7 79 [.ref (15), .ref (3), .int (Int32.ofInt (y))] M Q := by
  refine jc_of (m := xm_79) rfl (Nat.le_of_ble_eq_true rfl) rfl ?_
  have b_C : 0 ≤ C ∧ C ≤ 12 := by rw [← g_C]; exact (CI.r hC_M (show kd 3 = 18 from rfl) (by decide) 3)
  have b_F : (-2147483648) ≤ F ∧ F ≤ 2147483647 := by rw [← g_F]; exact (CI.r hC_M (show kd 3 = 18 from rfl) (by decide) 4)
  have b_V : 16 ≤ V ∧ V ≤ 17 := by rw [← g_V]; exact (CI.r hC_M (show kd 15 = 9 from rfl) (by decide) 0)
  refine jr.aload_n rfl rfl ?_
  refine jr.aload_n rfl rfl ?_
  refine jr_v rfl rfl (Or.inl rfl) rfl rfl (by decide) rfl ⟨rfl, Nat.le_of_ble_eq_true rfl, Nat.le_of_ble_eq_true rfl⟩ rfl (jc.deep (c_Flows_findEnds_x hC_M (FR.rfl _ M)  g_C g_F rfl p1 (fun r1 M1 hC_M1 hf_M1 z1 w1_0 => ?_)) (by decide))
  have ht_M1 : FR W_c_Flows_passThrough_x T M1 := FR.t ht_M hf_M1 (kw_sub rfl)
  refine jr.if_ne rfl rfl (by omega) (fun h5 => ?_) (fun h5 => ?_)
  · refine jr.aload_n rfl rfl ?_
    have e3 : M1 15 0 = V := (hf_M1.g (show kd 15 = 9 from rfl) rfl).trans g_V
    refine jr_v rfl rfl (Or.inl rfl) rfl rfl (by decide) rfl ⟨rfl, Nat.le_of_ble_eq_true rfl, Nat.le_of_ble_eq_true rfl⟩ rfl (jc.deep (c_Flows_flowOfEnds_x hC_M1  e3 (fun r2 z2 w2_0 => ?_)) (by decide))
    have hfr := feF_r M1 V.toNat 24 0 (by decide)
    rw [← w2_0] at hfr
    refine jr.istore_n rfl (by decide) rfl ?_
    refine jr.aload_n rfl rfl ?_
    obtain ⟨v4, e4⟩ : ∃ z_, M1 15 5 = z_ := ⟨_, rfl⟩
    have b4 : 0 ≤ v4 ∧ v4 ≤ 1 := by rw [← e4]; exact (CI.r hC_M1 (show kd 15 = 9 from rfl) (by decide) 5)
    refine jr.getf (i := 5) (x := v4) (v := .int (Int32.ofInt (v4))) rfl rfl (by decide) rfl (by decide) rfl rfl e4 rfl ?_
    refine jr.if_eq rfl rfl (by omega) (fun h20 => ?_) (fun h20 => ?_)
    · refine jr.iload_n rfl rfl ?_
      refine jr.iconst rfl ?_
      refine jr.icmp_ne rfl rfl (by omega) (by omega) (fun h37 => ?_) (fun h37 => ?_)
      · refine jr.aload_n rfl rfl ?_
        have k5 : kd (V).toNat = 13 := by rcases (show V = 16 ∨ V = 17 by omega) with h | h <;> (rw [h]; rfl)
        refine jr.getf (i := 0) (x := V) (v := .ref (V.toNat)) rfl rfl (by decide) rfl (by decide) rfl rfl e3 rfl ?_
        refine jr.iload_n rfl rfl ?_
        have k6 := kxe_13 k5 (i := r2) (by omega) (by omega)
        refine jr.aald (c := (xe ((V.toNat)) r2)) rfl (Nat.lt_trans (kx_13 k5).1 (by decide)) (kx_13 k5).2 (by decide) (by decide) rfl (by decide) (by omega) (by omega) k6.1 ?_
        refine jr.aload_n rfl rfl ?_
        refine jr.aload_n rfl rfl ?_
        obtain ⟨v7, e7⟩ : ∃ z_, M1 15 4 = z_ := ⟨_, rfl⟩
        have b7 : (-2147483648) ≤ v7 ∧ v7 ≤ 2147483647 := by rw [← e7]; exact (CI.r hC_M1 (show kd 15 = 9 from rfl) (by decide) 4)
        refine jr.getf (i := 4) (x := v7) (v := .int (Int32.ofInt (v7))) rfl rfl (by decide) rfl (by decide) rfl rfl e7 rfl ?_
        refine jr.aload_n rfl rfl ?_
        have k8 : kd (V).toNat = 13 := by rcases (show V = 16 ∨ V = 17 by omega) with h | h <;> (rw [h]; rfl)
        refine jr.getf (i := 0) (x := V) (v := .ref (V.toNat)) rfl rfl (by decide) rfl (by decide) rfl rfl e3 rfl ?_
        refine jr.iload_n rfl rfl ?_
        have k9 := kxe_13 k8 (i := r2) (by omega) (by omega)
        refine jr.aald (c := (xe ((V.toNat)) r2)) rfl (Nat.lt_trans (kx_13 k8).1 (by decide)) (kx_13 k8).2 (by decide) (by decide) rfl (by decide) (by omega) (by omega) k9.1 ?_
        refine jr.aload_n rfl rfl ?_
        refine jr.getf (i := 2) (v := .ref 18) rfl rfl (by decide) rfl (by decide) rfl rfl rfl rfl ?_
        refine jr_v rfl rfl (Or.inl rfl) rfl rfl (Nat.lt_trans (kx_1 k9.2).1 (by decide)) (kx_1 k9.2).2 ⟨rfl, Nat.le_of_ble_eq_true rfl, Nat.le_of_ble_eq_true rfl⟩ rfl (jc.deep (c_Flow_sideOf_x hC_M1 k9.2 (show kd 18 = 1 from rfl) (fun r10 z10 w10_0 => ?_)) (by decide))
        have hsd : 0 ≤ r10 ∧ r10 ≤ 1 := (by have h9 := (hfr.resolve_left (by omega)).2; rw [← w10_0] at h9; omega)
        have hin : 0 ≤ v7 ∧ v7 ≤ 11 := (by have h7 := (FND.k (show FND M M1 f N C F 1 from by have h9 := w1_0; rw [show r1 = 1 from by omega] at h9; exact h9) (by rw [e4]; omega)).1; rw [e7] at h7; omega)
        refine jr.iload_n rfl rfl ?_
        have e12 : M1 3 3 = C := (hf_M1.g (show kd 3 = 18 from rfl) rfl).trans g_C
        obtain ⟨v13, e13⟩ : ∃ z_, M 3 7 = z_ := ⟨_, rfl⟩
        have b13 : 0 ≤ v13 ∧ v13 ≤ 597 := by rw [← e13]; exact (CI.r hC_M (show kd 3 = 18 from rfl) (by decide) 7)
        have e14 : M1 3 7 = v13 := (hf_M1.g (show kd 3 = 18 from rfl) rfl).trans e13
        have k11_S : kd (v13).toNat = 33 := (congrArg (fun z : Int => kd z.toNat) e14).symm.trans (CI.x hC_M1 (show kd 3 = 18 from rfl) 7 rfl (by decide))
        obtain ⟨v15, e15⟩ : ∃ z_, M ((v13.toNat)) 1 = z_ := ⟨_, rfl⟩
        have b15 : (-1) ≤ v15 ∧ v15 ≤ 400 := by rw [← e15]; exact (CI.r hC_M k11_S (by decide) 1)
        have e16 : M1 ((v13.toNat)) 1 = v15 := (hf_M1.g k11_S rfl).trans e15
        refine jr_v rfl rfl (Or.inl rfl) rfl rfl (Nat.lt_trans (kx_1 k6.2).1 (by decide)) (kx_1 k6.2).2 ⟨rfl, Nat.le_of_ble_eq_true rfl, Nat.le_of_ble_eq_true rfl⟩ rfl (jc.deep (c_Flow_takeIn_x hC_M1 (FR.rfl _ M1) k6.2 (by omega) (by omega) (by omega) e12 e14 e16 rfl (HS.fr p1 (show kd 3 = 18 from rfl) hC_M hf_M1 rfl) (by have h8 := FND.s (show FND M M1 f N C F 1 from by have h9 := w1_0; rw [show r1 = 1 from by omega] at h9; exact h9) (by rw [e4]; omega); have h6 := (hfr.resolve_left (by omega)).2; have h5 := sd_r M1 (xe V.toNat r2) 18; rw [e7] at h8; omega) (fun r11 M11 hC_M11 hf_M11 z11 w11_0 => ?_)) (by decide))
        have ht_M11 : FR W_c_Flows_passThrough_x T M11 := FR.t ht_M1 hf_M11 (kw_sub rfl)
        refine jr.istore rfl (by decide) rfl ?_
        refine jr.iload rfl rfl ?_
        refine jr.if_ne rfl rfl (by omega) (fun h79 => ?_) (fun h79 => ?_)
        · refine jr.iload rfl rfl ?_
          exact jr.ireturn rfl rfl rfl (q _ _ hC_M11 ht_M11 (by omega) (by rw [p0]; exact (by have hf := w2_0; exact Or.inr ⟨M1, (by have h9 := w1_0; rw [show r1 = 1 from by omega] at h9; exact h9), Or.inr (Or.inr ⟨by rw [e4]; omega, by rw [← hf]; omega, _, by rw [← hf, ← w10_0, e7]; exact w11_0, by rw [← hf]; first | (rw [if_pos (by omega)]) | (rw [if_neg (by omega)])⟩)⟩)))
        · refine jr.iload_n rfl rfl ?_
          refine jr.goto rfl rfl ?_
          exact jr.ireturn rfl rfl rfl (q _ _ hC_M11 ht_M11 (by omega) (by rw [p0]; exact (by have hf := w2_0; exact Or.inr ⟨M1, (by have h9 := w1_0; rw [show r1 = 1 from by omega] at h9; exact h9), Or.inr (Or.inr ⟨by rw [e4]; omega, by rw [← hf]; omega, _, by rw [← hf, ← w10_0, e7]; exact w11_0, by rw [← hf]; first | (rw [if_pos (by omega)]) | (rw [if_neg (by omega)])⟩)⟩)))
      · refine jr.aload_n rfl rfl ?_
        refine jr.aload_n rfl rfl ?_
        refine jr.iload_n rfl rfl ?_
        have e18 : M1 3 3 = C := (hf_M1.g (show kd 3 = 18 from rfl) rfl).trans g_C
        obtain ⟨v19, e19⟩ : ∃ z_, M1 15 4 = z_ := ⟨_, rfl⟩
        have b19 : (-2147483648) ≤ v19 ∧ v19 ≤ 2147483647 := by rw [← e19]; exact (CI.r hC_M1 (show kd 15 = 9 from rfl) (by decide) 4)
        obtain ⟨v20, e20⟩ : ∃ z_, M1 18 2 = z_ := ⟨_, rfl⟩
        have b20 : (-2147483648) ≤ v20 ∧ v20 ≤ 2147483647 := by rw [← e20]; exact (CI.r hC_M1 (show kd 18 = 1 from rfl) (by decide) 2)
        refine jr_v rfl rfl (Or.inl rfl) rfl rfl (by decide) rfl ⟨rfl, Nat.le_of_ble_eq_true rfl, Nat.le_of_ble_eq_true rfl⟩ rfl (jc.deep (c_Flows_begin_x hC_M1 (FR.rfl _ M1) (by omega) e18 e19 e20 e3 rfl (HS.fr p1 (show kd 3 = 18 from rfl) hC_M hf_M1 rfl) (by have h8 := FND.s (show FND M M1 f N C F 1 from by have h9 := w1_0; rw [show r1 = 1 from by omega] at h9; exact h9) (by rw [e4]; omega); have h7 := (FND.k (show FND M M1 f N C F 1 from by have h9 := w1_0; rw [show r1 = 1 from by omega] at h9; exact h9) (by rw [e4]; omega)).1; rw [e20, e19] at h8; rw [e19] at h7; exact ⟨h8, by omega, by omega⟩) (fun r17 M17 hC_M17 hf_M17 z17 w17_0 => ?_)) (by decide))
        have ht_M17 : FR W_c_Flows_passThrough_x T M17 := FR.t ht_M1 hf_M17 (kw_sub rfl)
        exact jr.ireturn rfl rfl rfl (q _ _ hC_M17 ht_M17 (by omega) (by rw [p0]; exact (by have hf := w2_0; exact Or.inr ⟨M1, (by have h9 := w1_0; rw [show r1 = 1 from by omega] at h9; exact h9), Or.inr (Or.inl ⟨by rw [e4]; omega, by rw [← hf]; omega, by rw [e19]; exact w17_0⟩)⟩)))
    · refine jr.iload_n rfl rfl ?_
      refine jr.iconst rfl ?_
      refine jr.icmp_ne rfl rfl (by omega) (by omega) (fun h25 => ?_) (fun h25 => ?_)
      · refine jr.iload_n rfl rfl ?_
        exact jr.ireturn rfl rfl rfl (q _ _ hC_M1 ht_M1 (by omega) (by rw [p0]; exact (by have hf := w2_0; exact Or.inr ⟨M1, (by have h9 := w1_0; rw [show r1 = 1 from by omega] at h9; exact h9), Or.inl ⟨by rw [e4]; omega, by rw [← hf]; first | (rw [if_pos (by omega)]) | (rw [if_neg (by omega)]), rfl⟩⟩)))
      · refine jr.bipush rfl (by decide) ?_
        refine jr.goto rfl rfl ?_
        exact jr.ireturn rfl rfl rfl (q _ _ hC_M1 ht_M1 (by omega) (by rw [p0]; exact (by have hf := w2_0; exact Or.inr ⟨M1, (by have h9 := w1_0; rw [show r1 = 1 from by omega] at h9; exact h9), Or.inl ⟨by rw [e4]; omega, by rw [← hf]; first | (rw [if_pos (by omega)]) | (rw [if_neg (by omega)]), rfl⟩⟩)))
  · refine jr.bipush rfl (by decide) ?_
    exact jr.ireturn rfl rfl rfl (q _ _ hC_M1 ht_M1 (by omega) (by rw [p0]; exact (Or.inl ⟨by have h9 := w1_0; rw [show r1 = 0 from by omega] at h9; exact h9, rfl⟩)))
def W_c_PacketWall_track_x : List (Nat × Nat) := [(1, 0), (1, 1), (1, 2), (1, 5), (1, 6), (1, 12), (1, 13), (1, 15), (2, 1000), (3, 1000), (4, 1000), (5, 1000), (6, 1000), (7, 1000), (8, 1000), (9, 3), (9, 4), (9, 5), (18, 3), (18, 4), (18, 5), (18, 6), (18, 7), (19, 1000), (20, 1000), (21, 1000)]
theorem c_PacketWall_track_x {A : Nat → Option (Nat × (Nat → Int32))} {Q : Option Value → jm → Prop} {F : Int → Int → Int} {T : jm} {M : jm} (hC_M : CI M) (ht_M : FR W_c_PacketWall_track_x T M) {x : Int} (h_x : (-2147483648) ≤ x ∧ x ≤ 2147483647) {Z : Int} (g_Z : M 0 8 = Z) {V : Int} (g_V : M 15 0 = V) (p0 : T = M) (p1 : PBS M F) (p2 : 0 ≤ Z ∧ Z ≤ 2000000000) (q : ∀ (r : Int) (M' : jm), CI M' → FR W_c_PacketWall_track_x T M' → (-8) ≤ r ∧ r ≤ 23 → (((x < 0 ∨ 23 < x ∨ T (xe 2 x) 1 = -1) ∧ r = -2 ∧ M' = T) ∨ (((0 ≤ x ∧ x ≤ 23) ∧ T (xe 2 x) 1 ≠ -1) ∧ ∃ (C : Int) (H : jm), HE (F x) (T (xe 2 x) 1) C ∧ (H 3 4 = 0 ↔ hX (F x) (T (xe 2 x) 1) C = -1) ∧ FR W_c_Headers_readAll_x T H ∧ PTQ H M' (F x) (T (xe 2 x) 1) C (H 3 4) V.toNat Z r)) → Q (some (.int (Int32.ofInt r))) M') : jc A 8 19 [.ref (0), .int (Int32.ofInt (x))] M Q := by
  refine jc_of (m := xm_19) rfl (Nat.le_of_ble_eq_true rfl) rfl ?_
  have b_Z : (-2147483648) ≤ Z ∧ Z ≤ 2147483647 := by rw [← g_Z]; exact (CI.r hC_M (show kd 0 = 35 from rfl) (by decide) 8)
  have b_V : 16 ≤ V ∧ V ≤ 17 := by rw [← g_V]; exact (CI.r hC_M (show kd 15 = 9 from rfl) (by decide) 0)
  refine jr.aload_n rfl rfl ?_
  refine jr.iload_n rfl rfl ?_
  refine jr_v rfl rfl (Or.inl rfl) rfl rfl (by decide) rfl ⟨rfl, Nat.le_of_ble_eq_true rfl, Nat.le_of_ble_eq_true rfl⟩ rfl (jc.deep (c_PacketWall_isPacket_x hC_M (by omega) (fun r1 z1 w1_0 w1_1 => ?_)) (by decide))
  refine jr.if_ne rfl rfl (by omega) (fun h5 => ?_) (fun h5 => ?_)
  · refine jr.aload_n rfl rfl ?_
    refine jr.getf (i := 3) (v := .ref 3) rfl rfl (by decide) rfl (by decide) rfl rfl rfl rfl ?_
    refine jr.aload_n rfl rfl ?_
    refine jr.getf (i := 2) (v := .ref 2) rfl rfl (by decide) rfl (by decide) rfl rfl rfl rfl ?_
    refine jr.iload_n rfl rfl ?_
    have k2 := kxe_42 (a := 2) rfl (i := x) (by omega) (by omega)
    refine jr.aald (c := (xe 2 x)) rfl (by decide) rfl (by decide) (by decide) rfl (by decide) (by omega) (by omega) k2.1 ?_
    obtain ⟨v4, e4⟩ : ∃ z_, M ((xe 2 x)) 1 = z_ := ⟨_, rfl⟩
    have b4 : (-1) ≤ v4 ∧ v4 ≤ 400 := by rw [← e4]; exact (CI.r hC_M k2.2 (by decide) 1)
    refine jr_v rfl rfl (Or.inl rfl) rfl rfl (by decide) rfl ⟨rfl, Nat.le_of_ble_eq_true rfl, Nat.le_of_ble_eq_true rfl⟩ rfl (jc.deep (c_Headers_readAll_x hC_M (FR.rfl _ M) (show kd 3 = 18 from rfl) k2.2 e4 (p1 x (by omega) (by omega)) (fun M3 hC_M3 hf_M3 w3_0 w3_1 w3_2 => ?_)) (by decide))
    have ht_M3 : FR W_c_PacketWall_track_x T M3 := FR.t ht_M hf_M3 (kw_sub rfl)
    refine jr.aload_n rfl rfl ?_
    refine jr.getf (i := 9) (v := .ref 15) rfl rfl (by decide) rfl (by decide) rfl rfl rfl rfl ?_
    refine jr.aload_n rfl rfl ?_
    refine jr.getf (i := 3) (v := .ref 3) rfl rfl (by decide) rfl (by decide) rfl rfl rfl rfl ?_
    refine jr.aload_n rfl rfl ?_
    have e5 : M3 0 8 = Z := (hf_M3.g (show kd 0 = 35 from rfl) rfl).trans g_Z
    refine jr.getf (i := 8) (x := Z) (v := .int (Int32.ofInt (Z))) rfl rfl (by decide) rfl (by decide) rfl rfl e5 rfl ?_
    obtain ⟨v7, e7⟩ : ∃ z_, M3 3 3 = z_ := ⟨_, rfl⟩
    have b7 : 0 ≤ v7 ∧ v7 ≤ 12 := by rw [← e7]; exact (CI.r hC_M3 (show kd 3 = 18 from rfl) (by decide) 3)
    obtain ⟨v8, e8⟩ : ∃ z_, M3 3 4 = z_ := ⟨_, rfl⟩
    have b8 : (-2147483648) ≤ v8 ∧ v8 ≤ 2147483647 := by rw [← e8]; exact (CI.r hC_M3 (show kd 3 = 18 from rfl) (by decide) 4)
    have e9 : M3 15 0 = V := (hf_M3.g (show kd 15 = 9 from rfl) rfl).trans g_V
    refine jr_v rfl rfl (Or.inl rfl) rfl rfl (by decide) rfl ⟨rfl, Nat.le_of_ble_eq_true rfl, Nat.le_of_ble_eq_true rfl⟩ rfl (jc.deep (c_Flows_passThrough_x hC_M3 (FR.rfl _ M3) (by omega) e7 e8 e9 rfl ((w3_1.resolve_left (fun h => by omega)).2) (fun r6 M6 hC_M6 hf_M6 z6 w6_0 => ?_)) (by decide))
    have ht_M6 : FR W_c_PacketWall_track_x T M6 := FR.t ht_M3 hf_M6 (kw_sub rfl)
    exact jr.ireturn rfl rfl rfl (q _ _ hC_M6 ht_M6 (by omega) (Or.inr ⟨by rw [p0]; omega, by rw [p0, e4]; exact ⟨v7, M3, (by have hq := HQ.e ((w3_1.resolve_left (fun h => by omega)).2).2.2.2; rw [e7] at hq; exact hq), ⟨fun h => hxc_z ((w3_1.resolve_left (fun h => by omega)).2) e7 h, fun h => Decidable.byContradiction (fun u => hxc_n ((w3_1.resolve_left (fun h => by omega)).2) e7 u h)⟩, hf_M3, by rw [e8]; exact w6_0⟩⟩))
  · refine jr.bipush rfl (by decide) ?_
    exact jr.ireturn rfl rfl rfl (q _ _ hC_M ht_M (by omega) (Or.inl ⟨by rw [p0]; omega, by omega, p0.symm⟩))
