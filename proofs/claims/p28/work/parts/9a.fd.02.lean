section
theorem c_Flows_flowOfEnds_x_L2 {A : Nat → Option (Nat × (Nat → Int32))} {Q : Option Value → jm → Prop} {M : jm} (hC_M : CI M) {V : Int} (q : ∀ (r : Int), (-1) ≤ r ∧ r ≤ 23 → (r = feF M V.toNat 24 0) → Q (some (.int (Int32.ofInt r))) M) : ∀ (nM : Nat) (i : Int), 0 ≤ i ∧ i ≤ 24 → M 15 0 = V → (feF M V.toNat 24 0 = feF M V.toNat (24 - i).toNat i) → 24 - i ≤ nM → jr A 2 xm_88 2 [(1, .int (Int32.ofInt (i))), (0, .ref (15))] [] M Q := by
  intro nM
  induction nM using Nat.strongRecOn with
  | ind nM ih =>
    intro i h_i g_V hy0 hm
    have b_V : 16 ≤ V ∧ V ≤ 17 := by rw [← g_V]; exact (CI.r hC_M (show kd 15 = 9 from rfl) (by decide) 0)
    refine jr.iload_n rfl rfl ?_
    refine jr.bipush rfl (by decide) ?_
    refine jr.icmp_ge rfl rfl (by omega) (by omega) (fun h5 => ?_) (fun h5 => ?_)
    · refine jr.iconst rfl ?_
      exact jr.ireturn rfl rfl rfl (q _ (by omega) (by rw [hy0, show (24 - i).toNat = 0 from by omega]; rfl))
    · refine jr.aload_n rfl rfl ?_
      have k1 : kd (V).toNat = 13 := by rcases (show V = 16 ∨ V = 17 by omega) with h | h <;> (rw [h]; rfl)
      refine jr.getf (i := 0) (x := V) (v := .ref (V.toNat)) rfl rfl (by decide) rfl (by decide) rfl rfl g_V rfl ?_
      refine jr.iload_n rfl rfl ?_
      have k2 := kxe_13 k1 (i := i) (by omega) (by omega)
      refine jr.aald (c := (xe ((V.toNat)) i)) rfl (Nat.lt_trans (kx_13 k1).1 (by decide)) (kx_13 k1).2 (by decide) (by decide) rfl (by decide) (by omega) (by omega) k2.1 ?_
      refine jr.aload_n rfl rfl ?_
      refine jr.getf (i := 2) (v := .ref 18) rfl rfl (by decide) rfl (by decide) rfl rfl rfl rfl ?_
      refine jr_v rfl rfl (Or.inl rfl) rfl rfl (Nat.lt_trans (kx_1 k2.2).1 (by decide)) (kx_1 k2.2).2 ⟨rfl, Nat.le_of_ble_eq_true rfl, Nat.le_of_ble_eq_true rfl⟩ rfl (jc.deep (c_Flow_sideOf_x hC_M k2.2 (show kd 18 = 1 from rfl) (fun r3 z3 w3_0 => ?_)) (by decide))
      refine jr.iconst rfl ?_
      refine jr.icmp_eq rfl rfl (by omega) (by omega) (fun h22 => ?_) (fun h22 => ?_)
      · refine jr.iinc rfl rfl (by decide) rfl ?_
        refine jr.goto rfl rfl ?_
        refine jr.pick [0, 1] rfl rfl ?_
        exact ih (nM - 1) (by omega) (i + 1) (by omega) g_V (by rw [hy0, feF_s (by omega), if_neg (by omega)]) (by omega)
      · have sx22 : (0 : Int) ≤ r3 := by omega
        refine jr.iload_n rfl rfl ?_
        exact jr.ireturn rfl rfl rfl (q _ (by omega) (by rw [hy0, feF_s (by omega), if_pos (by omega)]))
theorem c_Flows_flowOfEnds_x {A : Nat → Option (Nat × (Nat → Int32))} {Q : Option Value → jm → Prop} {M : jm} (hC_M : CI M) {V : Int} (g_V : M 15 0 = V) (q : ∀ (r : Int), (-1) ≤ r ∧ r ≤ 23 → (r = feF M V.toNat 24 0) → Q (some (.int (Int32.ofInt r))) M) : jc A 3 88 [.ref (15)] M Q := by
  refine jc_of (m := xm_88) rfl (Nat.le_of_ble_eq_true rfl) rfl ?_
  have b_V : 16 ≤ V ∧ V ≤ 17 := by rw [← g_V]; exact (CI.r hC_M (show kd 15 = 9 from rfl) (by decide) 0)
  refine jr.iconst rfl ?_
  refine jr.istore_n rfl (by decide) rfl ?_
  refine jr.pick [0, 1] rfl rfl ?_
  exact c_Flows_flowOfEnds_x_L2 hC_M  q 24 0 (by omega) g_V rfl (by omega)
end
section
/-! ===== the class: the ends that a packet tells ===== -/
noncomputable def nxk (k : Int) : Int := if k = 7 then 1 else if k = 8 then 6 else 17
noncomputable def epf (f : Int → Int) (N C z s : Int) : Int := if kA f N C z = 7 then vA f N C z 3 / 65536 else vA f N C z s
theorem kA_in {f : Int → Int} {N C x : Int} (h : kA f N C x ≠ -1) : 0 ≤ x ∧ x < C := by
  unfold kA at h
  split at h
  · assumption
  · exact absurd rfl h
theorem epf_r {f : Int → Int} {N C z s : Int} (h : 7 ≤ kA f N C z ∧ kA f N C z ≤ 9) (hs : s = 0 ∨ s = 1) : (0 ≤ epf f N C z s ∧ epf f N C z s ≤ 65535) ∧ (kA f N C z = 7 → 0 ≤ vA f N C z 3 ∧ vA f N C z 3 ≤ 4294967295) := by
  have hi := kA_in (f := f) (N := N) (C := C) (x := z) (by omega)
  have hk := kA_i (f := f) (N := N) hi
  unfold epf
  rw [hk] at h ⊢
  rcases (show hX f N z = 7 ∨ hX f N z = 8 ∨ hX f N z = 9 by omega) with e | e | e
  · rw [if_pos e, vA_k hi e (by decide +kernel), vof_7_3]
    omega
  · rw [if_neg (by omega)]
    rcases hs with hs | hs
    · subst hs; rw [vA_k (j := 0) hi e (by decide +kernel), vof_8_0]; omega
    · subst hs; rw [vA_k (j := 1) hi e (by decide +kernel), vof_8_1]; omega
  · rw [if_neg (by omega)]
    rcases hs with hs | hs
    · subst hs; rw [vA_k (j := 0) hi e (by decide +kernel), vof_9_0]; omega
    · subst hs; rw [vA_k (j := 1) hi e (by decide +kernel), vof_9_1]; omega
/-- ends told, as far as side i -/
noncomputable def DSL (T M : jm) (f : Int → Int) (N C y z i : Int) : Prop := (M 18 1 = (if kA f N C y = 3 then 1 else 0) ∧ M 18 2 = nxk (kA f N C z)) ∧ (∀ s : Int, 0 ≤ s → s < i → M 19 s = adf f N C y s ∧ M 20 s = epf f N C z s) ∧ ∀ (b : Nat) (k : Int), b ≠ 18 → b ≠ 19 → b ≠ 20 → M b k = T b k
theorem DSL.s {T M : jm} {f : Int → Int} {N C y z i a v : Int} (h : DSL T M f N C y z i) (h0 : 0 ≤ i) (ha : a = adf f N C y i) (hv : v = epf f N C z i) : DSL T (ju (ju M 19 i a) 20 i v) f N C y z (i + 1) := by
  obtain ⟨h1, h2, h3⟩ := h
  refine ⟨?_, fun s s0 s1 => ?_, fun b k b0 b1 b2 => ?_⟩
  · rw [ju_c _ _ (by decide), ju_c _ _ (by decide), ju_c _ _ (by decide), ju_c _ _ (by decide)]; exact h1
  · by_cases e : s = i
    · subst e
      rw [ju_c _ _ (by decide), ju_same, ju_same]
      exact ⟨ha, hv⟩
    · rw [ju_c _ _ (by decide), ju_i _ _ e, ju_i _ _ e, ju_c _ _ (by decide)]
      exact h2 s s0 (by omega)
  · rw [ju_c _ _ b2, ju_c _ _ b1]; exact h3 b k b0 b1 b2
noncomputable def W_c_Flow_describe_x : List (Nat × Nat) := [(1, 1), (1, 2), (2, 1000), (7, 1000)]
theorem c_Flow_describe_x_L57 {A : Nat → Option (Nat × (Nat → Int32))} {Q : Option Value → jm → Prop} {f : Int → Int} {N : Int} {T : jm} {C : Int} {y : Int} {z : Int} (q : ∀ (M' : jm), CI M' → FR W_c_Flow_describe_x T M' → (DSL T M' f N C y z 2) → Q none M') : ∀ (nM : Nat) (M : jm) (k : Int) (i : Int), CI M → FR W_c_Flow_describe_x T M → 0 ≤ y ∧ y ≤ 11 → 0 ≤ z ∧ z ≤ 11 → 7 ≤ k ∧ k ≤ 9 → 0 ≤ i ∧ i ≤ 2 → M 3 3 = C → (HS M 3 f N) → (DSL T M f N C y z i) → (k = kA f N C z ∧ 7 ≤ k ∧ k ≤ 9) → 2 - i ≤ nM → jr A 3 xm_57 57 [(2, .int (Int32.ofInt (y))), (3, .int (Int32.ofInt (z))), (4, .int (Int32.ofInt (k))), (5, .int (Int32.ofInt (i))), (0, .ref (18)), (1, .ref (3))] [] M Q := by
  intro nM
  induction nM using Nat.strongRecOn with
  | ind nM ih =>
    intro M k i hC_M ht_M h_y h_z h_k h_i g_C hy0 hy1 hy2 hm
    have b_C : 0 ≤ C ∧ C ≤ 12 := by rw [← g_C]; exact (CI.r hC_M (show kd 3 = 18 from rfl) (by decide) 3)
    refine jr.iload rfl rfl ?_
    refine jr.iconst rfl ?_
    refine jr.icmp_ge rfl rfl (by omega) (by omega) (fun h60 => ?_) (fun h60 => ?_)
    · exact jr.vreturn rfl rfl (q _ hC_M ht_M  (by have h9 := hy1; rw [show i = 2 from by omega] at h9; exact h9))
    · refine jr.aload_n rfl rfl ?_
      refine jr.getf (i := 3) (v := .ref 19) rfl rfl (by decide) rfl (by decide) rfl rfl rfl rfl ?_
      refine jr.iload rfl rfl ?_
      refine jr.aload_n rfl rfl ?_
      refine jr.iload_n rfl rfl ?_
      refine jr.iload rfl rfl ?_
      refine jr_v rfl rfl (Or.inl rfl) rfl rfl (by decide) rfl ⟨rfl, Nat.le_of_ble_eq_true rfl, Nat.le_of_ble_eq_true rfl⟩ rfl (jc.deep (c_Headers_addressOf_x hC_M (show kd 3 = 18 from rfl) (by omega) (by omega) g_C hy0 (fun r1 z1 w1_0 => ?_)) (by decide))
      refine jr.last (i := i) (x := r1) rfl (by decide) rfl (by decide) (by omega) (by omega) ?_
      refine jr.aload_n rfl rfl ?_
      refine jr.getf (i := 4) (v := .ref 20) rfl rfl (by decide) rfl (by decide) rfl rfl rfl rfl ?_
      refine jr.iload rfl rfl ?_
      refine jr.iload rfl rfl ?_
      refine jr.bipush rfl (by decide) ?_
      refine jr.icmp_ne rfl rfl (by omega) (by omega) (fun h87 => ?_) (fun h87 => ?_)
      · have sx87 : (8 : Int) ≤ k := by omega
        refine jr.aload_n rfl rfl ?_
        refine jr.iload_n rfl rfl ?_
        refine jr.iload rfl rfl ?_
        refine jr_v rfl rfl (Or.inl rfl) rfl rfl (by decide) rfl ⟨rfl, Nat.le_of_ble_eq_true rfl, Nat.le_of_ble_eq_true rfl⟩ rfl (jc.deep (c_Headers_valueOf_x (CI.u hC_M (i := i) (show kd 19 = 2 from rfl) (show (-9223372036854775808 : Int) ≤ _ ∧ _ ≤ (9223372036854775807 : Int) from by omega) rfl) (show kd 3 = 18 from rfl) (by omega) (by omega) ((ju_c _ _ (by decide)).trans g_C) (HS.fr hy0 (show kd 3 = 18 from rfl) hC_M (FR.o (FR.rfl [(2, 1000)] M) (show kd 19 = 2 from rfl) rfl) rfl) (fun r2 z2 w2_0 => ?_)) (by decide))
        have hv2 : 0 ≤ r2 ∧ r2 ≤ 65535 := (by have h9 := (epf_r (f := f) (N := N) (C := C) (z := z) (s := i) (by omega) (by omega)).1; unfold epf at h9; rw [if_neg (by omega), ← w2_0] at h9; exact h9)
        refine jr.l2i rfl ?_
        refine jr.iast (i := i) (x := r2) rfl (by decide) rfl (by decide) (by omega) (by omega) ?_
        refine jr.iinc rfl rfl (by decide) rfl ?_
        refine jr.goto rfl rfl ?_
        refine jr.pick [1, 2, 3, 0, 4, 5] rfl rfl ?_
        exact ih (nM - 1) (by omega) ((ju (ju M 19 i r1) 20 i r2)) k (i + 1) (CI.u (CI.u hC_M (i := i) (show kd 19 = 2 from rfl) (show (-9223372036854775808 : Int) ≤ _ ∧ _ ≤ (9223372036854775807 : Int) from by omega) rfl) (i := i) (show kd 20 = 7 from rfl) (show (-2147483648 : Int) ≤ _ ∧ _ ≤ (2147483647 : Int) from by omega) rfl) (FR.o (FR.o ht_M (show kd 19 = 2 from rfl) rfl) (show kd 20 = 7 from rfl) rfl) (by omega) (by omega) (by omega) (by omega) ((ju_c _ _ (by decide)).trans ((ju_c _ _ (by decide)).trans g_C)) (HS.fr hy0 (show kd 3 = 18 from rfl) hC_M (FR.o (FR.o (FR.rfl [(2, 1000), (7, 1000)] M) (show kd 19 = 2 from rfl) rfl) (show kd 20 = 7 from rfl) rfl) rfl) (DSL.s hy1 (by omega) w1_0 (by unfold epf; rw [if_neg (by omega)]; exact w2_0)) hy2 (by omega)
      · refine jr.aload_n rfl rfl ?_
        refine jr.iload_n rfl rfl ?_
        refine jr.iconst rfl ?_
        refine jr_v rfl rfl (Or.inl rfl) rfl rfl (by decide) rfl ⟨rfl, Nat.le_of_ble_eq_true rfl, Nat.le_of_ble_eq_true rfl⟩ rfl (jc.deep (c_Headers_valueOf_x (CI.u hC_M (i := i) (show kd 19 = 2 from rfl) (show (-9223372036854775808 : Int) ≤ _ ∧ _ ≤ (9223372036854775807 : Int) from by omega) rfl) (show kd 3 = 18 from rfl) (by omega) (by omega) ((ju_c _ _ (by decide)).trans g_C) (HS.fr hy0 (show kd 3 = 18 from rfl) hC_M (FR.o (FR.rfl [(2, 1000)] M) (show kd 19 = 2 from rfl) rfl) rfl) (fun r3 z3 w3_0 => ?_)) (by decide))
        have hv3 : 0 ≤ r3 ∧ r3 ≤ 4294967295 := (by have h9 := (epf_r (f := f) (N := N) (C := C) (z := z) (s := 0) (by omega) (Or.inl rfl)).2 (by omega); rw [← w3_0] at h9; exact h9)
        refine jr.bipush rfl (by decide) ?_
        refine jr.lushr rfl ?_
        have b4 : jl_ushr r3 16 = r3 / 65536 ∧ 0 ≤ jl_ushr r3 16 ∧ jl_ushr r3 16 ≤ 65535 := ⟨jl_ushr_16 (by omega), by rw [jl_ushr_16 (by omega)]; omega⟩
        generalize jl_ushr r3 16 = v4 at b4 ⊢
        refine jr.goto rfl rfl ?_
        refine jr.l2i rfl ?_
        refine jr.iast (i := i) (x := v4) rfl (by decide) rfl (by decide) (by omega) (by omega) ?_
        refine jr.iinc rfl rfl (by decide) rfl ?_
        refine jr.goto rfl rfl ?_
        refine jr.pick [1, 2, 3, 0, 4, 5] rfl rfl ?_
        exact ih (nM - 1) (by omega) ((ju (ju M 19 i r1) 20 i v4)) k (i + 1) (CI.u (CI.u hC_M (i := i) (show kd 19 = 2 from rfl) (show (-9223372036854775808 : Int) ≤ _ ∧ _ ≤ (9223372036854775807 : Int) from by omega) rfl) (i := i) (show kd 20 = 7 from rfl) (show (-2147483648 : Int) ≤ _ ∧ _ ≤ (2147483647 : Int) from by omega) rfl) (FR.o (FR.o ht_M (show kd 19 = 2 from rfl) rfl) (show kd 20 = 7 from rfl) rfl) (by omega) (by omega) (by omega) (by omega) ((ju_c _ _ (by decide)).trans ((ju_c _ _ (by decide)).trans g_C)) (HS.fr hy0 (show kd 3 = 18 from rfl) hC_M (FR.o (FR.o (FR.rfl [(2, 1000), (7, 1000)] M) (show kd 19 = 2 from rfl) rfl) (show kd 20 = 7 from rfl) rfl) rfl) (DSL.s hy1 (by omega) w1_0 (by unfold epf; rw [if_pos (by omega), ← w3_0]; omega)) hy2 (by omega)
end
