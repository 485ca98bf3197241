section
theorem c_Flows_flowOfEnds_x_L2 {A : Nat → Option (Nat × (Nat → Int32))} {Q : Option Value → jm → Prop} {M : jm} (hC_M : CI M) {V : Int} (q : ∀ (r : Int), (-1) ≤ r ∧ r ≤ 23 → (r = feF M V.toNat 24 0) → Q (some (.int (Int32.ofInt r))) M) : ∀ (nM : Nat) (i : Int), 0 ≤ i ∧ i ≤ 24 → M 15 0 = V → (feF M V.toNat 24 0 = feF M V.toNat (24 - i).toNat i) → 24 - i ≤ nM → jr A 2 xm_88 2 [(1, .int (Int32.ofInt (i))), (0, .ref (15))] [] M Q := by
  intro nM
  induction nM using Nat.strongRecOn with
  | ind nM ih =>
    intro i h_i g_V hy0 hm
    have b_V : 16 ≤ V ∧ V ≤ 17 := by rw [← g_V]; exact (CI.r hC_M (show kd 15 = 9 from rfl) (by decide) 0)
    refine jr.iload_n rfl rfl ?_
    refine jr.bipush rfl (by decide) ?_
    refine jr.icmp_ge rfl rfl (by omega) (by omega) (fun h5 => ?_) (fun h5 => ?_)
    · refine jr.iconst rfl ?_
      exact jr.ireturn rfl rfl rfl (q _ (by omega) (by rw [hy0, show (24 - i).toNat = 0 from by omega]; rfl))
    · refine jr.aload_n rfl rfl ?_
      have k1 : kd (V).toNat = 13 := by rcases (show V = 16 ∨ V = 17 by omega) with h | h <;> (rw [h]; rfl)
      refine jr.getf (i := 0) (x := V) (v := .ref (V.toNat)) rfl rfl (by decide) rfl (by decide) rfl rfl g_V rfl ?_
      refine jr.iload_n rfl rfl ?_
      have k2 := kxe_13 k1 (i := i) (by omega) (by omega)
      refine jr.aald (c := (xe ((V.toNat)) i)) rfl (Nat.lt_trans (kx_13 k1).1 (by decide)) (kx_13 k1).2 (by decide) (by decide) rfl (by decide) (by omega) (by omega) k2.1 ?_
      refine jr.aload_n rfl rfl ?_
      refine jr.getf (i := 2) (v := .ref 18) rfl rfl (by decide) rfl (by decide) rfl rfl rfl rfl ?_
      refine jr_v rfl rfl (Or.inl rfl) rfl rfl (Nat.lt_trans (kx_1 k2.2).1 (by decide)) (kx_1 k2.2).2 ⟨rfl, Nat.le_of_ble_eq_true rfl, Nat.le_of_ble_eq_true rfl⟩ rfl (jc.deep (c_Flow_sideOf_x hC_M k2.2 (show kd 18 = 1 from rfl) (fun r3 z3 w3_0 => ?_)) (by decide))
      refine jr.iconst rfl ?_
      refine jr.icmp_eq rfl rfl (by omega) (by omega) (fun h22 => ?_) (fun h22 => ?_)
      · refine jr.iinc (ls' := [_, _]) rfl rfl (by decide) rfl ?_
        refine jr.goto rfl rfl ?_
        refine jr.pick (ls := [_, _]) [0, 1] rfl rfl ?_
        exact ih (nM - 1) (by omega) (i + 1) (by omega) g_V (by rw [hy0, feF_s (by omega), if_neg (by omega)]) (by omega)
      · have sx22 : (0 : Int) ≤ r3 := by omega
        clear h22
        refine jr.iload_n rfl rfl ?_
        exact jr.ireturn rfl rfl rfl (q _ (by omega) (by rw [hy0, feF_s (by omega), if_pos (by omega)]))
theorem c_Flows_flowOfEnds_x {A : Nat → Option (Nat × (Nat → Int32))} {Q : Option Value → jm → Prop} {M : jm} (hC_M : CI M) {V : Int} (g_V : M 15 0 = V) (q : ∀ (r : Int), (-1) ≤ r ∧ r ≤ 23 → (r = feF M V.toNat 24 0) → Q (some (.int (Int32.ofInt r))) M) : jc A 3 88 [.ref (15)] M Q := by
  refine jc_of (m := xm_88) rfl (Nat.le_of_ble_eq_true rfl) rfl ?_
  have b_V : 16 ≤ V ∧ V ≤ 17 := by rw [← g_V]; exact (CI.r hC_M (show kd 15 = 9 from rfl) (by decide) 0)
  refine jr.iconst rfl ?_
  refine jr.istore_n (ls' := [_, _]) rfl (by decide) rfl ?_
  refine jr.pick (ls := [_, _]) [0, 1] rfl rfl ?_
  exact c_Flows_flowOfEnds_x_L2 hC_M  q 24 0 (by omega) g_V rfl (by omega)
end
section
/-! ===== the class: the ends that a packet tells ===== -/
noncomputable def nxk (k : Int) : Int := if k = 7 then 1 else if k = 8 then 6 else 17
noncomputable def epf (f : Int → Int) (N C z s : Int) : Int := if kA f N C z = 7 then vA f N C z 3 / 65536 else vA f N C z s
theorem kA_in {f : Int → Int} {N C x : Int} (h : kA f N C x ≠ -1) : 0 ≤ x ∧ x < C := by
  unfold kA at h
  split at h
  · assumption
  · exact absurd rfl h
theorem epf_r {f : Int → Int} {N C z s : Int} (h : 7 ≤ kA f N C z ∧ kA f N C z ≤ 9) (hs : s = 0 ∨ s = 1) : (0 ≤ epf f N C z s ∧ epf f N C z s ≤ 65535) ∧ (kA f N C z = 7 → 0 ≤ vA f N C z 3 ∧ vA f N C z 3 ≤ 4294967295) := by
  have hi := kA_in (f := f) (N := N) (C := C) (x := z) (by omega)
  have hk := kA_i (f := f) (N := N) hi
  unfold epf
  rw [hk] at h ⊢
  rcases (show hX f N z = 7 ∨ hX f N z = 8 ∨ hX f N z = 9 by omega) with e | e | e
  · rw [if_pos e, vA_k hi e (by decide +kernel), vof_7_3]
    omega
  · rw [if_neg (by omega)]
    rcases hs with hs | hs
    · subst hs; rw [vA_k (j := 0) hi e (by decide +kernel), vof_8_0]; omega
    · subst hs; rw [vA_k (j := 1) hi e (by decide +kernel), vof_8_1]; omega
  · rw [if_neg (by omega)]
    rcases hs with hs | hs
    · subst hs; rw [vA_k (j := 0) hi e (by decide +kernel), vof_9_0]; omega
    · subst hs; rw [vA_k (j := 1) hi e (by decide +kernel), vof_9_1]; omega
/-- ends told, as far as side i -/
noncomputable def DSL (T M : jm) (f : Int → Int) (N C y z i : Int) : Prop := (M 18 1 = (if kA f N C y = 3 then 1 else 0) ∧ M 18 2 = nxk (kA f N C z)) ∧ (∀ s : Int, 0 ≤ s → s < i → M 19 s = adf f N C y s ∧ M 20 s = epf f N C z s) ∧ ∀ (b : Nat) (k : Int), b ≠ 18 → b ≠ 19 → b ≠ 20 → M b k = T b k
theorem DSL.s {T M : jm} {f : Int → Int} {N C y z i a v : Int} (h : DSL T M f N C y z i) (h0 : 0 ≤ i) (ha : a = adf f N C y i) (hv : v = epf f N C z i) : DSL T (ju (ju M 19 i a) 20 i v) f N C y z (i + 1) := by
  obtain ⟨h1, h2, h3⟩ := h
  refine ⟨?_, fun s s0 s1 => ?_, fun b k b0 b1 b2 => ?_⟩
  · rw [ju_c _ _ (by decide), ju_c _ _ (by decide), ju_c _ _ (by decide), ju_c _ _ (by decide)]; exact h1
  · by_cases e : s = i
    · subst e
      rw [ju_c _ _ (by decide), ju_same, ju_same]
      exact ⟨ha, hv⟩
    · rw [ju_c _ _ (by decide), ju_i _ _ e, ju_i _ _ e, ju_c _ _ (by decide)]
      exact h2 s s0 (by omega)
  · rw [ju_c _ _ b2, ju_c _ _ b1]; exact h3 b k b0 b1 b2
noncomputable def W_c_Flow_describe_x : List (Nat × Nat) := [(1, 1), (1, 2), (2, 1000), (7, 1000)]
end
