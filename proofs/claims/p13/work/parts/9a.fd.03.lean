section
theorem c_Flow_describe_x_L57 {A : Nat → Option (Nat × (Nat → Int32))} {Q : Option Value → jm → Prop} {f : Int → Int} {N : Int} {T : jm} {C : Int} {y : Int} {z : Int} (q : ∀ (M' : jm), CI M' → FR W_c_Flow_describe_x T M' → (DSL T M' f N C y z 2) → Q none M') : ∀ (nM : Nat) (M : jm) (k : Int) (i : Int), CI M → FR W_c_Flow_describe_x T M → 0 ≤ y ∧ y ≤ 11 → 0 ≤ z ∧ z ≤ 11 → 7 ≤ k ∧ k ≤ 9 → 0 ≤ i ∧ i ≤ 2 → M 3 3 = C → (HS M 3 f N) → (DSL T M f N C y z i) → (k = kA f N C z ∧ 7 ≤ k ∧ k ≤ 9) → 2 - i ≤ nM → jr A 3 xm_57 57 [(2, .int (Int32.ofInt (y))), (3, .int (Int32.ofInt (z))), (4, .int (Int32.ofInt (k))), (5, .int (Int32.ofInt (i))), (0, .ref (18)), (1, .ref (3))] [] M Q := by
  intro nM
  induction nM using Nat.strongRecOn with
  | ind nM ih =>
    intro M k i hC_M ht_M h_y h_z h_k h_i g_C hy0 hy1 hy2 hm
    have b_C : 0 ≤ C ∧ C ≤ 12 := by rw [← g_C]; exact (CI.r hC_M (show kd 3 = 18 from rfl) (by decide) 3)
    refine jr.iload rfl rfl ?_
    refine jr.iconst rfl ?_
    refine jr.icmp_ge rfl rfl (by omega) (by omega) (fun h60 => ?_) (fun h60 => ?_)
    · exact jr.vreturn rfl rfl (q _ hC_M ht_M  (by have h9 := hy1; rw [show i = 2 from by omega] at h9; exact h9))
    · refine jr.aload_n rfl rfl ?_
      refine jr.getf (i := 3) (v := .ref 19) rfl rfl (by decide) rfl (by decide) rfl rfl rfl rfl ?_
      refine jr.iload rfl rfl ?_
      refine jr.aload_n rfl rfl ?_
      refine jr.iload_n rfl rfl ?_
      refine jr.iload rfl rfl ?_
      refine jr_v rfl rfl (Or.inl rfl) rfl rfl (by decide) rfl ⟨rfl, Nat.le_of_ble_eq_true rfl, Nat.le_of_ble_eq_true rfl⟩ rfl (jc.deep (c_Headers_addressOf_x hC_M (show kd 3 = 18 from rfl) (by omega) (by omega) g_C hy0 (fun r1 z1 w1_0 => ?_)) (by decide))
      refine jr.last (i := i) (x := r1) rfl (by decide) rfl (by decide) (by omega) (by omega) ?_
      refine jr.aload_n rfl rfl ?_
      refine jr.getf (i := 4) (v := .ref 20) rfl rfl (by decide) rfl (by decide) rfl rfl rfl rfl ?_
      refine jr.iload rfl rfl ?_
      refine jr.iload rfl rfl ?_
      refine jr.bipush rfl (by decide) ?_
      refine jr.icmp_ne rfl rfl (by omega) (by omega) (fun h87 => ?_) (fun h87 => ?_)
      · have sx87 : (8 : Int) ≤ k := by omega
        clear h87
        refine jr.aload_n rfl rfl ?_
        refine jr.iload_n rfl rfl ?_
        refine jr.iload rfl rfl ?_
        refine jr_v rfl rfl (Or.inl rfl) rfl rfl (by decide) rfl ⟨rfl, Nat.le_of_ble_eq_true rfl, Nat.le_of_ble_eq_true rfl⟩ rfl (jc.deep (c_Headers_valueOf_x (CI.u hC_M (i := i) (show kd 19 = 2 from rfl) (show (-9223372036854775808 : Int) ≤ _ ∧ _ ≤ (9223372036854775807 : Int) from by omega) rfl) (show kd 3 = 18 from rfl) (by omega) (by omega) ((ju_c _ _ (by decide)).trans g_C) (HS.fr hy0 (show kd 3 = 18 from rfl) hC_M (FR.o (FR.rfl [(2, 1000)] M) (show kd 19 = 2 from rfl) rfl) rfl) (fun r2 z2 w2_0 => ?_)) (by decide))
        have hv2 : 0 ≤ r2 ∧ r2 ≤ 65535 := (by have h9 := (epf_r (f := f) (N := N) (C := C) (z := z) (s := i) (by omega) (by omega)).1; unfold epf at h9; rw [if_neg (by omega), ← w2_0] at h9; exact h9)
        refine jr.l2i rfl ?_
        refine jr.iast (i := i) (x := r2) rfl (by decide) rfl (by decide) (by omega) (by omega) ?_
        refine jr.iinc (ls' := [_, _, _, _, _, _]) rfl rfl (by decide) rfl ?_
        refine jr.goto rfl rfl ?_
        refine jr.pick (ls := [_, _, _, _, _, _]) [1, 2, 3, 0, 4, 5] rfl rfl ?_
        exact ih (nM - 1) (by omega) ((ju (ju M 19 i r1) 20 i r2)) k (i + 1) (CI.u (CI.u hC_M (i := i) (show kd 19 = 2 from rfl) (show (-9223372036854775808 : Int) ≤ _ ∧ _ ≤ (9223372036854775807 : Int) from by omega) rfl) (i := i) (show kd 20 = 7 from rfl) (show (-2147483648 : Int) ≤ _ ∧ _ ≤ (2147483647 : Int) from by omega) rfl) (FR.o (FR.o ht_M (show kd 19 = 2 from rfl) rfl) (show kd 20 = 7 from rfl) rfl) (by omega) (by omega) (by omega) (by omega) ((ju_c _ _ (by decide)).trans ((ju_c _ _ (by decide)).trans g_C)) (HS.fr hy0 (show kd 3 = 18 from rfl) hC_M (FR.o (FR.o (FR.rfl [(2, 1000), (7, 1000)] M) (show kd 19 = 2 from rfl) rfl) (show kd 20 = 7 from rfl) rfl) rfl) (DSL.s hy1 (by omega) w1_0 (by unfold epf; rw [if_neg (by omega)]; exact w2_0)) hy2 (by omega)
      · refine jr.aload_n rfl rfl ?_
        refine jr.iload_n rfl rfl ?_
        refine jr.iconst rfl ?_
        refine jr_v rfl rfl (Or.inl rfl) rfl rfl (by decide) rfl ⟨rfl, Nat.le_of_ble_eq_true rfl, Nat.le_of_ble_eq_true rfl⟩ rfl (jc.deep (c_Headers_valueOf_x (CI.u hC_M (i := i) (show kd 19 = 2 from rfl) (show (-9223372036854775808 : Int) ≤ _ ∧ _ ≤ (9223372036854775807 : Int) from by omega) rfl) (show kd 3 = 18 from rfl) (by omega) (by omega) ((ju_c _ _ (by decide)).trans g_C) (HS.fr hy0 (show kd 3 = 18 from rfl) hC_M (FR.o (FR.rfl [(2, 1000)] M) (show kd 19 = 2 from rfl) rfl) rfl) (fun r3 z3 w3_0 => ?_)) (by decide))
        have hv3 : 0 ≤ r3 ∧ r3 ≤ 4294967295 := (by have h9 := (epf_r (f := f) (N := N) (C := C) (z := z) (s := 0) (by omega) (Or.inl rfl)).2 (by omega); rw [← w3_0] at h9; exact h9)
        refine jr.bipush rfl (by decide) ?_
        refine jr.lushr rfl ?_
        have b4 : jl_ushr r3 16 = r3 / 65536 ∧ 0 ≤ jl_ushr r3 16 ∧ jl_ushr r3 16 ≤ 65535 := ⟨jl_ushr_16 (by omega), by rw [jl_ushr_16 (by omega)]; omega⟩
        generalize jl_ushr r3 16 = v4 at b4 ⊢
        refine jr.goto rfl rfl ?_
        refine jr.l2i rfl ?_
        refine jr.iast (i := i) (x := v4) rfl (by decide) rfl (by decide) (by omega) (by omega) ?_
        refine jr.iinc (ls' := [_, _, _, _, _, _]) rfl rfl (by decide) rfl ?_
        refine jr.goto rfl rfl ?_
        refine jr.pick (ls := [_, _, _, _, _, _]) [1, 2, 3, 0, 4, 5] rfl rfl ?_
        exact ih (nM - 1) (by omega) ((ju (ju M 19 i r1) 20 i v4)) k (i + 1) (CI.u (CI.u hC_M (i := i) (show kd 19 = 2 from rfl) (show (-9223372036854775808 : Int) ≤ _ ∧ _ ≤ (9223372036854775807 : Int) from by omega) rfl) (i := i) (show kd 20 = 7 from rfl) (show (-2147483648 : Int) ≤ _ ∧ _ ≤ (2147483647 : Int) from by omega) rfl) (FR.o (FR.o ht_M (show kd 19 = 2 from rfl) rfl) (show kd 20 = 7 from rfl) rfl) (by omega) (by omega) (by omega) (by omega) ((ju_c _ _ (by decide)).trans ((ju_c _ _ (by decide)).trans g_C)) (HS.fr hy0 (show kd 3 = 18 from rfl) hC_M (FR.o (FR.o (FR.rfl [(2, 1000), (7, 1000)] M) (show kd 19 = 2 from rfl) rfl) (show kd 20 = 7 from rfl) rfl) rfl) (DSL.s hy1 (by omega) w1_0 (by unfold epf; rw [if_pos (by omega), ← w3_0]; omega)) hy2 (by omega)
theorem c_Flow_describe_x_L54 {A : Nat → Option (Nat × (Nat → Int32))} {Q : Option Value → jm → Prop} {f : Int → Int} {N : Int} {T : jm} {C : Int} {y : Int} {z : Int} (q : ∀ (M' : jm), CI M' → FR W_c_Flow_describe_x T M' → (DSL T M' f N C y z 2) → Q none M') : ∀ (nM : Nat) (M : jm) (k : Int), CI M → FR W_c_Flow_describe_x T M → 0 ≤ y ∧ y ≤ 11 → 0 ≤ z ∧ z ≤ 11 → 7 ≤ k ∧ k ≤ 9 → M 3 3 = C → (HS M 3 f N) → (DSL T M f N C y z 0) → (k = kA f N C z ∧ 7 ≤ k ∧ k ≤ 9) → 0 ≤ nM → jr A 3 xm_57 54 [(2, .int (Int32.ofInt (y))), (3, .int (Int32.ofInt (z))), (4, .int (Int32.ofInt (k))), (0, .ref (18)), (1, .ref (3))] [] M Q := by
  intro nM
  induction nM using Nat.strongRecOn with
  | ind nM ih =>
    intro M k hC_M ht_M h_y h_z h_k g_C hy0 hy1 hy2 hm
    have b_C : 0 ≤ C ∧ C ≤ 12 := by rw [← g_C]; exact (CI.r hC_M (show kd 3 = 18 from rfl) (by decide) 3)
    refine jr.iconst rfl ?_
    refine jr.istore (ls' := [_, _, _, _, _, _]) rfl (by decide) rfl ?_
    refine jr.pick (ls := [_, _, _, _, _, _]) [1, 2, 3, 0, 4, 5] rfl rfl ?_
    exact c_Flow_describe_x_L57  q 2 M k 0 hC_M ht_M (by omega) (by omega) (by omega) (by omega) g_C hy0 hy1 hy2 (by omega)
end
