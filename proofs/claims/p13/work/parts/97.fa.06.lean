section
theorem c_Flows_changeBy_x_L49 {A : Nat → Option (Nat × (Nat → Int32))} {Q : Option Value → jm → Prop} {T : jm} {x : Nat} (k_x : kd x = 1) {V : Int} {P : Int} {y : Int} (q : ∀ (r : Int) (M' : jm), CI M' → FR W_c_Flows_changeBy_x T M' → (-2147483648) ≤ r ∧ r ≤ 2147483647 → (((y < 0 ∨ 3 < y) ∧ r = -3 ∧ M' = T) ∨ ((0 ≤ y ∧ y ≤ 3) ∧ (T x 1 ≠ 0 ∨ T x 2 = 1 ∨ T x 13 ≠ -1 ∨ T 28 y = 0) ∧ r = -4 ∧ M' = T) ∨ (((0 ≤ y ∧ y ≤ 3) ∧ ¬ (T x 1 ≠ 0 ∨ T x 2 = 1 ∨ T x 13 ≠ -1 ∨ T 28 y = 0)) ∧ ((chf T V.toNat (T 26 y) (T 27 y) (T 28 y).toNat 0 = -1 ∧ r = -5 ∧ M' = T) ∨ (chf T V.toNat (T 26 y) (T 27 y) (T 28 y).toNat 0 ≠ -1 ∧ r = T 27 y + chf T V.toNat (T 26 y) (T 27 y) (T 28 y).toNat 0 ∧ M' = ju (ju (ju T x 13 y) x 14 (T 26 y)) x 15 (T 27 y + chf T V.toNat (T 26 y) (T 27 y) (T 28 y).toNat 0))))) → Q (some (.int (Int32.ofInt r))) M') : ∀ (nM : Nat) (M : jm) (i : Int), CI M → FR W_c_Flows_changeBy_x T M → 0 ≤ y ∧ y ≤ 3 → 0 ≤ i ∧ i ≤ 32 → M 15 0 = V → M 27 y = P → (chf T V.toNat (T 26 y) (T 27 y) (T 28 y).toNat 0 = chf T V.toNat (T 26 y) (T 27 y) (T 28 y - i).toNat i) → (M = T) → (0 ≤ P ∧ P ≤ 65535) → (¬ (T x 1 ≠ 0 ∨ T x 2 = 1 ∨ T x 13 ≠ -1 ∨ T 28 y = 0)) → 32 - i ≤ nM → jr A 1 xm_81 49 [(2, .int (Int32.ofInt (y))), (3, .int (Int32.ofInt (i))), (0, .ref (15)), (1, .ref (x))] [] M Q := by
  intro nM
  induction nM using Nat.strongRecOn with
  | ind nM ih =>
    intro M i hC_M ht_M h_y h_i g_V g_P hy0 hy1 hy2 hy3 hm
    have b_V : 16 ≤ V ∧ V ≤ 17 := by rw [← g_V]; exact (CI.r hC_M (show kd 15 = 9 from rfl) (by decide) 0)
    have b_P : (-2147483648) ≤ P ∧ P ≤ 2147483647 := by rw [← g_P]; exact (CI.r hC_M (show kd 27 = 11 from rfl) (by decide) y)
    refine jr.iload_n rfl rfl ?_
    refine jr.aload_n rfl rfl ?_
    refine jr.getf (i := 8) (v := .ref 28) rfl rfl (by decide) rfl (by decide) rfl rfl rfl rfl ?_
    refine jr.iload_n rfl rfl ?_
    obtain ⟨v1, e1⟩ : ∃ z_, M 28 y = z_ := ⟨_, rfl⟩
    have b1 : 0 ≤ v1 ∧ v1 ≤ 32 := by rw [← e1]; exact (CI.r hC_M (show kd 28 = 12 from rfl) (by decide) y)
    refine jr.iald (i := y) (x := v1) rfl (by decide) rfl (by decide) (by omega) (by omega) e1 ?_
    refine jr.icmp_ge rfl rfl (by omega) (by omega) (fun h56 => ?_) (fun h56 => ?_)
    · refine jr.bipush rfl (by decide) ?_
      exact jr.ireturn rfl rfl rfl (q _ _ hC_M ht_M (by omega) (by have q1 : T 28 y = v1 := (by rw [← hy1]; exact e1); have q2 : T 27 y = P := (by rw [← hy1]; exact g_P); exact Or.inr (Or.inr ⟨⟨by omega, hy3⟩, Or.inl ⟨by rw [hy0, chf_e (by omega)], by omega, hy1⟩⟩)))
    · refine jr.aload_n rfl rfl ?_
      refine jr.aload_n rfl rfl ?_
      refine jr.getf (i := 6) (v := .ref 26) rfl rfl (by decide) rfl (by decide) rfl rfl rfl rfl ?_
      refine jr.iload_n rfl rfl ?_
      obtain ⟨v2, e2⟩ : ∃ z_, M 26 y = z_ := ⟨_, rfl⟩
      have b2 : (-9223372036854775808) ≤ v2 ∧ v2 ≤ 9223372036854775807 := by rw [← e2]; exact (CI.r hC_M (show kd 26 = 10 from rfl) (by decide) y)
      refine jr.lald (i := y) (x := v2) rfl (by decide) rfl (by decide) (by omega) (by omega) e2 ?_
      refine jr.aload_n rfl rfl ?_
      refine jr.getf (i := 7) (v := .ref 27) rfl rfl (by decide) rfl (by decide) rfl rfl rfl rfl ?_
      refine jr.iload_n rfl rfl ?_
      refine jr.iald (i := y) (x := P) rfl (by decide) rfl (by decide) (by omega) (by omega) g_P ?_
      refine jr.iload_n rfl rfl ?_
      refine jr.iadd rfl ?_
      refine jr_v rfl rfl (Or.inl rfl) rfl rfl (by decide) rfl ⟨rfl, Nat.le_of_ble_eq_true rfl, Nat.le_of_ble_eq_true rfl⟩ rfl (jc.deep (c_Flows_isPortTaken_x hC_M (by omega) (by omega) g_V (fun r3 z3 w3_0 => ?_)) (by decide))
      refine jr.if_ne rfl rfl (by omega) (fun h77 => ?_) (fun h77 => ?_)
      · have sx77 : (1 : Int) ≤ r3 := by omega
        clear h77
        refine jr.iinc (ls' := [_, _, _, _]) rfl rfl (by decide) rfl ?_
        refine jr.goto rfl rfl ?_
        refine jr.pick (ls := [_, _, _, _]) [1, 0, 2, 3] rfl rfl ?_
        exact ih (nM - 1) (by omega) M (i + 1) hC_M ht_M (by omega) (by omega) g_V g_P (by have q1 : T 28 y = v1 := (by rw [← hy1]; exact e1); have q2 : T 27 y = P := (by rw [← hy1]; exact g_P); have q3 : T 26 y = v2 := (by rw [← hy1]; exact e2); rw [hy0, q1, q2, q3, chf_s (by omega), if_neg (by rw [← hy1, ← w3_0]; omega)]) hy1 (by omega) hy3 (by omega)
      · refine jr.aload_n rfl rfl ?_
        refine jr.iload_n rfl rfl ?_
        refine jr.putf (i := 13) (x := y) rfl rfl (Nat.lt_trans (kx_1 k_x).1 (by decide)) (kx_1 k_x).2 (by decide) rfl rfl rfl rfl rfl ?_
        refine jr.aload_n rfl rfl ?_
        refine jr.aload_n rfl rfl ?_
        refine jr.getf (i := 6) (v := .ref 26) rfl rfl (by decide) rfl (by decide) rfl rfl rfl rfl ?_
        refine jr.iload_n rfl rfl ?_
        refine jr.lald (i := y) (x := v2) rfl (by decide) rfl (by decide) (by omega) (by omega) ((ju_c _ _ (kd_ne (by rw [(show kd 26 = 10 from rfl), k_x]; decide))).trans e2) ?_
        refine jr.putf (i := 14) (x := v2) rfl rfl (Nat.lt_trans (kx_1 k_x).1 (by decide)) (kx_1 k_x).2 (by decide) rfl rfl rfl rfl rfl ?_
        refine jr.aload_n rfl rfl ?_
        refine jr.aload_n rfl rfl ?_
        refine jr.getf (i := 7) (v := .ref 27) rfl rfl (by decide) rfl (by decide) rfl rfl rfl rfl ?_
        refine jr.iload_n rfl rfl ?_
        refine jr.iald (i := y) (x := P) rfl (by decide) rfl (by decide) (by omega) (by omega) ((ju_c _ _ (kd_ne (by rw [(show kd 27 = 11 from rfl), k_x]; decide))).trans ((ju_c _ _ (kd_ne (by rw [(show kd 27 = 11 from rfl), k_x]; decide))).trans g_P)) ?_
        refine jr.iload_n rfl rfl ?_
        refine jr.iadd rfl ?_
        refine jr.putf (i := 15) (x := (P + i)) rfl rfl (Nat.lt_trans (kx_1 k_x).1 (by decide)) (kx_1 k_x).2 (by decide) rfl rfl rfl rfl rfl ?_
        refine jr.aload_n rfl rfl ?_
        refine jr.getf (i := 15) (x := (P + i)) (v := .int (Int32.ofInt (P + i))) rfl rfl (Nat.lt_trans (kx_1 k_x).1 (by decide)) (kx_1 k_x).2 (by decide) rfl rfl (ju_same _ _ _ _) rfl ?_
        exact jr.ireturn rfl rfl rfl (q _ _ (CI.u (CI.u (CI.u hC_M (i := 13) k_x (show (-2147483648 : Int) ≤ _ ∧ _ ≤ (2147483647 : Int) from by omega) rfl) (i := 14) k_x (show (-9223372036854775808 : Int) ≤ _ ∧ _ ≤ (9223372036854775807 : Int) from by omega) rfl) (i := 15) k_x (show (-2147483648 : Int) ≤ _ ∧ _ ≤ (2147483647 : Int) from by omega) rfl) (FR.o (FR.o (FR.o ht_M k_x rfl) k_x rfl) k_x rfl) (by omega) (by have q1 : T 28 y = v1 := (by rw [← hy1]; exact e1); have q2 : T 27 y = P := (by rw [← hy1]; exact g_P); have q3 : T 26 y = v2 := (by rw [← hy1]; exact e2); have hq : chf T V.toNat (T 26 y) (T 27 y) (T 28 y).toNat 0 = i := (by rw [hy0, q1, q2, q3, chf_s (by omega), if_pos (by rw [← hy1, ← w3_0]; omega)]); exact Or.inr (Or.inr ⟨⟨by omega, hy3⟩, Or.inr ⟨by rw [hq]; omega, by rw [hq, q2], by rw [hq, q2, q3, hy1]⟩⟩)))
end
