section
theorem c_Flow_describe_x_L54 {A : Nat → Option (Nat × (Nat → Int32))} {Q : Option Value → jm → Prop} {f : Int → Int} {N : Int} {T : jm} {C : Int} {y : Int} {z : Int} (q : ∀ (M' : jm), CI M' → FR W_c_Flow_describe_x T M' → (DSL T M' f N C y z 2) → Q none M') : ∀ (nM : Nat) (M : jm) (k : Int), CI M → FR W_c_Flow_describe_x T M → 0 ≤ y ∧ y ≤ 11 → 0 ≤ z ∧ z ≤ 11 → 7 ≤ k ∧ k ≤ 9 → M 3 3 = C → (HS M 3 f N) → (DSL T M f N C y z 0) → (k = kA f N C z ∧ 7 ≤ k ∧ k ≤ 9) → 0 ≤ nM → jr A 3 xm_57 54 [(2, .int (Int32.ofInt (y))), (3, .int (Int32.ofInt (z))), (4, .int (Int32.ofInt (k))), (0, .ref (18)), (1, .ref (3))] [] M Q := by
  intro nM
  induction nM using Nat.strongRecOn with
  | ind nM ih =>
    intro M k hC_M ht_M h_y h_z h_k g_C hy0 hy1 hy2 hm
    have b_C : 0 ≤ C ∧ C ≤ 12 := by rw [← g_C]; exact (CI.r hC_M (show kd 3 = 18 from rfl) (by decide) 3)
    refine jr.iconst rfl ?_
    refine jr.istore rfl (by decide) rfl ?_
    refine jr.pick [1, 2, 3, 0, 4, 5] rfl rfl ?_
    exact c_Flow_describe_x_L57  q 2 M k 0 hC_M ht_M (by omega) (by omega) (by omega) (by omega) g_C hy0 hy1 hy2 (by omega)
theorem c_Flow_describe_x {A : Nat → Option (Nat × (Nat → Int32))} {Q : Option Value → jm → Prop} {f : Int → Int} {N : Int} {T : jm} {M : jm} (hC_M : CI M) (ht_M : FR W_c_Flow_describe_x T M) {y : Int} (h_y : 0 ≤ y ∧ y ≤ 11) {z : Int} (h_z : 0 ≤ z ∧ z ≤ 11) {C : Int} (g_C : M 3 3 = C) (p0 : T = M) (p1 : HS M 3 f N) (p2 : 7 ≤ kA f N C z ∧ kA f N C z ≤ 9) (q : ∀ (M' : jm), CI M' → FR W_c_Flow_describe_x T M' → (DSL T M' f N C y z 2) → Q none M') : jc A 4 57 [.ref (18), .ref (3), .int (Int32.ofInt (y)), .int (Int32.ofInt (z))] M Q := by
  refine jc_of (m := xm_57) rfl (Nat.le_of_ble_eq_true rfl) rfl ?_
  have b_C : 0 ≤ C ∧ C ≤ 12 := by rw [← g_C]; exact (CI.r hC_M (show kd 3 = 18 from rfl) (by decide) 3)
  refine jr.aload_n rfl rfl ?_
  refine jr.iload_n rfl rfl ?_
  refine jr_v rfl rfl (Or.inl rfl) rfl rfl (by decide) rfl ⟨rfl, Nat.le_of_ble_eq_true rfl, Nat.le_of_ble_eq_true rfl⟩ rfl (jc.deep (c_Headers_kindAt_x hC_M (show kd 3 = 18 from rfl) (by omega) g_C p1 (fun r1 z1 w1_0 => ?_)) (by decide))
  refine jr.istore rfl (by decide) rfl ?_
  refine jr.aload_n rfl rfl ?_
  refine jr.aload_n rfl rfl ?_
  refine jr.iload_n rfl rfl ?_
  refine jr_v rfl rfl (Or.inl rfl) rfl rfl (by decide) rfl ⟨rfl, Nat.le_of_ble_eq_true rfl, Nat.le_of_ble_eq_true rfl⟩ rfl (jc.deep (c_Headers_kindAt_x hC_M (show kd 3 = 18 from rfl) (by omega) g_C p1 (fun r2 z2 w2_0 => ?_)) (by decide))
  refine jr.iconst rfl ?_
  refine jr.icmp_ne rfl rfl (by omega) (by omega) (fun h14 => ?_) (fun h14 => ?_)
  · refine jr.iconst rfl ?_
    refine jr.putf (i := 1) (x := 0) rfl rfl (by decide) rfl (by decide) rfl rfl rfl rfl rfl ?_
    refine jr.aload_n rfl rfl ?_
    refine jr.iload rfl rfl ?_
    refine jr.bipush rfl (by decide) ?_
    refine jr.icmp_ne rfl rfl (by omega) (by omega) (fun h30 => ?_) (fun h30 => ?_)
    · refine jr.iload rfl rfl ?_
      refine jr.bipush rfl (by decide) ?_
      refine jr.icmp_ne rfl rfl (by omega) (by omega) (fun h41 => ?_) (fun h41 => ?_)
      · refine jr.bipush rfl (by decide) ?_
        refine jr.putf (i := 2) (x := 17) rfl rfl (by decide) rfl (by decide) rfl rfl rfl rfl rfl ?_
        refine jr.pick [3, 4, 0, 1, 2] rfl rfl ?_
        exact c_Flow_describe_x_L54  q 0 ((ju (ju M 18 1 0) 18 2 17)) r1 (CI.u (CI.u hC_M (i := 1) (show kd 18 = 1 from rfl) (show (0 : Int) ≤ _ ∧ _ ≤ (1 : Int) from by omega) rfl) (i := 2) (show kd 18 = 1 from rfl) (show (-2147483648 : Int) ≤ _ ∧ _ ≤ (2147483647 : Int) from by omega) rfl) (FR.o (FR.o ht_M (show kd 18 = 1 from rfl) rfl) (show kd 18 = 1 from rfl) rfl) (by omega) (by omega) (by omega) ((ju_c _ _ (by decide)).trans ((ju_c _ _ (by decide)).trans g_C)) (HS.fr p1 (show kd 3 = 18 from rfl) hC_M (FR.o (FR.o (FR.rfl [(1, 1), (1, 2)] M) (show kd 18 = 1 from rfl) rfl) (show kd 18 = 1 from rfl) rfl) rfl) ⟨⟨(by rw [show (ju (ju M 18 1 0) 18 2 17) 18 1 = 0 from ((ju_i _ _ (by decide)).trans (ju_same _ _ _ _)), ← w2_0]; first | (rw [if_pos (by omega)]) | (rw [if_neg (by omega)])), (by rw [show (ju (ju M 18 1 0) 18 2 17) 18 2 = 17 from (ju_same _ _ _ _), ← w1_0]; unfold nxk; (repeat' split) <;> omega)⟩, fun s s0 s1 => absurd s1 (by omega), fun b k b0 _ _ => by rw [ju_c _ _ b0, ju_c _ _ b0, p0]⟩ ⟨w1_0, by omega, by omega⟩ (by omega)
      · refine jr.bipush rfl (by decide) ?_
        refine jr.goto rfl rfl ?_
        refine jr.putf (i := 2) (x := 6) rfl rfl (by decide) rfl (by decide) rfl rfl rfl rfl rfl ?_
        refine jr.pick [3, 4, 0, 1, 2] rfl rfl ?_
        exact c_Flow_describe_x_L54  q 0 ((ju (ju M 18 1 0) 18 2 6)) r1 (CI.u (CI.u hC_M (i := 1) (show kd 18 = 1 from rfl) (show (0 : Int) ≤ _ ∧ _ ≤ (1 : Int) from by omega) rfl) (i := 2) (show kd 18 = 1 from rfl) (show (-2147483648 : Int) ≤ _ ∧ _ ≤ (2147483647 : Int) from by omega) rfl) (FR.o (FR.o ht_M (show kd 18 = 1 from rfl) rfl) (show kd 18 = 1 from rfl) rfl) (by omega) (by omega) (by omega) ((ju_c _ _ (by decide)).trans ((ju_c _ _ (by decide)).trans g_C)) (HS.fr p1 (show kd 3 = 18 from rfl) hC_M (FR.o (FR.o (FR.rfl [(1, 1), (1, 2)] M) (show kd 18 = 1 from rfl) rfl) (show kd 18 = 1 from rfl) rfl) rfl) ⟨⟨(by rw [show (ju (ju M 18 1 0) 18 2 6) 18 1 = 0 from ((ju_i _ _ (by decide)).trans (ju_same _ _ _ _)), ← w2_0]; first | (rw [if_pos (by omega)]) | (rw [if_neg (by omega)])), (by rw [show (ju (ju M 18 1 0) 18 2 6) 18 2 = 6 from (ju_same _ _ _ _), ← w1_0]; unfold nxk; (repeat' split) <;> omega)⟩, fun s s0 s1 => absurd s1 (by omega), fun b k b0 _ _ => by rw [ju_c _ _ b0, ju_c _ _ b0, p0]⟩ ⟨w1_0, by omega, by omega⟩ (by omega)
    · refine jr.iconst rfl ?_
      refine jr.goto rfl rfl ?_
      refine jr.putf (i := 2) (x := 1) rfl rfl (by decide) rfl (by decide) rfl rfl rfl rfl rfl ?_
      refine jr.pick [3, 4, 0, 1, 2] rfl rfl ?_
      exact c_Flow_describe_x_L54  q 0 ((ju (ju M 18 1 0) 18 2 1)) r1 (CI.u (CI.u hC_M (i := 1) (show kd 18 = 1 from rfl) (show (0 : Int) ≤ _ ∧ _ ≤ (1 : Int) from by omega) rfl) (i := 2) (show kd 18 = 1 from rfl) (show (-2147483648 : Int) ≤ _ ∧ _ ≤ (2147483647 : Int) from by omega) rfl) (FR.o (FR.o ht_M (show kd 18 = 1 from rfl) rfl) (show kd 18 = 1 from rfl) rfl) (by omega) (by omega) (by omega) ((ju_c _ _ (by decide)).trans ((ju_c _ _ (by decide)).trans g_C)) (HS.fr p1 (show kd 3 = 18 from rfl) hC_M (FR.o (FR.o (FR.rfl [(1, 1), (1, 2)] M) (show kd 18 = 1 from rfl) rfl) (show kd 18 = 1 from rfl) rfl) rfl) ⟨⟨(by rw [show (ju (ju M 18 1 0) 18 2 1) 18 1 = 0 from ((ju_i _ _ (by decide)).trans (ju_same _ _ _ _)), ← w2_0]; first | (rw [if_pos (by omega)]) | (rw [if_neg (by omega)])), (by rw [show (ju (ju M 18 1 0) 18 2 1) 18 2 = 1 from (ju_same _ _ _ _), ← w1_0]; unfold nxk; (repeat' split) <;> omega)⟩, fun s s0 s1 => absurd s1 (by omega), fun b k b0 _ _ => by rw [ju_c _ _ b0, ju_c _ _ b0, p0]⟩ ⟨w1_0, by omega, by omega⟩ (by omega)
  · refine jr.iconst rfl ?_
    refine jr.goto rfl rfl ?_
    refine jr.putf (i := 1) (x := 1) rfl rfl (by decide) rfl (by decide) rfl rfl rfl rfl rfl ?_
    refine jr.aload_n rfl rfl ?_
    refine jr.iload rfl rfl ?_
    refine jr.bipush rfl (by decide) ?_
    refine jr.icmp_ne rfl rfl (by omega) (by omega) (fun h30 => ?_) (fun h30 => ?_)
    · refine jr.iload rfl rfl ?_
      refine jr.bipush rfl (by decide) ?_
      refine jr.icmp_ne rfl rfl (by omega) (by omega) (fun h41 => ?_) (fun h41 => ?_)
      · refine jr.bipush rfl (by decide) ?_
        refine jr.putf (i := 2) (x := 17) rfl rfl (by decide) rfl (by decide) rfl rfl rfl rfl rfl ?_
        refine jr.pick [3, 4, 0, 1, 2] rfl rfl ?_
        exact c_Flow_describe_x_L54  q 0 ((ju (ju M 18 1 1) 18 2 17)) r1 (CI.u (CI.u hC_M (i := 1) (show kd 18 = 1 from rfl) (show (0 : Int) ≤ _ ∧ _ ≤ (1 : Int) from by omega) rfl) (i := 2) (show kd 18 = 1 from rfl) (show (-2147483648 : Int) ≤ _ ∧ _ ≤ (2147483647 : Int) from by omega) rfl) (FR.o (FR.o ht_M (show kd 18 = 1 from rfl) rfl) (show kd 18 = 1 from rfl) rfl) (by omega) (by omega) (by omega) ((ju_c _ _ (by decide)).trans ((ju_c _ _ (by decide)).trans g_C)) (HS.fr p1 (show kd 3 = 18 from rfl) hC_M (FR.o (FR.o (FR.rfl [(1, 1), (1, 2)] M) (show kd 18 = 1 from rfl) rfl) (show kd 18 = 1 from rfl) rfl) rfl) ⟨⟨(by rw [show (ju (ju M 18 1 1) 18 2 17) 18 1 = 1 from ((ju_i _ _ (by decide)).trans (ju_same _ _ _ _)), ← w2_0]; first | (rw [if_pos (by omega)]) | (rw [if_neg (by omega)])), (by rw [show (ju (ju M 18 1 1) 18 2 17) 18 2 = 17 from (ju_same _ _ _ _), ← w1_0]; unfold nxk; (repeat' split) <;> omega)⟩, fun s s0 s1 => absurd s1 (by omega), fun b k b0 _ _ => by rw [ju_c _ _ b0, ju_c _ _ b0, p0]⟩ ⟨w1_0, by omega, by omega⟩ (by omega)
      · refine jr.bipush rfl (by decide) ?_
        refine jr.goto rfl rfl ?_
        refine jr.putf (i := 2) (x := 6) rfl rfl (by decide) rfl (by decide) rfl rfl rfl rfl rfl ?_
        refine jr.pick [3, 4, 0, 1, 2] rfl rfl ?_
        exact c_Flow_describe_x_L54  q 0 ((ju (ju M 18 1 1) 18 2 6)) r1 (CI.u (CI.u hC_M (i := 1) (show kd 18 = 1 from rfl) (show (0 : Int) ≤ _ ∧ _ ≤ (1 : Int) from by omega) rfl) (i := 2) (show kd 18 = 1 from rfl) (show (-2147483648 : Int) ≤ _ ∧ _ ≤ (2147483647 : Int) from by omega) rfl) (FR.o (FR.o ht_M (show kd 18 = 1 from rfl) rfl) (show kd 18 = 1 from rfl) rfl) (by omega) (by omega) (by omega) ((ju_c _ _ (by decide)).trans ((ju_c _ _ (by decide)).trans g_C)) (HS.fr p1 (show kd 3 = 18 from rfl) hC_M (FR.o (FR.o (FR.rfl [(1, 1), (1, 2)] M) (show kd 18 = 1 from rfl) rfl) (show kd 18 = 1 from rfl) rfl) rfl) ⟨⟨(by rw [show (ju (ju M 18 1 1) 18 2 6) 18 1 = 1 from ((ju_i _ _ (by decide)).trans (ju_same _ _ _ _)), ← w2_0]; first | (rw [if_pos (by omega)]) | (rw [if_neg (by omega)])), (by rw [show (ju (ju M 18 1 1) 18 2 6) 18 2 = 6 from (ju_same _ _ _ _), ← w1_0]; unfold nxk; (repeat' split) <;> omega)⟩, fun s s0 s1 => absurd s1 (by omega), fun b k b0 _ _ => by rw [ju_c _ _ b0, ju_c _ _ b0, p0]⟩ ⟨w1_0, by omega, by omega⟩ (by omega)
    · refine jr.iconst rfl ?_
      refine jr.goto rfl rfl ?_
      refine jr.putf (i := 2) (x := 1) rfl rfl (by decide) rfl (by decide) rfl rfl rfl rfl rfl ?_
      refine jr.pick [3, 4, 0, 1, 2] rfl rfl ?_
      exact c_Flow_describe_x_L54  q 0 ((ju (ju M 18 1 1) 18 2 1)) r1 (CI.u (CI.u hC_M (i := 1) (show kd 18 = 1 from rfl) (show (0 : Int) ≤ _ ∧ _ ≤ (1 : Int) from by omega) rfl) (i := 2) (show kd 18 = 1 from rfl) (show (-2147483648 : Int) ≤ _ ∧ _ ≤ (2147483647 : Int) from by omega) rfl) (FR.o (FR.o ht_M (show kd 18 = 1 from rfl) rfl) (show kd 18 = 1 from rfl) rfl) (by omega) (by omega) (by omega) ((ju_c _ _ (by decide)).trans ((ju_c _ _ (by decide)).trans g_C)) (HS.fr p1 (show kd 3 = 18 from rfl) hC_M (FR.o (FR.o (FR.rfl [(1, 1), (1, 2)] M) (show kd 18 = 1 from rfl) rfl) (show kd 18 = 1 from rfl) rfl) rfl) ⟨⟨(by rw [show (ju (ju M 18 1 1) 18 2 1) 18 1 = 1 from ((ju_i _ _ (by decide)).trans (ju_same _ _ _ _)), ← w2_0]; first | (rw [if_pos (by omega)]) | (rw [if_neg (by omega)])), (by rw [show (ju (ju M 18 1 1) 18 2 1) 18 2 = 1 from (ju_same _ _ _ _), ← w1_0]; unfold nxk; (repeat' split) <;> omega)⟩, fun s s0 s1 => absurd s1 (by omega), fun b k b0 _ _ => by rw [ju_c _ _ b0, ju_c _ _ b0, p0]⟩ ⟨w1_0, by omega, by omega⟩ (by omega)
end
section
/-! ===== the class: a packet's ends ===== -/
noncomputable def qfF (f : Int → Int) (N C i : Int) : Prop := kA f N C i = 7 ∧ (vA f N C i 0 = 3 ∨ vA f N C i 0 = 11) ∧ (kA f N C (i + 1) = 2 ∨ kA f N C (i + 1) = 3) ∧ (7 ≤ kA f N C (i + 2) ∧ kA f N C (i + 2) ≤ 9)
noncomputable def heF (f : Int → Int) (N C F : Int) : Prop := F = 0 ∧ ntf f N C ≠ -1 ∧ pcf f N C = -1 ∧ (7 ≤ kA f N C (inf f N C (ntf f N C)) ∧ kA f N C (inf f N C (ntf f N C)) ≤ 9)
noncomputable def E2F (M : jm) (f : Int → Int) (N C y z : Int) : Prop := (M 18 1 = (if kA f N C y = 3 then 1 else 0) ∧ M 18 2 = nxk (kA f N C z)) ∧ ∀ s : Int, 0 ≤ s → s < 2 → M 19 s = adf f N C y s ∧ M 20 s = epf f N C z s
noncomputable def OT5 (T M : jm) : Prop := (∀ (b : Nat) (k : Int), b ≠ 15 → b ≠ 18 → b ≠ 19 → b ≠ 20 → M b k = T b k) ∧ ∀ k : Int, k ≠ 3 → k ≠ 4 → k ≠ 5 → M 15 k = T 15 k
end
