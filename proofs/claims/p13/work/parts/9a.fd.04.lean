section
theorem c_Flow_describe_x {A : Nat → Option (Nat × (Nat → Int32))} {Q : Option Value → jm → Prop} {f : Int → Int} {N : Int} {T : jm} {M : jm} (hC_M : CI M) (ht_M : FR W_c_Flow_describe_x T M) {y : Int} (h_y : 0 ≤ y ∧ y ≤ 11) {z : Int} (h_z : 0 ≤ z ∧ z ≤ 11) {C : Int} (g_C : M 3 3 = C) (p0 : T = M) (p1 : HS M 3 f N) (p2 : 7 ≤ kA f N C z ∧ kA f N C z ≤ 9) (q : ∀ (M' : jm), CI M' → FR W_c_Flow_describe_x T M' → (DSL T M' f N C y z 2) → Q none M') : jc A 4 57 [.ref (18), .ref (3), .int (Int32.ofInt (y)), .int (Int32.ofInt (z))] M Q := by
  refine jc_of (m := xm_57) rfl (Nat.le_of_ble_eq_true rfl) rfl ?_
  have b_C : 0 ≤ C ∧ C ≤ 12 := by rw [← g_C]; exact (CI.r hC_M (show kd 3 = 18 from rfl) (by decide) 3)
  refine jr.aload_n rfl rfl ?_
  refine jr.iload_n rfl rfl ?_
  refine jr_v rfl rfl (Or.inl rfl) rfl rfl (by decide) rfl ⟨rfl, Nat.le_of_ble_eq_true rfl, Nat.le_of_ble_eq_true rfl⟩ rfl (jc.deep (c_Headers_kindAt_x hC_M (show kd 3 = 18 from rfl) (by omega) g_C p1 (fun r1 z1 w1_0 => ?_)) (by decide))
  refine jr.istore (ls' := [_, _, _, _, _]) rfl (by decide) rfl ?_
  refine jr.aload_n rfl rfl ?_
  refine jr.aload_n rfl rfl ?_
  refine jr.iload_n rfl rfl ?_
  refine jr_v rfl rfl (Or.inl rfl) rfl rfl (by decide) rfl ⟨rfl, Nat.le_of_ble_eq_true rfl, Nat.le_of_ble_eq_true rfl⟩ rfl (jc.deep (c_Headers_kindAt_x hC_M (show kd 3 = 18 from rfl) (by omega) g_C p1 (fun r2 z2 w2_0 => ?_)) (by decide))
  refine jr.iconst rfl ?_
  refine jr.icmp_ne rfl rfl (by omega) (by omega) (fun h14 => ?_) (fun h14 => ?_)
  · refine jr.iconst rfl ?_
    refine jr.putf (i := 1) (x := 0) rfl rfl (by decide) rfl (by decide) rfl rfl rfl rfl rfl ?_
    refine jr.aload_n rfl rfl ?_
    refine jr.iload rfl rfl ?_
    refine jr.bipush rfl (by decide) ?_
    refine jr.icmp_ne rfl rfl (by omega) (by omega) (fun h30 => ?_) (fun h30 => ?_)
    · refine jr.iload rfl rfl ?_
      refine jr.bipush rfl (by decide) ?_
      refine jr.icmp_ne rfl rfl (by omega) (by omega) (fun h41 => ?_) (fun h41 => ?_)
      · refine jr.bipush rfl (by decide) ?_
        refine jr.putf (i := 2) (x := 17) rfl rfl (by decide) rfl (by decide) rfl rfl rfl rfl rfl ?_
        refine jr.pick (ls := [_, _, _, _, _]) [3, 4, 0, 1, 2] rfl rfl ?_
        exact c_Flow_describe_x_L54  q 0 ((ju (ju M 18 1 0) 18 2 17)) r1 (CI.u (CI.u hC_M (i := 1) (show kd 18 = 1 from rfl) (show (0 : Int) ≤ _ ∧ _ ≤ (1 : Int) from by omega) rfl) (i := 2) (show kd 18 = 1 from rfl) (show (-2147483648 : Int) ≤ _ ∧ _ ≤ (2147483647 : Int) from by omega) rfl) (FR.o (FR.o ht_M (show kd 18 = 1 from rfl) rfl) (show kd 18 = 1 from rfl) rfl) (by omega) (by omega) (by omega) ((ju_c _ _ (by decide)).trans ((ju_c _ _ (by decide)).trans g_C)) (HS.fr p1 (show kd 3 = 18 from rfl) hC_M (FR.o (FR.o (FR.rfl [(1, 1), (1, 2)] M) (show kd 18 = 1 from rfl) rfl) (show kd 18 = 1 from rfl) rfl) rfl) ⟨⟨(by rw [show (ju (ju M 18 1 0) 18 2 17) 18 1 = 0 from ((ju_i _ _ (by decide)).trans (ju_same _ _ _ _)), ← w2_0]; first | (rw [if_pos (by omega)]) | (rw [if_neg (by omega)])), (by rw [show (ju (ju M 18 1 0) 18 2 17) 18 2 = 17 from (ju_same _ _ _ _), ← w1_0]; unfold nxk; (repeat' split) <;> omega)⟩, fun s s0 s1 => absurd s1 (by omega), fun b k b0 _ _ => by rw [ju_c _ _ b0, ju_c _ _ b0, p0]⟩ ⟨w1_0, by omega, by omega⟩ (by omega)
      · refine jr.bipush rfl (by decide) ?_
        refine jr.goto rfl rfl ?_
        refine jr.putf (i := 2) (x := 6) rfl rfl (by decide) rfl (by decide) rfl rfl rfl rfl rfl ?_
        refine jr.pick (ls := [_, _, _, _, _]) [3, 4, 0, 1, 2] rfl rfl ?_
        exact c_Flow_describe_x_L54  q 0 ((ju (ju M 18 1 0) 18 2 6)) r1 (CI.u (CI.u hC_M (i := 1) (show kd 18 = 1 from rfl) (show (0 : Int) ≤ _ ∧ _ ≤ (1 : Int) from by omega) rfl) (i := 2) (show kd 18 = 1 from rfl) (show (-2147483648 : Int) ≤ _ ∧ _ ≤ (2147483647 : Int) from by omega) rfl) (FR.o (FR.o ht_M (show kd 18 = 1 from rfl) rfl) (show kd 18 = 1 from rfl) rfl) (by omega) (by omega) (by omega) ((ju_c _ _ (by decide)).trans ((ju_c _ _ (by decide)).trans g_C)) (HS.fr p1 (show kd 3 = 18 from rfl) hC_M (FR.o (FR.o (FR.rfl [(1, 1), (1, 2)] M) (show kd 18 = 1 from rfl) rfl) (show kd 18 = 1 from rfl) rfl) rfl) ⟨⟨(by rw [show (ju (ju M 18 1 0) 18 2 6) 18 1 = 0 from ((ju_i _ _ (by decide)).trans (ju_same _ _ _ _)), ← w2_0]; first | (rw [if_pos (by omega)]) | (rw [if_neg (by omega)])), (by rw [show (ju (ju M 18 1 0) 18 2 6) 18 2 = 6 from (ju_same _ _ _ _), ← w1_0]; unfold nxk; (repeat' split) <;> omega)⟩, fun s s0 s1 => absurd s1 (by omega), fun b k b0 _ _ => by rw [ju_c _ _ b0, ju_c _ _ b0, p0]⟩ ⟨w1_0, by omega, by omega⟩ (by omega)
    · refine jr.iconst rfl ?_
      refine jr.goto rfl rfl ?_
      refine jr.putf (i := 2) (x := 1) rfl rfl (by decide) rfl (by decide) rfl rfl rfl rfl rfl ?_
      refine jr.pick (ls := [_, _, _, _, _]) [3, 4, 0, 1, 2] rfl rfl ?_
      exact c_Flow_describe_x_L54  q 0 ((ju (ju M 18 1 0) 18 2 1)) r1 (CI.u (CI.u hC_M (i := 1) (show kd 18 = 1 from rfl) (show (0 : Int) ≤ _ ∧ _ ≤ (1 : Int) from by omega) rfl) (i := 2) (show kd 18 = 1 from rfl) (show (-2147483648 : Int) ≤ _ ∧ _ ≤ (2147483647 : Int) from by omega) rfl) (FR.o (FR.o ht_M (show kd 18 = 1 from rfl) rfl) (show kd 18 = 1 from rfl) rfl) (by omega) (by omega) (by omega) ((ju_c _ _ (by decide)).trans ((ju_c _ _ (by decide)).trans g_C)) (HS.fr p1 (show kd 3 = 18 from rfl) hC_M (FR.o (FR.o (FR.rfl [(1, 1), (1, 2)] M) (show kd 18 = 1 from rfl) rfl) (show kd 18 = 1 from rfl) rfl) rfl) ⟨⟨(by rw [show (ju (ju M 18 1 0) 18 2 1) 18 1 = 0 from ((ju_i _ _ (by decide)).trans (ju_same _ _ _ _)), ← w2_0]; first | (rw [if_pos (by omega)]) | (rw [if_neg (by omega)])), (by rw [show (ju (ju M 18 1 0) 18 2 1) 18 2 = 1 from (ju_same _ _ _ _), ← w1_0]; unfold nxk; (repeat' split) <;> omega)⟩, fun s s0 s1 => absurd s1 (by omega), fun b k b0 _ _ => by rw [ju_c _ _ b0, ju_c _ _ b0, p0]⟩ ⟨w1_0, by omega, by omega⟩ (by omega)
  · refine jr.iconst rfl ?_
    refine jr.goto rfl rfl ?_
    refine jr.putf (i := 1) (x := 1) rfl rfl (by decide) rfl (by decide) rfl rfl rfl rfl rfl ?_
    refine jr.aload_n rfl rfl ?_
    refine jr.iload rfl rfl ?_
    refine jr.bipush rfl (by decide) ?_
    refine jr.icmp_ne rfl rfl (by omega) (by omega) (fun h30 => ?_) (fun h30 => ?_)
    · refine jr.iload rfl rfl ?_
      refine jr.bipush rfl (by decide) ?_
      refine jr.icmp_ne rfl rfl (by omega) (by omega) (fun h41 => ?_) (fun h41 => ?_)
      · refine jr.bipush rfl (by decide) ?_
        refine jr.putf (i := 2) (x := 17) rfl rfl (by decide) rfl (by decide) rfl rfl rfl rfl rfl ?_
        refine jr.pick (ls := [_, _, _, _, _]) [3, 4, 0, 1, 2] rfl rfl ?_
        exact c_Flow_describe_x_L54  q 0 ((ju (ju M 18 1 1) 18 2 17)) r1 (CI.u (CI.u hC_M (i := 1) (show kd 18 = 1 from rfl) (show (0 : Int) ≤ _ ∧ _ ≤ (1 : Int) from by omega) rfl) (i := 2) (show kd 18 = 1 from rfl) (show (-2147483648 : Int) ≤ _ ∧ _ ≤ (2147483647 : Int) from by omega) rfl) (FR.o (FR.o ht_M (show kd 18 = 1 from rfl) rfl) (show kd 18 = 1 from rfl) rfl) (by omega) (by omega) (by omega) ((ju_c _ _ (by decide)).trans ((ju_c _ _ (by decide)).trans g_C)) (HS.fr p1 (show kd 3 = 18 from rfl) hC_M (FR.o (FR.o (FR.rfl [(1, 1), (1, 2)] M) (show kd 18 = 1 from rfl) rfl) (show kd 18 = 1 from rfl) rfl) rfl) ⟨⟨(by rw [show (ju (ju M 18 1 1) 18 2 17) 18 1 = 1 from ((ju_i _ _ (by decide)).trans (ju_same _ _ _ _)), ← w2_0]; first | (rw [if_pos (by omega)]) | (rw [if_neg (by omega)])), (by rw [show (ju (ju M 18 1 1) 18 2 17) 18 2 = 17 from (ju_same _ _ _ _), ← w1_0]; unfold nxk; (repeat' split) <;> omega)⟩, fun s s0 s1 => absurd s1 (by omega), fun b k b0 _ _ => by rw [ju_c _ _ b0, ju_c _ _ b0, p0]⟩ ⟨w1_0, by omega, by omega⟩ (by omega)
      · refine jr.bipush rfl (by decide) ?_
        refine jr.goto rfl rfl ?_
        refine jr.putf (i := 2) (x := 6) rfl rfl (by decide) rfl (by decide) rfl rfl rfl rfl rfl ?_
        refine jr.pick (ls := [_, _, _, _, _]) [3, 4, 0, 1, 2] rfl rfl ?_
        exact c_Flow_describe_x_L54  q 0 ((ju (ju M 18 1 1) 18 2 6)) r1 (CI.u (CI.u hC_M (i := 1) (show kd 18 = 1 from rfl) (show (0 : Int) ≤ _ ∧ _ ≤ (1 : Int) from by omega) rfl) (i := 2) (show kd 18 = 1 from rfl) (show (-2147483648 : Int) ≤ _ ∧ _ ≤ (2147483647 : Int) from by omega) rfl) (FR.o (FR.o ht_M (show kd 18 = 1 from rfl) rfl) (show kd 18 = 1 from rfl) rfl) (by omega) (by omega) (by omega) ((ju_c _ _ (by decide)).trans ((ju_c _ _ (by decide)).trans g_C)) (HS.fr p1 (show kd 3 = 18 from rfl) hC_M (FR.o (FR.o (FR.rfl [(1, 1), (1, 2)] M) (show kd 18 = 1 from rfl) rfl) (show kd 18 = 1 from rfl) rfl) rfl) ⟨⟨(by rw [show (ju (ju M 18 1 1) 18 2 6) 18 1 = 1 from ((ju_i _ _ (by decide)).trans (ju_same _ _ _ _)), ← w2_0]; first | (rw [if_pos (by omega)]) | (rw [if_neg (by omega)])), (by rw [show (ju (ju M 18 1 1) 18 2 6) 18 2 = 6 from (ju_same _ _ _ _), ← w1_0]; unfold nxk; (repeat' split) <;> omega)⟩, fun s s0 s1 => absurd s1 (by omega), fun b k b0 _ _ => by rw [ju_c _ _ b0, ju_c _ _ b0, p0]⟩ ⟨w1_0, by omega, by omega⟩ (by omega)
    · refine jr.iconst rfl ?_
      refine jr.goto rfl rfl ?_
      refine jr.putf (i := 2) (x := 1) rfl rfl (by decide) rfl (by decide) rfl rfl rfl rfl rfl ?_
      refine jr.pick (ls := [_, _, _, _, _]) [3, 4, 0, 1, 2] rfl rfl ?_
      exact c_Flow_describe_x_L54  q 0 ((ju (ju M 18 1 1) 18 2 1)) r1 (CI.u (CI.u hC_M (i := 1) (show kd 18 = 1 from rfl) (show (0 : Int) ≤ _ ∧ _ ≤ (1 : Int) from by omega) rfl) (i := 2) (show kd 18 = 1 from rfl) (show (-2147483648 : Int) ≤ _ ∧ _ ≤ (2147483647 : Int) from by omega) rfl) (FR.o (FR.o ht_M (show kd 18 = 1 from rfl) rfl) (show kd 18 = 1 from rfl) rfl) (by omega) (by omega) (by omega) ((ju_c _ _ (by decide)).trans ((ju_c _ _ (by decide)).trans g_C)) (HS.fr p1 (show kd 3 = 18 from rfl) hC_M (FR.o (FR.o (FR.rfl [(1, 1), (1, 2)] M) (show kd 18 = 1 from rfl) rfl) (show kd 18 = 1 from rfl) rfl) rfl) ⟨⟨(by rw [show (ju (ju M 18 1 1) 18 2 1) 18 1 = 1 from ((ju_i _ _ (by decide)).trans (ju_same _ _ _ _)), ← w2_0]; first | (rw [if_pos (by omega)]) | (rw [if_neg (by omega)])), (by rw [show (ju (ju M 18 1 1) 18 2 1) 18 2 = 1 from (ju_same _ _ _ _), ← w1_0]; unfold nxk; (repeat' split) <;> omega)⟩, fun s s0 s1 => absurd s1 (by omega), fun b k b0 _ _ => by rw [ju_c _ _ b0, ju_c _ _ b0, p0]⟩ ⟨w1_0, by omega, by omega⟩ (by omega)
end
section
end
