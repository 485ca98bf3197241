section
theorem c_Flow_describe_o {A : Nat → Option (Nat × (Nat → Int32))} {Q : Option Value → jm → Prop} {T : jm} {M : jm} (hC_M : CI M) (ht_M : FR W_c_Flow_describe_o T M) {x : Nat} (k_x : kd x = 18) {y : Int} (h_y : (-2147483648) ≤ y ∧ y ≤ 2147483647) {z : Int} (h_z : (-2147483648) ≤ z ∧ z ≤ 2147483647) (p0 : T = M) (q : ∀ (M' : jm), CI M' → FR W_c_Flow_describe_o T M' → (O3 T M') → Q none M') : jc A 4 57 [.ref (18), .ref (x), .int (Int32.ofInt (y)), .int (Int32.ofInt (z))] M Q := by
  refine jc_of (m := xm_57) rfl (Nat.le_of_ble_eq_true rfl) rfl ?_
  refine jr.aload_n rfl rfl ?_
  refine jr.iload_n rfl rfl ?_
  refine jr_v rfl rfl (Or.inl rfl) rfl rfl (Nat.lt_trans (kx_18 k_x).1 (by decide)) (kx_18 k_x).2 ⟨rfl, Nat.le_of_ble_eq_true rfl, Nat.le_of_ble_eq_true rfl⟩ rfl (jc.deep (c_Headers_kindAt hC_M k_x (by omega) (fun r1 z1 w1_0 w1_1 => ?_)) (by decide))
  refine jr.istore (ls' := [_, _, _, _, _]) rfl (by decide) rfl ?_
  refine jr.aload_n rfl rfl ?_
  refine jr.aload_n rfl rfl ?_
  refine jr.iload_n rfl rfl ?_
  refine jr_v rfl rfl (Or.inl rfl) rfl rfl (Nat.lt_trans (kx_18 k_x).1 (by decide)) (kx_18 k_x).2 ⟨rfl, Nat.le_of_ble_eq_true rfl, Nat.le_of_ble_eq_true rfl⟩ rfl (jc.deep (c_Headers_kindAt hC_M k_x (by omega) (fun r2 z2 w2_0 w2_1 => ?_)) (by decide))
  refine jr.iconst rfl ?_
  refine jr.icmp_ne rfl rfl (by omega) (by omega) (fun h14 => ?_) (fun h14 => ?_)
  · refine jr.iconst rfl ?_
    refine jr.putf (i := 1) (x := 0) rfl rfl (by decide) rfl (by decide) rfl rfl rfl rfl rfl ?_
    refine jr.aload_n rfl rfl ?_
    refine jr.iload rfl rfl ?_
    refine jr.bipush rfl (by decide) ?_
    refine jr.icmp_ne rfl rfl (by omega) (by omega) (fun h30 => ?_) (fun h30 => ?_)
    · refine jr.iload rfl rfl ?_
      refine jr.bipush rfl (by decide) ?_
      refine jr.icmp_ne rfl rfl (by omega) (by omega) (fun h41 => ?_) (fun h41 => ?_)
      · refine jr.bipush rfl (by decide) ?_
        refine jr.putf (i := 2) (x := 17) rfl rfl (by decide) rfl (by decide) rfl rfl rfl rfl rfl ?_
        refine jr.pick (ls := [_, _, _, _, _]) [3, 4, 0, 1, 2] rfl rfl ?_
        exact c_Flow_describe_o_L54 k_x q 0 ((ju (ju M 18 1 0) 18 2 17)) r1 (CI.u (CI.u hC_M (i := 1) (show kd 18 = 1 from rfl) (show (0 : Int) ≤ _ ∧ _ ≤ (1 : Int) from by omega) rfl) (i := 2) (show kd 18 = 1 from rfl) (show (-2147483648 : Int) ≤ _ ∧ _ ≤ (2147483647 : Int) from by omega) rfl) (FR.o (FR.o ht_M (show kd 18 = 1 from rfl) rfl) (show kd 18 = 1 from rfl) rfl) (by omega) (by omega) (by omega) (fun b k b0 _ _ => by rw [ju_c _ _ b0, ju_c _ _ b0, p0]) (by omega)
      · refine jr.bipush rfl (by decide) ?_
        refine jr.goto rfl rfl ?_
        refine jr.putf (i := 2) (x := 6) rfl rfl (by decide) rfl (by decide) rfl rfl rfl rfl rfl ?_
        refine jr.pick (ls := [_, _, _, _, _]) [3, 4, 0, 1, 2] rfl rfl ?_
        exact c_Flow_describe_o_L54 k_x q 0 ((ju (ju M 18 1 0) 18 2 6)) r1 (CI.u (CI.u hC_M (i := 1) (show kd 18 = 1 from rfl) (show (0 : Int) ≤ _ ∧ _ ≤ (1 : Int) from by omega) rfl) (i := 2) (show kd 18 = 1 from rfl) (show (-2147483648 : Int) ≤ _ ∧ _ ≤ (2147483647 : Int) from by omega) rfl) (FR.o (FR.o ht_M (show kd 18 = 1 from rfl) rfl) (show kd 18 = 1 from rfl) rfl) (by omega) (by omega) (by omega) (fun b k b0 _ _ => by rw [ju_c _ _ b0, ju_c _ _ b0, p0]) (by omega)
    · refine jr.iconst rfl ?_
      refine jr.goto rfl rfl ?_
      refine jr.putf (i := 2) (x := 1) rfl rfl (by decide) rfl (by decide) rfl rfl rfl rfl rfl ?_
      refine jr.pick (ls := [_, _, _, _, _]) [3, 4, 0, 1, 2] rfl rfl ?_
      exact c_Flow_describe_o_L54 k_x q 0 ((ju (ju M 18 1 0) 18 2 1)) r1 (CI.u (CI.u hC_M (i := 1) (show kd 18 = 1 from rfl) (show (0 : Int) ≤ _ ∧ _ ≤ (1 : Int) from by omega) rfl) (i := 2) (show kd 18 = 1 from rfl) (show (-2147483648 : Int) ≤ _ ∧ _ ≤ (2147483647 : Int) from by omega) rfl) (FR.o (FR.o ht_M (show kd 18 = 1 from rfl) rfl) (show kd 18 = 1 from rfl) rfl) (by omega) (by omega) (by omega) (fun b k b0 _ _ => by rw [ju_c _ _ b0, ju_c _ _ b0, p0]) (by omega)
  · refine jr.iconst rfl ?_
    refine jr.goto rfl rfl ?_
    refine jr.putf (i := 1) (x := 1) rfl rfl (by decide) rfl (by decide) rfl rfl rfl rfl rfl ?_
    refine jr.aload_n rfl rfl ?_
    refine jr.iload rfl rfl ?_
    refine jr.bipush rfl (by decide) ?_
    refine jr.icmp_ne rfl rfl (by omega) (by omega) (fun h30 => ?_) (fun h30 => ?_)
    · refine jr.iload rfl rfl ?_
      refine jr.bipush rfl (by decide) ?_
      refine jr.icmp_ne rfl rfl (by omega) (by omega) (fun h41 => ?_) (fun h41 => ?_)
      · refine jr.bipush rfl (by decide) ?_
        refine jr.putf (i := 2) (x := 17) rfl rfl (by decide) rfl (by decide) rfl rfl rfl rfl rfl ?_
        refine jr.pick (ls := [_, _, _, _, _]) [3, 4, 0, 1, 2] rfl rfl ?_
        exact c_Flow_describe_o_L54 k_x q 0 ((ju (ju M 18 1 1) 18 2 17)) r1 (CI.u (CI.u hC_M (i := 1) (show kd 18 = 1 from rfl) (show (0 : Int) ≤ _ ∧ _ ≤ (1 : Int) from by omega) rfl) (i := 2) (show kd 18 = 1 from rfl) (show (-2147483648 : Int) ≤ _ ∧ _ ≤ (2147483647 : Int) from by omega) rfl) (FR.o (FR.o ht_M (show kd 18 = 1 from rfl) rfl) (show kd 18 = 1 from rfl) rfl) (by omega) (by omega) (by omega) (fun b k b0 _ _ => by rw [ju_c _ _ b0, ju_c _ _ b0, p0]) (by omega)
      · refine jr.bipush rfl (by decide) ?_
        refine jr.goto rfl rfl ?_
        refine jr.putf (i := 2) (x := 6) rfl rfl (by decide) rfl (by decide) rfl rfl rfl rfl rfl ?_
        refine jr.pick (ls := [_, _, _, _, _]) [3, 4, 0, 1, 2] rfl rfl ?_
        exact c_Flow_describe_o_L54 k_x q 0 ((ju (ju M 18 1 1) 18 2 6)) r1 (CI.u (CI.u hC_M (i := 1) (show kd 18 = 1 from rfl) (show (0 : Int) ≤ _ ∧ _ ≤ (1 : Int) from by omega) rfl) (i := 2) (show kd 18 = 1 from rfl) (show (-2147483648 : Int) ≤ _ ∧ _ ≤ (2147483647 : Int) from by omega) rfl) (FR.o (FR.o ht_M (show kd 18 = 1 from rfl) rfl) (show kd 18 = 1 from rfl) rfl) (by omega) (by omega) (by omega) (fun b k b0 _ _ => by rw [ju_c _ _ b0, ju_c _ _ b0, p0]) (by omega)
    · refine jr.iconst rfl ?_
      refine jr.goto rfl rfl ?_
      refine jr.putf (i := 2) (x := 1) rfl rfl (by decide) rfl (by decide) rfl rfl rfl rfl rfl ?_
      refine jr.pick (ls := [_, _, _, _, _]) [3, 4, 0, 1, 2] rfl rfl ?_
      exact c_Flow_describe_o_L54 k_x q 0 ((ju (ju M 18 1 1) 18 2 1)) r1 (CI.u (CI.u hC_M (i := 1) (show kd 18 = 1 from rfl) (show (0 : Int) ≤ _ ∧ _ ≤ (1 : Int) from by omega) rfl) (i := 2) (show kd 18 = 1 from rfl) (show (-2147483648 : Int) ≤ _ ∧ _ ≤ (2147483647 : Int) from by omega) rfl) (FR.o (FR.o ht_M (show kd 18 = 1 from rfl) rfl) (show kd 18 = 1 from rfl) rfl) (by omega) (by omega) (by omega) (fun b k b0 _ _ => by rw [ju_c _ _ b0, ju_c _ _ b0, p0]) (by omega)
noncomputable def W_c_Flows_findEnds_o : List (Nat × Nat) := [(1, 1), (1, 2), (2, 1000), (7, 1000), (9, 3), (9, 4), (9, 5)]
end
