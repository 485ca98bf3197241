section
theorem c_Flows_findEnds_o {A : Nat → Option (Nat × (Nat → Int32))} {Q : Option Value → jm → Prop} {T : jm} {M : jm} (hC_M : CI M) (ht_M : FR W_c_Flows_findEnds_o T M) {x : Nat} (k_x : kd x = 18) (p0 : T = M) (q : ∀ (r : Int) (M' : jm), CI M' → FR W_c_Flows_findEnds_o T M' → 0 ≤ r ∧ r ≤ 1 → (OL T M') → Q (some (.int (Int32.ofInt r))) M') : jc A 5 89 [.ref (15), .ref (x)] M Q := by
  refine jc_of (m := xm_89) rfl (Nat.le_of_ble_eq_true rfl) rfl ?_
  refine jr.aload_n rfl rfl ?_
  refine jr.iconst rfl ?_
  refine jr.putf (i := 5) (x := 0) rfl rfl (by decide) rfl (by decide) rfl rfl rfl rfl rfl ?_
  refine jr.aload_n rfl rfl ?_
  refine jr.aload_n rfl rfl ?_
  refine jr.bipush rfl (by decide) ?_
  refine jr_v rfl rfl (Or.inl rfl) rfl rfl (Nat.lt_trans (kx_18 k_x).1 (by decide)) (kx_18 k_x).2 ⟨rfl, Nat.le_of_ble_eq_true rfl, Nat.le_of_ble_eq_true rfl⟩ rfl (jc.deep (c_Headers_firstOf (CI.u hC_M (i := 5) (show kd 15 = 9 from rfl) (show (0 : Int) ≤ _ ∧ _ ≤ (1 : Int) from by omega) rfl) k_x (by omega) (fun r1 z1 w1_0 => ?_)) (by decide))
  refine jr.putf (i := 3) (x := r1) rfl rfl (by decide) rfl (by decide) rfl rfl rfl rfl rfl ?_
  refine jr.aload_n rfl rfl ?_
  obtain ⟨v2, e2⟩ : ∃ z_, M x 4 = z_ := ⟨_, rfl⟩
  have b2 : (-2147483648) ≤ v2 ∧ v2 ≤ 2147483647 := by rw [← e2]; exact (CI.r hC_M k_x (by decide) 4)
  refine jr.getf (i := 4) (x := v2) (v := .int (Int32.ofInt (v2))) rfl rfl (Nat.lt_trans (kx_18 k_x).1 (by decide)) (kx_18 k_x).2 (by decide) rfl rfl ((ju_i _ _ (by decide)).trans ((ju_i _ _ (by decide)).trans e2)) rfl ?_
  refine jr.if_ne rfl rfl (by omega) (fun h19 => ?_) (fun h19 => ?_)
  · refine jr.iconst rfl ?_
    exact jr.ireturn rfl rfl rfl (q _ _ (CI.u (CI.u hC_M (i := 5) (show kd 15 = 9 from rfl) (show (0 : Int) ≤ _ ∧ _ ≤ (1 : Int) from by omega) rfl) (i := 3) (show kd 15 = 9 from rfl) (show (-2147483648 : Int) ≤ _ ∧ _ ≤ (2147483647 : Int) from by omega) rfl) (FR.o (FR.o ht_M (show kd 15 = 9 from rfl) rfl) (show kd 15 = 9 from rfl) rfl) (by omega) (fun b k b0 b1 => by rw [ju_c _ _ (show b ≠ 15 by omega), ju_c _ _ (show b ≠ 15 by omega), p0]))
  · refine jr.aload_n rfl rfl ?_
    refine jr.getf (i := 3) (x := r1) (v := .int (Int32.ofInt (r1))) rfl rfl (by decide) rfl (by decide) rfl rfl (ju_same _ _ _ _) rfl ?_
    refine jr.iconst rfl ?_
    refine jr.icmp_eq rfl rfl (by omega) (by omega) (fun h27 => ?_) (fun h27 => ?_)
    · refine jr.iconst rfl ?_
      exact jr.ireturn rfl rfl rfl (q _ _ (CI.u (CI.u hC_M (i := 5) (show kd 15 = 9 from rfl) (show (0 : Int) ≤ _ ∧ _ ≤ (1 : Int) from by omega) rfl) (i := 3) (show kd 15 = 9 from rfl) (show (-2147483648 : Int) ≤ _ ∧ _ ≤ (2147483647 : Int) from by omega) rfl) (FR.o (FR.o ht_M (show kd 15 = 9 from rfl) rfl) (show kd 15 = 9 from rfl) rfl) (by omega) (fun b k b0 b1 => by rw [ju_c _ _ (show b ≠ 15 by omega), ju_c _ _ (show b ≠ 15 by omega), p0]))
    · have sx27 : (0 : Int) ≤ r1 := by omega
      clear h27
      refine jr.aload_n rfl rfl ?_
      refine jr_v rfl rfl (Or.inl rfl) rfl rfl (Nat.lt_trans (kx_18 k_x).1 (by decide)) (kx_18 k_x).2 ⟨rfl, Nat.le_of_ble_eq_true rfl, Nat.le_of_ble_eq_true rfl⟩ rfl (jc.deep (c_Headers_pieceHeader (CI.u (CI.u hC_M (i := 5) (show kd 15 = 9 from rfl) (show (0 : Int) ≤ _ ∧ _ ≤ (1 : Int) from by omega) rfl) (i := 3) (show kd 15 = 9 from rfl) (show (-2147483648 : Int) ≤ _ ∧ _ ≤ (2147483647 : Int) from by omega) rfl) k_x (fun r3 z3 w3_0 => ?_)) (by decide))
      refine jr.iconst rfl ?_
      refine jr.icmp_eq rfl rfl (by omega) (by omega) (fun h35 => ?_) (fun h35 => ?_)
      · refine jr.aload_n rfl rfl ?_
        refine jr.aload_n rfl rfl ?_
        refine jr.aload_n rfl rfl ?_
        refine jr.getf (i := 3) (x := r1) (v := .int (Int32.ofInt (r1))) rfl rfl (by decide) rfl (by decide) rfl rfl (ju_same _ _ _ _) rfl ?_
        refine jr_v rfl rfl (Or.inl rfl) rfl rfl (Nat.lt_trans (kx_18 k_x).1 (by decide)) (kx_18 k_x).2 ⟨rfl, Nat.le_of_ble_eq_true rfl, Nat.le_of_ble_eq_true rfl⟩ rfl (jc.deep (c_Headers_innerOf (CI.u (CI.u hC_M (i := 5) (show kd 15 = 9 from rfl) (show (0 : Int) ≤ _ ∧ _ ≤ (1 : Int) from by omega) rfl) (i := 3) (show kd 15 = 9 from rfl) (show (-2147483648 : Int) ≤ _ ∧ _ ≤ (2147483647 : Int) from by omega) rfl) k_x (by omega) (fun r4 z4 w4_0 => ?_)) (by decide))
        refine jr.putf (i := 4) (x := r4) rfl rfl (by decide) rfl (by decide) rfl rfl rfl rfl rfl ?_
        refine jr.aload_n rfl rfl ?_
        refine jr.aload_n rfl rfl ?_
        refine jr.getf (i := 4) (x := r4) (v := .int (Int32.ofInt (r4))) rfl rfl (by decide) rfl (by decide) rfl rfl (ju_same _ _ _ _) rfl ?_
        refine jr_v rfl rfl (Or.inl rfl) rfl rfl (Nat.lt_trans (kx_18 k_x).1 (by decide)) (kx_18 k_x).2 ⟨rfl, Nat.le_of_ble_eq_true rfl, Nat.le_of_ble_eq_true rfl⟩ rfl (jc.deep (c_Headers_kindAt (CI.u (CI.u (CI.u hC_M (i := 5) (show kd 15 = 9 from rfl) (show (0 : Int) ≤ _ ∧ _ ≤ (1 : Int) from by omega) rfl) (i := 3) (show kd 15 = 9 from rfl) (show (-2147483648 : Int) ≤ _ ∧ _ ≤ (2147483647 : Int) from by omega) rfl) (i := 4) (show kd 15 = 9 from rfl) (show (-2147483648 : Int) ≤ _ ∧ _ ≤ (2147483647 : Int) from by omega) rfl) k_x (by omega) (fun r5 z5 w5_0 w5_1 => ?_)) (by decide))
        refine jr_s rfl rfl (Or.inr rfl) ⟨Nat.le_of_ble_eq_true rfl, Nat.le_of_ble_eq_true rfl⟩ rfl rfl (jc.deep (c_PacketWall_isCarriedKind (CI.u (CI.u (CI.u hC_M (i := 5) (show kd 15 = 9 from rfl) (show (0 : Int) ≤ _ ∧ _ ≤ (1 : Int) from by omega) rfl) (i := 3) (show kd 15 = 9 from rfl) (show (-2147483648 : Int) ≤ _ ∧ _ ≤ (2147483647 : Int) from by omega) rfl) (i := 4) (show kd 15 = 9 from rfl) (show (-2147483648 : Int) ≤ _ ∧ _ ≤ (2147483647 : Int) from by omega) rfl) (by omega) (fun r6 z6 w6_0 => ?_)) (by decide))
        refine jr.if_ne rfl rfl (by omega) (fun h63 => ?_) (fun h63 => ?_)
        · have sx63 : (1 : Int) ≤ r6 := by omega
          clear h63
          refine jr.aload_n rfl rfl ?_
          refine jr.aload_n rfl rfl ?_
          refine jr.aload_n rfl rfl ?_
          refine jr_v rfl rfl (Or.inl rfl) rfl rfl (by decide) rfl ⟨rfl, Nat.le_of_ble_eq_true rfl, Nat.le_of_ble_eq_true rfl⟩ rfl (jc.deep (c_Flows_isQuoting (CI.u (CI.u (CI.u hC_M (i := 5) (show kd 15 = 9 from rfl) (show (0 : Int) ≤ _ ∧ _ ≤ (1 : Int) from by omega) rfl) (i := 3) (show kd 15 = 9 from rfl) (show (-2147483648 : Int) ≤ _ ∧ _ ≤ (2147483647 : Int) from by omega) rfl) (i := 4) (show kd 15 = 9 from rfl) (show (-2147483648 : Int) ≤ _ ∧ _ ≤ (2147483647 : Int) from by omega) rfl) k_x (fun r7 z7  => ?_)) (by decide))
          refine jr.putf (i := 5) (x := r7) rfl rfl (by decide) rfl (by decide) rfl rfl rfl (j_zr (by omega)) (j_fz (by omega)) ?_
          refine jr.aload_n rfl rfl ?_
          refine jr.getf (i := 5) (x := r7) (v := .int (Int32.ofInt (r7))) rfl rfl (by decide) rfl (by decide) rfl rfl (ju_same _ _ _ _) rfl ?_
          refine jr.if_eq rfl rfl (by omega) (fun h81 => ?_) (fun h81 => ?_)
          · refine jr.aload_n rfl rfl ?_
            refine jr.getf (i := 2) (v := .ref 18) rfl rfl (by decide) rfl (by decide) rfl rfl rfl rfl ?_
            refine jr.aload_n rfl rfl ?_
            refine jr.aload_n rfl rfl ?_
            refine jr.getf (i := 3) (x := r1) (v := .int (Int32.ofInt (r1))) rfl rfl (by decide) rfl (by decide) rfl rfl ((ju_i _ _ (by decide)).trans ((ju_i _ _ (by decide)).trans (ju_same _ _ _ _))) rfl ?_
            refine jr.aload_n rfl rfl ?_
            refine jr.getf (i := 4) (x := r4) (v := .int (Int32.ofInt (r4))) rfl rfl (by decide) rfl (by decide) rfl rfl ((ju_i _ _ (by decide)).trans (ju_same _ _ _ _)) rfl ?_
            refine jr_v rfl rfl (Or.inl rfl) rfl rfl (by decide) rfl ⟨rfl, Nat.le_of_ble_eq_true rfl, Nat.le_of_ble_eq_true rfl⟩ rfl (jc.deep (c_Flow_describe_o (CI.u (CI.u (CI.u (CI.u hC_M (i := 5) (show kd 15 = 9 from rfl) (show (0 : Int) ≤ _ ∧ _ ≤ (1 : Int) from by omega) rfl) (i := 3) (show kd 15 = 9 from rfl) (show (-2147483648 : Int) ≤ _ ∧ _ ≤ (2147483647 : Int) from by omega) rfl) (i := 4) (show kd 15 = 9 from rfl) (show (-2147483648 : Int) ≤ _ ∧ _ ≤ (2147483647 : Int) from by omega) rfl) (i := 5) (show kd 15 = 9 from rfl) (show (0 : Int) ≤ _ ∧ _ ≤ (1 : Int) from by omega) rfl) (FR.rfl _ ((ju (ju (ju (ju M 15 5 0) 15 3 r1) 15 4 r4) 15 5 r7))) k_x (by omega) (by omega) rfl (fun M8 hC_M8 hf_M8 w8_0 => ?_)) (by decide))
            have ht_M8 : FR W_c_Flows_findEnds_o T M8 := FR.t (FR.o (FR.o (FR.o (FR.o ht_M (show kd 15 = 9 from rfl) rfl) (show kd 15 = 9 from rfl) rfl) (show kd 15 = 9 from rfl) rfl) (show kd 15 = 9 from rfl) rfl) hf_M8 (kw_sub rfl)
            refine jr.iconst rfl ?_
            exact jr.ireturn rfl rfl rfl (q _ _ hC_M8 ht_M8 (by omega) (fun b k b0 b1 => by rw [w8_0 b k (by omega) (by omega) (by omega), ju_c _ _ (show b ≠ 15 by omega), ju_c _ _ (show b ≠ 15 by omega), ju_c _ _ (show b ≠ 15 by omega), ju_c _ _ (show b ≠ 15 by omega), p0]))
          · have sx81 : (1 : Int) ≤ r7 := by omega
            clear h81
            refine jr.aload_n rfl rfl ?_
            refine jr.getf (i := 2) (v := .ref 18) rfl rfl (by decide) rfl (by decide) rfl rfl rfl rfl ?_
            refine jr.aload_n rfl rfl ?_
            refine jr.aload_n rfl rfl ?_
            refine jr.getf (i := 4) (x := r4) (v := .int (Int32.ofInt (r4))) rfl rfl (by decide) rfl (by decide) rfl rfl ((ju_i _ _ (by decide)).trans (ju_same _ _ _ _)) rfl ?_
            refine jr.iconst rfl ?_
            refine jr.iadd rfl ?_
            refine jr.aload_n rfl rfl ?_
            refine jr.getf (i := 4) (x := r4) (v := .int (Int32.ofInt (r4))) rfl rfl (by decide) rfl (by decide) rfl rfl ((ju_i _ _ (by decide)).trans (ju_same _ _ _ _)) rfl ?_
            refine jr.iconst rfl ?_
            refine jr.iadd rfl ?_
            refine jr_v rfl rfl (Or.inl rfl) rfl rfl (by decide) rfl ⟨rfl, Nat.le_of_ble_eq_true rfl, Nat.le_of_ble_eq_true rfl⟩ rfl (jc.deep (c_Flow_describe_o (CI.u (CI.u (CI.u (CI.u hC_M (i := 5) (show kd 15 = 9 from rfl) (show (0 : Int) ≤ _ ∧ _ ≤ (1 : Int) from by omega) rfl) (i := 3) (show kd 15 = 9 from rfl) (show (-2147483648 : Int) ≤ _ ∧ _ ≤ (2147483647 : Int) from by omega) rfl) (i := 4) (show kd 15 = 9 from rfl) (show (-2147483648 : Int) ≤ _ ∧ _ ≤ (2147483647 : Int) from by omega) rfl) (i := 5) (show kd 15 = 9 from rfl) (show (0 : Int) ≤ _ ∧ _ ≤ (1 : Int) from by omega) rfl) (FR.rfl _ ((ju (ju (ju (ju M 15 5 0) 15 3 r1) 15 4 r4) 15 5 r7))) k_x (by omega) (by omega) rfl (fun M9 hC_M9 hf_M9 w9_0 => ?_)) (by decide))
            have ht_M9 : FR W_c_Flows_findEnds_o T M9 := FR.t (FR.o (FR.o (FR.o (FR.o ht_M (show kd 15 = 9 from rfl) rfl) (show kd 15 = 9 from rfl) rfl) (show kd 15 = 9 from rfl) rfl) (show kd 15 = 9 from rfl) rfl) hf_M9 (kw_sub rfl)
            refine jr.goto rfl rfl ?_
            refine jr.iconst rfl ?_
            exact jr.ireturn rfl rfl rfl (q _ _ hC_M9 ht_M9 (by omega) (fun b k b0 b1 => by rw [w9_0 b k (by omega) (by omega) (by omega), ju_c _ _ (show b ≠ 15 by omega), ju_c _ _ (show b ≠ 15 by omega), ju_c _ _ (show b ≠ 15 by omega), ju_c _ _ (show b ≠ 15 by omega), p0]))
        · refine jr.iconst rfl ?_
          exact jr.ireturn rfl rfl rfl (q _ _ (CI.u (CI.u (CI.u hC_M (i := 5) (show kd 15 = 9 from rfl) (show (0 : Int) ≤ _ ∧ _ ≤ (1 : Int) from by omega) rfl) (i := 3) (show kd 15 = 9 from rfl) (show (-2147483648 : Int) ≤ _ ∧ _ ≤ (2147483647 : Int) from by omega) rfl) (i := 4) (show kd 15 = 9 from rfl) (show (-2147483648 : Int) ≤ _ ∧ _ ≤ (2147483647 : Int) from by omega) rfl) (FR.o (FR.o (FR.o ht_M (show kd 15 = 9 from rfl) rfl) (show kd 15 = 9 from rfl) rfl) (show kd 15 = 9 from rfl) rfl) (by omega) (fun b k b0 b1 => by rw [ju_c _ _ (show b ≠ 15 by omega), ju_c _ _ (show b ≠ 15 by omega), ju_c _ _ (show b ≠ 15 by omega), p0]))
      · have sx35 : (0 : Int) ≤ r3 := by omega
        clear h35
        refine jr.iconst rfl ?_
        exact jr.ireturn rfl rfl rfl (q _ _ (CI.u (CI.u hC_M (i := 5) (show kd 15 = 9 from rfl) (show (0 : Int) ≤ _ ∧ _ ≤ (1 : Int) from by omega) rfl) (i := 3) (show kd 15 = 9 from rfl) (show (-2147483648 : Int) ≤ _ ∧ _ ≤ (2147483647 : Int) from by omega) rfl) (FR.o (FR.o ht_M (show kd 15 = 9 from rfl) rfl) (show kd 15 = 9 from rfl) rfl) (by omega) (fun b k b0 b1 => by rw [ju_c _ _ (show b ≠ 15 by omega), ju_c _ _ (show b ≠ 15 by omega), p0]))
end
