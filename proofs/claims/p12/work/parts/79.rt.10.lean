section
theorem c_Gathering_beginAs_x {A : Nat → Option (Nat × (Nat → Int32))} {Q : Option Value → jm → Prop} {T : jm} {M : jm} (hC_M : CI M) (ht_M : FR W_c_Gathering_beginAs_x T M) {t : Nat} (k_t : kd t = 15) {y : Int} (h_y : (-2147483648) ≤ y ∧ y ≤ 2147483647) (p0 : T = M) (p1 : t ≠ 11) (q : ∀ (M' : jm), CI M' → FR W_c_Gathering_beginAs_x T M' → (BGA T M' t 11 y) → Q none M') : jc A 1 95 [.ref (t), .ref (11), .int (Int32.ofInt (y))] M Q := by
  refine jc_of (m := xm_95) rfl (Nat.le_of_ble_eq_true rfl) rfl ?_
  refine jr.aload_n rfl rfl ?_
  refine jr.iconst rfl ?_
  refine jr.putf (i := 0) (x := 1) rfl rfl (Nat.lt_trans (kx_15 k_t).1 (by decide)) (kx_15 k_t).2 (by decide) rfl rfl rfl rfl rfl ?_
  refine jr.aload_n rfl rfl ?_
  refine jr.aload_n rfl rfl ?_
  obtain ⟨v1, e1⟩ : ∃ z_, M 11 1 = z_ := ⟨_, rfl⟩
  have b1 : (-2147483648) ≤ v1 ∧ v1 ≤ 2147483647 := by rw [← e1]; exact (CI.r hC_M (show kd 11 = 15 from rfl) (by decide) 1)
  refine jr.getf (i := 1) (x := v1) (v := .int (Int32.ofInt (v1))) rfl rfl (by decide) rfl (by decide) rfl rfl ((ju_i _ _ (by decide)).trans e1) rfl ?_
  refine jr.putf (i := 1) (x := v1) rfl rfl (Nat.lt_trans (kx_15 k_t).1 (by decide)) (kx_15 k_t).2 (by decide) rfl rfl rfl rfl rfl ?_
  refine jr.aload_n rfl rfl ?_
  refine jr.aload_n rfl rfl ?_
  obtain ⟨v2, e2⟩ : ∃ z_, M 11 2 = z_ := ⟨_, rfl⟩
  have b2 : (-9223372036854775808) ≤ v2 ∧ v2 ≤ 9223372036854775807 := by rw [← e2]; exact (CI.r hC_M (show kd 11 = 15 from rfl) (by decide) 2)
  refine jr.getf (i := 2) (x := v2) (v := .long (Int64.ofInt (v2))) rfl rfl (by decide) rfl (by decide) rfl rfl ((ju_i _ _ (by decide)).trans ((ju_i _ _ (by decide)).trans e2)) rfl ?_
  refine jr.putf (i := 2) (x := v2) rfl rfl (Nat.lt_trans (kx_15 k_t).1 (by decide)) (kx_15 k_t).2 (by decide) rfl rfl rfl rfl rfl ?_
  refine jr.aload_n rfl rfl ?_
  refine jr.aload_n rfl rfl ?_
  obtain ⟨v3, e3⟩ : ∃ z_, M 11 3 = z_ := ⟨_, rfl⟩
  have b3 : (-9223372036854775808) ≤ v3 ∧ v3 ≤ 9223372036854775807 := by rw [← e3]; exact (CI.r hC_M (show kd 11 = 15 from rfl) (by decide) 3)
  refine jr.getf (i := 3) (x := v3) (v := .long (Int64.ofInt (v3))) rfl rfl (by decide) rfl (by decide) rfl rfl ((ju_i _ _ (by decide)).trans ((ju_i _ _ (by decide)).trans ((ju_i _ _ (by decide)).trans e3))) rfl ?_
  refine jr.putf (i := 3) (x := v3) rfl rfl (Nat.lt_trans (kx_15 k_t).1 (by decide)) (kx_15 k_t).2 (by decide) rfl rfl rfl rfl rfl ?_
  refine jr.aload_n rfl rfl ?_
  refine jr.aload_n rfl rfl ?_
  obtain ⟨v4, e4⟩ : ∃ z_, M 11 4 = z_ := ⟨_, rfl⟩
  have b4 : (-9223372036854775808) ≤ v4 ∧ v4 ≤ 9223372036854775807 := by rw [← e4]; exact (CI.r hC_M (show kd 11 = 15 from rfl) (by decide) 4)
  refine jr.getf (i := 4) (x := v4) (v := .long (Int64.ofInt (v4))) rfl rfl (by decide) rfl (by decide) rfl rfl ((ju_i _ _ (by decide)).trans ((ju_i _ _ (by decide)).trans ((ju_i _ _ (by decide)).trans ((ju_i _ _ (by decide)).trans e4)))) rfl ?_
  refine jr.putf (i := 4) (x := v4) rfl rfl (Nat.lt_trans (kx_15 k_t).1 (by decide)) (kx_15 k_t).2 (by decide) rfl rfl rfl rfl rfl ?_
  refine jr.aload_n rfl rfl ?_
  refine jr.aload_n rfl rfl ?_
  obtain ⟨v5, e5⟩ : ∃ z_, M 11 5 = z_ := ⟨_, rfl⟩
  have b5 : (-9223372036854775808) ≤ v5 ∧ v5 ≤ 9223372036854775807 := by rw [← e5]; exact (CI.r hC_M (show kd 11 = 15 from rfl) (by decide) 5)
  refine jr.getf (i := 5) (x := v5) (v := .long (Int64.ofInt (v5))) rfl rfl (by decide) rfl (by decide) rfl rfl ((ju_i _ _ (by decide)).trans ((ju_i _ _ (by decide)).trans ((ju_i _ _ (by decide)).trans ((ju_i _ _ (by decide)).trans ((ju_i _ _ (by decide)).trans e5))))) rfl ?_
  refine jr.putf (i := 5) (x := v5) rfl rfl (Nat.lt_trans (kx_15 k_t).1 (by decide)) (kx_15 k_t).2 (by decide) rfl rfl rfl rfl rfl ?_
  refine jr.aload_n rfl rfl ?_
  refine jr.iload_n rfl rfl ?_
  refine jr.putf (i := 6) (x := y) rfl rfl (Nat.lt_trans (kx_15 k_t).1 (by decide)) (kx_15 k_t).2 (by decide) rfl rfl rfl rfl rfl ?_
  refine jr.aload_n rfl rfl ?_
  refine jr.iconst rfl ?_
  refine jr.putf (i := 7) (x := (-1)) rfl rfl (Nat.lt_trans (kx_15 k_t).1 (by decide)) (kx_15 k_t).2 (by decide) rfl rfl rfl rfl rfl ?_
  refine jr.aload_n rfl rfl ?_
  refine jr.iconst rfl ?_
  refine jr.putf (i := 8) (x := 0) rfl rfl (Nat.lt_trans (kx_15 k_t).1 (by decide)) (kx_15 k_t).2 (by decide) rfl rfl rfl rfl rfl ?_
  refine jr.aload_n rfl rfl ?_
  refine jr.iconst rfl ?_
  refine jr.putf (i := 11) (x := (-1)) rfl rfl (Nat.lt_trans (kx_15 k_t).1 (by decide)) (kx_15 k_t).2 (by decide) rfl rfl rfl rfl rfl ?_
  refine jr.iconst rfl ?_
  refine jr.istore_n (ls' := [_, _, _, _]) rfl (by decide) rfl ?_
  refine jr.pick (ls := [_, _, _, _]) [3, 0, 1, 2] rfl rfl ?_
  exact c_Gathering_beginAs_x_L67 k_t q 360 ((ju (ju (ju (ju (ju (ju (ju (ju (ju (ju M t 0 1) t 1 v1) t 2 v2) t 3 v3) t 4 v4) t 5 v5) t 6 y) t 7 (-1)) t 8 0) t 11 (-1))) 0 (CI.u (CI.u (CI.u (CI.u (CI.u (CI.u (CI.u (CI.u (CI.u (CI.u hC_M (i := 0) k_t (show (0 : Int) ≤ _ ∧ _ ≤ (1 : Int) from by omega) rfl) (i := 1) k_t (show (-2147483648 : Int) ≤ _ ∧ _ ≤ (2147483647 : Int) from by omega) rfl) (i := 2) k_t (show (-9223372036854775808 : Int) ≤ _ ∧ _ ≤ (9223372036854775807 : Int) from by omega) rfl) (i := 3) k_t (show (-9223372036854775808 : Int) ≤ _ ∧ _ ≤ (9223372036854775807 : Int) from by omega) rfl) (i := 4) k_t (show (-9223372036854775808 : Int) ≤ _ ∧ _ ≤ (9223372036854775807 : Int) from by omega) rfl) (i := 5) k_t (show (-9223372036854775808 : Int) ≤ _ ∧ _ ≤ (9223372036854775807 : Int) from by omega) rfl) (i := 6) k_t (show (-2147483648 : Int) ≤ _ ∧ _ ≤ (2147483647 : Int) from by omega) rfl) (i := 7) k_t (show (-1 : Int) ≤ _ ∧ _ ≤ (70000 : Int) from by omega) rfl) (i := 8) k_t (show (-2147483648 : Int) ≤ _ ∧ _ ≤ (2147483647 : Int) from by omega) rfl) (i := 11) k_t (show (-1 : Int) ≤ _ ∧ _ ≤ (400 : Int) from by omega) rfl) (FR.o (FR.o (FR.o (FR.o (FR.o (FR.o (FR.o (FR.o (FR.o (FR.o ht_M k_t rfl) k_t rfl) k_t rfl) k_t rfl) k_t rfl) k_t rfl) k_t rfl) k_t rfl) k_t rfl) k_t rfl) (by omega) (by omega) ⟨⟨(by rw [show (ju (ju (ju (ju (ju (ju (ju (ju (ju (ju M t 0 1) t 1 v1) t 2 v2) t 3 v3) t 4 v4) t 5 v5) t 6 y) t 7 (-1)) t 8 0) t 11 (-1)) t 0 = 1 from ((ju_i _ _ (by decide)).trans ((ju_i _ _ (by decide)).trans ((ju_i _ _ (by decide)).trans ((ju_i _ _ (by decide)).trans ((ju_i _ _ (by decide)).trans ((ju_i _ _ (by decide)).trans ((ju_i _ _ (by decide)).trans ((ju_i _ _ (by decide)).trans ((ju_i _ _ (by decide)).trans (ju_same _ _ _ _))))))))))]), (by rw [show (ju (ju (ju (ju (ju (ju (ju (ju (ju (ju M t 0 1) t 1 v1) t 2 v2) t 3 v3) t 4 v4) t 5 v5) t 6 y) t 7 (-1)) t 8 0) t 11 (-1)) t 1 = v1 from ((ju_i _ _ (by decide)).trans ((ju_i _ _ (by decide)).trans ((ju_i _ _ (by decide)).trans ((ju_i _ _ (by decide)).trans ((ju_i _ _ (by decide)).trans ((ju_i _ _ (by decide)).trans ((ju_i _ _ (by decide)).trans ((ju_i _ _ (by decide)).trans (ju_same _ _ _ _)))))))))]; rw [p0]; omega), (by rw [show (ju (ju (ju (ju (ju (ju (ju (ju (ju (ju M t 0 1) t 1 v1) t 2 v2) t 3 v3) t 4 v4) t 5 v5) t 6 y) t 7 (-1)) t 8 0) t 11 (-1)) t 2 = v2 from ((ju_i _ _ (by decide)).trans ((ju_i _ _ (by decide)).trans ((ju_i _ _ (by decide)).trans ((ju_i _ _ (by decide)).trans ((ju_i _ _ (by decide)).trans ((ju_i _ _ (by decide)).trans ((ju_i _ _ (by decide)).trans (ju_same _ _ _ _))))))))]; rw [p0]; omega), (by rw [show (ju (ju (ju (ju (ju (ju (ju (ju (ju (ju M t 0 1) t 1 v1) t 2 v2) t 3 v3) t 4 v4) t 5 v5) t 6 y) t 7 (-1)) t 8 0) t 11 (-1)) t 3 = v3 from ((ju_i _ _ (by decide)).trans ((ju_i _ _ (by decide)).trans ((ju_i _ _ (by decide)).trans ((ju_i _ _ (by decide)).trans ((ju_i _ _ (by decide)).trans ((ju_i _ _ (by decide)).trans (ju_same _ _ _ _)))))))]; rw [p0]; omega), (by rw [show (ju (ju (ju (ju (ju (ju (ju (ju (ju (ju M t 0 1) t 1 v1) t 2 v2) t 3 v3) t 4 v4) t 5 v5) t 6 y) t 7 (-1)) t 8 0) t 11 (-1)) t 4 = v4 from ((ju_i _ _ (by decide)).trans ((ju_i _ _ (by decide)).trans ((ju_i _ _ (by decide)).trans ((ju_i _ _ (by decide)).trans ((ju_i _ _ (by decide)).trans (ju_same _ _ _ _))))))]; rw [p0]; omega), (by rw [show (ju (ju (ju (ju (ju (ju (ju (ju (ju (ju M t 0 1) t 1 v1) t 2 v2) t 3 v3) t 4 v4) t 5 v5) t 6 y) t 7 (-1)) t 8 0) t 11 (-1)) t 5 = v5 from ((ju_i _ _ (by decide)).trans ((ju_i _ _ (by decide)).trans ((ju_i _ _ (by decide)).trans ((ju_i _ _ (by decide)).trans (ju_same _ _ _ _)))))]; rw [p0]; omega), (by rw [show (ju (ju (ju (ju (ju (ju (ju (ju (ju (ju M t 0 1) t 1 v1) t 2 v2) t 3 v3) t 4 v4) t 5 v5) t 6 y) t 7 (-1)) t 8 0) t 11 (-1)) t 6 = y from ((ju_i _ _ (by decide)).trans ((ju_i _ _ (by decide)).trans ((ju_i _ _ (by decide)).trans (ju_same _ _ _ _))))]), (by rw [show (ju (ju (ju (ju (ju (ju (ju (ju (ju (ju M t 0 1) t 1 v1) t 2 v2) t 3 v3) t 4 v4) t 5 v5) t 6 y) t 7 (-1)) t 8 0) t 11 (-1)) t 7 = -1 from ((ju_i _ _ (by decide)).trans ((ju_i _ _ (by decide)).trans (ju_same _ _ _ _)))]), (by rw [show (ju (ju (ju (ju (ju (ju (ju (ju (ju (ju M t 0 1) t 1 v1) t 2 v2) t 3 v3) t 4 v4) t 5 v5) t 6 y) t 7 (-1)) t 8 0) t 11 (-1)) t 8 = 0 from ((ju_i _ _ (by decide)).trans (ju_same _ _ _ _))]), (by rw [show (ju (ju (ju (ju (ju (ju (ju (ju (ju (ju M t 0 1) t 1 v1) t 2 v2) t 3 v3) t 4 v4) t 5 v5) t 6 y) t 7 (-1)) t 8 0) t 11 (-1)) t 11 = -1 from (ju_same _ _ _ _)])⟩, fun k k0 k1 => absurd k1 (by omega), fun b k b0 b1 => by rw [ju_c _ _ b0, ju_c _ _ b0, ju_c _ _ b0, ju_c _ _ b0, ju_c _ _ b0, ju_c _ _ b0, ju_c _ _ b0, ju_c _ _ b0, ju_c _ _ b0, ju_c _ _ b0, p0]⟩ (by omega)
theorem c_Gathering_lastPlace_x {A : Nat → Option (Nat × (Nat → Int32))} {Q : Option Value → jm → Prop} {M : jm} (hC_M : CI M) {t : Nat} (k_t : kd t = 15) {W : Int} (g_W : M t 7 = W) (q : ∀ (r : Int), (-1) ≤ r ∧ r ≤ 360 → (r = lpf W) → Q (some (.int (Int32.ofInt r))) M) : jc A 1 102 [.ref (t)] M Q := by
  refine jc_of (m := xm_102) rfl (Nat.le_of_ble_eq_true rfl) rfl ?_
  have b_W : (-1) ≤ W ∧ W ≤ 70000 := by rw [← g_W]; exact (CI.r hC_M k_t (by decide) 7)
  refine jr.aload_n rfl rfl ?_
  refine jr.getf (i := 7) (x := W) (v := .int (Int32.ofInt (W))) rfl rfl (Nat.lt_trans (kx_15 k_t).1 (by decide)) (kx_15 k_t).2 (by decide) rfl rfl g_W rfl ?_
  refine jr.iconst rfl ?_
  refine jr.icmp_ne rfl rfl (by omega) (by omega) (fun h5 => ?_) (fun h5 => ?_)
  · have sx5 : (0 : Int) ≤ W := by omega
    clear h5
    refine jr.aload_n rfl rfl ?_
    refine jr.getf (i := 7) (x := W) (v := .int (Int32.ofInt (W))) rfl rfl (Nat.lt_trans (kx_15 k_t).1 (by decide)) (kx_15 k_t).2 (by decide) rfl rfl g_W rfl ?_
    refine jr.sipush rfl (by decide) ?_
    refine jr.imin rfl rfl (Nat.le_of_ble_eq_true rfl) (by omega) (by omega) ?_
    intro v1 d1 b1 c1
    exact jr.ireturn rfl rfl rfl (q _ (by omega) (by unfold lpf; (repeat' split) <;> omega))
  · refine jr.sipush rfl (by decide) ?_
    refine jr.goto rfl rfl ?_
    exact jr.ireturn rfl rfl rfl (q _ (by omega) (by unfold lpf; (repeat' split) <;> omega))
end
