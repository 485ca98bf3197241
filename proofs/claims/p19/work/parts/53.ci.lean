/-! ===== the class's methods ===== -/
def W_c_Gathering_beginAs : List (Nat × Nat) := [(15, 0), (15, 1), (15, 2), (15, 3), (15, 4), (15, 5), (15, 6), (15, 7), (15, 8), (15, 11), (17, 1000)]
theorem c_Gathering_beginAs_L67 {A : Nat → Option (Nat × (Nat → Int32))} {Q : Option Value → jm → Prop} {T : jm} {t : Nat} (k_t : kd t = 15) {x : Nat} (k_x : kd x = 15) (q : ∀ (M' : jm), CI M' → FR W_c_Gathering_beginAs T M' → (GC M' ) → Q none M') : ∀ (nM : Nat) (M : jm) (i : Int), CI M → FR W_c_Gathering_beginAs T M → 0 ≤ i ∧ i ≤ 360 → (GC M ) → 360 - i ≤ nM → jr A 0 xm_95 67 [(3, .int (Int32.ofInt (i))), (0, .ref (t)), (1, .ref (x))] [] M Q := by
  intro nM
  induction nM using Nat.strongRecOn with
  | ind nM ih =>
    intro M i hC_M ht_M h_i hy0 hm
    refine jr.iload_n rfl rfl ?_
    refine jr.sipush rfl (by decide) ?_
    refine jr.icmp_ge rfl rfl (by omega) (by omega) (fun h71 => ?_) (fun h71 => ?_)
    · exact jr.vreturn rfl rfl (q _ hC_M ht_M  hy0)
    · refine jr.aload_n rfl rfl ?_
      have k1 := kf_15_9 k_t
      refine jr.getf (i := 9) (v := .ref (t + 1)) rfl rfl (Nat.lt_trans (kx_15 k_t).1 (by decide)) (kx_15 k_t).2 (by decide) rfl rfl rfl (jval_ref rfl k1.1) ?_
      refine jr.iload_n rfl rfl ?_
      refine jr.iconst rfl ?_
      refine jr.iast (i := i) (x := (-1)) rfl (Nat.lt_trans (kx_17 k1.2).1 (by decide)) (kx_17 k1.2).2 (by decide) (by omega) (by omega) ?_
      refine jr.iinc rfl rfl (by decide) rfl ?_
      refine jr.goto rfl rfl ?_
      refine jr.pick [0, 1, 2] rfl rfl ?_
      exact ih (nM - 1) (by omega) ((ju M ((t + 1)) i (-1))) (i + 1) (CI.u hC_M (i := i) k1.2 (show (-1 : Int) ≤ _ ∧ _ ≤ (255 : Int) from by omega) rfl) (FR.o ht_M k1.2 rfl) (by omega) (GC.n hy0 k1.2 (by decide)) (by omega)
theorem c_Gathering_beginAs {A : Nat → Option (Nat × (Nat → Int32))} {Q : Option Value → jm → Prop} {T : jm} {M : jm} (hC_M : CI M) (ht_M : FR W_c_Gathering_beginAs T M) {t : Nat} (k_t : kd t = 15) {x : Nat} (k_x : kd x = 15) {y : Int} (h_y : (-2147483648) ≤ y ∧ y ≤ 2147483647) (p0 : GC M ) (q : ∀ (M' : jm), CI M' → FR W_c_Gathering_beginAs T M' → (GC M' ) → Q none M') : jc A 1 95 [.ref (t), .ref (x), .int (Int32.ofInt (y))] M Q := by
  refine jc_of (m := xm_95) rfl (Nat.le_of_ble_eq_true rfl) rfl ?_
  refine jr.aload_n rfl rfl ?_
  refine jr.iconst rfl ?_
  refine jr.putf (i := 0) (x := 1) rfl rfl (Nat.lt_trans (kx_15 k_t).1 (by decide)) (kx_15 k_t).2 (by decide) rfl rfl rfl rfl rfl ?_
  refine jr.aload_n rfl rfl ?_
  refine jr.aload_n rfl rfl ?_
  obtain ⟨v1, e1⟩ : ∃ z_, M x 1 = z_ := ⟨_, rfl⟩
  have b1 : (-2147483648) ≤ v1 ∧ v1 ≤ 2147483647 := by rw [← e1]; exact (CI.r hC_M k_x (by decide) 1)
  refine jr.getf (i := 1) (x := v1) (v := .int (Int32.ofInt (v1))) rfl rfl (Nat.lt_trans (kx_15 k_x).1 (by decide)) (kx_15 k_x).2 (by decide) rfl rfl ((ju_i _ _ (by decide)).trans e1) rfl ?_
  refine jr.putf (i := 1) (x := v1) rfl rfl (Nat.lt_trans (kx_15 k_t).1 (by decide)) (kx_15 k_t).2 (by decide) rfl rfl rfl rfl rfl ?_
  refine jr.aload_n rfl rfl ?_
  refine jr.aload_n rfl rfl ?_
  obtain ⟨v2, e2⟩ : ∃ z_, M x 2 = z_ := ⟨_, rfl⟩
  have b2 : (-9223372036854775808) ≤ v2 ∧ v2 ≤ 9223372036854775807 := by rw [← e2]; exact (CI.r hC_M k_x (by decide) 2)
  refine jr.getf (i := 2) (x := v2) (v := .long (Int64.ofInt (v2))) rfl rfl (Nat.lt_trans (kx_15 k_x).1 (by decide)) (kx_15 k_x).2 (by decide) rfl rfl ((ju_i _ _ (by decide)).trans ((ju_i _ _ (by decide)).trans e2)) rfl ?_
  refine jr.putf (i := 2) (x := v2) rfl rfl (Nat.lt_trans (kx_15 k_t).1 (by decide)) (kx_15 k_t).2 (by decide) rfl rfl rfl rfl rfl ?_
  refine jr.aload_n rfl rfl ?_
  refine jr.aload_n rfl rfl ?_
  obtain ⟨v3, e3⟩ : ∃ z_, M x 3 = z_ := ⟨_, rfl⟩
  have b3 : (-9223372036854775808) ≤ v3 ∧ v3 ≤ 9223372036854775807 := by rw [← e3]; exact (CI.r hC_M k_x (by decide) 3)
  refine jr.getf (i := 3) (x := v3) (v := .long (Int64.ofInt (v3))) rfl rfl (Nat.lt_trans (kx_15 k_x).1 (by decide)) (kx_15 k_x).2 (by decide) rfl rfl ((ju_i _ _ (by decide)).trans ((ju_i _ _ (by decide)).trans ((ju_i _ _ (by decide)).trans e3))) rfl ?_
  refine jr.putf (i := 3) (x := v3) rfl rfl (Nat.lt_trans (kx_15 k_t).1 (by decide)) (kx_15 k_t).2 (by decide) rfl rfl rfl rfl rfl ?_
  refine jr.aload_n rfl rfl ?_
  refine jr.aload_n rfl rfl ?_
  obtain ⟨v4, e4⟩ : ∃ z_, M x 4 = z_ := ⟨_, rfl⟩
  have b4 : (-9223372036854775808) ≤ v4 ∧ v4 ≤ 9223372036854775807 := by rw [← e4]; exact (CI.r hC_M k_x (by decide) 4)
  refine jr.getf (i := 4) (x := v4) (v := .long (Int64.ofInt (v4))) rfl rfl (Nat.lt_trans (kx_15 k_x).1 (by decide)) (kx_15 k_x).2 (by decide) rfl rfl ((ju_i _ _ (by decide)).trans ((ju_i _ _ (by decide)).trans ((ju_i _ _ (by decide)).trans ((ju_i _ _ (by decide)).trans e4)))) rfl ?_
  refine jr.putf (i := 4) (x := v4) rfl rfl (Nat.lt_trans (kx_15 k_t).1 (by decide)) (kx_15 k_t).2 (by decide) rfl rfl rfl rfl rfl ?_
  refine jr.aload_n rfl rfl ?_
  refine jr.aload_n rfl rfl ?_
  obtain ⟨v5, e5⟩ : ∃ z_, M x 5 = z_ := ⟨_, rfl⟩
  have b5 : (-9223372036854775808) ≤ v5 ∧ v5 ≤ 9223372036854775807 := by rw [← e5]; exact (CI.r hC_M k_x (by decide) 5)
  refine jr.getf (i := 5) (x := v5) (v := .long (Int64.ofInt (v5))) rfl rfl (Nat.lt_trans (kx_15 k_x).1 (by decide)) (kx_15 k_x).2 (by decide) rfl rfl ((ju_i _ _ (by decide)).trans ((ju_i _ _ (by decide)).trans ((ju_i _ _ (by decide)).trans ((ju_i _ _ (by decide)).trans ((ju_i _ _ (by decide)).trans e5))))) rfl ?_
  refine jr.putf (i := 5) (x := v5) rfl rfl (Nat.lt_trans (kx_15 k_t).1 (by decide)) (kx_15 k_t).2 (by decide) rfl rfl rfl rfl rfl ?_
  refine jr.aload_n rfl rfl ?_
  refine jr.iload_n rfl rfl ?_
  refine jr.putf (i := 6) (x := y) rfl rfl (Nat.lt_trans (kx_15 k_t).1 (by decide)) (kx_15 k_t).2 (by decide) rfl rfl rfl rfl rfl ?_
  refine jr.aload_n rfl rfl ?_
  refine jr.iconst rfl ?_
  refine jr.putf (i := 7) (x := (-1)) rfl rfl (Nat.lt_trans (kx_15 k_t).1 (by decide)) (kx_15 k_t).2 (by decide) rfl rfl rfl rfl rfl ?_
  refine jr.aload_n rfl rfl ?_
  refine jr.iconst rfl ?_
  refine jr.putf (i := 8) (x := 0) rfl rfl (Nat.lt_trans (kx_15 k_t).1 (by decide)) (kx_15 k_t).2 (by decide) rfl rfl rfl rfl rfl ?_
  refine jr.aload_n rfl rfl ?_
  refine jr.iconst rfl ?_
  refine jr.putf (i := 11) (x := (-1)) rfl rfl (Nat.lt_trans (kx_15 k_t).1 (by decide)) (kx_15 k_t).2 (by decide) rfl rfl rfl rfl rfl ?_
  refine jr.iconst rfl ?_
  refine jr.istore_n rfl (by decide) rfl ?_
  refine jr.pick [0, 1, 2] rfl rfl ?_
  exact c_Gathering_beginAs_L67 k_t k_x q 360 ((ju (ju (ju (ju (ju (ju (ju (ju (ju (ju M t 0 1) t 1 v1) t 2 v2) t 3 v3) t 4 v4) t 5 v5) t 6 y) t 7 (-1)) t 8 0) t 11 (-1))) 0 (CI.u (CI.u (CI.u (CI.u (CI.u (CI.u (CI.u (CI.u (CI.u (CI.u hC_M (i := 0) k_t (show (0 : Int) ≤ _ ∧ _ ≤ (1 : Int) from by omega) rfl) (i := 1) k_t (show (-2147483648 : Int) ≤ _ ∧ _ ≤ (2147483647 : Int) from by omega) rfl) (i := 2) k_t (show (-9223372036854775808 : Int) ≤ _ ∧ _ ≤ (9223372036854775807 : Int) from by omega) rfl) (i := 3) k_t (show (-9223372036854775808 : Int) ≤ _ ∧ _ ≤ (9223372036854775807 : Int) from by omega) rfl) (i := 4) k_t (show (-9223372036854775808 : Int) ≤ _ ∧ _ ≤ (9223372036854775807 : Int) from by omega) rfl) (i := 5) k_t (show (-9223372036854775808 : Int) ≤ _ ∧ _ ≤ (9223372036854775807 : Int) from by omega) rfl) (i := 6) k_t (show (-2147483648 : Int) ≤ _ ∧ _ ≤ (2147483647 : Int) from by omega) rfl) (i := 7) k_t (show (-1 : Int) ≤ _ ∧ _ ≤ (70000 : Int) from by omega) rfl) (i := 8) k_t (show (-2147483648 : Int) ≤ _ ∧ _ ≤ (2147483647 : Int) from by omega) rfl) (i := 11) k_t (show (-1 : Int) ≤ _ ∧ _ ≤ (400 : Int) from by omega) rfl) (FR.o (FR.o (FR.o (FR.o (FR.o (FR.o (FR.o (FR.o (FR.o (FR.o ht_M k_t rfl) k_t rfl) k_t rfl) k_t rfl) k_t rfl) k_t rfl) k_t rfl) k_t rfl) k_t rfl) k_t rfl) (by omega) (GC.u (GC.m (GC.m (GC.m (GC.m (GC.m (GC.m (GC.m (GC.m (GC.m p0 (by decide)) (by decide)) (by decide)) (by decide)) (by decide)) (by decide)) (by decide)) (by decide)) (by decide)) (by omega)) (by omega)
theorem c_Gathering_lastPlace {A : Nat → Option (Nat × (Nat → Int32))} {Q : Option Value → jm → Prop} {M : jm} (hC_M : CI M) {t : Nat} (k_t : kd t = 15) (q : ∀ (r : Int), (-1) ≤ r ∧ r ≤ 360 → ((M t 7 = -1 ∨ r ≤ M t 7) ∧ (M t 7 ≤ -1 ∨ 0 ≤ r)) → Q (some (.int (Int32.ofInt r))) M) : jc A 1 102 [.ref (t)] M Q := by
  refine jc_of (m := xm_102) rfl (Nat.le_of_ble_eq_true rfl) rfl ?_
  refine jr.aload_n rfl rfl ?_
  obtain ⟨v1, e1⟩ : ∃ z_, M t 7 = z_ := ⟨_, rfl⟩
  have b1 : (-1) ≤ v1 ∧ v1 ≤ 70000 := by rw [← e1]; exact (CI.r hC_M k_t (by decide) 7)
  refine jr.getf (i := 7) (x := v1) (v := .int (Int32.ofInt (v1))) rfl rfl (Nat.lt_trans (kx_15 k_t).1 (by decide)) (kx_15 k_t).2 (by decide) rfl rfl e1 rfl ?_
  refine jr.iconst rfl ?_
  refine jr.icmp_ne rfl rfl (by omega) (by omega) (fun h5 => ?_) (fun h5 => ?_)
  · refine jr.aload_n rfl rfl ?_
    refine jr.getf (i := 7) (x := v1) (v := .int (Int32.ofInt (v1))) rfl rfl (Nat.lt_trans (kx_15 k_t).1 (by decide)) (kx_15 k_t).2 (by decide) rfl rfl e1 rfl ?_
    refine jr.sipush rfl (by decide) ?_
    refine jr.imin rfl rfl (Nat.le_of_ble_eq_true rfl) (by omega) (by omega) ?_
    intro v2 d2 b2 c2
    exact jr.ireturn rfl rfl rfl (q _ (by omega) (by have hq0 : M t 7 = v1 := e1; omega))
  · refine jr.sipush rfl (by decide) ?_
    refine jr.goto rfl rfl ?_
    exact jr.ireturn rfl rfl rfl (q _ (by omega) (by have hq0 : M t 7 = v1 := e1; omega))
theorem c_Gathering_isReady_L20 {A : Nat → Option (Nat × (Nat → Int32))} {Q : Option Value → jm → Prop} {M : jm} (hC_M : CI M) {t : Nat} (k_t : kd t = 15) (q : ∀ (r : Int), 0 ≤ r ∧ r ≤ 1 → (r = 0 ∨ (0 ≤ M t 7 ∧ 0 ≤ M t 11)) → Q (some (.int (Int32.ofInt r))) M) : ∀ (nM : Nat) (i : Int), 0 ≤ i ∧ i ≤ 360 → (0 ≤ M t 7 ∧ 0 ≤ M t 11) → 360 - i ≤ nM → jr A 1 xm_97 20 [(1, .int (Int32.ofInt (i))), (0, .ref (t))] [] M Q := by
  intro nM
  induction nM using Nat.strongRecOn with
  | ind nM ih =>
    intro i h_i hy0 hm
    obtain ⟨v1, e1⟩ : ∃ z_, M t 7 = z_ := ⟨_, rfl⟩
    have b1 : (-1) ≤ v1 ∧ v1 ≤ 70000 := by rw [← e1]; exact (CI.r hC_M k_t (by decide) 7)
    obtain ⟨v2, e2⟩ : ∃ z_, M t 11 = z_ := ⟨_, rfl⟩
    have b2 : (-1) ≤ v2 ∧ v2 ≤ 400 := by rw [← e2]; exact (CI.r hC_M k_t (by decide) 11)
    refine jr.iload_n rfl rfl ?_
    refine jr.aload_n rfl rfl ?_
    refine jr_v rfl rfl (Or.inl rfl) rfl rfl (Nat.lt_trans (kx_15 k_t).1 (by decide)) (kx_15 k_t).2 ⟨rfl, Nat.le_of_ble_eq_true rfl, Nat.le_of_ble_eq_true rfl⟩ rfl (jc.deep (c_Gathering_lastPlace hC_M k_t (fun r3 z3 w3_0 => ?_)) (by decide))
    refine jr.icmp_ge rfl rfl (by omega) (by omega) (fun h25 => ?_) (fun h25 => ?_)
    · refine jr.iconst rfl ?_
      exact jr.ireturn rfl rfl rfl (q _ (by omega) (by have hq0 : M t 7 = v1 := e1; have hq1 : M t 11 = v2 := e2; omega))
    · refine jr.aload_n rfl rfl ?_
      have k4 := kf_15_9 k_t
      refine jr.getf (i := 9) (v := .ref (t + 1)) rfl rfl (Nat.lt_trans (kx_15 k_t).1 (by decide)) (kx_15 k_t).2 (by decide) rfl rfl rfl (jval_ref rfl k4.1) ?_
      refine jr.iload_n rfl rfl ?_
      obtain ⟨v5, e5⟩ : ∃ z_, M ((t + 1)) i = z_ := ⟨_, rfl⟩
      have b5 : (-1) ≤ v5 ∧ v5 ≤ 255 := by rw [← e5]; exact (CI.r hC_M k4.2 (by decide) i)
      refine jr.iald (i := i) (x := v5) rfl (Nat.lt_trans (kx_17 k4.2).1 (by decide)) (kx_17 k4.2).2 (by decide) (by omega) (by omega) e5 ?_
      refine jr.iconst rfl ?_
      refine jr.icmp_ne rfl rfl (by omega) (by omega) (fun h35 => ?_) (fun h35 => ?_)
      · refine jr.iinc rfl rfl (by decide) rfl ?_
        refine jr.goto rfl rfl ?_
        refine jr.pick [0, 1] rfl rfl ?_
        exact ih (nM - 1) (by omega) (i + 1) (by omega) (by have hq0 : M t 7 = v1 := e1; have hq1 : M t 11 = v2 := e2; omega) (by omega)
      · refine jr.iconst rfl ?_
        exact jr.ireturn rfl rfl rfl (q _ (by omega) (by have hq0 : M t 7 = v1 := e1; have hq1 : M t 11 = v2 := e2; omega))
theorem c_Gathering_isReady {A : Nat → Option (Nat × (Nat → Int32))} {Q : Option Value → jm → Prop} {M : jm} (hC_M : CI M) {t : Nat} (k_t : kd t = 15) (q : ∀ (r : Int), 0 ≤ r ∧ r ≤ 1 → (r = 0 ∨ (0 ≤ M t 7 ∧ 0 ≤ M t 11)) → Q (some (.int (Int32.ofInt r))) M) : jc A 2 97 [.ref (t)] M Q := by
  refine jc_of (m := xm_97) rfl (Nat.le_of_ble_eq_true rfl) rfl ?_
  refine jr.aload_n rfl rfl ?_
  obtain ⟨v1, e1⟩ : ∃ z_, M t 7 = z_ := ⟨_, rfl⟩
  have b1 : (-1) ≤ v1 ∧ v1 ≤ 70000 := by rw [← e1]; exact (CI.r hC_M k_t (by decide) 7)
  refine jr.getf (i := 7) (x := v1) (v := .int (Int32.ofInt (v1))) rfl rfl (Nat.lt_trans (kx_15 k_t).1 (by decide)) (kx_15 k_t).2 (by decide) rfl rfl e1 rfl ?_
  refine jr.iconst rfl ?_
  refine jr.icmp_eq rfl rfl (by omega) (by omega) (fun h5 => ?_) (fun h5 => ?_)
  · refine jr.iconst rfl ?_
    obtain ⟨v2, e2⟩ : ∃ z_, M t 11 = z_ := ⟨_, rfl⟩
    have b2 : (-1) ≤ v2 ∧ v2 ≤ 400 := by rw [← e2]; exact (CI.r hC_M k_t (by decide) 11)
    exact jr.ireturn rfl rfl rfl (q _ (by omega) (by have hq0 : M t 7 = v1 := e1; have hq1 : M t 11 = v2 := e2; omega))
  · refine jr.aload_n rfl rfl ?_
    obtain ⟨v3, e3⟩ : ∃ z_, M t 11 = z_ := ⟨_, rfl⟩
    have b3 : (-1) ≤ v3 ∧ v3 ≤ 400 := by rw [← e3]; exact (CI.r hC_M k_t (by decide) 11)
    refine jr.getf (i := 11) (x := v3) (v := .int (Int32.ofInt (v3))) rfl rfl (Nat.lt_trans (kx_15 k_t).1 (by decide)) (kx_15 k_t).2 (by decide) rfl rfl e3 rfl ?_
    refine jr.iconst rfl ?_
    refine jr.icmp_ne rfl rfl (by omega) (by omega) (fun h13 => ?_) (fun h13 => ?_)
    · refine jr.iconst rfl ?_
      refine jr.istore_n rfl (by decide) rfl ?_
      refine jr.pick [0, 1] rfl rfl ?_
      exact c_Gathering_isReady_L20 hC_M k_t q 360 0 (by omega) (by have hq0 : M t 7 = v1 := e1; have hq1 : M t 11 = v3 := e3; omega) (by omega)
    · refine jr.iconst rfl ?_
      exact jr.ireturn rfl rfl rfl (q _ (by omega) (by have hq0 : M t 7 = v1 := e1; have hq1 : M t 11 = v3 := e3; omega))
theorem c_Gathering_headersLength {A : Nat → Option (Nat × (Nat → Int32))} {Q : Option Value → jm → Prop} {M : jm} (hC_M : CI M) {t : Nat} (k_t : kd t = 15) (q : ∀ (r : Int), (-9) ≤ r ∧ r ≤ 400 → ((M t 1 = 6 ∧ r = M t 11 - 8) ∨ (M t 1 ≠ 6 ∧ r = M t 11)) → Q (some (.int (Int32.ofInt r))) M) : jc A 1 101 [.ref (t)] M Q := by
  refine jc_of (m := xm_101) rfl (Nat.le_of_ble_eq_true rfl) rfl ?_
  refine jr.aload_n rfl rfl ?_
  obtain ⟨v1, e1⟩ : ∃ z_, M t 1 = z_ := ⟨_, rfl⟩
  have b1 : (-2147483648) ≤ v1 ∧ v1 ≤ 2147483647 := by rw [← e1]; exact (CI.r hC_M k_t (by decide) 1)
  refine jr.getf (i := 1) (x := v1) (v := .int (Int32.ofInt (v1))) rfl rfl (Nat.lt_trans (kx_15 k_t).1 (by decide)) (kx_15 k_t).2 (by decide) rfl rfl e1 rfl ?_
  refine jr.bipush rfl (by decide) ?_
  refine jr.icmp_ne rfl rfl (by omega) (by omega) (fun h6 => ?_) (fun h6 => ?_)
  · refine jr.aload_n rfl rfl ?_
    obtain ⟨v2, e2⟩ : ∃ z_, M t 11 = z_ := ⟨_, rfl⟩
    have b2 : (-1) ≤ v2 ∧ v2 ≤ 400 := by rw [← e2]; exact (CI.r hC_M k_t (by decide) 11)
    refine jr.getf (i := 11) (x := v2) (v := .int (Int32.ofInt (v2))) rfl rfl (Nat.lt_trans (kx_15 k_t).1 (by decide)) (kx_15 k_t).2 (by decide) rfl rfl e2 rfl ?_
    exact jr.ireturn rfl rfl rfl (q _ (by omega) (by omega))
  · refine jr.aload_n rfl rfl ?_
    obtain ⟨v3, e3⟩ : ∃ z_, M t 11 = z_ := ⟨_, rfl⟩
    have b3 : (-1) ≤ v3 ∧ v3 ≤ 400 := by rw [← e3]; exact (CI.r hC_M k_t (by decide) 11)
    refine jr.getf (i := 11) (x := v3) (v := .int (Int32.ofInt (v3))) rfl rfl (Nat.lt_trans (kx_15 k_t).1 (by decide)) (kx_15 k_t).2 (by decide) rfl rfl e3 rfl ?_
    refine jr.bipush rfl (by decide) ?_
    refine jr.isub rfl ?_
    refine jr.goto rfl rfl ?_
    exact jr.ireturn rfl rfl rfl (q _ (by omega) (by omega))
theorem c_Gathering_packetLength {A : Nat → Option (Nat × (Nat → Int32))} {Q : Option Value → jm → Prop} {M : jm} (hC_M : CI M) {t : Nat} (k_t : kd t = 15) (q : ∀ (r : Int), (-10) ≤ r ∧ r ≤ 70400 → ((M t 1 = 6 ∧ r = M t 11 - 8 + M t 7) ∨ (M t 1 ≠ 6 ∧ r = M t 11 + M t 7)) → Q (some (.int (Int32.ofInt r))) M) : jc A 2 98 [.ref (t)] M Q := by
  refine jc_of (m := xm_98) rfl (Nat.le_of_ble_eq_true rfl) rfl ?_
  refine jr.aload_n rfl rfl ?_
  refine jr_v rfl rfl (Or.inl rfl) rfl rfl (Nat.lt_trans (kx_15 k_t).1 (by decide)) (kx_15 k_t).2 ⟨rfl, Nat.le_of_ble_eq_true rfl, Nat.le_of_ble_eq_true rfl⟩ rfl (jc.deep (c_Gathering_headersLength hC_M k_t (fun r1 z1 w1_0 => ?_)) (by decide))
  refine jr.aload_n rfl rfl ?_
  obtain ⟨v2, e2⟩ : ∃ z_, M t 7 = z_ := ⟨_, rfl⟩
  have b2 : (-1) ≤ v2 ∧ v2 ≤ 70000 := by rw [← e2]; exact (CI.r hC_M k_t (by decide) 7)
  refine jr.getf (i := 7) (x := v2) (v := .int (Int32.ofInt (v2))) rfl rfl (Nat.lt_trans (kx_15 k_t).1 (by decide)) (kx_15 k_t).2 (by decide) rfl rfl e2 rfl ?_
  refine jr.iadd rfl ?_
  obtain ⟨v3, e3⟩ : ∃ z_, M t 1 = z_ := ⟨_, rfl⟩
  have b3 : (-2147483648) ≤ v3 ∧ v3 ≤ 2147483647 := by rw [← e3]; exact (CI.r hC_M k_t (by decide) 1)
  obtain ⟨v4, e4⟩ : ∃ z_, M t 11 = z_ := ⟨_, rfl⟩
  have b4 : (-1) ≤ v4 ∧ v4 ≤ 400 := by rw [← e4]; exact (CI.r hC_M k_t (by decide) 11)
  exact jr.ireturn rfl rfl rfl (q _ (by omega) (by have hq0 : M t 1 = v3 := e3; have hq1 : M t 11 = v4 := e4; have hq2 : M t 7 = v2 := e2; omega))
def W_c_Gathering_makePacket : List (Nat × Nat) := [(33, 1), (33, 2), (34, 1000)]
theorem c_Gathering_makePacket {A : Nat → Option (Nat × (Nat → Int32))} {Q : Option Value → jm → Prop} {T : jm} {M : jm} (hC_M : CI M) (ht_M : FR W_c_Gathering_makePacket T M) {t : Nat} (k_t : kd t = 15) {x : Nat} (k_x : kd x = 33) (p0 : 0 ≤ M t 7 ∧ 8 ≤ M t 11 ∧ ((M t 1 = 6 ∧ M t 11 - 8 + M t 7 ≤ 400) ∨ (M t 1 ≠ 6 ∧ M t 11 + M t 7 ≤ 400))) (q : ∀ (M' : jm), CI M' → FR W_c_Gathering_makePacket T M' → Q none M') : jc A 3 99 [.ref (t), .ref (x)] M Q := by
  refine jc_of (m := xm_99) rfl (Nat.le_of_ble_eq_true rfl) rfl ?_
  obtain ⟨v1, e1⟩ : ∃ z_, M t 1 = z_ := ⟨_, rfl⟩
  have b1 : (-2147483648) ≤ v1 ∧ v1 ≤ 2147483647 := by rw [← e1]; exact (CI.r hC_M k_t (by decide) 1)
  obtain ⟨v2, e2⟩ : ∃ z_, M t 11 = z_ := ⟨_, rfl⟩
  have b2 : (-1) ≤ v2 ∧ v2 ≤ 400 := by rw [← e2]; exact (CI.r hC_M k_t (by decide) 11)
  obtain ⟨v3, e3⟩ : ∃ z_, M t 7 = z_ := ⟨_, rfl⟩
  have b3 : (-1) ≤ v3 ∧ v3 ≤ 70000 := by rw [← e3]; exact (CI.r hC_M k_t (by decide) 7)
  refine jr.aload_n rfl rfl ?_
  refine jr_v rfl rfl (Or.inl rfl) rfl rfl (Nat.lt_trans (kx_15 k_t).1 (by decide)) (kx_15 k_t).2 ⟨rfl, Nat.le_of_ble_eq_true rfl, Nat.le_of_ble_eq_true rfl⟩ rfl (jc.deep (c_Gathering_headersLength hC_M k_t (fun r4 z4 w4_0 => ?_)) (by decide))
  refine jr.istore_n rfl (by decide) rfl ?_
  refine jr.aload_n rfl rfl ?_
  have k5 := kf_15_10 k_t
  refine jr.getf (i := 10) (v := .ref (t + 2)) rfl rfl (Nat.lt_trans (kx_15 k_t).1 (by decide)) (kx_15 k_t).2 (by decide) rfl rfl rfl (jval_ref rfl k5.1) ?_
  refine jr.iconst rfl ?_
  refine jr.aload_n rfl rfl ?_
  have k6 := kf_33_0 k_x
  refine jr.getf (i := 0) (v := .ref (x + 1)) rfl rfl (Nat.lt_trans (kx_33 k_x).1 (by decide)) (kx_33 k_x).2 (by decide) rfl rfl rfl (jval_ref rfl k6.1) ?_
  refine jr.iconst rfl ?_
  refine jr.iload_n rfl rfl ?_
  refine jr.acp rfl rfl (Nat.le_of_ble_eq_true rfl) (Nat.lt_trans (kx_16 k5.2).1 (by decide)) (kx_16 k5.2).2 (Nat.lt_trans (kx_34 k6.2).1 (by decide)) (kx_34 k6.2).2 (by decide) (by decide) (by omega) (by omega) (by omega) (by omega) (by omega) ?_
  have hC_M7 : CI (jcpy M ((t + 2)) 0 ((x + 1)) 0 r4) := CI.cpy hC_M k5.2 k6.2 (by decide) (fun i j => (show (-1 : Int) ≤ (-1 : Int) ∧ (255 : Int) ≤ (255 : Int) from by decide)) (fun _ => rfl)
  have ht_M7 : FR W_c_Gathering_makePacket T (jcpy M ((t + 2)) 0 ((x + 1)) 0 r4) := FR.cpy ht_M k6.2 (fun _ => rfl)
  have hf_M7 : FR [(34, 1000)] M (jcpy M ((t + 2)) 0 ((x + 1)) 0 r4) := FR.cpy (FR.rfl _ _) k6.2 (fun _ => rfl)
  generalize jcpy M ((t + 2)) 0 ((x + 1)) 0 r4 = M7 at hC_M7 ht_M7 hf_M7 ⊢
  refine jr.aload_n rfl rfl ?_
  have k8 := kf_15_9 k_t
  refine jr.getf (i := 9) (v := .ref (t + 1)) rfl rfl (Nat.lt_trans (kx_15 k_t).1 (by decide)) (kx_15 k_t).2 (by decide) rfl rfl rfl (jval_ref rfl k8.1) ?_
  refine jr.iconst rfl ?_
  refine jr.aload_n rfl rfl ?_
  have k9 := kf_33_0 k_x
  refine jr.getf (i := 0) (v := .ref (x + 1)) rfl rfl (Nat.lt_trans (kx_33 k_x).1 (by decide)) (kx_33 k_x).2 (by decide) rfl rfl rfl (jval_ref rfl k9.1) ?_
  refine jr.iload_n rfl rfl ?_
  refine jr.aload_n rfl rfl ?_
  refine jr_v rfl rfl (Or.inl rfl) rfl rfl (Nat.lt_trans (kx_15 k_t).1 (by decide)) (kx_15 k_t).2 ⟨rfl, Nat.le_of_ble_eq_true rfl, Nat.le_of_ble_eq_true rfl⟩ rfl (jc.deep (c_Gathering_lastPlace hC_M7 k_t (fun r10 z10 w10_0 => ?_)) (by decide))
  have e11 : M7 t 7 = v3 := (hf_M7.g k_t rfl).trans e3
  refine jr.acp rfl rfl (Nat.le_of_ble_eq_true rfl) (Nat.lt_trans (kx_17 k8.2).1 (by decide)) (kx_17 k8.2).2 (Nat.lt_trans (kx_34 k9.2).1 (by decide)) (kx_34 k9.2).2 (by decide) (by decide) (by omega) (by omega) (by omega) (by omega) (by omega) ?_
  have hC_M12 : CI (jcpy M7 ((t + 1)) 0 ((x + 1)) r4 r10) := CI.cpy hC_M7 k8.2 k9.2 (by decide) (fun i j => (show (-1 : Int) ≤ (-1 : Int) ∧ (255 : Int) ≤ (255 : Int) from by decide)) (fun _ => rfl)
  have ht_M12 : FR W_c_Gathering_makePacket T (jcpy M7 ((t + 1)) 0 ((x + 1)) r4 r10) := FR.cpy ht_M7 k9.2 (fun _ => rfl)
  have hf_M12 : FR [(34, 1000)] M7 (jcpy M7 ((t + 1)) 0 ((x + 1)) r4 r10) := FR.cpy (FR.rfl _ _) k9.2 (fun _ => rfl)
  generalize jcpy M7 ((t + 1)) 0 ((x + 1)) r4 r10 = M12 at hC_M12 ht_M12 hf_M12 ⊢
  refine jr.aload_n rfl rfl ?_
  refine jr.aload_n rfl rfl ?_
  refine jr_v rfl rfl (Or.inl rfl) rfl rfl (Nat.lt_trans (kx_15 k_t).1 (by decide)) (kx_15 k_t).2 ⟨rfl, Nat.le_of_ble_eq_true rfl, Nat.le_of_ble_eq_true rfl⟩ rfl (jc.deep (c_Gathering_packetLength hC_M12 k_t (fun r13 z13 w13_0 => ?_)) (by decide))
  have e14 : M7 t 1 = v1 := (hf_M7.g k_t rfl).trans e1
  have e15 : M12 t 1 = v1 := (hf_M12.g k_t rfl).trans e14
  have e16 : M7 t 11 = v2 := (hf_M7.g k_t rfl).trans e2
  have e17 : M12 t 11 = v2 := (hf_M12.g k_t rfl).trans e16
  have e18 : M12 t 7 = v3 := (hf_M12.g k_t rfl).trans e11
  refine jr.putf (i := 1) (x := r13) rfl rfl (Nat.lt_trans (kx_33 k_x).1 (by decide)) (kx_33 k_x).2 (by decide) rfl rfl rfl rfl rfl ?_
  refine jr.aload_n rfl rfl ?_
  refine jr.lconst (x := 0) rfl (by decide) ?_
  refine jr.putf (i := 2) (x := 0) rfl rfl (Nat.lt_trans (kx_33 k_x).1 (by decide)) (kx_33 k_x).2 (by decide) rfl rfl rfl rfl rfl ?_
  refine jr.aload_n rfl rfl ?_
  refine jr.getf (i := 1) (x := v1) (v := .int (Int32.ofInt (v1))) rfl rfl (Nat.lt_trans (kx_15 k_t).1 (by decide)) (kx_15 k_t).2 (by decide) rfl rfl ((ju_i _ _ (by decide)).trans ((ju_c _ _ (kd_ne (by rw [k_t, k_x]; decide))).trans e15)) rfl ?_
  refine jr.iconst rfl ?_
  refine jr.icmp_ne rfl rfl (by omega) (by omega) (fun h54 => ?_) (fun h54 => ?_)
  · refine jr.aload_n rfl rfl ?_
    have k19 := kf_33_0 k_x
    refine jr.getf (i := 0) (v := .ref (x + 1)) rfl rfl (Nat.lt_trans (kx_33 k_x).1 (by decide)) (kx_33 k_x).2 (by decide) rfl rfl rfl (jval_ref rfl k19.1) ?_
    refine jr.aload_n rfl rfl ?_
    obtain ⟨v20, e20⟩ : ∃ z_, M t 13 = z_ := ⟨_, rfl⟩
    have b20 : (-1) ≤ v20 ∧ v20 ≤ 404 := by rw [← e20]; exact (CI.r hC_M k_t (by decide) 13)
    have e21 : M7 t 13 = v20 := (hf_M7.g k_t rfl).trans e20
    have e22 : M12 t 13 = v20 := (hf_M12.g k_t rfl).trans e21
    refine jr.getf (i := 13) (x := v20) (v := .int (Int32.ofInt (v20))) rfl rfl (Nat.lt_trans (kx_15 k_t).1 (by decide)) (kx_15 k_t).2 (by decide) rfl rfl ((ju_i _ _ (by decide)).trans ((ju_i _ _ (by decide)).trans e22)) rfl ?_
    refine jr.iconst rfl ?_
    refine jr.aload_n rfl rfl ?_
    obtain ⟨v23, e23⟩ : ∃ z_, M t 5 = z_ := ⟨_, rfl⟩
    have b23 : (-9223372036854775808) ≤ v23 ∧ v23 ≤ 9223372036854775807 := by rw [← e23]; exact (CI.r hC_M k_t (by decide) 5)
    have e24 : M7 t 5 = v23 := (hf_M7.g k_t rfl).trans e23
    have e25 : M12 t 5 = v23 := (hf_M12.g k_t rfl).trans e24
    refine jr.getf (i := 5) (x := v23) (v := .long (Int64.ofInt (v23))) rfl rfl (Nat.lt_trans (kx_15 k_t).1 (by decide)) (kx_15 k_t).2 (by decide) rfl rfl ((ju_i _ _ (by decide)).trans ((ju_i _ _ (by decide)).trans e25)) rfl ?_
    refine jr_s rfl rfl (Or.inr rfl) ⟨Nat.le_of_ble_eq_true rfl, Nat.le_of_ble_eq_true rfl⟩ rfl rfl (jc.deep (c_PacketWall_putNumber_p (CI.u (CI.u hC_M12 (i := 1) k_x (show (-1 : Int) ≤ _ ∧ _ ≤ (400 : Int) from by omega) rfl) (i := 2) k_x (show (-9223372036854775808 : Int) ≤ _ ∧ _ ≤ (9223372036854775807 : Int) from by omega) rfl) (FR.rfl _ ((ju (ju M12 x 1 r13) x 2 0))) k19.2 (by omega) (by omega) (by omega) (fun M26 hC_M26 hf_M26  => ?_)) (by decide))
    have ht_M26 : FR W_c_Gathering_makePacket T M26 := FR.t (FR.o (FR.o ht_M12 k_x rfl) k_x rfl) hf_M26 (kw_sub rfl)
    refine jr.aload_n rfl rfl ?_
    have k27 := kf_33_0 k_x
    refine jr.getf (i := 0) (v := .ref (x + 1)) rfl rfl (Nat.lt_trans (kx_33 k_x).1 (by decide)) (kx_33 k_x).2 (by decide) rfl rfl rfl (jval_ref rfl k27.1) ?_
    refine jr.aload_n rfl rfl ?_
    obtain ⟨v28, e28⟩ : ∃ z_, M t 12 = z_ := ⟨_, rfl⟩
    have b28 : (-1) ≤ v28 ∧ v28 ≤ 400 := by rw [← e28]; exact (CI.r hC_M k_t (by decide) 12)
    have e29 : M7 t 12 = v28 := (hf_M7.g k_t rfl).trans e28
    have e30 : M12 t 12 = v28 := (hf_M12.g k_t rfl).trans e29
    have e31 : M26 t 12 = v28 := (hf_M26.g k_t rfl).trans ((ju_i _ _ (by decide)).trans ((ju_i _ _ (by decide)).trans e30))
    refine jr.getf (i := 12) (x := v28) (v := .int (Int32.ofInt (v28))) rfl rfl (Nat.lt_trans (kx_15 k_t).1 (by decide)) (kx_15 k_t).2 (by decide) rfl rfl e31 rfl ?_
    refine jr.iconst rfl ?_
    refine jr.iadd rfl ?_
    refine jr.iconst rfl ?_
    refine jr.aload_n rfl rfl ?_
    have e32 : M26 x 1 = r13 := (hf_M26.g k_x rfl).trans ((ju_i _ _ (by decide)).trans (ju_same _ _ _ _))
    refine jr.getf (i := 1) (x := r13) (v := .int (Int32.ofInt (r13))) rfl rfl (Nat.lt_trans (kx_33 k_x).1 (by decide)) (kx_33 k_x).2 (by decide) rfl rfl e32 rfl ?_
    refine jr.aload_n rfl rfl ?_
    refine jr.getf (i := 12) (x := v28) (v := .int (Int32.ofInt (v28))) rfl rfl (Nat.lt_trans (kx_15 k_t).1 (by decide)) (kx_15 k_t).2 (by decide) rfl rfl e31 rfl ?_
    refine jr.isub rfl ?_
    refine jr.bipush rfl (by decide) ?_
    refine jr.isub rfl ?_
    refine jr.i2l rfl (by omega) ?_
    refine jr_s rfl rfl (Or.inr rfl) ⟨Nat.le_of_ble_eq_true rfl, Nat.le_of_ble_eq_true rfl⟩ rfl rfl (jc.deep (c_PacketWall_putNumber_p hC_M26 (FR.rfl _ M26) k27.2 (by omega) (by omega) (by omega) (fun M33 hC_M33 hf_M33  => ?_)) (by decide))
    have ht_M33 : FR W_c_Gathering_makePacket T M33 := FR.t ht_M26 hf_M33 (kw_sub rfl)
    exact jr.vreturn rfl rfl (q _ hC_M33 ht_M33  )
  · refine jr.aload_n rfl rfl ?_
    have k34 := kf_33_0 k_x
    refine jr.getf (i := 0) (v := .ref (x + 1)) rfl rfl (Nat.lt_trans (kx_33 k_x).1 (by decide)) (kx_33 k_x).2 (by decide) rfl rfl rfl (jval_ref rfl k34.1) ?_
    refine jr.aload_n rfl rfl ?_
    obtain ⟨v35, e35⟩ : ∃ z_, M t 12 = z_ := ⟨_, rfl⟩
    have b35 : (-1) ≤ v35 ∧ v35 ≤ 400 := by rw [← e35]; exact (CI.r hC_M k_t (by decide) 12)
    have e36 : M7 t 12 = v35 := (hf_M7.g k_t rfl).trans e35
    have e37 : M12 t 12 = v35 := (hf_M12.g k_t rfl).trans e36
    refine jr.getf (i := 12) (x := v35) (v := .int (Int32.ofInt (v35))) rfl rfl (Nat.lt_trans (kx_15 k_t).1 (by decide)) (kx_15 k_t).2 (by decide) rfl rfl ((ju_i _ _ (by decide)).trans ((ju_i _ _ (by decide)).trans e37)) rfl ?_
    refine jr.iconst rfl ?_
    refine jr.iadd rfl ?_
    refine jr.iconst rfl ?_
    refine jr.aload_n rfl rfl ?_
    refine jr.getf (i := 1) (x := r13) (v := .int (Int32.ofInt (r13))) rfl rfl (Nat.lt_trans (kx_33 k_x).1 (by decide)) (kx_33 k_x).2 (by decide) rfl rfl ((ju_i _ _ (by decide)).trans (ju_same _ _ _ _)) rfl ?_
    refine jr.aload_n rfl rfl ?_
    refine jr.getf (i := 12) (x := v35) (v := .int (Int32.ofInt (v35))) rfl rfl (Nat.lt_trans (kx_15 k_t).1 (by decide)) (kx_15 k_t).2 (by decide) rfl rfl ((ju_i _ _ (by decide)).trans ((ju_i _ _ (by decide)).trans e37)) rfl ?_
    refine jr.isub rfl ?_
    refine jr.i2l rfl (by omega) ?_
    refine jr_s rfl rfl (Or.inr rfl) ⟨Nat.le_of_ble_eq_true rfl, Nat.le_of_ble_eq_true rfl⟩ rfl rfl (jc.deep (c_PacketWall_putNumber_p (CI.u (CI.u hC_M12 (i := 1) k_x (show (-1 : Int) ≤ _ ∧ _ ≤ (400 : Int) from by omega) rfl) (i := 2) k_x (show (-9223372036854775808 : Int) ≤ _ ∧ _ ≤ (9223372036854775807 : Int) from by omega) rfl) (FR.rfl _ ((ju (ju M12 x 1 r13) x 2 0))) k34.2 (by omega) (by omega) (by omega) (fun M38 hC_M38 hf_M38  => ?_)) (by decide))
    have ht_M38 : FR W_c_Gathering_makePacket T M38 := FR.t (FR.o (FR.o ht_M12 k_x rfl) k_x rfl) hf_M38 (kw_sub rfl)
    refine jr.aload_n rfl rfl ?_
    have k39 := kf_33_0 k_x
    refine jr.getf (i := 0) (v := .ref (x + 1)) rfl rfl (Nat.lt_trans (kx_33 k_x).1 (by decide)) (kx_33 k_x).2 (by decide) rfl rfl rfl (jval_ref rfl k39.1) ?_
    refine jr.aload_n rfl rfl ?_
    have e40 : M38 t 12 = v35 := (hf_M38.g k_t rfl).trans ((ju_i _ _ (by decide)).trans ((ju_i _ _ (by decide)).trans e37))
    refine jr.getf (i := 12) (x := v35) (v := .int (Int32.ofInt (v35))) rfl rfl (Nat.lt_trans (kx_15 k_t).1 (by decide)) (kx_15 k_t).2 (by decide) rfl rfl e40 rfl ?_
    refine jr.bipush rfl (by decide) ?_
    refine jr.iadd rfl ?_
    refine jr.iconst rfl ?_
    refine jr.lconst (x := 0) rfl (by decide) ?_
    refine jr_s rfl rfl (Or.inr rfl) ⟨Nat.le_of_ble_eq_true rfl, Nat.le_of_ble_eq_true rfl⟩ rfl rfl (jc.deep (c_PacketWall_putNumber_p hC_M38 (FR.rfl _ M38) k39.2 (by omega) (by omega) (by omega) (fun M41 hC_M41 hf_M41  => ?_)) (by decide))
    have ht_M41 : FR W_c_Gathering_makePacket T M41 := FR.t ht_M38 hf_M41 (kw_sub rfl)
    refine jr.aload_n rfl rfl ?_
    have k42 := kf_33_0 k_x
    refine jr.getf (i := 0) (v := .ref (x + 1)) rfl rfl (Nat.lt_trans (kx_33 k_x).1 (by decide)) (kx_33 k_x).2 (by decide) rfl rfl rfl (jval_ref rfl k42.1) ?_
    refine jr.aload_n rfl rfl ?_
    have e43 : M41 t 12 = v35 := (hf_M41.g k_t rfl).trans e40
    refine jr.getf (i := 12) (x := v35) (v := .int (Int32.ofInt (v35))) rfl rfl (Nat.lt_trans (kx_15 k_t).1 (by decide)) (kx_15 k_t).2 (by decide) rfl rfl e43 rfl ?_
    refine jr.bipush rfl (by decide) ?_
    refine jr.iadd rfl ?_
    refine jr.iconst rfl ?_
    refine jr.lconst (x := 0) rfl (by decide) ?_
    refine jr_s rfl rfl (Or.inr rfl) ⟨Nat.le_of_ble_eq_true rfl, Nat.le_of_ble_eq_true rfl⟩ rfl rfl (jc.deep (c_PacketWall_putNumber_p hC_M41 (FR.rfl _ M41) k42.2 (by omega) (by omega) (by omega) (fun M44 hC_M44 hf_M44  => ?_)) (by decide))
    have ht_M44 : FR W_c_Gathering_makePacket T M44 := FR.t ht_M41 hf_M44 (kw_sub rfl)
    refine jr.aload_n rfl rfl ?_
    have k45 := kf_33_0 k_x
    refine jr.getf (i := 0) (v := .ref (x + 1)) rfl rfl (Nat.lt_trans (kx_33 k_x).1 (by decide)) (kx_33 k_x).2 (by decide) rfl rfl rfl (jval_ref rfl k45.1) ?_
    refine jr.aload_n rfl rfl ?_
    have e46 : M44 t 12 = v35 := (hf_M44.g k_t rfl).trans e43
    refine jr.getf (i := 12) (x := v35) (v := .int (Int32.ofInt (v35))) rfl rfl (Nat.lt_trans (kx_15 k_t).1 (by decide)) (kx_15 k_t).2 (by decide) rfl rfl e46 rfl ?_
    refine jr.bipush rfl (by decide) ?_
    refine jr.iadd rfl ?_
    refine jr.iconst rfl ?_
    refine jr.aload_n rfl rfl ?_
    have k47 := kf_33_0 k_x
    refine jr.getf (i := 0) (v := .ref (x + 1)) rfl rfl (Nat.lt_trans (kx_33 k_x).1 (by decide)) (kx_33 k_x).2 (by decide) rfl rfl rfl (jval_ref rfl k47.1) ?_
    refine jr.aload_n rfl rfl ?_
    refine jr.getf (i := 12) (x := v35) (v := .int (Int32.ofInt (v35))) rfl rfl (Nat.lt_trans (kx_15 k_t).1 (by decide)) (kx_15 k_t).2 (by decide) rfl rfl e46 rfl ?_
    refine jr.iload_n rfl rfl ?_
    refine jr_s rfl rfl (Or.inr rfl) ⟨Nat.le_of_ble_eq_true rfl, Nat.le_of_ble_eq_true rfl⟩ rfl rfl (jc.deep (c_PacketWall_addedTwos_p hC_M44 k47.2 (by omega) (by omega) (fun r48 z48  => ?_)) (by decide))
    refine jr_s rfl rfl (Or.inr rfl) ⟨Nat.le_of_ble_eq_true rfl, Nat.le_of_ble_eq_true rfl⟩ rfl rfl (jc.deep (c_PacketWall_foldedSum hC_M44 (by omega) (fun r49 z49  => ?_)) (by decide))
    refine jr.i2l rfl (by omega) ?_
    refine jr_s rfl rfl (Or.inr rfl) ⟨Nat.le_of_ble_eq_true rfl, Nat.le_of_ble_eq_true rfl⟩ rfl rfl (jc.deep (c_PacketWall_putNumber_p hC_M44 (FR.rfl _ M44) k45.2 (by omega) (by omega) (by omega) (fun M50 hC_M50 hf_M50  => ?_)) (by decide))
    have ht_M50 : FR W_c_Gathering_makePacket T M50 := FR.t ht_M44 hf_M50 (kw_sub rfl)
    refine jr.goto rfl rfl ?_
    exact jr.vreturn rfl rfl (q _ hC_M50 ht_M50  )
def W_c_PacketWall_putTogether : List (Nat × Nat) := [(15, 0), (33, 1), (33, 2), (34, 1000)]
theorem c_PacketWall_putTogether_L5 {A : Nat → Option (Nat × (Nat → Int32))} {Q : Option Value → jm → Prop} {T : jm} {x : Nat} (k_x : kd x = 15) (q : ∀ (r : Int) (M' : jm), CI M' → FR W_c_PacketWall_putTogether T M' → (-2147483648) ≤ r ∧ r ≤ 2147483647 → Q (some (.int (Int32.ofInt r))) M') : ∀ (nM : Nat) (M : jm) (f : Int) (i : Int), CI M → FR W_c_PacketWall_putTogether T M → (-1) ≤ f ∧ f ≤ 23 → (-1) ≤ i ∧ i ≤ 23 → (0 ≤ M x 7 ∧ 8 ≤ M x 11) → i + 1 ≤ nM → jr A 3 xm_48 5 [(2, .int (Int32.ofInt (f))), (3, .int (Int32.ofInt (i))), (0, .ref (0)), (1, .ref (x))] [] M Q := by
  intro nM
  induction nM using Nat.strongRecOn with
  | ind nM ih =>
    intro M f i hC_M ht_M h_f h_i hy0 hm
    obtain ⟨v1, e1⟩ : ∃ z_, M x 11 = z_ := ⟨_, rfl⟩
    have b1 : (-1) ≤ v1 ∧ v1 ≤ 400 := by rw [← e1]; exact (CI.r hC_M k_x (by decide) 11)
    obtain ⟨v2, e2⟩ : ∃ z_, M x 7 = z_ := ⟨_, rfl⟩
    have b2 : (-1) ≤ v2 ∧ v2 ≤ 70000 := by rw [← e2]; exact (CI.r hC_M k_x (by decide) 7)
    refine jr.iload_n rfl rfl ?_
    refine jr.if_lt rfl rfl (by omega) (fun h6 => ?_) (fun h6 => ?_)
    · refine jr.iload_n rfl rfl ?_
      refine jr.iconst rfl ?_
      refine jr.icmp_eq rfl rfl (by omega) (by omega) (fun h31 => ?_) (fun h31 => ?_)
      · refine jr.bipush rfl (by decide) ?_
        exact jr.ireturn rfl rfl rfl (q _ _ hC_M ht_M (by omega) )
      · refine jr.aload_n rfl rfl ?_
        refine jr_v rfl rfl (Or.inl rfl) rfl rfl (Nat.lt_trans (kx_15 k_x).1 (by decide)) (kx_15 k_x).2 ⟨rfl, Nat.le_of_ble_eq_true rfl, Nat.le_of_ble_eq_true rfl⟩ rfl (jc.deep (c_Gathering_packetLength hC_M k_x (fun r3 z3 w3_0 => ?_)) (by decide))
        obtain ⟨v4, e4⟩ : ∃ z_, M x 1 = z_ := ⟨_, rfl⟩
        have b4 : (-2147483648) ≤ v4 ∧ v4 ≤ 2147483647 := by rw [← e4]; exact (CI.r hC_M k_x (by decide) 1)
        refine jr.sipush rfl (by decide) ?_
        refine jr.icmp_le rfl rfl (by omega) (by omega) (fun h41 => ?_) (fun h41 => ?_)
        · refine jr.aload_n rfl rfl ?_
          refine jr.aload_n rfl rfl ?_
          refine jr.getf (i := 2) (v := .ref 2) rfl rfl (by decide) rfl (by decide) rfl rfl rfl rfl ?_
          refine jr.iload_n rfl rfl ?_
          have k5 := kxe_42 (a := 2) rfl (i := f) (by omega) (by omega)
          refine jr.aald (c := (xe 2 f)) rfl (by decide) rfl (by decide) (by decide) rfl (by decide) (by omega) (by omega) k5.1 ?_
          refine jr_v rfl rfl (Or.inl rfl) rfl rfl (Nat.lt_trans (kx_15 k_x).1 (by decide)) (kx_15 k_x).2 ⟨rfl, Nat.le_of_ble_eq_true rfl, Nat.le_of_ble_eq_true rfl⟩ rfl (jc.deep (c_Gathering_makePacket hC_M (FR.rfl _ M) k_x k5.2 (by have hq0 : M x 1 = v4 := e4; have hq1 : M x 11 = v1 := e1; have hq2 : M x 7 = v2 := e2; omega) (fun M6 hC_M6 hf_M6  => ?_)) (by decide))
          have ht_M6 : FR W_c_PacketWall_putTogether T M6 := FR.t ht_M hf_M6 (kw_sub rfl)
          refine jr.aload_n rfl rfl ?_
          refine jr.iconst rfl ?_
          refine jr.putf (i := 0) (x := 0) rfl rfl (Nat.lt_trans (kx_15 k_x).1 (by decide)) (kx_15 k_x).2 (by decide) rfl rfl rfl rfl rfl ?_
          refine jr.iload_n rfl rfl ?_
          exact jr.ireturn rfl rfl rfl (q _ _ (CI.u hC_M6 (i := 0) k_x (show (0 : Int) ≤ _ ∧ _ ≤ (1 : Int) from by omega) rfl) (FR.o ht_M6 k_x rfl) (by omega) )
        · refine jr.bipush rfl (by decide) ?_
          exact jr.ireturn rfl rfl rfl (q _ _ hC_M ht_M (by omega) )
    · refine jr.aload_n rfl rfl ?_
      refine jr.getf (i := 2) (v := .ref 2) rfl rfl (by decide) rfl (by decide) rfl rfl rfl rfl ?_
      refine jr.iload_n rfl rfl ?_
      have k7 := kxe_42 (a := 2) rfl (i := i) (by omega) (by omega)
      refine jr.aald (c := (xe 2 i)) rfl (by decide) rfl (by decide) (by decide) rfl (by decide) (by omega) (by omega) k7.1 ?_
      refine jr_v rfl rfl (Or.inl rfl) rfl rfl (Nat.lt_trans (kx_33 k7.2).1 (by decide)) (kx_33 k7.2).2 ⟨rfl, Nat.le_of_ble_eq_true rfl, Nat.le_of_ble_eq_true rfl⟩ rfl (jc.deep (c_Packet_isThere hC_M k7.2 (fun r8 z8 w8_0 => ?_)) (by decide))
      obtain ⟨v9, e9⟩ : ∃ z_, M ((xe 2 i)) 1 = z_ := ⟨_, rfl⟩
      have b9 : (-1) ≤ v9 ∧ v9 ≤ 400 := by rw [← e9]; exact (CI.r hC_M k7.2 (by decide) 1)
      refine jr.if_ne rfl rfl (by omega) (fun h18 => ?_) (fun h18 => ?_)
      · refine jr.iinc rfl rfl (by decide) rfl ?_
        refine jr.goto rfl rfl ?_
        refine jr.pick [1, 0, 2, 3] rfl rfl ?_
        exact ih (nM - 1) (by omega) M f (i + (-1)) hC_M ht_M (by omega) (by omega) (by have hq0 : M x 11 = v1 := e1; have hq1 : M x 7 = v2 := e2; omega) (by omega)
      · refine jr.iload_n rfl rfl ?_
        refine jr.istore_n rfl (by decide) rfl ?_
        refine jr.iinc rfl rfl (by decide) rfl ?_
        refine jr.goto rfl rfl ?_
        refine jr.pick [1, 0, 2, 3] rfl rfl ?_
        exact ih (nM - 1) (by omega) M i (i + (-1)) hC_M ht_M (by omega) (by omega) (by have hq0 : M x 11 = v1 := e1; have hq1 : M x 7 = v2 := e2; omega) (by omega)
theorem c_PacketWall_putTogether {A : Nat → Option (Nat × (Nat → Int32))} {Q : Option Value → jm → Prop} {T : jm} {M : jm} (hC_M : CI M) (ht_M : FR W_c_PacketWall_putTogether T M) {x : Nat} (k_x : kd x = 15) (p0 : 0 ≤ M x 7 ∧ 8 ≤ M x 11) (q : ∀ (r : Int) (M' : jm), CI M' → FR W_c_PacketWall_putTogether T M' → (-2147483648) ≤ r ∧ r ≤ 2147483647 → Q (some (.int (Int32.ofInt r))) M') : jc A 4 48 [.ref (0), .ref (x)] M Q := by
  refine jc_of (m := xm_48) rfl (Nat.le_of_ble_eq_true rfl) rfl ?_
  obtain ⟨v1, e1⟩ : ∃ z_, M x 11 = z_ := ⟨_, rfl⟩
  have b1 : (-1) ≤ v1 ∧ v1 ≤ 400 := by rw [← e1]; exact (CI.r hC_M k_x (by decide) 11)
  obtain ⟨v2, e2⟩ : ∃ z_, M x 7 = z_ := ⟨_, rfl⟩
  have b2 : (-1) ≤ v2 ∧ v2 ≤ 70000 := by rw [← e2]; exact (CI.r hC_M k_x (by decide) 7)
  refine jr.iconst rfl ?_
  refine jr.istore_n rfl (by decide) rfl ?_
  refine jr.bipush rfl (by decide) ?_
  refine jr.istore_n rfl (by decide) rfl ?_
  refine jr.pick [1, 0, 2, 3] rfl rfl ?_
  exact c_PacketWall_putTogether_L5 k_x q 24 M (-1) 23 hC_M ht_M (by omega) (by omega) (by have hq0 : M x 11 = v1 := e1; have hq1 : M x 7 = v2 := e2; omega) (by omega)
def W_c_Gathering_keepHeaders : List (Nat × Nat) := [(15, 11), (15, 12), (15, 13), (16, 1000)]
theorem c_Gathering_keepHeaders {A : Nat → Option (Nat × (Nat → Int32))} {Q : Option Value → jm → Prop} {T : jm} {M : jm} (hC_M : CI M) (ht_M : FR W_c_Gathering_keepHeaders T M) {t : Nat} (k_t : kd t = 15) {y : Int} (h_y : (-2147483648) ≤ y ∧ y ≤ 2147483647) (p0 : 0 ≤ y ∧ y < M 3 3) (p1 : M 4 y = 2 ∨ M 4 y = 6) (p2 : HC M 3) (p3 : GC M ) (q : ∀ (M' : jm), CI M' → FR W_c_Gathering_keepHeaders T M' → (GC M' ) → Q none M') : jc A 3 100 [.ref (t), .ref (3), .int (Int32.ofInt (y))] M Q := by
  refine jc_of (m := xm_100) rfl (Nat.le_of_ble_eq_true rfl) rfl ?_
  obtain ⟨v1, e1⟩ : ∃ z_, M 3 3 = z_ := ⟨_, rfl⟩
  have b1 : 0 ≤ v1 ∧ v1 ≤ 12 := by rw [← e1]; exact (CI.r hC_M (show kd 3 = 18 from rfl) (by decide) 3)
  obtain ⟨v2, e2⟩ : ∃ z_, M 4 y = z_ := ⟨_, rfl⟩
  have b2 : 0 ≤ v2 ∧ v2 ≤ 11 := by rw [← e2]; exact (CI.r hC_M (show kd 4 = 19 from rfl) (by decide) y)
  refine jr.aload_n rfl rfl ?_
  refine jr.aload_n rfl rfl ?_
  refine jr.iload_n rfl rfl ?_
  refine jr_v rfl rfl (Or.inl rfl) rfl rfl (by decide) rfl ⟨rfl, Nat.le_of_ble_eq_true rfl, Nat.le_of_ble_eq_true rfl⟩ rfl (jc.deep (c_Headers_endOf hC_M (show kd 3 = 18 from rfl) (by omega) (fun r3 z3 w3_0 => ?_)) (by decide))
  simp only [Nat.reduceAdd] at w3_0
  have hh : (0 ≤ M 5 y + M 6 y ∧ M 5 y + M 6 y ≤ 400) ∧ ((M 4 y ≠ 2 ∧ M 4 y ≠ 6) ∨ 8 ≤ M 5 y + M 6 y) := p2 y (by omega) (by omega)
  refine jr.putf (i := 11) (x := r3) rfl rfl (Nat.lt_trans (kx_15 k_t).1 (by decide)) (kx_15 k_t).2 (by decide) rfl rfl rfl rfl rfl ?_
  refine jr.aload_n rfl rfl ?_
  obtain ⟨v4, e4⟩ : ∃ z_, M 3 7 = z_ := ⟨_, rfl⟩
  have b4 : 0 ≤ v4 ∧ v4 ≤ 597 := by rw [← e4]; exact (CI.r hC_M (show kd 3 = 18 from rfl) (by decide) 7)
  have k5 : kd (v4).toNat = 33 := ((congrArg (fun z : Int => kd z.toNat) (show (ju M t 11 r3) 3 7 = v4 from ((ju_i _ _ (by decide)).trans e4))).symm.trans (CI.x (CI.u hC_M (i := 11) k_t (show (-1 : Int) ≤ _ ∧ _ ≤ (400 : Int) from by omega) rfl) (show kd 3 = 18 from rfl) 7 rfl (by decide)))
  refine jr.getf (i := 7) (x := v4) (v := .ref (v4.toNat)) rfl rfl (by decide) rfl (by decide) rfl rfl ((ju_i _ _ (by decide)).trans e4) rfl ?_
  have k6 := kf_33_0 k5
  refine jr.getf (i := 0) (v := .ref ((v4.toNat) + 1)) rfl rfl (Nat.lt_trans (kx_33 k5).1 (by decide)) (kx_33 k5).2 (by decide) rfl rfl rfl (jval_ref rfl k6.1) ?_
  refine jr.iconst rfl ?_
  refine jr.aload_n rfl rfl ?_
  have k7 := kf_15_10 k_t
  refine jr.getf (i := 10) (v := .ref (t + 2)) rfl rfl (Nat.lt_trans (kx_15 k_t).1 (by decide)) (kx_15 k_t).2 (by decide) rfl rfl rfl (jval_ref rfl k7.1) ?_
  refine jr.iconst rfl ?_
  refine jr.aload_n rfl rfl ?_
  refine jr.getf (i := 11) (x := r3) (v := .int (Int32.ofInt (r3))) rfl rfl (Nat.lt_trans (kx_15 k_t).1 (by decide)) (kx_15 k_t).2 (by decide) rfl rfl (ju_same _ _ _ _) rfl ?_
  refine jr.acp rfl rfl (Nat.le_of_ble_eq_true rfl) (Nat.lt_trans (kx_34 k6.2).1 (by decide)) (kx_34 k6.2).2 (Nat.lt_trans (kx_16 k7.2).1 (by decide)) (kx_16 k7.2).2 (by decide) (by decide) (by omega) (by omega) (by omega) (by omega) (by omega) ?_
  have hC_M8 : CI (jcpy ((ju M t 11 r3)) (((v4.toNat) + 1)) 0 ((t + 2)) 0 r3) := CI.cpy (CI.u hC_M (i := 11) k_t (show (-1 : Int) ≤ _ ∧ _ ≤ (400 : Int) from by omega) rfl) k6.2 k7.2 (by decide) (fun i j => (show (-1 : Int) ≤ (-1 : Int) ∧ (255 : Int) ≤ (255 : Int) from by decide)) (fun _ => rfl)
  have ht_M8 : FR W_c_Gathering_keepHeaders T (jcpy ((ju M t 11 r3)) (((v4.toNat) + 1)) 0 ((t + 2)) 0 r3) := FR.cpy (FR.o ht_M k_t rfl) k7.2 (fun _ => rfl)
  have hf_M8 : FR [(16, 1000)] ((ju M t 11 r3)) (jcpy ((ju M t 11 r3)) (((v4.toNat) + 1)) 0 ((t + 2)) 0 r3) := FR.cpy (FR.rfl _ _) k7.2 (fun _ => rfl)
  generalize jcpy ((ju M t 11 r3)) (((v4.toNat) + 1)) 0 ((t + 2)) 0 r3 = M8 at hC_M8 ht_M8 hf_M8 ⊢
  refine jr.aload_n rfl rfl ?_
  refine jr.aload_n rfl rfl ?_
  refine jr.aload_n rfl rfl ?_
  refine jr.bipush rfl (by decide) ?_
  refine jr_v rfl rfl (Or.inl rfl) rfl rfl (by decide) rfl ⟨rfl, Nat.le_of_ble_eq_true rfl, Nat.le_of_ble_eq_true rfl⟩ rfl (jc.deep (c_Headers_firstOf hC_M8 (show kd 3 = 18 from rfl) (by omega) (fun r9 z9 w9_0 => ?_)) (by decide))
  simp only [Nat.reduceAdd] at w9_0
  refine jr_v rfl rfl (Or.inl rfl) rfl rfl (by decide) rfl ⟨rfl, Nat.le_of_ble_eq_true rfl, Nat.le_of_ble_eq_true rfl⟩ rfl (jc.deep (c_Headers_placeAt hC_M8 (show kd 3 = 18 from rfl) (by omega) (fun r10 z10 w10_0 => ?_)) (by decide))
  refine jr.putf (i := 12) (x := r10) rfl rfl (Nat.lt_trans (kx_15 k_t).1 (by decide)) (kx_15 k_t).2 (by decide) rfl rfl rfl rfl rfl ?_
  refine jr.aload_n rfl rfl ?_
  obtain ⟨v11, e11⟩ : ∃ z_, M t 1 = z_ := ⟨_, rfl⟩
  have b11 : (-2147483648) ≤ v11 ∧ v11 ≤ 2147483647 := by rw [← e11]; exact (CI.r hC_M k_t (by decide) 1)
  have e12 : M8 t 1 = v11 := (hf_M8.g k_t rfl).trans ((ju_i _ _ (by decide)).trans e11)
  refine jr.getf (i := 1) (x := v11) (v := .int (Int32.ofInt (v11))) rfl rfl (Nat.lt_trans (kx_15 k_t).1 (by decide)) (kx_15 k_t).2 (by decide) rfl rfl ((ju_i _ _ (by decide)).trans e12) rfl ?_
  refine jr.bipush rfl (by decide) ?_
  refine jr.icmp_ne rfl rfl (by omega) (by omega) (fun h49 => ?_) (fun h49 => ?_)
  · exact jr.vreturn rfl rfl (q _ (CI.u hC_M8 (i := 12) k_t (show (-1 : Int) ≤ _ ∧ _ ≤ (400 : Int) from by omega) rfl) (FR.o ht_M8 k_t rfl)  (GC.m (GC.fr (GC.u p3 (by omega)) hf_M8 rfl) (by decide)))
  · refine jr.aload_n rfl rfl ?_
    refine jr.aload_n rfl rfl ?_
    refine jr.iload_n rfl rfl ?_
    refine jr.iconst rfl ?_
    refine jr.isub rfl ?_
    refine jr.iw (j_w (y - 1)) (j_w_eq _) ?_
    have b13 : -2147483648 ≤ j_w (y - 1) ∧ j_w (y - 1) ≤ 2147483647 := jb_any _
    generalize j_w (y - 1) = v13 at b13 ⊢
    refine jr_v rfl rfl (Or.inl rfl) rfl rfl (by decide) rfl ⟨rfl, Nat.le_of_ble_eq_true rfl, Nat.le_of_ble_eq_true rfl⟩ rfl (jc.deep (c_Headers_placeAt (CI.u hC_M8 (i := 12) k_t (show (-1 : Int) ≤ _ ∧ _ ≤ (400 : Int) from by omega) rfl) (show kd 3 = 18 from rfl) (by omega) (fun r14 z14 w14_0 => ?_)) (by decide))
    refine jr.aload_n rfl rfl ?_
    refine jr.iload_n rfl rfl ?_
    refine jr.iconst rfl ?_
    refine jr.isub rfl ?_
    refine jr.iw (j_w (y - 1)) (j_w_eq _) ?_
    have b15 : -2147483648 ≤ j_w (y - 1) ∧ j_w (y - 1) ≤ 2147483647 := jb_any _
    generalize j_w (y - 1) = v15 at b15 ⊢
    refine jr_v rfl rfl (Or.inl rfl) rfl rfl (by decide) rfl ⟨rfl, Nat.le_of_ble_eq_true rfl, Nat.le_of_ble_eq_true rfl⟩ rfl (jc.deep (c_Headers_kindAt (CI.u hC_M8 (i := 12) k_t (show (-1 : Int) ≤ _ ∧ _ ≤ (400 : Int) from by omega) rfl) (show kd 3 = 18 from rfl) (by omega) (fun r16 z16 w16_0 w16_1 => ?_)) (by decide))
    simp only [Nat.reduceAdd] at w16_0
    simp only [Nat.reduceAdd] at w16_1
    refine jr.iconst rfl ?_
    refine jr.icmp_ne rfl rfl (by omega) (by omega) (fun h68 => ?_) (fun h68 => ?_)
    · refine jr.iconst rfl ?_
      refine jr.iadd rfl ?_
      refine jr.putf (i := 13) (x := (r14 + 0)) rfl rfl (Nat.lt_trans (kx_15 k_t).1 (by decide)) (kx_15 k_t).2 (by decide) rfl rfl rfl rfl rfl ?_
      exact jr.vreturn rfl rfl (q _ (CI.u (CI.u hC_M8 (i := 12) k_t (show (-1 : Int) ≤ _ ∧ _ ≤ (400 : Int) from by omega) rfl) (i := 13) k_t (show (-1 : Int) ≤ _ ∧ _ ≤ (404 : Int) from by omega) rfl) (FR.o (FR.o ht_M8 k_t rfl) k_t rfl)  (GC.m (GC.m (GC.fr (GC.u p3 (by omega)) hf_M8 rfl) (by decide)) (by decide)))
    · refine jr.iconst rfl ?_
      refine jr.goto rfl rfl ?_
      refine jr.iadd rfl ?_
      refine jr.putf (i := 13) (x := (r14 + 4)) rfl rfl (Nat.lt_trans (kx_15 k_t).1 (by decide)) (kx_15 k_t).2 (by decide) rfl rfl rfl rfl rfl ?_
      exact jr.vreturn rfl rfl (q _ (CI.u (CI.u hC_M8 (i := 12) k_t (show (-1 : Int) ≤ _ ∧ _ ≤ (400 : Int) from by omega) rfl) (i := 13) k_t (show (-1 : Int) ≤ _ ∧ _ ≤ (404 : Int) from by omega) rfl) (FR.o (FR.o ht_M8 k_t rfl) k_t rfl)  (GC.m (GC.m (GC.fr (GC.u p3 (by omega)) hf_M8 rfl) (by decide)) (by decide)))
def W_c_Gathering_takeIn : List (Nat × Nat) := [(15, 7), (15, 8), (15, 11), (15, 12), (15, 13), (16, 1000), (17, 1000), (41, 1000)]
theorem c_Gathering_takeIn_L80 {A : Nat → Option (Nat × (Nat → Int32))} {Q : Option Value → jm → Prop} {T : jm} {t : Nat} (k_t : kd t = 15) {y : Int} (q : ∀ (M' : jm), CI M' → FR W_c_Gathering_takeIn T M' → (GC M' ) → Q none M') : ∀ (nM : Nat) (M : jm) (s : Int) (d : Int) (o : Int) (i : Int), CI M → FR W_c_Gathering_takeIn T M → (-2147483648) ≤ y ∧ y ≤ 2147483647 → 0 ≤ s ∧ s ≤ 65528 → 1 ≤ d ∧ d ≤ 400 → 0 ≤ o ∧ o ≤ 400 → 0 ≤ i ∧ i ≤ 400 → (o ≤ i) → (i ≤ d) → (GC M ) → 400 - i ≤ nM → jr A 3 xm_96 80 [(2, .int (Int32.ofInt (y))), (4, .int (Int32.ofInt (s))), (5, .int (Int32.ofInt (d))), (6, .int (Int32.ofInt (o))), (7, .int (Int32.ofInt (i))), (0, .ref (t)), (1, .ref (3)), (3, .ref (14))] [] M Q := by
  intro nM
  induction nM using Nat.strongRecOn with
  | ind nM ih =>
    intro M s d o i hC_M ht_M h_y h_s h_d h_o h_i hy0 hy1 hy2 hm
    refine jr.iload rfl rfl ?_
    refine jr.iload rfl rfl ?_
    refine jr.icmp_ge rfl rfl (by omega) (by omega) (fun h84 => ?_) (fun h84 => ?_)
    · refine jr.aload_n rfl rfl ?_
      refine jr.iconst rfl ?_
      refine jr.iload rfl rfl ?_
      refine jr.iload rfl rfl ?_
      refine jr.isub rfl ?_
      refine jr.iast (i := 0) (x := (i - o)) rfl (by decide) rfl (by decide) (by omega) (by omega) ?_
      refine jr.aload_n rfl rfl ?_
      refine jr.iconst rfl ?_
      refine jr.iload rfl rfl ?_
      refine jr.iast (i := 1) (x := o) rfl (by decide) rfl (by decide) (by omega) (by omega) ?_
      refine jr.aload_n rfl rfl ?_
      refine jr.iconst rfl ?_
      refine jr.iload rfl rfl ?_
      refine jr.iload rfl rfl ?_
      refine jr.isub rfl ?_
      refine jr.iast (i := 2) (x := (d - i)) rfl (by decide) rfl (by decide) (by omega) (by omega) ?_
      refine jr.aload_n rfl rfl ?_
      refine jr.iconst rfl ?_
      refine jr.aload_n rfl rfl ?_
      refine jr_v rfl rfl (Or.inl rfl) rfl rfl (Nat.lt_trans (kx_15 k_t).1 (by decide)) (kx_15 k_t).2 ⟨rfl, Nat.le_of_ble_eq_true rfl, Nat.le_of_ble_eq_true rfl⟩ rfl (jc.deep (c_Gathering_rowBytes (CI.u (CI.u (CI.u hC_M (i := 0) (show kd 14 = 41 from rfl) (show (-2147483648 : Int) ≤ _ ∧ _ ≤ (2147483647 : Int) from by omega) rfl) (i := 1) (show kd 14 = 41 from rfl) (show (-2147483648 : Int) ≤ _ ∧ _ ≤ (2147483647 : Int) from by omega) rfl) (i := 2) (show kd 14 = 41 from rfl) (show (-2147483648 : Int) ≤ _ ∧ _ ≤ (2147483647 : Int) from by omega) rfl) k_t (fun r1 z1  => ?_)) (by decide))
      refine jr.iast (i := 3) (x := r1) rfl (by decide) rfl (by decide) (by omega) (by omega) ?_
      refine jr.aload_n rfl rfl ?_
      refine jr.iconst rfl ?_
      refine jr.aload_n rfl rfl ?_
      obtain ⟨v2, e2⟩ : ∃ z_, M t 7 = z_ := ⟨_, rfl⟩
      have b2 : (-1) ≤ v2 ∧ v2 ≤ 70000 := by rw [← e2]; exact (CI.r hC_M k_t (by decide) 7)
      refine jr.getf (i := 7) (x := v2) (v := .int (Int32.ofInt (v2))) rfl rfl (Nat.lt_trans (kx_15 k_t).1 (by decide)) (kx_15 k_t).2 (by decide) rfl rfl ((ju_i _ _ (by decide)).trans ((ju_i _ _ (by decide)).trans ((ju_i _ _ (by decide)).trans ((ju_i _ _ (by decide)).trans e2)))) rfl ?_
      refine jr.iast (i := 4) (x := v2) rfl (by decide) rfl (by decide) (by omega) (by omega) ?_
      exact jr.vreturn rfl rfl (q _ (CI.u (CI.u (CI.u (CI.u (CI.u hC_M (i := 0) (show kd 14 = 41 from rfl) (show (-2147483648 : Int) ≤ _ ∧ _ ≤ (2147483647 : Int) from by omega) rfl) (i := 1) (show kd 14 = 41 from rfl) (show (-2147483648 : Int) ≤ _ ∧ _ ≤ (2147483647 : Int) from by omega) rfl) (i := 2) (show kd 14 = 41 from rfl) (show (-2147483648 : Int) ≤ _ ∧ _ ≤ (2147483647 : Int) from by omega) rfl) (i := 3) (show kd 14 = 41 from rfl) (show (-2147483648 : Int) ≤ _ ∧ _ ≤ (2147483647 : Int) from by omega) rfl) (i := 4) (show kd 14 = 41 from rfl) (show (-2147483648 : Int) ≤ _ ∧ _ ≤ (2147483647 : Int) from by omega) rfl) (FR.o (FR.o (FR.o (FR.o (FR.o ht_M (show kd 14 = 41 from rfl) rfl) (show kd 14 = 41 from rfl) rfl) (show kd 14 = 41 from rfl) rfl) (show kd 14 = 41 from rfl) rfl) (show kd 14 = 41 from rfl) rfl)  (GC.n (GC.n (GC.n (GC.n (GC.n hy2 (show kd 14 = 41 from rfl) (by decide)) (show kd 14 = 41 from rfl) (by decide)) (show kd 14 = 41 from rfl) (by decide)) (show kd 14 = 41 from rfl) (by decide)) (show kd 14 = 41 from rfl) (by decide)))
    · refine jr.iload rfl rfl ?_
      refine jr.iload rfl rfl ?_
      refine jr.iadd rfl ?_
      refine jr.aload_n rfl rfl ?_
      refine jr_v rfl rfl (Or.inl rfl) rfl rfl (Nat.lt_trans (kx_15 k_t).1 (by decide)) (kx_15 k_t).2 ⟨rfl, Nat.le_of_ble_eq_true rfl, Nat.le_of_ble_eq_true rfl⟩ rfl (jc.deep (c_Gathering_lastPlace hC_M k_t (fun r3 z3 w3_0 => ?_)) (by decide))
      obtain ⟨v4, e4⟩ : ∃ z_, M t 7 = z_ := ⟨_, rfl⟩
      have b4 : (-1) ≤ v4 ∧ v4 ≤ 70000 := by rw [← e4]; exact (CI.r hC_M k_t (by decide) 7)
      refine jr.icmp_ge rfl rfl (by omega) (by omega) (fun h96 => ?_) (fun h96 => ?_)
      · refine jr.aload_n rfl rfl ?_
        refine jr.iconst rfl ?_
        refine jr.iload rfl rfl ?_
        refine jr.iload rfl rfl ?_
        refine jr.isub rfl ?_
        refine jr.iast (i := 0) (x := (i - o)) rfl (by decide) rfl (by decide) (by omega) (by omega) ?_
        refine jr.aload_n rfl rfl ?_
        refine jr.iconst rfl ?_
        refine jr.iload rfl rfl ?_
        refine jr.iast (i := 1) (x := o) rfl (by decide) rfl (by decide) (by omega) (by omega) ?_
        refine jr.aload_n rfl rfl ?_
        refine jr.iconst rfl ?_
        refine jr.iload rfl rfl ?_
        refine jr.iload rfl rfl ?_
        refine jr.isub rfl ?_
        refine jr.iast (i := 2) (x := (d - i)) rfl (by decide) rfl (by decide) (by omega) (by omega) ?_
        refine jr.aload_n rfl rfl ?_
        refine jr.iconst rfl ?_
        refine jr.aload_n rfl rfl ?_
        refine jr_v rfl rfl (Or.inl rfl) rfl rfl (Nat.lt_trans (kx_15 k_t).1 (by decide)) (kx_15 k_t).2 ⟨rfl, Nat.le_of_ble_eq_true rfl, Nat.le_of_ble_eq_true rfl⟩ rfl (jc.deep (c_Gathering_rowBytes (CI.u (CI.u (CI.u hC_M (i := 0) (show kd 14 = 41 from rfl) (show (-2147483648 : Int) ≤ _ ∧ _ ≤ (2147483647 : Int) from by omega) rfl) (i := 1) (show kd 14 = 41 from rfl) (show (-2147483648 : Int) ≤ _ ∧ _ ≤ (2147483647 : Int) from by omega) rfl) (i := 2) (show kd 14 = 41 from rfl) (show (-2147483648 : Int) ≤ _ ∧ _ ≤ (2147483647 : Int) from by omega) rfl) k_t (fun r5 z5  => ?_)) (by decide))
        refine jr.iast (i := 3) (x := r5) rfl (by decide) rfl (by decide) (by omega) (by omega) ?_
        refine jr.aload_n rfl rfl ?_
        refine jr.iconst rfl ?_
        refine jr.aload_n rfl rfl ?_
        refine jr.getf (i := 7) (x := v4) (v := .int (Int32.ofInt (v4))) rfl rfl (Nat.lt_trans (kx_15 k_t).1 (by decide)) (kx_15 k_t).2 (by decide) rfl rfl ((ju_i _ _ (by decide)).trans ((ju_i _ _ (by decide)).trans ((ju_i _ _ (by decide)).trans ((ju_i _ _ (by decide)).trans e4)))) rfl ?_
        refine jr.iast (i := 4) (x := v4) rfl (by decide) rfl (by decide) (by omega) (by omega) ?_
        exact jr.vreturn rfl rfl (q _ (CI.u (CI.u (CI.u (CI.u (CI.u hC_M (i := 0) (show kd 14 = 41 from rfl) (show (-2147483648 : Int) ≤ _ ∧ _ ≤ (2147483647 : Int) from by omega) rfl) (i := 1) (show kd 14 = 41 from rfl) (show (-2147483648 : Int) ≤ _ ∧ _ ≤ (2147483647 : Int) from by omega) rfl) (i := 2) (show kd 14 = 41 from rfl) (show (-2147483648 : Int) ≤ _ ∧ _ ≤ (2147483647 : Int) from by omega) rfl) (i := 3) (show kd 14 = 41 from rfl) (show (-2147483648 : Int) ≤ _ ∧ _ ≤ (2147483647 : Int) from by omega) rfl) (i := 4) (show kd 14 = 41 from rfl) (show (-2147483648 : Int) ≤ _ ∧ _ ≤ (2147483647 : Int) from by omega) rfl) (FR.o (FR.o (FR.o (FR.o (FR.o ht_M (show kd 14 = 41 from rfl) rfl) (show kd 14 = 41 from rfl) rfl) (show kd 14 = 41 from rfl) rfl) (show kd 14 = 41 from rfl) rfl) (show kd 14 = 41 from rfl) rfl)  (GC.n (GC.n (GC.n (GC.n (GC.n hy2 (show kd 14 = 41 from rfl) (by decide)) (show kd 14 = 41 from rfl) (by decide)) (show kd 14 = 41 from rfl) (by decide)) (show kd 14 = 41 from rfl) (by decide)) (show kd 14 = 41 from rfl) (by decide)))
      · refine jr.aload_n rfl rfl ?_
        have k6 := kf_15_9 k_t
        refine jr.getf (i := 9) (v := .ref (t + 1)) rfl rfl (Nat.lt_trans (kx_15 k_t).1 (by decide)) (kx_15 k_t).2 (by decide) rfl rfl rfl (jval_ref rfl k6.1) ?_
        refine jr.iload rfl rfl ?_
        refine jr.iload rfl rfl ?_
        refine jr.iadd rfl ?_
        obtain ⟨v7, e7⟩ : ∃ z_, M ((t + 1)) (s + i) = z_ := ⟨_, rfl⟩
        have b7 : (-1) ≤ v7 ∧ v7 ≤ 255 := by rw [← e7]; exact (CI.r hC_M k6.2 (by decide) (s + i))
        refine jr.iald (i := (s + i)) (x := v7) rfl (Nat.lt_trans (kx_17 k6.2).1 (by decide)) (kx_17 k6.2).2 (by decide) (by omega) (by omega) e7 ?_
        refine jr.iconst rfl ?_
        refine jr.icmp_ne rfl rfl (by omega) (by omega) (fun h110 => ?_) (fun h110 => ?_)
        · refine jr.iinc rfl rfl (by decide) rfl ?_
          refine jr.iinc rfl rfl (by decide) rfl ?_
          refine jr.goto rfl rfl ?_
          refine jr.pick [2, 3, 4, 1, 0, 5, 6, 7] rfl rfl ?_
          exact ih (nM - 1) (by omega) M s d (o + 1) (i + 1) hC_M ht_M (by omega) (by omega) (by omega) (by omega) (by omega) (by omega) (by omega) hy2 (by omega)
        · refine jr.aload_n rfl rfl ?_
          have k8 := kf_15_9 k_t
          refine jr.getf (i := 9) (v := .ref (t + 1)) rfl rfl (Nat.lt_trans (kx_15 k_t).1 (by decide)) (kx_15 k_t).2 (by decide) rfl rfl rfl (jval_ref rfl k8.1) ?_
          refine jr.iload rfl rfl ?_
          refine jr.iload rfl rfl ?_
          refine jr.iadd rfl ?_
          refine jr.aload_n rfl rfl ?_
          obtain ⟨v9, e9⟩ : ∃ z_, M 3 7 = z_ := ⟨_, rfl⟩
          have b9 : 0 ≤ v9 ∧ v9 ≤ 597 := by rw [← e9]; exact (CI.r hC_M (show kd 3 = 18 from rfl) (by decide) 7)
          have k10 : kd (v9).toNat = 33 := ((congrArg (fun z : Int => kd z.toNat) (show M 3 7 = v9 from e9)).symm.trans (CI.x hC_M (show kd 3 = 18 from rfl) 7 rfl (by decide)))
          refine jr.getf (i := 7) (x := v9) (v := .ref (v9.toNat)) rfl rfl (by decide) rfl (by decide) rfl rfl e9 rfl ?_
          refine jr.aload_n rfl rfl ?_
          refine jr.iload_n rfl rfl ?_
          refine jr_v rfl rfl (Or.inl rfl) rfl rfl (by decide) rfl ⟨rfl, Nat.le_of_ble_eq_true rfl, Nat.le_of_ble_eq_true rfl⟩ rfl (jc.deep (c_Headers_endOf hC_M (show kd 3 = 18 from rfl) (by omega) (fun r11 z11 w11_0 => ?_)) (by decide))
          simp only [Nat.reduceAdd] at w11_0
          refine jr.iload rfl rfl ?_
          refine jr.iadd rfl ?_
          refine jr_v rfl rfl (Or.inl rfl) rfl rfl (Nat.lt_trans (kx_33 k10).1 (by decide)) (kx_33 k10).2 ⟨rfl, Nat.le_of_ble_eq_true rfl, Nat.le_of_ble_eq_true rfl⟩ rfl (jc.deep (c_Packet_byteAt hC_M k10 (by omega) (fun r12 z12  => ?_)) (by decide))
          refine jr.iast (i := (s + i)) (x := r12) rfl (Nat.lt_trans (kx_17 k8.2).1 (by decide)) (kx_17 k8.2).2 (by decide) (by omega) (by omega) ?_
          refine jr.goto rfl rfl ?_
          refine jr.iinc rfl rfl (by decide) rfl ?_
          refine jr.goto rfl rfl ?_
          refine jr.pick [1, 2, 3, 4, 0, 5, 6, 7] rfl rfl ?_
          exact ih (nM - 1) (by omega) ((ju M ((t + 1)) (s + i) r12)) s d o (i + 1) (CI.u hC_M (i := (s + i)) k8.2 (show (-1 : Int) ≤ _ ∧ _ ≤ (255 : Int) from by omega) rfl) (FR.o ht_M k8.2 rfl) (by omega) (by omega) (by omega) (by omega) (by omega) (by omega) (by omega) (GC.n hy2 k8.2 (by decide)) (by omega)
theorem c_Gathering_takeIn {A : Nat → Option (Nat × (Nat → Int32))} {Q : Option Value → jm → Prop} {T : jm} {M : jm} (hC_M : CI M) (ht_M : FR W_c_Gathering_takeIn T M) {t : Nat} (k_t : kd t = 15) {y : Int} (h_y : (-2147483648) ≤ y ∧ y ≤ 2147483647) {S : Int} (g_S : M 3 7 = S) (p0 : 0 ≤ y ∧ y < M 3 3) (p1 : M 4 y = 2 ∨ M 4 y = 6) (p2 : HC M 3) (p3 : GC M ) (p4 : 1 ≤ M S.toNat 1 - (M 5 y + M 6 y)) (q : ∀ (M' : jm), CI M' → FR W_c_Gathering_takeIn T M' → (GC M' ) → Q none M') : jc A 4 96 [.ref (t), .ref (3), .int (Int32.ofInt (y)), .ref (14)] M Q := by
  refine jc_of (m := xm_96) rfl (Nat.le_of_ble_eq_true rfl) rfl ?_
  have k_S : kd S.toNat = 33 := (congrArg (fun z : Int => kd z.toNat) g_S).symm.trans (CI.x hC_M (show kd 3 = 18 from rfl) 7 rfl (by decide))
  obtain ⟨v1, e1⟩ : ∃ z_, M 3 3 = z_ := ⟨_, rfl⟩
  have b1 : 0 ≤ v1 ∧ v1 ≤ 12 := by rw [← e1]; exact (CI.r hC_M (show kd 3 = 18 from rfl) (by decide) 3)
  obtain ⟨v2, e2⟩ : ∃ z_, M 4 y = z_ := ⟨_, rfl⟩
  have b2 : 0 ≤ v2 ∧ v2 ≤ 11 := by rw [← e2]; exact (CI.r hC_M (show kd 4 = 19 from rfl) (by decide) y)
  obtain ⟨v3, e3⟩ : ∃ z_, M ((S.toNat)) 1 = z_ := ⟨_, rfl⟩
  have b3 : (-1) ≤ v3 ∧ v3 ≤ 400 := by rw [← e3]; exact (CI.r hC_M k_S (by decide) 1)
  obtain ⟨v4, e4⟩ : ∃ z_, M 5 y = z_ := ⟨_, rfl⟩
  have b4 : 0 ≤ v4 ∧ v4 ≤ 400 := by rw [← e4]; exact (CI.r hC_M (show kd 5 = 20 from rfl) (by decide) y)
  obtain ⟨v5, e5⟩ : ∃ z_, M 6 y = z_ := ⟨_, rfl⟩
  have b5 : (-400) ≤ v5 ∧ v5 ≤ 2048 := by rw [← e5]; exact (CI.r hC_M (show kd 6 = 21 from rfl) (by decide) y)
  refine jr.aload_n rfl rfl ?_
  refine jr.iload_n rfl rfl ?_
  refine jr_v rfl rfl (Or.inl rfl) rfl rfl (by decide) rfl ⟨rfl, Nat.le_of_ble_eq_true rfl, Nat.le_of_ble_eq_true rfl⟩ rfl (jc.deep (c_Headers_offsetOf hC_M (show kd 3 = 18 from rfl) (by omega) (by omega) (by (try simp only [Nat.reduceAdd]); omega) (fun r6 z6  => ?_)) (by decide))
  refine jr.istore rfl (by decide) rfl ?_
  refine jr.aload_n rfl rfl ?_
  refine jr.iload_n rfl rfl ?_
  have k7_S : kd (S).toNat = 33 := (congrArg (fun z : Int => kd z.toNat) g_S).symm.trans (CI.x hC_M (show kd 3 = 18 from rfl) 7 rfl (by decide))
  refine jr_v rfl rfl (Or.inl rfl) rfl rfl (by decide) rfl ⟨rfl, Nat.le_of_ble_eq_true rfl, Nat.le_of_ble_eq_true rfl⟩ rfl (jc.deep (c_Headers_dataBehind hC_M (show kd 3 = 18 from rfl) (by omega) g_S (fun r7 z7 w7_0 => ?_)) (by decide))
  simp only [Nat.reduceAdd] at w7_0
  have hh : (0 ≤ M 5 y + M 6 y ∧ M 5 y + M 6 y ≤ 400) ∧ ((M 4 y ≠ 2 ∧ M 4 y ≠ 6) ∨ 8 ≤ M 5 y + M 6 y) := p2 y (by omega) (by omega)
  refine jr.istore rfl (by decide) rfl ?_
  refine jr.aload_n rfl rfl ?_
  obtain ⟨v8, e8⟩ : ∃ z_, M t 7 = z_ := ⟨_, rfl⟩
  have b8 : (-1) ≤ v8 ∧ v8 ≤ 70000 := by rw [← e8]; exact (CI.r hC_M k_t (by decide) 7)
  refine jr.getf (i := 7) (x := v8) (v := .int (Int32.ofInt (v8))) rfl rfl (Nat.lt_trans (kx_15 k_t).1 (by decide)) (kx_15 k_t).2 (by decide) rfl rfl e8 rfl ?_
  refine jr.iconst rfl ?_
  refine jr.icmp_ne rfl rfl (by omega) (by omega) (fun h19 => ?_) (fun h19 => ?_)
  · refine jr.aload_n rfl rfl ?_
    refine jr.aload_n rfl rfl ?_
    obtain ⟨v9, e9⟩ : ∃ z_, M t 8 = z_ := ⟨_, rfl⟩
    have b9 : (-2147483648) ≤ v9 ∧ v9 ≤ 2147483647 := by rw [← e9]; exact (CI.r hC_M k_t (by decide) 8)
    refine jr.getf (i := 8) (x := v9) (v := .int (Int32.ofInt (v9))) rfl rfl (Nat.lt_trans (kx_15 k_t).1 (by decide)) (kx_15 k_t).2 (by decide) rfl rfl e9 rfl ?_
    refine jr.iload rfl rfl ?_
    refine jr.iload rfl rfl ?_
    refine jr.iadd rfl ?_
    refine jr.imax rfl rfl (Nat.le_of_ble_eq_true rfl) (by omega) (by omega) ?_
    intro v10 d10 b10 c10
    refine jr.putf (i := 8) (x := v10) rfl rfl (Nat.lt_trans (kx_15 k_t).1 (by decide)) (kx_15 k_t).2 (by decide) rfl rfl rfl rfl rfl ?_
    refine jr.iload rfl rfl ?_
    refine jr.if_ne rfl rfl (by omega) (fun h57 => ?_) (fun h57 => ?_)
    · refine jr.iconst rfl ?_
      refine jr.istore rfl (by decide) rfl ?_
      refine jr.iconst rfl ?_
      refine jr.istore rfl (by decide) rfl ?_
      refine jr.pick [6, 3, 2, 1, 0, 4, 5, 7] rfl rfl ?_
      exact c_Gathering_takeIn_L80 k_t q 400 ((ju M t 8 v10)) r6 r7 0 0 (CI.u hC_M (i := 8) k_t (show (-2147483648 : Int) ≤ _ ∧ _ ≤ (2147483647 : Int) from by omega) rfl) (FR.o ht_M k_t rfl) (by omega) (by omega) (by omega) (by omega) (by omega) (by omega) (by omega) (GC.m p3 (by decide)) (by omega)
    · refine jr.aload_n rfl rfl ?_
      obtain ⟨v11, e11⟩ : ∃ z_, M t 11 = z_ := ⟨_, rfl⟩
      have b11 : (-1) ≤ v11 ∧ v11 ≤ 400 := by rw [← e11]; exact (CI.r hC_M k_t (by decide) 11)
      refine jr.getf (i := 11) (x := v11) (v := .int (Int32.ofInt (v11))) rfl rfl (Nat.lt_trans (kx_15 k_t).1 (by decide)) (kx_15 k_t).2 (by decide) rfl rfl ((ju_i _ _ (by decide)).trans e11) rfl ?_
      refine jr.iconst rfl ?_
      refine jr.icmp_ne rfl rfl (by omega) (by omega) (fun h65 => ?_) (fun h65 => ?_)
      · refine jr.iconst rfl ?_
        refine jr.istore rfl (by decide) rfl ?_
        refine jr.iconst rfl ?_
        refine jr.istore rfl (by decide) rfl ?_
        refine jr.pick [6, 3, 2, 1, 0, 4, 5, 7] rfl rfl ?_
        exact c_Gathering_takeIn_L80 k_t q 400 ((ju M t 8 v10)) r6 r7 0 0 (CI.u hC_M (i := 8) k_t (show (-2147483648 : Int) ≤ _ ∧ _ ≤ (2147483647 : Int) from by omega) rfl) (FR.o ht_M k_t rfl) (by omega) (by omega) (by omega) (by omega) (by omega) (by omega) (by omega) (GC.m p3 (by decide)) (by omega)
      · refine jr.aload_n rfl rfl ?_
        refine jr.aload_n rfl rfl ?_
        refine jr.iload_n rfl rfl ?_
        refine jr_v rfl rfl (Or.inl rfl) rfl rfl (Nat.lt_trans (kx_15 k_t).1 (by decide)) (kx_15 k_t).2 ⟨rfl, Nat.le_of_ble_eq_true rfl, Nat.le_of_ble_eq_true rfl⟩ rfl (jc.deep (c_Gathering_keepHeaders (CI.u hC_M (i := 8) k_t (show (-2147483648 : Int) ≤ _ ∧ _ ≤ (2147483647 : Int) from by omega) rfl) (FR.rfl _ ((ju M t 8 v10))) k_t (by omega) (by have hq0 : (ju M t 8 v10) 3 3 = v1 := ((ju_i _ _ (by decide)).trans e1); omega) (by have hq0 : (ju M t 8 v10) 4 y = v2 := ((ju_c _ _ (kd_ne (by rw [(show kd 4 = 19 from rfl), k_t]; decide))).trans e2); omega) (HC.fr p2 (FR.o (FR.rfl [(15, 8)] M) k_t rfl) (show kd 3 = 18 from rfl) rfl) (GC.m p3 (by decide)) (fun M12 hC_M12 hf_M12 w12_0 => ?_)) (by decide))
        have ht_M12 : FR W_c_Gathering_takeIn T M12 := FR.t (FR.o ht_M k_t rfl) hf_M12 (kw_sub rfl)
        refine jr.iconst rfl ?_
        refine jr.istore rfl (by decide) rfl ?_
        refine jr.iconst rfl ?_
        refine jr.istore rfl (by decide) rfl ?_
        refine jr.pick [6, 3, 2, 1, 0, 4, 5, 7] rfl rfl ?_
        exact c_Gathering_takeIn_L80 k_t q 400 M12 r6 r7 0 0 hC_M12 ht_M12 (by omega) (by omega) (by omega) (by omega) (by omega) (by omega) (by omega) w12_0 (by omega)
  · refine jr.aload_n rfl rfl ?_
    refine jr.iload_n rfl rfl ?_
    refine jr_v rfl rfl (Or.inl rfl) rfl rfl (by decide) rfl ⟨rfl, Nat.le_of_ble_eq_true rfl, Nat.le_of_ble_eq_true rfl⟩ rfl (jc.deep (c_Headers_isMoreToCome hC_M (show kd 3 = 18 from rfl) (by omega) (fun r13 z13  => ?_)) (by decide))
    refine jr.if_ne rfl rfl (by omega) (fun h27 => ?_) (fun h27 => ?_)
    · refine jr.aload_n rfl rfl ?_
      refine jr.aload_n rfl rfl ?_
      obtain ⟨v14, e14⟩ : ∃ z_, M t 8 = z_ := ⟨_, rfl⟩
      have b14 : (-2147483648) ≤ v14 ∧ v14 ≤ 2147483647 := by rw [← e14]; exact (CI.r hC_M k_t (by decide) 8)
      refine jr.getf (i := 8) (x := v14) (v := .int (Int32.ofInt (v14))) rfl rfl (Nat.lt_trans (kx_15 k_t).1 (by decide)) (kx_15 k_t).2 (by decide) rfl rfl e14 rfl ?_
      refine jr.iload rfl rfl ?_
      refine jr.iload rfl rfl ?_
      refine jr.iadd rfl ?_
      refine jr.imax rfl rfl (Nat.le_of_ble_eq_true rfl) (by omega) (by omega) ?_
      intro v15 d15 b15 c15
      refine jr.putf (i := 8) (x := v15) rfl rfl (Nat.lt_trans (kx_15 k_t).1 (by decide)) (kx_15 k_t).2 (by decide) rfl rfl rfl rfl rfl ?_
      refine jr.iload rfl rfl ?_
      refine jr.if_ne rfl rfl (by omega) (fun h57 => ?_) (fun h57 => ?_)
      · refine jr.iconst rfl ?_
        refine jr.istore rfl (by decide) rfl ?_
        refine jr.iconst rfl ?_
        refine jr.istore rfl (by decide) rfl ?_
        refine jr.pick [6, 3, 2, 1, 0, 4, 5, 7] rfl rfl ?_
        exact c_Gathering_takeIn_L80 k_t q 400 ((ju M t 8 v15)) r6 r7 0 0 (CI.u hC_M (i := 8) k_t (show (-2147483648 : Int) ≤ _ ∧ _ ≤ (2147483647 : Int) from by omega) rfl) (FR.o ht_M k_t rfl) (by omega) (by omega) (by omega) (by omega) (by omega) (by omega) (by omega) (GC.m p3 (by decide)) (by omega)
      · refine jr.aload_n rfl rfl ?_
        obtain ⟨v16, e16⟩ : ∃ z_, M t 11 = z_ := ⟨_, rfl⟩
        have b16 : (-1) ≤ v16 ∧ v16 ≤ 400 := by rw [← e16]; exact (CI.r hC_M k_t (by decide) 11)
        refine jr.getf (i := 11) (x := v16) (v := .int (Int32.ofInt (v16))) rfl rfl (Nat.lt_trans (kx_15 k_t).1 (by decide)) (kx_15 k_t).2 (by decide) rfl rfl ((ju_i _ _ (by decide)).trans e16) rfl ?_
        refine jr.iconst rfl ?_
        refine jr.icmp_ne rfl rfl (by omega) (by omega) (fun h65 => ?_) (fun h65 => ?_)
        · refine jr.iconst rfl ?_
          refine jr.istore rfl (by decide) rfl ?_
          refine jr.iconst rfl ?_
          refine jr.istore rfl (by decide) rfl ?_
          refine jr.pick [6, 3, 2, 1, 0, 4, 5, 7] rfl rfl ?_
          exact c_Gathering_takeIn_L80 k_t q 400 ((ju M t 8 v15)) r6 r7 0 0 (CI.u hC_M (i := 8) k_t (show (-2147483648 : Int) ≤ _ ∧ _ ≤ (2147483647 : Int) from by omega) rfl) (FR.o ht_M k_t rfl) (by omega) (by omega) (by omega) (by omega) (by omega) (by omega) (by omega) (GC.m p3 (by decide)) (by omega)
        · refine jr.aload_n rfl rfl ?_
          refine jr.aload_n rfl rfl ?_
          refine jr.iload_n rfl rfl ?_
          refine jr_v rfl rfl (Or.inl rfl) rfl rfl (Nat.lt_trans (kx_15 k_t).1 (by decide)) (kx_15 k_t).2 ⟨rfl, Nat.le_of_ble_eq_true rfl, Nat.le_of_ble_eq_true rfl⟩ rfl (jc.deep (c_Gathering_keepHeaders (CI.u hC_M (i := 8) k_t (show (-2147483648 : Int) ≤ _ ∧ _ ≤ (2147483647 : Int) from by omega) rfl) (FR.rfl _ ((ju M t 8 v15))) k_t (by omega) (by have hq0 : (ju M t 8 v15) 3 3 = v1 := ((ju_i _ _ (by decide)).trans e1); omega) (by have hq0 : (ju M t 8 v15) 4 y = v2 := ((ju_c _ _ (kd_ne (by rw [(show kd 4 = 19 from rfl), k_t]; decide))).trans e2); omega) (HC.fr p2 (FR.o (FR.rfl [(15, 8)] M) k_t rfl) (show kd 3 = 18 from rfl) rfl) (GC.m p3 (by decide)) (fun M17 hC_M17 hf_M17 w17_0 => ?_)) (by decide))
          have ht_M17 : FR W_c_Gathering_takeIn T M17 := FR.t (FR.o ht_M k_t rfl) hf_M17 (kw_sub rfl)
          refine jr.iconst rfl ?_
          refine jr.istore rfl (by decide) rfl ?_
          refine jr.iconst rfl ?_
          refine jr.istore rfl (by decide) rfl ?_
          refine jr.pick [6, 3, 2, 1, 0, 4, 5, 7] rfl rfl ?_
          exact c_Gathering_takeIn_L80 k_t q 400 M17 r6 r7 0 0 hC_M17 ht_M17 (by omega) (by omega) (by omega) (by omega) (by omega) (by omega) (by omega) w17_0 (by omega)
    · refine jr.aload_n rfl rfl ?_
      refine jr.iload rfl rfl ?_
      refine jr.iload rfl rfl ?_
      refine jr.iadd rfl ?_
      refine jr.putf (i := 7) (x := (r6 + r7)) rfl rfl (Nat.lt_trans (kx_15 k_t).1 (by decide)) (kx_15 k_t).2 (by decide) rfl rfl rfl rfl rfl ?_
      refine jr.aload_n rfl rfl ?_
      refine jr.aload_n rfl rfl ?_
      obtain ⟨v18, e18⟩ : ∃ z_, M t 8 = z_ := ⟨_, rfl⟩
      have b18 : (-2147483648) ≤ v18 ∧ v18 ≤ 2147483647 := by rw [← e18]; exact (CI.r hC_M k_t (by decide) 8)
      refine jr.getf (i := 8) (x := v18) (v := .int (Int32.ofInt (v18))) rfl rfl (Nat.lt_trans (kx_15 k_t).1 (by decide)) (kx_15 k_t).2 (by decide) rfl rfl ((ju_i _ _ (by decide)).trans e18) rfl ?_
      refine jr.iload rfl rfl ?_
      refine jr.iload rfl rfl ?_
      refine jr.iadd rfl ?_
      refine jr.imax rfl rfl (Nat.le_of_ble_eq_true rfl) (by omega) (by omega) ?_
      intro v19 d19 b19 c19
      refine jr.putf (i := 8) (x := v19) rfl rfl (Nat.lt_trans (kx_15 k_t).1 (by decide)) (kx_15 k_t).2 (by decide) rfl rfl rfl rfl rfl ?_
      refine jr.iload rfl rfl ?_
      refine jr.if_ne rfl rfl (by omega) (fun h57 => ?_) (fun h57 => ?_)
      · refine jr.iconst rfl ?_
        refine jr.istore rfl (by decide) rfl ?_
        refine jr.iconst rfl ?_
        refine jr.istore rfl (by decide) rfl ?_
        refine jr.pick [6, 3, 2, 1, 0, 4, 5, 7] rfl rfl ?_
        exact c_Gathering_takeIn_L80 k_t q 400 ((ju (ju M t 7 (r6 + r7)) t 8 v19)) r6 r7 0 0 (CI.u (CI.u hC_M (i := 7) k_t (show (-1 : Int) ≤ _ ∧ _ ≤ (70000 : Int) from by omega) rfl) (i := 8) k_t (show (-2147483648 : Int) ≤ _ ∧ _ ≤ (2147483647 : Int) from by omega) rfl) (FR.o (FR.o ht_M k_t rfl) k_t rfl) (by omega) (by omega) (by omega) (by omega) (by omega) (by omega) (by omega) (GC.m (GC.m p3 (by decide)) (by decide)) (by omega)
      · refine jr.aload_n rfl rfl ?_
        obtain ⟨v20, e20⟩ : ∃ z_, M t 11 = z_ := ⟨_, rfl⟩
        have b20 : (-1) ≤ v20 ∧ v20 ≤ 400 := by rw [← e20]; exact (CI.r hC_M k_t (by decide) 11)
        refine jr.getf (i := 11) (x := v20) (v := .int (Int32.ofInt (v20))) rfl rfl (Nat.lt_trans (kx_15 k_t).1 (by decide)) (kx_15 k_t).2 (by decide) rfl rfl ((ju_i _ _ (by decide)).trans ((ju_i _ _ (by decide)).trans e20)) rfl ?_
        refine jr.iconst rfl ?_
        refine jr.icmp_ne rfl rfl (by omega) (by omega) (fun h65 => ?_) (fun h65 => ?_)
        · refine jr.iconst rfl ?_
          refine jr.istore rfl (by decide) rfl ?_
          refine jr.iconst rfl ?_
          refine jr.istore rfl (by decide) rfl ?_
          refine jr.pick [6, 3, 2, 1, 0, 4, 5, 7] rfl rfl ?_
          exact c_Gathering_takeIn_L80 k_t q 400 ((ju (ju M t 7 (r6 + r7)) t 8 v19)) r6 r7 0 0 (CI.u (CI.u hC_M (i := 7) k_t (show (-1 : Int) ≤ _ ∧ _ ≤ (70000 : Int) from by omega) rfl) (i := 8) k_t (show (-2147483648 : Int) ≤ _ ∧ _ ≤ (2147483647 : Int) from by omega) rfl) (FR.o (FR.o ht_M k_t rfl) k_t rfl) (by omega) (by omega) (by omega) (by omega) (by omega) (by omega) (by omega) (GC.m (GC.m p3 (by decide)) (by decide)) (by omega)
        · refine jr.aload_n rfl rfl ?_
          refine jr.aload_n rfl rfl ?_
          refine jr.iload_n rfl rfl ?_
          refine jr_v rfl rfl (Or.inl rfl) rfl rfl (Nat.lt_trans (kx_15 k_t).1 (by decide)) (kx_15 k_t).2 ⟨rfl, Nat.le_of_ble_eq_true rfl, Nat.le_of_ble_eq_true rfl⟩ rfl (jc.deep (c_Gathering_keepHeaders (CI.u (CI.u hC_M (i := 7) k_t (show (-1 : Int) ≤ _ ∧ _ ≤ (70000 : Int) from by omega) rfl) (i := 8) k_t (show (-2147483648 : Int) ≤ _ ∧ _ ≤ (2147483647 : Int) from by omega) rfl) (FR.rfl _ ((ju (ju M t 7 (r6 + r7)) t 8 v19))) k_t (by omega) (by have hq0 : (ju (ju M t 7 (r6 + r7)) t 8 v19) 3 3 = v1 := ((ju_i _ _ (by decide)).trans ((ju_i _ _ (by decide)).trans e1)); omega) (by have hq0 : (ju (ju M t 7 (r6 + r7)) t 8 v19) 4 y = v2 := ((ju_c _ _ (kd_ne (by rw [(show kd 4 = 19 from rfl), k_t]; decide))).trans ((ju_c _ _ (kd_ne (by rw [(show kd 4 = 19 from rfl), k_t]; decide))).trans e2)); omega) (HC.fr p2 (FR.o (FR.o (FR.rfl [(15, 7), (15, 8)] M) k_t rfl) k_t rfl) (show kd 3 = 18 from rfl) rfl) (GC.m (GC.m p3 (by decide)) (by decide)) (fun M21 hC_M21 hf_M21 w21_0 => ?_)) (by decide))
          have ht_M21 : FR W_c_Gathering_takeIn T M21 := FR.t (FR.o (FR.o ht_M k_t rfl) k_t rfl) hf_M21 (kw_sub rfl)
          refine jr.iconst rfl ?_
          refine jr.istore rfl (by decide) rfl ?_
          refine jr.iconst rfl ?_
          refine jr.istore rfl (by decide) rfl ?_
          refine jr.pick [6, 3, 2, 1, 0, 4, 5, 7] rfl rfl ?_
          exact c_Gathering_takeIn_L80 k_t q 400 M21 r6 r7 0 0 hC_M21 ht_M21 (by omega) (by omega) (by omega) (by omega) (by omega) (by omega) (by omega) w21_0 (by omega)
theorem c_PacketWall_isRefusedPiece {A : Nat → Option (Nat × (Nat → Int32))} {Q : Option Value → jm → Prop} {M : jm} (hC_M : CI M) {x : Int} (h_x : (-2147483648) ≤ x ∧ x ≤ 2147483647) {y : Int} (h_y : 0 ≤ y ∧ y ≤ 1) {S : Int} (g_S : M 3 7 = S) (p0 : 0 ≤ x ∧ x < M 3 3) (p1 : M 4 x = 2 ∨ M 4 x = 6) (q : ∀ (r : Int), 0 ≤ r ∧ r ≤ 1 → (r = 1 ∨ 1 ≤ M S.toNat 1 - (M 5 x + M 6 x)) → Q (some (.int (Int32.ofInt r))) M) : jc A 4 47 [.ref (0), .int (Int32.ofInt (x)), .int (Int32.ofInt (y))] M Q := by
  refine jc_of (m := xm_47) rfl (Nat.le_of_ble_eq_true rfl) rfl ?_
  have k_S : kd S.toNat = 33 := (congrArg (fun z : Int => kd z.toNat) g_S).symm.trans (CI.x hC_M (show kd 3 = 18 from rfl) 7 rfl (by decide))
  obtain ⟨v1, e1⟩ : ∃ z_, M 3 3 = z_ := ⟨_, rfl⟩
  have b1 : 0 ≤ v1 ∧ v1 ≤ 12 := by rw [← e1]; exact (CI.r hC_M (show kd 3 = 18 from rfl) (by decide) 3)
  obtain ⟨v2, e2⟩ : ∃ z_, M 4 x = z_ := ⟨_, rfl⟩
  have b2 : 0 ≤ v2 ∧ v2 ≤ 11 := by rw [← e2]; exact (CI.r hC_M (show kd 4 = 19 from rfl) (by decide) x)
  refine jr.aload_n rfl rfl ?_
  refine jr.getf (i := 3) (v := .ref 3) rfl rfl (by decide) rfl (by decide) rfl rfl rfl rfl ?_
  refine jr.iload_n rfl rfl ?_
  have k3_S : kd (S).toNat = 33 := (congrArg (fun z : Int => kd z.toNat) g_S).symm.trans (CI.x hC_M (show kd 3 = 18 from rfl) 7 rfl (by decide))
  refine jr_v rfl rfl (Or.inl rfl) rfl rfl (by decide) rfl ⟨rfl, Nat.le_of_ble_eq_true rfl, Nat.le_of_ble_eq_true rfl⟩ rfl (jc.deep (c_Headers_dataBehind hC_M (show kd 3 = 18 from rfl) (by omega) g_S (fun r3 z3 w3_0 => ?_)) (by decide))
  simp only [Nat.reduceAdd] at w3_0
  obtain ⟨v4, e4⟩ : ∃ z_, M ((S.toNat)) 1 = z_ := ⟨_, rfl⟩
  have b4 : (-1) ≤ v4 ∧ v4 ≤ 400 := by rw [← e4]; exact (CI.r hC_M k3_S (by decide) 1)
  refine jr.istore_n rfl (by decide) rfl ?_
  refine jr.iload_n rfl rfl ?_
  refine jr.if_gt rfl rfl (by omega) (fun h10 => ?_) (fun h10 => ?_)
  · refine jr.aload_n rfl rfl ?_
    refine jr.getf (i := 3) (v := .ref 3) rfl rfl (by decide) rfl (by decide) rfl rfl rfl rfl ?_
    refine jr.iload_n rfl rfl ?_
    refine jr_v rfl rfl (Or.inl rfl) rfl rfl (by decide) rfl ⟨rfl, Nat.le_of_ble_eq_true rfl, Nat.le_of_ble_eq_true rfl⟩ rfl (jc.deep (c_Headers_isMoreToCome hC_M (show kd 3 = 18 from rfl) (by omega) (fun r5 z5  => ?_)) (by decide))
    refine jr.if_eq rfl rfl (by omega) (fun h23 => ?_) (fun h23 => ?_)
    · refine jr.iload_n rfl rfl ?_
      refine jr.if_eq rfl rfl (by omega) (fun h40 => ?_) (fun h40 => ?_)
      · refine jr.iconst rfl ?_
        obtain ⟨v6, e6⟩ : ∃ z_, M 5 x = z_ := ⟨_, rfl⟩
        have b6 : 0 ≤ v6 ∧ v6 ≤ 400 := by rw [← e6]; exact (CI.r hC_M (show kd 5 = 20 from rfl) (by decide) x)
        obtain ⟨v7, e7⟩ : ∃ z_, M 6 x = z_ := ⟨_, rfl⟩
        have b7 : (-400) ≤ v7 ∧ v7 ≤ 2048 := by rw [← e7]; exact (CI.r hC_M (show kd 6 = 21 from rfl) (by decide) x)
        exact jr.ireturn rfl rfl rfl (q _ (by omega) (by have hq0 : M ((S.toNat)) 1 = v4 := e4; have hq1 : M 5 x = v6 := e6; have hq2 : M 6 x = v7 := e7; omega))
      · refine jr.aload_n rfl rfl ?_
        refine jr.getf (i := 3) (v := .ref 3) rfl rfl (by decide) rfl (by decide) rfl rfl rfl rfl ?_
        refine jr.iload_n rfl rfl ?_
        refine jr_v rfl rfl (Or.inl rfl) rfl rfl (by decide) rfl ⟨rfl, Nat.le_of_ble_eq_true rfl, Nat.le_of_ble_eq_true rfl⟩ rfl (jc.deep (c_Headers_offsetOf hC_M (show kd 3 = 18 from rfl) (by omega) (by omega) (by (try simp only [Nat.reduceAdd]); omega) (fun r8 z8  => ?_)) (by decide))
        refine jr.iload_n rfl rfl ?_
        refine jr.iadd rfl ?_
        refine jr.sipush rfl (by decide) ?_
        refine jr.icmp_le rfl rfl (by omega) (by omega) (fun h56 => ?_) (fun h56 => ?_)
        · refine jr.iconst rfl ?_
          obtain ⟨v9, e9⟩ : ∃ z_, M 5 x = z_ := ⟨_, rfl⟩
          have b9 : 0 ≤ v9 ∧ v9 ≤ 400 := by rw [← e9]; exact (CI.r hC_M (show kd 5 = 20 from rfl) (by decide) x)
          obtain ⟨v10, e10⟩ : ∃ z_, M 6 x = z_ := ⟨_, rfl⟩
          have b10 : (-400) ≤ v10 ∧ v10 ≤ 2048 := by rw [← e10]; exact (CI.r hC_M (show kd 6 = 21 from rfl) (by decide) x)
          exact jr.ireturn rfl rfl rfl (q _ (by omega) (by have hq0 : M ((S.toNat)) 1 = v4 := e4; have hq1 : M 5 x = v9 := e9; have hq2 : M 6 x = v10 := e10; omega))
        · refine jr.iconst rfl ?_
          refine jr.goto rfl rfl ?_
          obtain ⟨v11, e11⟩ : ∃ z_, M 5 x = z_ := ⟨_, rfl⟩
          have b11 : 0 ≤ v11 ∧ v11 ≤ 400 := by rw [← e11]; exact (CI.r hC_M (show kd 5 = 20 from rfl) (by decide) x)
          obtain ⟨v12, e12⟩ : ∃ z_, M 6 x = z_ := ⟨_, rfl⟩
          have b12 : (-400) ≤ v12 ∧ v12 ≤ 2048 := by rw [← e12]; exact (CI.r hC_M (show kd 6 = 21 from rfl) (by decide) x)
          exact jr.ireturn rfl rfl rfl (q _ (by omega) (by have hq0 : M ((S.toNat)) 1 = v4 := e4; have hq1 : M 5 x = v11 := e11; have hq2 : M 6 x = v12 := e12; omega))
    · refine jr.iload_n rfl rfl ?_
      refine jr.bipush rfl (by decide) ?_
      refine jr.irem rfl (by decide) ?_
      have b13 : j_rem r3 8 = r3 % 8 := j_rem_ex (by omega) (by omega)
      generalize j_rem r3 8 = v13 at b13 ⊢
      refine jr.if_eq rfl rfl (by omega) (fun h30 => ?_) (fun h30 => ?_)
      · refine jr.iconst rfl ?_
        obtain ⟨v14, e14⟩ : ∃ z_, M 5 x = z_ := ⟨_, rfl⟩
        have b14 : 0 ≤ v14 ∧ v14 ≤ 400 := by rw [← e14]; exact (CI.r hC_M (show kd 5 = 20 from rfl) (by decide) x)
        obtain ⟨v15, e15⟩ : ∃ z_, M 6 x = z_ := ⟨_, rfl⟩
        have b15 : (-400) ≤ v15 ∧ v15 ≤ 2048 := by rw [← e15]; exact (CI.r hC_M (show kd 6 = 21 from rfl) (by decide) x)
        exact jr.ireturn rfl rfl rfl (q _ (by omega) (by have hq0 : M ((S.toNat)) 1 = v4 := e4; have hq1 : M 5 x = v14 := e14; have hq2 : M 6 x = v15 := e15; omega))
      · refine jr.iconst rfl ?_
        refine jr.goto rfl rfl ?_
        obtain ⟨v16, e16⟩ : ∃ z_, M 5 x = z_ := ⟨_, rfl⟩
        have b16 : 0 ≤ v16 ∧ v16 ≤ 400 := by rw [← e16]; exact (CI.r hC_M (show kd 5 = 20 from rfl) (by decide) x)
        obtain ⟨v17, e17⟩ : ∃ z_, M 6 x = z_ := ⟨_, rfl⟩
        have b17 : (-400) ≤ v17 ∧ v17 ≤ 2048 := by rw [← e17]; exact (CI.r hC_M (show kd 6 = 21 from rfl) (by decide) x)
        exact jr.ireturn rfl rfl rfl (q _ (by omega) (by have hq0 : M ((S.toNat)) 1 = v4 := e4; have hq1 : M 5 x = v16 := e16; have hq2 : M 6 x = v17 := e17; omega))
  · refine jr.iconst rfl ?_
    obtain ⟨v18, e18⟩ : ∃ z_, M 5 x = z_ := ⟨_, rfl⟩
    have b18 : 0 ≤ v18 ∧ v18 ≤ 400 := by rw [← e18]; exact (CI.r hC_M (show kd 5 = 20 from rfl) (by decide) x)
    obtain ⟨v19, e19⟩ : ∃ z_, M 6 x = z_ := ⟨_, rfl⟩
    have b19 : (-400) ≤ v19 ∧ v19 ≤ 2048 := by rw [← e19]; exact (CI.r hC_M (show kd 6 = 21 from rfl) (by decide) x)
    exact jr.ireturn rfl rfl rfl (q _ (by omega) (by have hq0 : M ((S.toNat)) 1 = v4 := e4; have hq1 : M 5 x = v18 := e18; have hq2 : M 6 x = v19 := e19; omega))
def W_c_PacketWall_gather : List (Nat × Nat) := [(15, 0), (15, 1), (15, 2), (15, 3), (15, 4), (15, 5), (15, 6), (15, 7), (15, 8), (15, 11), (15, 12), (15, 13), (16, 1000), (17, 1000), (18, 3), (18, 4), (18, 5), (18, 6), (18, 7), (19, 1000), (20, 1000), (21, 1000), (33, 1), (33, 2), (34, 1000), (41, 1000)]
theorem c_PacketWall_gather {A : Nat → Option (Nat × (Nat → Int32))} {Q : Option Value → jm → Prop} {T : jm} {M : jm} (hC_M : CI M) (ht_M : FR W_c_PacketWall_gather T M) {x : Int} (h_x : (-2147483648) ≤ x ∧ x ≤ 2147483647) (p0 : GC M ) (q : ∀ (r : Int) (M' : jm), CI M' → FR W_c_PacketWall_gather T M' → (-2147483648) ≤ r ∧ r ≤ 2147483647 → (GC M' ) → Q (some (.int (Int32.ofInt r))) M') : jc A 6 16 [.ref (0), .int (Int32.ofInt (x))] M Q := by
  refine jc_of (m := xm_16) rfl (Nat.le_of_ble_eq_true rfl) rfl ?_
  refine jr.aload_n rfl rfl ?_
  refine jr.iload_n rfl rfl ?_
  refine jr_v rfl rfl (Or.inl rfl) rfl rfl (by decide) rfl ⟨rfl, Nat.le_of_ble_eq_true rfl, Nat.le_of_ble_eq_true rfl⟩ rfl (jc.deep (c_PacketWall_isPacket hC_M (by omega) (fun r1 z1 w1_0 => ?_)) (by decide))
  refine jr.if_ne rfl rfl (by omega) (fun h5 => ?_) (fun h5 => ?_)
  · refine jr.aload_n rfl rfl ?_
    refine jr.getf (i := 3) (v := .ref 3) rfl rfl (by decide) rfl (by decide) rfl rfl rfl rfl ?_
    refine jr.aload_n rfl rfl ?_
    refine jr.getf (i := 2) (v := .ref 2) rfl rfl (by decide) rfl (by decide) rfl rfl rfl rfl ?_
    refine jr.iload_n rfl rfl ?_
    have k2 := kxe_42 (a := 2) rfl (i := x) (by omega) (by omega)
    refine jr.aald (c := (xe 2 x)) rfl (by decide) rfl (by decide) (by decide) rfl (by decide) (by omega) (by omega) k2.1 ?_
    refine jr_v rfl rfl (Or.inl rfl) rfl rfl (by decide) rfl ⟨rfl, Nat.le_of_ble_eq_true rfl, Nat.le_of_ble_eq_true rfl⟩ rfl (jc.deep (c_Headers_readAll hC_M (FR.rfl _ M) (show kd 3 = 18 from rfl) k2.2 (fun M3 hC_M3 hf_M3 w3_0 => ?_)) (by decide))
    have ht_M3 : FR W_c_PacketWall_gather T M3 := FR.t ht_M hf_M3 (kw_sub rfl)
    refine jr.aload_n rfl rfl ?_
    refine jr.getf (i := 3) (v := .ref 3) rfl rfl (by decide) rfl (by decide) rfl rfl rfl rfl ?_
    refine jr_v rfl rfl (Or.inl rfl) rfl rfl (by decide) rfl ⟨rfl, Nat.le_of_ble_eq_true rfl, Nat.le_of_ble_eq_true rfl⟩ rfl (jc.deep (c_Headers_pieceHeader hC_M3 (show kd 3 = 18 from rfl) (fun r4 z4 w4_0 => ?_)) (by decide))
    simp only [Nat.reduceAdd] at w4_0
    refine jr.istore_n rfl (by decide) rfl ?_
    refine jr.iload_n rfl rfl ?_
    refine jr.iconst rfl ?_
    refine jr.icmp_ne rfl rfl (by omega) (by omega) (fun h34 => ?_) (fun h34 => ?_)
    · refine jr.aload_n rfl rfl ?_
      refine jr.getf (i := 6) (v := .ref 11) rfl rfl (by decide) rfl (by decide) rfl rfl rfl rfl ?_
      refine jr.aload_n rfl rfl ?_
      refine jr.getf (i := 3) (v := .ref 3) rfl rfl (by decide) rfl (by decide) rfl rfl rfl rfl ?_
      refine jr.iload_n rfl rfl ?_
      refine jr_v rfl rfl (Or.inl rfl) rfl rfl (by decide) rfl ⟨rfl, Nat.le_of_ble_eq_true rfl, Nat.le_of_ble_eq_true rfl⟩ rfl (jc.deep (c_Gathering_nameBy hC_M3 (FR.rfl _ M3) (show kd 11 = 15 from rfl) (show kd 3 = 18 from rfl) (by omega) (fun M5 hC_M5 hf_M5  => ?_)) (by decide))
      have ht_M5 : FR W_c_PacketWall_gather T M5 := FR.t ht_M3 hf_M5 (kw_sub rfl)
      refine jr.aload_n rfl rfl ?_
      refine jr_v rfl rfl (Or.inl rfl) rfl rfl (by decide) rfl ⟨rfl, Nat.le_of_ble_eq_true rfl, Nat.le_of_ble_eq_true rfl⟩ rfl (jc.deep (c_PacketWall_soughtGathering hC_M5  (fun r6 z6  => ?_)) (by decide))
      refine jr.istore_n rfl (by decide) rfl ?_
      refine jr.iload_n rfl rfl ?_
      refine jr.iconst rfl ?_
      refine jr.icmp_eq rfl rfl (by omega) (by omega) (fun h59 => ?_) (fun h59 => ?_)
      · refine jr.iconst rfl ?_
        refine jr.goto rfl rfl ?_
        refine jr.istore rfl (by decide) rfl ?_
        refine jr.aload_n rfl rfl ?_
        refine jr.iload_n rfl rfl ?_
        refine jr.iload rfl rfl ?_
        obtain ⟨v8, e8⟩ : ∃ z_, M3 3 7 = z_ := ⟨_, rfl⟩
        have b8 : 0 ≤ v8 ∧ v8 ≤ 597 := by rw [← e8]; exact (CI.r hC_M3 (show kd 3 = 18 from rfl) (by decide) 7)
        have e9 : M5 3 7 = v8 := (hf_M5.g (show kd 3 = 18 from rfl) rfl).trans e8
        have k7_S : kd (v8).toNat = 33 := (congrArg (fun z : Int => kd z.toNat) e9).symm.trans (CI.x hC_M5 (show kd 3 = 18 from rfl) 7 rfl (by decide))
        obtain ⟨v10, e10⟩ : ∃ z_, M3 3 3 = z_ := ⟨_, rfl⟩
        have b10 : 0 ≤ v10 ∧ v10 ≤ 12 := by rw [← e10]; exact (CI.r hC_M3 (show kd 3 = 18 from rfl) (by decide) 3)
        have e11 : M5 3 3 = v10 := (hf_M5.g (show kd 3 = 18 from rfl) rfl).trans e10
        obtain ⟨v12, e12⟩ : ∃ z_, M3 4 r4 = z_ := ⟨_, rfl⟩
        have b12 : 0 ≤ v12 ∧ v12 ≤ 11 := by rw [← e12]; exact (CI.r hC_M3 (show kd 4 = 19 from rfl) (by decide) r4)
        have e13 : M5 4 r4 = v12 := (hf_M5.g (show kd 4 = 19 from rfl) rfl).trans e12
        refine jr_v rfl rfl (Or.inl rfl) rfl rfl (by decide) rfl ⟨rfl, Nat.le_of_ble_eq_true rfl, Nat.le_of_ble_eq_true rfl⟩ rfl (jc.deep (c_PacketWall_isRefusedPiece hC_M5 (by omega) (by omega) e9 (by have hq0 : M5 3 3 = v10 := e11; omega) (by have hq0 : M5 4 r4 = v12 := e13; omega) (fun r7 z7 w7_0 => ?_)) (by decide))
        obtain ⟨v14, e14⟩ : ∃ z_, M ((v8.toNat)) 1 = z_ := ⟨_, rfl⟩
        have b14 : (-1) ≤ v14 ∧ v14 ≤ 400 := by rw [← e14]; exact (CI.r hC_M k7_S (by decide) 1)
        have e15 : M3 ((v8.toNat)) 1 = v14 := (hf_M3.g k7_S rfl).trans e14
        have e16 : M5 ((v8.toNat)) 1 = v14 := (hf_M5.g k7_S rfl).trans e15
        obtain ⟨v17, e17⟩ : ∃ z_, M3 5 r4 = z_ := ⟨_, rfl⟩
        have b17 : 0 ≤ v17 ∧ v17 ≤ 400 := by rw [← e17]; exact (CI.r hC_M3 (show kd 5 = 20 from rfl) (by decide) r4)
        have e18 : M5 5 r4 = v17 := (hf_M5.g (show kd 5 = 20 from rfl) rfl).trans e17
        obtain ⟨v19, e19⟩ : ∃ z_, M3 6 r4 = z_ := ⟨_, rfl⟩
        have b19 : (-400) ≤ v19 ∧ v19 ≤ 2048 := by rw [← e19]; exact (CI.r hC_M3 (show kd 6 = 21 from rfl) (by decide) r4)
        have e20 : M5 6 r4 = v19 := (hf_M5.g (show kd 6 = 21 from rfl) rfl).trans e19
        refine jr.if_eq rfl rfl (by omega) (fun h89 => ?_) (fun h89 => ?_)
        · refine jr.iload_n rfl rfl ?_
          refine jr.iconst rfl ?_
          refine jr.icmp_ne rfl rfl (by omega) (by omega) (fun h97 => ?_) (fun h97 => ?_)
          · exact absurd h97 (by omega)
          · refine jr.aload_n rfl rfl ?_
            refine jr_v rfl rfl (Or.inl rfl) rfl rfl (by decide) rfl ⟨rfl, Nat.le_of_ble_eq_true rfl, Nat.le_of_ble_eq_true rfl⟩ rfl (jc.deep (c_PacketWall_freeGathering hC_M5  (fun r21 z21  => ?_)) (by decide))
            refine jr.istore_n rfl (by decide) rfl ?_
            refine jr.iload_n rfl rfl ?_
            refine jr.iconst rfl ?_
            refine jr.icmp_ne rfl rfl (by omega) (by omega) (fun h107 => ?_) (fun h107 => ?_)
            · refine jr.aload_n rfl rfl ?_
              refine jr.getf (i := 5) (v := .ref 10) rfl rfl (by decide) rfl (by decide) rfl rfl rfl rfl ?_
              refine jr.iload_n rfl rfl ?_
              have k22 := kxe_40 (a := 10) rfl (i := r21) (by omega) (by omega)
              refine jr.aald (c := (xe 10 r21)) rfl (by decide) rfl (by decide) (by decide) rfl (by decide) (by omega) (by omega) k22.1 ?_
              refine jr.aload_n rfl rfl ?_
              refine jr.getf (i := 6) (v := .ref 11) rfl rfl (by decide) rfl (by decide) rfl rfl rfl rfl ?_
              refine jr.aload_n rfl rfl ?_
              obtain ⟨v23, e23⟩ : ∃ z_, M 0 8 = z_ := ⟨_, rfl⟩
              have b23 : (-2147483648) ≤ v23 ∧ v23 ≤ 2147483647 := by rw [← e23]; exact (CI.r hC_M (show kd 0 = 35 from rfl) (by decide) 8)
              have e24 : M3 0 8 = v23 := (hf_M3.g (show kd 0 = 35 from rfl) rfl).trans e23
              have e25 : M5 0 8 = v23 := (hf_M5.g (show kd 0 = 35 from rfl) rfl).trans e24
              refine jr.getf (i := 8) (x := v23) (v := .int (Int32.ofInt (v23))) rfl rfl (by decide) rfl (by decide) rfl rfl e25 rfl ?_
              refine jr.bipush rfl (by decide) ?_
              refine jr.iadd rfl ?_
              refine jr.iw (j_w (v23 + 30)) (j_w_eq _) ?_
              have b26 : -2147483648 ≤ j_w (v23 + 30) ∧ j_w (v23 + 30) ≤ 2147483647 := jb_any _
              generalize j_w (v23 + 30) = v26 at b26 ⊢
              refine jr_v rfl rfl (Or.inl rfl) rfl rfl (Nat.lt_trans (kx_15 k22.2).1 (by decide)) (kx_15 k22.2).2 ⟨rfl, Nat.le_of_ble_eq_true rfl, Nat.le_of_ble_eq_true rfl⟩ rfl (jc.deep (c_Gathering_beginAs hC_M5 (FR.rfl _ M5) k22.2 (show kd 11 = 15 from rfl) (by omega) (GC.fr (GC.fr p0 hf_M3 rfl) hf_M5 rfl) (fun M27 hC_M27 hf_M27 w27_0 => ?_)) (by decide))
              have ht_M27 : FR W_c_PacketWall_gather T M27 := FR.t ht_M5 hf_M27 (kw_sub rfl)
              refine jr.aload_n rfl rfl ?_
              refine jr.getf (i := 5) (v := .ref 10) rfl rfl (by decide) rfl (by decide) rfl rfl rfl rfl ?_
              refine jr.iload_n rfl rfl ?_
              have k28 := kxe_40 (a := 10) rfl (i := r21) (by omega) (by omega)
              refine jr.aald (c := (xe 10 r21)) rfl (by decide) rfl (by decide) (by decide) rfl (by decide) (by omega) (by omega) k28.1 ?_
              refine jr.aload_n rfl rfl ?_
              refine jr.getf (i := 3) (v := .ref 3) rfl rfl (by decide) rfl (by decide) rfl rfl rfl rfl ?_
              refine jr.iload_n rfl rfl ?_
              refine jr.aload_n rfl rfl ?_
              refine jr.getf (i := 7) (v := .ref 14) rfl rfl (by decide) rfl (by decide) rfl rfl rfl rfl ?_
              have e30 : M27 3 7 = v8 := (hf_M27.g (show kd 3 = 18 from rfl) rfl).trans e9
              have k29_S : kd (v8).toNat = 33 := (congrArg (fun z : Int => kd z.toNat) e30).symm.trans (CI.x hC_M27 (show kd 3 = 18 from rfl) 7 rfl (by decide))
              have e31 : M27 3 3 = v10 := (hf_M27.g (show kd 3 = 18 from rfl) rfl).trans e11
              have e32 : M27 4 r4 = v12 := (hf_M27.g (show kd 4 = 19 from rfl) rfl).trans e13
              have e33 : M27 ((v8.toNat)) 1 = v14 := (hf_M27.g k29_S rfl).trans e16
              have e34 : M27 5 r4 = v17 := (hf_M27.g (show kd 5 = 20 from rfl) rfl).trans e18
              have e35 : M27 6 r4 = v19 := (hf_M27.g (show kd 6 = 21 from rfl) rfl).trans e20
              refine jr_v rfl rfl (Or.inl rfl) rfl rfl (Nat.lt_trans (kx_15 k28.2).1 (by decide)) (kx_15 k28.2).2 ⟨rfl, Nat.le_of_ble_eq_true rfl, Nat.le_of_ble_eq_true rfl⟩ rfl (jc.deep (c_Gathering_takeIn hC_M27 (FR.rfl _ M27) k28.2 (by omega) e30 (by have hq0 : M27 3 3 = v10 := e31; omega) (by have hq0 : M27 4 r4 = v12 := e32; omega) (HC.fr (HC.fr w3_0 hf_M5 (show kd 3 = 18 from rfl) rfl) hf_M27 (show kd 3 = 18 from rfl) rfl) w27_0 (by have hq0 : M27 ((v8.toNat)) 1 = v14 := e33; have hq1 : M27 5 r4 = v17 := e34; have hq2 : M27 6 r4 = v19 := e35; omega) (fun M29 hC_M29 hf_M29 w29_0 => ?_)) (by decide))
              have ht_M29 : FR W_c_PacketWall_gather T M29 := FR.t ht_M27 hf_M29 (kw_sub rfl)
              refine jr.aload_n rfl rfl ?_
              refine jr.getf (i := 5) (v := .ref 10) rfl rfl (by decide) rfl (by decide) rfl rfl rfl rfl ?_
              refine jr.iload_n rfl rfl ?_
              have k36 := kxe_40 (a := 10) rfl (i := r21) (by omega) (by omega)
              refine jr.aald (c := (xe 10 r21)) rfl (by decide) rfl (by decide) (by decide) rfl (by decide) (by omega) (by omega) k36.1 ?_
              refine jr_v rfl rfl (Or.inl rfl) rfl rfl (Nat.lt_trans (kx_15 k36.2).1 (by decide)) (kx_15 k36.2).2 ⟨rfl, Nat.le_of_ble_eq_true rfl, Nat.le_of_ble_eq_true rfl⟩ rfl (jc.deep (c_Gathering_isReady hC_M29 k36.2 (fun r37 z37 w37_0 => ?_)) (by decide))
              obtain ⟨v38, e38⟩ : ∃ z_, M29 ((xe 10 r21)) 7 = z_ := ⟨_, rfl⟩
              have b38 : (-1) ≤ v38 ∧ v38 ≤ 70000 := by rw [← e38]; exact (CI.r hC_M29 k36.2 (by decide) 7)
              obtain ⟨v39, e39⟩ : ∃ z_, M29 ((xe 10 r21)) 11 = z_ := ⟨_, rfl⟩
              have b39 : (-1) ≤ v39 ∧ v39 ≤ 400 := by rw [← e39]; exact (CI.r hC_M29 k36.2 (by decide) 11)
              refine jr.if_eq rfl rfl (by omega) (fun h160 => ?_) (fun h160 => ?_)
              · refine jr.iconst rfl ?_
                exact jr.ireturn rfl rfl rfl (q _ _ hC_M29 ht_M29 (by omega) w29_0)
              · refine jr.aload_n rfl rfl ?_
                refine jr.aload_n rfl rfl ?_
                refine jr.getf (i := 5) (v := .ref 10) rfl rfl (by decide) rfl (by decide) rfl rfl rfl rfl ?_
                refine jr.iload_n rfl rfl ?_
                have k40 := kxe_40 (a := 10) rfl (i := r21) (by omega) (by omega)
                refine jr.aald (c := (xe 10 r21)) rfl (by decide) rfl (by decide) (by decide) rfl (by decide) (by omega) (by omega) k40.1 ?_
                refine jr_v rfl rfl (Or.inl rfl) rfl rfl (by decide) rfl ⟨rfl, Nat.le_of_ble_eq_true rfl, Nat.le_of_ble_eq_true rfl⟩ rfl (jc.deep (c_PacketWall_putTogether hC_M29 (FR.rfl _ M29) k40.2 (by have hg := w29_0 _ k40.2; omega) (fun r41 M41 hC_M41 hf_M41 z41  => ?_)) (by decide))
                have ht_M41 : FR W_c_PacketWall_gather T M41 := FR.t ht_M29 hf_M41 (kw_sub rfl)
                refine jr.goto rfl rfl ?_
                exact jr.ireturn rfl rfl rfl (q _ _ hC_M41 ht_M41 (by omega) (GC.fr w29_0 hf_M41 rfl))
            · refine jr.bipush rfl (by decide) ?_
              exact jr.ireturn rfl rfl rfl (q _ _ hC_M5 ht_M5 (by omega) (GC.fr (GC.fr p0 hf_M3 rfl) hf_M5 rfl))
        · refine jr.bipush rfl (by decide) ?_
          exact jr.ireturn rfl rfl rfl (q _ _ hC_M5 ht_M5 (by omega) (GC.fr (GC.fr p0 hf_M3 rfl) hf_M5 rfl))
      · refine jr.aload_n rfl rfl ?_
        refine jr.getf (i := 5) (v := .ref 10) rfl rfl (by decide) rfl (by decide) rfl rfl rfl rfl ?_
        refine jr.iload_n rfl rfl ?_
        have k42 := kxe_40 (a := 10) rfl (i := r6) (by omega) (by omega)
        refine jr.aald (c := (xe 10 r6)) rfl (by decide) rfl (by decide) (by decide) rfl (by decide) (by omega) (by omega) k42.1 ?_
        obtain ⟨v43, e43⟩ : ∃ z_, M ((xe 10 r6)) 7 = z_ := ⟨_, rfl⟩
        have b43 : (-1) ≤ v43 ∧ v43 ≤ 70000 := by rw [← e43]; exact (CI.r hC_M k42.2 (by decide) 7)
        have e44 : M3 ((xe 10 r6)) 7 = v43 := (hf_M3.g k42.2 rfl).trans e43
        have e45 : M5 ((xe 10 r6)) 7 = v43 := (hf_M5.g k42.2 rfl).trans e44
        refine jr.getf (i := 7) (x := v43) (v := .int (Int32.ofInt (v43))) rfl rfl (Nat.lt_trans (kx_15 k42.2).1 (by decide)) (kx_15 k42.2).2 (by decide) rfl rfl e45 rfl ?_
        refine jr.iconst rfl ?_
        refine jr.icmp_ne rfl rfl (by omega) (by omega) (fun h72 => ?_) (fun h72 => ?_)
        · refine jr.iconst rfl ?_
          refine jr.istore rfl (by decide) rfl ?_
          refine jr.aload_n rfl rfl ?_
          refine jr.iload_n rfl rfl ?_
          refine jr.iload rfl rfl ?_
          obtain ⟨v47, e47⟩ : ∃ z_, M3 3 7 = z_ := ⟨_, rfl⟩
          have b47 : 0 ≤ v47 ∧ v47 ≤ 597 := by rw [← e47]; exact (CI.r hC_M3 (show kd 3 = 18 from rfl) (by decide) 7)
          have e48 : M5 3 7 = v47 := (hf_M5.g (show kd 3 = 18 from rfl) rfl).trans e47
          have k46_S : kd (v47).toNat = 33 := (congrArg (fun z : Int => kd z.toNat) e48).symm.trans (CI.x hC_M5 (show kd 3 = 18 from rfl) 7 rfl (by decide))
          obtain ⟨v49, e49⟩ : ∃ z_, M3 3 3 = z_ := ⟨_, rfl⟩
          have b49 : 0 ≤ v49 ∧ v49 ≤ 12 := by rw [← e49]; exact (CI.r hC_M3 (show kd 3 = 18 from rfl) (by decide) 3)
          have e50 : M5 3 3 = v49 := (hf_M5.g (show kd 3 = 18 from rfl) rfl).trans e49
          obtain ⟨v51, e51⟩ : ∃ z_, M3 4 r4 = z_ := ⟨_, rfl⟩
          have b51 : 0 ≤ v51 ∧ v51 ≤ 11 := by rw [← e51]; exact (CI.r hC_M3 (show kd 4 = 19 from rfl) (by decide) r4)
          have e52 : M5 4 r4 = v51 := (hf_M5.g (show kd 4 = 19 from rfl) rfl).trans e51
          refine jr_v rfl rfl (Or.inl rfl) rfl rfl (by decide) rfl ⟨rfl, Nat.le_of_ble_eq_true rfl, Nat.le_of_ble_eq_true rfl⟩ rfl (jc.deep (c_PacketWall_isRefusedPiece hC_M5 (by omega) (by omega) e48 (by have hq0 : M5 3 3 = v49 := e50; omega) (by have hq0 : M5 4 r4 = v51 := e52; omega) (fun r46 z46 w46_0 => ?_)) (by decide))
          obtain ⟨v53, e53⟩ : ∃ z_, M ((v47.toNat)) 1 = z_ := ⟨_, rfl⟩
          have b53 : (-1) ≤ v53 ∧ v53 ≤ 400 := by rw [← e53]; exact (CI.r hC_M k46_S (by decide) 1)
          have e54 : M3 ((v47.toNat)) 1 = v53 := (hf_M3.g k46_S rfl).trans e53
          have e55 : M5 ((v47.toNat)) 1 = v53 := (hf_M5.g k46_S rfl).trans e54
          obtain ⟨v56, e56⟩ : ∃ z_, M3 5 r4 = z_ := ⟨_, rfl⟩
          have b56 : 0 ≤ v56 ∧ v56 ≤ 400 := by rw [← e56]; exact (CI.r hC_M3 (show kd 5 = 20 from rfl) (by decide) r4)
          have e57 : M5 5 r4 = v56 := (hf_M5.g (show kd 5 = 20 from rfl) rfl).trans e56
          obtain ⟨v58, e58⟩ : ∃ z_, M3 6 r4 = z_ := ⟨_, rfl⟩
          have b58 : (-400) ≤ v58 ∧ v58 ≤ 2048 := by rw [← e58]; exact (CI.r hC_M3 (show kd 6 = 21 from rfl) (by decide) r4)
          have e59 : M5 6 r4 = v58 := (hf_M5.g (show kd 6 = 21 from rfl) rfl).trans e58
          refine jr.if_eq rfl rfl (by omega) (fun h89 => ?_) (fun h89 => ?_)
          · refine jr.iload_n rfl rfl ?_
            refine jr.iconst rfl ?_
            refine jr.icmp_ne rfl rfl (by omega) (by omega) (fun h97 => ?_) (fun h97 => ?_)
            · refine jr.aload_n rfl rfl ?_
              refine jr.getf (i := 5) (v := .ref 10) rfl rfl (by decide) rfl (by decide) rfl rfl rfl rfl ?_
              refine jr.iload_n rfl rfl ?_
              have k60 := kxe_40 (a := 10) rfl (i := r6) (by omega) (by omega)
              refine jr.aald (c := (xe 10 r6)) rfl (by decide) rfl (by decide) (by decide) rfl (by decide) (by omega) (by omega) k60.1 ?_
              refine jr.aload_n rfl rfl ?_
              refine jr.getf (i := 3) (v := .ref 3) rfl rfl (by decide) rfl (by decide) rfl rfl rfl rfl ?_
              refine jr.iload_n rfl rfl ?_
              refine jr.aload_n rfl rfl ?_
              refine jr.getf (i := 7) (v := .ref 14) rfl rfl (by decide) rfl (by decide) rfl rfl rfl rfl ?_
              have k61_S : kd (v47).toNat = 33 := (congrArg (fun z : Int => kd z.toNat) e48).symm.trans (CI.x hC_M5 (show kd 3 = 18 from rfl) 7 rfl (by decide))
              refine jr_v rfl rfl (Or.inl rfl) rfl rfl (Nat.lt_trans (kx_15 k60.2).1 (by decide)) (kx_15 k60.2).2 ⟨rfl, Nat.le_of_ble_eq_true rfl, Nat.le_of_ble_eq_true rfl⟩ rfl (jc.deep (c_Gathering_takeIn hC_M5 (FR.rfl _ M5) k60.2 (by omega) e48 (by have hq0 : M5 3 3 = v49 := e50; omega) (by have hq0 : M5 4 r4 = v51 := e52; omega) (HC.fr w3_0 hf_M5 (show kd 3 = 18 from rfl) rfl) (GC.fr (GC.fr p0 hf_M3 rfl) hf_M5 rfl) (by have hq0 : M5 ((v47.toNat)) 1 = v53 := e55; have hq1 : M5 5 r4 = v56 := e57; have hq2 : M5 6 r4 = v58 := e59; omega) (fun M61 hC_M61 hf_M61 w61_0 => ?_)) (by decide))
              have ht_M61 : FR W_c_PacketWall_gather T M61 := FR.t ht_M5 hf_M61 (kw_sub rfl)
              refine jr.aload_n rfl rfl ?_
              refine jr.getf (i := 5) (v := .ref 10) rfl rfl (by decide) rfl (by decide) rfl rfl rfl rfl ?_
              refine jr.iload_n rfl rfl ?_
              have k62 := kxe_40 (a := 10) rfl (i := r6) (by omega) (by omega)
              refine jr.aald (c := (xe 10 r6)) rfl (by decide) rfl (by decide) (by decide) rfl (by decide) (by omega) (by omega) k62.1 ?_
              refine jr_v rfl rfl (Or.inl rfl) rfl rfl (Nat.lt_trans (kx_15 k62.2).1 (by decide)) (kx_15 k62.2).2 ⟨rfl, Nat.le_of_ble_eq_true rfl, Nat.le_of_ble_eq_true rfl⟩ rfl (jc.deep (c_Gathering_isReady hC_M61 k62.2 (fun r63 z63 w63_0 => ?_)) (by decide))
              obtain ⟨v64, e64⟩ : ∃ z_, M61 ((xe 10 r6)) 7 = z_ := ⟨_, rfl⟩
              have b64 : (-1) ≤ v64 ∧ v64 ≤ 70000 := by rw [← e64]; exact (CI.r hC_M61 k62.2 (by decide) 7)
              obtain ⟨v65, e65⟩ : ∃ z_, M61 ((xe 10 r6)) 11 = z_ := ⟨_, rfl⟩
              have b65 : (-1) ≤ v65 ∧ v65 ≤ 400 := by rw [← e65]; exact (CI.r hC_M61 k62.2 (by decide) 11)
              refine jr.if_eq rfl rfl (by omega) (fun h160 => ?_) (fun h160 => ?_)
              · refine jr.iconst rfl ?_
                exact jr.ireturn rfl rfl rfl (q _ _ hC_M61 ht_M61 (by omega) w61_0)
              · refine jr.aload_n rfl rfl ?_
                refine jr.aload_n rfl rfl ?_
                refine jr.getf (i := 5) (v := .ref 10) rfl rfl (by decide) rfl (by decide) rfl rfl rfl rfl ?_
                refine jr.iload_n rfl rfl ?_
                have k66 := kxe_40 (a := 10) rfl (i := r6) (by omega) (by omega)
                refine jr.aald (c := (xe 10 r6)) rfl (by decide) rfl (by decide) (by decide) rfl (by decide) (by omega) (by omega) k66.1 ?_
                refine jr_v rfl rfl (Or.inl rfl) rfl rfl (by decide) rfl ⟨rfl, Nat.le_of_ble_eq_true rfl, Nat.le_of_ble_eq_true rfl⟩ rfl (jc.deep (c_PacketWall_putTogether hC_M61 (FR.rfl _ M61) k66.2 (by have hg := w61_0 _ k66.2; omega) (fun r67 M67 hC_M67 hf_M67 z67  => ?_)) (by decide))
                have ht_M67 : FR W_c_PacketWall_gather T M67 := FR.t ht_M61 hf_M67 (kw_sub rfl)
                refine jr.goto rfl rfl ?_
                exact jr.ireturn rfl rfl rfl (q _ _ hC_M67 ht_M67 (by omega) (GC.fr w61_0 hf_M67 rfl))
            · exact absurd (by omega) h97
          · refine jr.bipush rfl (by decide) ?_
            exact jr.ireturn rfl rfl rfl (q _ _ hC_M5 ht_M5 (by omega) (GC.fr (GC.fr p0 hf_M3 rfl) hf_M5 rfl))
        · refine jr.iconst rfl ?_
          refine jr.goto rfl rfl ?_
          refine jr.istore rfl (by decide) rfl ?_
          refine jr.aload_n rfl rfl ?_
          refine jr.iload_n rfl rfl ?_
          refine jr.iload rfl rfl ?_
          obtain ⟨v69, e69⟩ : ∃ z_, M3 3 7 = z_ := ⟨_, rfl⟩
          have b69 : 0 ≤ v69 ∧ v69 ≤ 597 := by rw [← e69]; exact (CI.r hC_M3 (show kd 3 = 18 from rfl) (by decide) 7)
          have e70 : M5 3 7 = v69 := (hf_M5.g (show kd 3 = 18 from rfl) rfl).trans e69
          have k68_S : kd (v69).toNat = 33 := (congrArg (fun z : Int => kd z.toNat) e70).symm.trans (CI.x hC_M5 (show kd 3 = 18 from rfl) 7 rfl (by decide))
          obtain ⟨v71, e71⟩ : ∃ z_, M3 3 3 = z_ := ⟨_, rfl⟩
          have b71 : 0 ≤ v71 ∧ v71 ≤ 12 := by rw [← e71]; exact (CI.r hC_M3 (show kd 3 = 18 from rfl) (by decide) 3)
          have e72 : M5 3 3 = v71 := (hf_M5.g (show kd 3 = 18 from rfl) rfl).trans e71
          obtain ⟨v73, e73⟩ : ∃ z_, M3 4 r4 = z_ := ⟨_, rfl⟩
          have b73 : 0 ≤ v73 ∧ v73 ≤ 11 := by rw [← e73]; exact (CI.r hC_M3 (show kd 4 = 19 from rfl) (by decide) r4)
          have e74 : M5 4 r4 = v73 := (hf_M5.g (show kd 4 = 19 from rfl) rfl).trans e73
          refine jr_v rfl rfl (Or.inl rfl) rfl rfl (by decide) rfl ⟨rfl, Nat.le_of_ble_eq_true rfl, Nat.le_of_ble_eq_true rfl⟩ rfl (jc.deep (c_PacketWall_isRefusedPiece hC_M5 (by omega) (by omega) e70 (by have hq0 : M5 3 3 = v71 := e72; omega) (by have hq0 : M5 4 r4 = v73 := e74; omega) (fun r68 z68 w68_0 => ?_)) (by decide))
          obtain ⟨v75, e75⟩ : ∃ z_, M ((v69.toNat)) 1 = z_ := ⟨_, rfl⟩
          have b75 : (-1) ≤ v75 ∧ v75 ≤ 400 := by rw [← e75]; exact (CI.r hC_M k68_S (by decide) 1)
          have e76 : M3 ((v69.toNat)) 1 = v75 := (hf_M3.g k68_S rfl).trans e75
          have e77 : M5 ((v69.toNat)) 1 = v75 := (hf_M5.g k68_S rfl).trans e76
          obtain ⟨v78, e78⟩ : ∃ z_, M3 5 r4 = z_ := ⟨_, rfl⟩
          have b78 : 0 ≤ v78 ∧ v78 ≤ 400 := by rw [← e78]; exact (CI.r hC_M3 (show kd 5 = 20 from rfl) (by decide) r4)
          have e79 : M5 5 r4 = v78 := (hf_M5.g (show kd 5 = 20 from rfl) rfl).trans e78
          obtain ⟨v80, e80⟩ : ∃ z_, M3 6 r4 = z_ := ⟨_, rfl⟩
          have b80 : (-400) ≤ v80 ∧ v80 ≤ 2048 := by rw [← e80]; exact (CI.r hC_M3 (show kd 6 = 21 from rfl) (by decide) r4)
          have e81 : M5 6 r4 = v80 := (hf_M5.g (show kd 6 = 21 from rfl) rfl).trans e80
          refine jr.if_eq rfl rfl (by omega) (fun h89 => ?_) (fun h89 => ?_)
          · refine jr.iload_n rfl rfl ?_
            refine jr.iconst rfl ?_
            refine jr.icmp_ne rfl rfl (by omega) (by omega) (fun h97 => ?_) (fun h97 => ?_)
            · refine jr.aload_n rfl rfl ?_
              refine jr.getf (i := 5) (v := .ref 10) rfl rfl (by decide) rfl (by decide) rfl rfl rfl rfl ?_
              refine jr.iload_n rfl rfl ?_
              have k82 := kxe_40 (a := 10) rfl (i := r6) (by omega) (by omega)
              refine jr.aald (c := (xe 10 r6)) rfl (by decide) rfl (by decide) (by decide) rfl (by decide) (by omega) (by omega) k82.1 ?_
              refine jr.aload_n rfl rfl ?_
              refine jr.getf (i := 3) (v := .ref 3) rfl rfl (by decide) rfl (by decide) rfl rfl rfl rfl ?_
              refine jr.iload_n rfl rfl ?_
              refine jr.aload_n rfl rfl ?_
              refine jr.getf (i := 7) (v := .ref 14) rfl rfl (by decide) rfl (by decide) rfl rfl rfl rfl ?_
              have k83_S : kd (v69).toNat = 33 := (congrArg (fun z : Int => kd z.toNat) e70).symm.trans (CI.x hC_M5 (show kd 3 = 18 from rfl) 7 rfl (by decide))
              refine jr_v rfl rfl (Or.inl rfl) rfl rfl (Nat.lt_trans (kx_15 k82.2).1 (by decide)) (kx_15 k82.2).2 ⟨rfl, Nat.le_of_ble_eq_true rfl, Nat.le_of_ble_eq_true rfl⟩ rfl (jc.deep (c_Gathering_takeIn hC_M5 (FR.rfl _ M5) k82.2 (by omega) e70 (by have hq0 : M5 3 3 = v71 := e72; omega) (by have hq0 : M5 4 r4 = v73 := e74; omega) (HC.fr w3_0 hf_M5 (show kd 3 = 18 from rfl) rfl) (GC.fr (GC.fr p0 hf_M3 rfl) hf_M5 rfl) (by have hq0 : M5 ((v69.toNat)) 1 = v75 := e77; have hq1 : M5 5 r4 = v78 := e79; have hq2 : M5 6 r4 = v80 := e81; omega) (fun M83 hC_M83 hf_M83 w83_0 => ?_)) (by decide))
              have ht_M83 : FR W_c_PacketWall_gather T M83 := FR.t ht_M5 hf_M83 (kw_sub rfl)
              refine jr.aload_n rfl rfl ?_
              refine jr.getf (i := 5) (v := .ref 10) rfl rfl (by decide) rfl (by decide) rfl rfl rfl rfl ?_
              refine jr.iload_n rfl rfl ?_
              have k84 := kxe_40 (a := 10) rfl (i := r6) (by omega) (by omega)
              refine jr.aald (c := (xe 10 r6)) rfl (by decide) rfl (by decide) (by decide) rfl (by decide) (by omega) (by omega) k84.1 ?_
              refine jr_v rfl rfl (Or.inl rfl) rfl rfl (Nat.lt_trans (kx_15 k84.2).1 (by decide)) (kx_15 k84.2).2 ⟨rfl, Nat.le_of_ble_eq_true rfl, Nat.le_of_ble_eq_true rfl⟩ rfl (jc.deep (c_Gathering_isReady hC_M83 k84.2 (fun r85 z85 w85_0 => ?_)) (by decide))
              obtain ⟨v86, e86⟩ : ∃ z_, M83 ((xe 10 r6)) 7 = z_ := ⟨_, rfl⟩
              have b86 : (-1) ≤ v86 ∧ v86 ≤ 70000 := by rw [← e86]; exact (CI.r hC_M83 k84.2 (by decide) 7)
              obtain ⟨v87, e87⟩ : ∃ z_, M83 ((xe 10 r6)) 11 = z_ := ⟨_, rfl⟩
              have b87 : (-1) ≤ v87 ∧ v87 ≤ 400 := by rw [← e87]; exact (CI.r hC_M83 k84.2 (by decide) 11)
              refine jr.if_eq rfl rfl (by omega) (fun h160 => ?_) (fun h160 => ?_)
              · refine jr.iconst rfl ?_
                exact jr.ireturn rfl rfl rfl (q _ _ hC_M83 ht_M83 (by omega) w83_0)
              · refine jr.aload_n rfl rfl ?_
                refine jr.aload_n rfl rfl ?_
                refine jr.getf (i := 5) (v := .ref 10) rfl rfl (by decide) rfl (by decide) rfl rfl rfl rfl ?_
                refine jr.iload_n rfl rfl ?_
                have k88 := kxe_40 (a := 10) rfl (i := r6) (by omega) (by omega)
                refine jr.aald (c := (xe 10 r6)) rfl (by decide) rfl (by decide) (by decide) rfl (by decide) (by omega) (by omega) k88.1 ?_
                refine jr_v rfl rfl (Or.inl rfl) rfl rfl (by decide) rfl ⟨rfl, Nat.le_of_ble_eq_true rfl, Nat.le_of_ble_eq_true rfl⟩ rfl (jc.deep (c_PacketWall_putTogether hC_M83 (FR.rfl _ M83) k88.2 (by have hg := w83_0 _ k88.2; omega) (fun r89 M89 hC_M89 hf_M89 z89  => ?_)) (by decide))
                have ht_M89 : FR W_c_PacketWall_gather T M89 := FR.t ht_M83 hf_M89 (kw_sub rfl)
                refine jr.goto rfl rfl ?_
                exact jr.ireturn rfl rfl rfl (q _ _ hC_M89 ht_M89 (by omega) (GC.fr w83_0 hf_M89 rfl))
            · exact absurd (by omega) h97
          · refine jr.bipush rfl (by decide) ?_
            exact jr.ireturn rfl rfl rfl (q _ _ hC_M5 ht_M5 (by omega) (GC.fr (GC.fr p0 hf_M3 rfl) hf_M5 rfl))
    · refine jr.bipush rfl (by decide) ?_
      exact jr.ireturn rfl rfl rfl (q _ _ hC_M3 ht_M3 (by omega) (GC.fr p0 hf_M3 rfl))
  · refine jr.bipush rfl (by decide) ?_
    exact jr.ireturn rfl rfl rfl (q _ _ hC_M ht_M (by omega) p0)
def W_c_PacketWall_track : List (Nat × Nat) := [(1, 0), (1, 1), (1, 2), (1, 5), (1, 6), (1, 12), (1, 13), (1, 15), (2, 1000), (3, 1000), (4, 1000), (5, 1000), (6, 1000), (7, 1000), (8, 1000), (9, 3), (9, 4), (9, 5), (18, 3), (18, 4), (18, 5), (18, 6), (18, 7), (19, 1000), (20, 1000), (21, 1000)]
theorem c_PacketWall_track {A : Nat → Option (Nat × (Nat → Int32))} {Q : Option Value → jm → Prop} {T : jm} {M : jm} (hC_M : CI M) (ht_M : FR W_c_PacketWall_track T M) {x : Int} (h_x : (-2147483648) ≤ x ∧ x ≤ 2147483647) (q : ∀ (r : Int) (M' : jm), CI M' → FR W_c_PacketWall_track T M' → (-2147483648) ≤ r ∧ r ≤ 2147483647 → Q (some (.int (Int32.ofInt r))) M') : jc A 8 19 [.ref (0), .int (Int32.ofInt (x))] M Q := by
  refine jc_of (m := xm_19) rfl (Nat.le_of_ble_eq_true rfl) rfl ?_
  refine jr.aload_n rfl rfl ?_
  refine jr.iload_n rfl rfl ?_
  refine jr_v rfl rfl (Or.inl rfl) rfl rfl (by decide) rfl ⟨rfl, Nat.le_of_ble_eq_true rfl, Nat.le_of_ble_eq_true rfl⟩ rfl (jc.deep (c_PacketWall_isPacket hC_M (by omega) (fun r1 z1 w1_0 => ?_)) (by decide))
  refine jr.if_ne rfl rfl (by omega) (fun h5 => ?_) (fun h5 => ?_)
  · refine jr.aload_n rfl rfl ?_
    refine jr.getf (i := 3) (v := .ref 3) rfl rfl (by decide) rfl (by decide) rfl rfl rfl rfl ?_
    refine jr.aload_n rfl rfl ?_
    refine jr.getf (i := 2) (v := .ref 2) rfl rfl (by decide) rfl (by decide) rfl rfl rfl rfl ?_
    refine jr.iload_n rfl rfl ?_
    have k2 := kxe_42 (a := 2) rfl (i := x) (by omega) (by omega)
    refine jr.aald (c := (xe 2 x)) rfl (by decide) rfl (by decide) (by decide) rfl (by decide) (by omega) (by omega) k2.1 ?_
    refine jr_v rfl rfl (Or.inl rfl) rfl rfl (by decide) rfl ⟨rfl, Nat.le_of_ble_eq_true rfl, Nat.le_of_ble_eq_true rfl⟩ rfl (jc.deep (c_Headers_readAll hC_M (FR.rfl _ M) (show kd 3 = 18 from rfl) k2.2 (fun M3 hC_M3 hf_M3 w3_0 => ?_)) (by decide))
    have ht_M3 : FR W_c_PacketWall_track T M3 := FR.t ht_M hf_M3 (kw_sub rfl)
    refine jr.aload_n rfl rfl ?_
    refine jr.getf (i := 9) (v := .ref 15) rfl rfl (by decide) rfl (by decide) rfl rfl rfl rfl ?_
    refine jr.aload_n rfl rfl ?_
    refine jr.getf (i := 3) (v := .ref 3) rfl rfl (by decide) rfl (by decide) rfl rfl rfl rfl ?_
    refine jr.aload_n rfl rfl ?_
    obtain ⟨v4, e4⟩ : ∃ z_, M 0 8 = z_ := ⟨_, rfl⟩
    have b4 : (-2147483648) ≤ v4 ∧ v4 ≤ 2147483647 := by rw [← e4]; exact (CI.r hC_M (show kd 0 = 35 from rfl) (by decide) 8)
    have e5 : M3 0 8 = v4 := (hf_M3.g (show kd 0 = 35 from rfl) rfl).trans e4
    refine jr.getf (i := 8) (x := v4) (v := .int (Int32.ofInt (v4))) rfl rfl (by decide) rfl (by decide) rfl rfl e5 rfl ?_
    refine jr_v rfl rfl (Or.inl rfl) rfl rfl (by decide) rfl ⟨rfl, Nat.le_of_ble_eq_true rfl, Nat.le_of_ble_eq_true rfl⟩ rfl (jc.deep (c_Flows_passThrough hC_M3 (FR.rfl _ M3) (show kd 3 = 18 from rfl) (by omega) (fun r6 M6 hC_M6 hf_M6 z6  => ?_)) (by decide))
    have ht_M6 : FR W_c_PacketWall_track T M6 := FR.t ht_M3 hf_M6 (kw_sub rfl)
    exact jr.ireturn rfl rfl rfl (q _ _ hC_M6 ht_M6 (by omega) )
  · refine jr.bipush rfl (by decide) ?_
    exact jr.ireturn rfl rfl rfl (q _ _ hC_M ht_M (by omega) )
