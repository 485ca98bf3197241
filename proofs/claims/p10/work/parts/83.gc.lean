section
/-! ===== the class: a gathering begins, takes in, is ready ===== -/
noncomputable def BGA (T M : jm) (t : Nat) (x : Nat) (y : Int) : Prop := (M t 0 = 1 ∧ M t 1 = T x 1 ∧ M t 2 = T x 2 ∧ M t 3 = T x 3 ∧ M t 4 = T x 4 ∧ M t 5 = T x 5 ∧ M t 6 = y ∧ M t 7 = -1 ∧ M t 8 = 0 ∧ M t 11 = -1) ∧ (∀ k : Int, 0 ≤ k → k < 360 → M (t + 1) k = -1) ∧ ∀ (b : Nat) (k : Int), b ≠ t → b ≠ t + 1 → M b k = T b k
noncomputable def BGL (T M : jm) (t : Nat) (x : Nat) (y i : Int) : Prop := (M t 0 = 1 ∧ M t 1 = T x 1 ∧ M t 2 = T x 2 ∧ M t 3 = T x 3 ∧ M t 4 = T x 4 ∧ M t 5 = T x 5 ∧ M t 6 = y ∧ M t 7 = -1 ∧ M t 8 = 0 ∧ M t 11 = -1) ∧ (∀ k : Int, 0 ≤ k → k < i → M (t + 1) k = -1) ∧ ∀ (b : Nat) (k : Int), b ≠ t → b ≠ t + 1 → M b k = T b k
theorem BGL.s {T M : jm} {t x : Nat} {y i : Int} (h : BGL T M t x y i) (h0 : 0 ≤ i) : BGL T (ju M (t + 1) i (-1)) t x y (i + 1) := by
  have n : t ≠ t + 1 := by omega
  obtain ⟨h1, h2, h3⟩ := h
  refine ⟨by simp only [ju_c M _ n]; exact h1, fun k k0 k1 => ?_, fun b k b0 b1 => by rw [ju_c M _ b1]; exact h3 b k b0 b1⟩
  by_cases e : k = i
  · subst e; exact ju_same _ _ _ _
  · rw [ju_i M _ e]; exact h2 k k0 (by omega)
noncomputable def rbf (w c : Int) : Int := if w ≠ -1 then w else if c ≤ 64 then 64 else if c ≤ 128 then 128 else if c ≤ 256 then 256 else 360
noncomputable def lpf (w : Int) : Int := if w = -1 then 360 else if w ≤ 360 then w else 360
noncomputable def W_c_Gathering_beginAs_x : List (Nat × Nat) := [(15, 0), (15, 1), (15, 2), (15, 3), (15, 4), (15, 5), (15, 6), (15, 7), (15, 8), (15, 11), (17, 1000)]
theorem c_Gathering_beginAs_x_L67 {A : Nat → Option (Nat × (Nat → Int32))} {Q : Option Value → jm → Prop} {T : jm} {t : Nat} (k_t : kd t = 15) {y : Int} (q : ∀ (M' : jm), CI M' → FR W_c_Gathering_beginAs_x T M' → (BGA T M' t 11 y) → Q none M') : ∀ (nM : Nat) (M : jm) (i : Int), CI M → FR W_c_Gathering_beginAs_x T M → (-2147483648) ≤ y ∧ y ≤ 2147483647 → 0 ≤ i ∧ i ≤ 360 → (BGL T M t 11 y i) → 360 - i ≤ nM → jr A 0 xm_95 67 [(2, .int (Int32.ofInt (y))), (3, .int (Int32.ofInt (i))), (0, .ref (t)), (1, .ref (11))] [] M Q := by
  intro nM
  induction nM using Nat.strongRecOn with
  | ind nM ih =>
    intro M i hC_M ht_M h_y h_i hy0 hm
    refine jr.iload_n rfl rfl ?_
    refine jr.sipush rfl (by decide) ?_
    refine jr.icmp_ge rfl rfl (by omega) (by omega) (fun h71 => ?_) (fun h71 => ?_)
    · exact jr.vreturn rfl rfl (q _ hC_M ht_M  (by have h9 := hy0; rw [show i = 360 from by omega] at h9; exact h9))
    · refine jr.aload_n rfl rfl ?_
      have k1 := kf_15_9 k_t
      refine jr.getf (i := 9) (v := .ref (t + 1)) rfl rfl (Nat.lt_trans (kx_15 k_t).1 (by decide)) (kx_15 k_t).2 (by decide) rfl rfl rfl (jval_ref rfl k1.1) ?_
      refine jr.iload_n rfl rfl ?_
      refine jr.iconst rfl ?_
      refine jr.iast (i := i) (x := (-1)) rfl (Nat.lt_trans (kx_17 k1.2).1 (by decide)) (kx_17 k1.2).2 (by decide) (by omega) (by omega) ?_
      refine jr.iinc rfl rfl (by decide) rfl ?_
      refine jr.goto rfl rfl ?_
      refine jr.pick [1, 0, 2, 3] rfl rfl ?_
      exact ih (nM - 1) (by omega) ((ju M ((t + 1)) i (-1))) (i + 1) (CI.u hC_M (i := i) k1.2 (show (-1 : Int) ≤ _ ∧ _ ≤ (255 : Int) from by omega) rfl) (FR.o ht_M k1.2 rfl) (by omega) (by omega) (BGL.s hy0 (by omega)) (by omega)
theorem c_Gathering_beginAs_x {A : Nat → Option (Nat × (Nat → Int32))} {Q : Option Value → jm → Prop} {T : jm} {M : jm} (hC_M : CI M) (ht_M : FR W_c_Gathering_beginAs_x T M) {t : Nat} (k_t : kd t = 15) {y : Int} (h_y : (-2147483648) ≤ y ∧ y ≤ 2147483647) (p0 : T = M) (p1 : t ≠ 11) (q : ∀ (M' : jm), CI M' → FR W_c_Gathering_beginAs_x T M' → (BGA T M' t 11 y) → Q none M') : jc A 1 95 [.ref (t), .ref (11), .int (Int32.ofInt (y))] M Q := by
  refine jc_of (m := xm_95) rfl (Nat.le_of_ble_eq_true rfl) rfl ?_
  refine jr.aload_n rfl rfl ?_
  refine jr.iconst rfl ?_
  refine jr.putf (i := 0) (x := 1) rfl rfl (Nat.lt_trans (kx_15 k_t).1 (by decide)) (kx_15 k_t).2 (by decide) rfl rfl rfl rfl rfl ?_
  refine jr.aload_n rfl rfl ?_
  refine jr.aload_n rfl rfl ?_
  obtain ⟨v1, e1⟩ : ∃ z_, M 11 1 = z_ := ⟨_, rfl⟩
  have b1 : (-2147483648) ≤ v1 ∧ v1 ≤ 2147483647 := by rw [← e1]; exact (CI.r hC_M (show kd 11 = 15 from rfl) (by decide) 1)
  refine jr.getf (i := 1) (x := v1) (v := .int (Int32.ofInt (v1))) rfl rfl (by decide) rfl (by decide) rfl rfl ((ju_i _ _ (by decide)).trans e1) rfl ?_
  refine jr.putf (i := 1) (x := v1) rfl rfl (Nat.lt_trans (kx_15 k_t).1 (by decide)) (kx_15 k_t).2 (by decide) rfl rfl rfl rfl rfl ?_
  refine jr.aload_n rfl rfl ?_
  refine jr.aload_n rfl rfl ?_
  obtain ⟨v2, e2⟩ : ∃ z_, M 11 2 = z_ := ⟨_, rfl⟩
  have b2 : (-9223372036854775808) ≤ v2 ∧ v2 ≤ 9223372036854775807 := by rw [← e2]; exact (CI.r hC_M (show kd 11 = 15 from rfl) (by decide) 2)
  refine jr.getf (i := 2) (x := v2) (v := .long (Int64.ofInt (v2))) rfl rfl (by decide) rfl (by decide) rfl rfl ((ju_i _ _ (by decide)).trans ((ju_i _ _ (by decide)).trans e2)) rfl ?_
  refine jr.putf (i := 2) (x := v2) rfl rfl (Nat.lt_trans (kx_15 k_t).1 (by decide)) (kx_15 k_t).2 (by decide) rfl rfl rfl rfl rfl ?_
  refine jr.aload_n rfl rfl ?_
  refine jr.aload_n rfl rfl ?_
  obtain ⟨v3, e3⟩ : ∃ z_, M 11 3 = z_ := ⟨_, rfl⟩
  have b3 : (-9223372036854775808) ≤ v3 ∧ v3 ≤ 9223372036854775807 := by rw [← e3]; exact (CI.r hC_M (show kd 11 = 15 from rfl) (by decide) 3)
  refine jr.getf (i := 3) (x := v3) (v := .long (Int64.ofInt (v3))) rfl rfl (by decide) rfl (by decide) rfl rfl ((ju_i _ _ (by decide)).trans ((ju_i _ _ (by decide)).trans ((ju_i _ _ (by decide)).trans e3))) rfl ?_
  refine jr.putf (i := 3) (x := v3) rfl rfl (Nat.lt_trans (kx_15 k_t).1 (by decide)) (kx_15 k_t).2 (by decide) rfl rfl rfl rfl rfl ?_
  refine jr.aload_n rfl rfl ?_
  refine jr.aload_n rfl rfl ?_
  obtain ⟨v4, e4⟩ : ∃ z_, M 11 4 = z_ := ⟨_, rfl⟩
  have b4 : (-9223372036854775808) ≤ v4 ∧ v4 ≤ 9223372036854775807 := by rw [← e4]; exact (CI.r hC_M (show kd 11 = 15 from rfl) (by decide) 4)
  refine jr.getf (i := 4) (x := v4) (v := .long (Int64.ofInt (v4))) rfl rfl (by decide) rfl (by decide) rfl rfl ((ju_i _ _ (by decide)).trans ((ju_i _ _ (by decide)).trans ((ju_i _ _ (by decide)).trans ((ju_i _ _ (by decide)).trans e4)))) rfl ?_
  refine jr.putf (i := 4) (x := v4) rfl rfl (Nat.lt_trans (kx_15 k_t).1 (by decide)) (kx_15 k_t).2 (by decide) rfl rfl rfl rfl rfl ?_
  refine jr.aload_n rfl rfl ?_
  refine jr.aload_n rfl rfl ?_
  obtain ⟨v5, e5⟩ : ∃ z_, M 11 5 = z_ := ⟨_, rfl⟩
  have b5 : (-9223372036854775808) ≤ v5 ∧ v5 ≤ 9223372036854775807 := by rw [← e5]; exact (CI.r hC_M (show kd 11 = 15 from rfl) (by decide) 5)
  refine jr.getf (i := 5) (x := v5) (v := .long (Int64.ofInt (v5))) rfl rfl (by decide) rfl (by decide) rfl rfl ((ju_i _ _ (by decide)).trans ((ju_i _ _ (by decide)).trans ((ju_i _ _ (by decide)).trans ((ju_i _ _ (by decide)).trans ((ju_i _ _ (by decide)).trans e5))))) rfl ?_
  refine jr.putf (i := 5) (x := v5) rfl rfl (Nat.lt_trans (kx_15 k_t).1 (by decide)) (kx_15 k_t).2 (by decide) rfl rfl rfl rfl rfl ?_
  refine jr.aload_n rfl rfl ?_
  refine jr.iload_n rfl rfl ?_
  refine jr.putf (i := 6) (x := y) rfl rfl (Nat.lt_trans (kx_15 k_t).1 (by decide)) (kx_15 k_t).2 (by decide) rfl rfl rfl rfl rfl ?_
  refine jr.aload_n rfl rfl ?_
  refine jr.iconst rfl ?_
  refine jr.putf (i := 7) (x := (-1)) rfl rfl (Nat.lt_trans (kx_15 k_t).1 (by decide)) (kx_15 k_t).2 (by decide) rfl rfl rfl rfl rfl ?_
  refine jr.aload_n rfl rfl ?_
  refine jr.iconst rfl ?_
  refine jr.putf (i := 8) (x := 0) rfl rfl (Nat.lt_trans (kx_15 k_t).1 (by decide)) (kx_15 k_t).2 (by decide) rfl rfl rfl rfl rfl ?_
  refine jr.aload_n rfl rfl ?_
  refine jr.iconst rfl ?_
  refine jr.putf (i := 11) (x := (-1)) rfl rfl (Nat.lt_trans (kx_15 k_t).1 (by decide)) (kx_15 k_t).2 (by decide) rfl rfl rfl rfl rfl ?_
  refine jr.iconst rfl ?_
  refine jr.istore_n rfl (by decide) rfl ?_
  refine jr.pick [3, 0, 1, 2] rfl rfl ?_
  exact c_Gathering_beginAs_x_L67 k_t q 360 ((ju (ju (ju (ju (ju (ju (ju (ju (ju (ju M t 0 1) t 1 v1) t 2 v2) t 3 v3) t 4 v4) t 5 v5) t 6 y) t 7 (-1)) t 8 0) t 11 (-1))) 0 (CI.u (CI.u (CI.u (CI.u (CI.u (CI.u (CI.u (CI.u (CI.u (CI.u hC_M (i := 0) k_t (show (0 : Int) ≤ _ ∧ _ ≤ (1 : Int) from by omega) rfl) (i := 1) k_t (show (-2147483648 : Int) ≤ _ ∧ _ ≤ (2147483647 : Int) from by omega) rfl) (i := 2) k_t (show (-9223372036854775808 : Int) ≤ _ ∧ _ ≤ (9223372036854775807 : Int) from by omega) rfl) (i := 3) k_t (show (-9223372036854775808 : Int) ≤ _ ∧ _ ≤ (9223372036854775807 : Int) from by omega) rfl) (i := 4) k_t (show (-9223372036854775808 : Int) ≤ _ ∧ _ ≤ (9223372036854775807 : Int) from by omega) rfl) (i := 5) k_t (show (-9223372036854775808 : Int) ≤ _ ∧ _ ≤ (9223372036854775807 : Int) from by omega) rfl) (i := 6) k_t (show (-2147483648 : Int) ≤ _ ∧ _ ≤ (2147483647 : Int) from by omega) rfl) (i := 7) k_t (show (-1 : Int) ≤ _ ∧ _ ≤ (70000 : Int) from by omega) rfl) (i := 8) k_t (show (-2147483648 : Int) ≤ _ ∧ _ ≤ (2147483647 : Int) from by omega) rfl) (i := 11) k_t (show (-1 : Int) ≤ _ ∧ _ ≤ (400 : Int) from by omega) rfl) (FR.o (FR.o (FR.o (FR.o (FR.o (FR.o (FR.o (FR.o (FR.o (FR.o ht_M k_t rfl) k_t rfl) k_t rfl) k_t rfl) k_t rfl) k_t rfl) k_t rfl) k_t rfl) k_t rfl) k_t rfl) (by omega) (by omega) ⟨⟨(by rw [show (ju (ju (ju (ju (ju (ju (ju (ju (ju (ju M t 0 1) t 1 v1) t 2 v2) t 3 v3) t 4 v4) t 5 v5) t 6 y) t 7 (-1)) t 8 0) t 11 (-1)) t 0 = 1 from ((ju_i _ _ (by decide)).trans ((ju_i _ _ (by decide)).trans ((ju_i _ _ (by decide)).trans ((ju_i _ _ (by decide)).trans ((ju_i _ _ (by decide)).trans ((ju_i _ _ (by decide)).trans ((ju_i _ _ (by decide)).trans ((ju_i _ _ (by decide)).trans ((ju_i _ _ (by decide)).trans (ju_same _ _ _ _))))))))))]), (by rw [show (ju (ju (ju (ju (ju (ju (ju (ju (ju (ju M t 0 1) t 1 v1) t 2 v2) t 3 v3) t 4 v4) t 5 v5) t 6 y) t 7 (-1)) t 8 0) t 11 (-1)) t 1 = v1 from ((ju_i _ _ (by decide)).trans ((ju_i _ _ (by decide)).trans ((ju_i _ _ (by decide)).trans ((ju_i _ _ (by decide)).trans ((ju_i _ _ (by decide)).trans ((ju_i _ _ (by decide)).trans ((ju_i _ _ (by decide)).trans ((ju_i _ _ (by decide)).trans (ju_same _ _ _ _)))))))))]; rw [p0]; omega), (by rw [show (ju (ju (ju (ju (ju (ju (ju (ju (ju (ju M t 0 1) t 1 v1) t 2 v2) t 3 v3) t 4 v4) t 5 v5) t 6 y) t 7 (-1)) t 8 0) t 11 (-1)) t 2 = v2 from ((ju_i _ _ (by decide)).trans ((ju_i _ _ (by decide)).trans ((ju_i _ _ (by decide)).trans ((ju_i _ _ (by decide)).trans ((ju_i _ _ (by decide)).trans ((ju_i _ _ (by decide)).trans ((ju_i _ _ (by decide)).trans (ju_same _ _ _ _))))))))]; rw [p0]; omega), (by rw [show (ju (ju (ju (ju (ju (ju (ju (ju (ju (ju M t 0 1) t 1 v1) t 2 v2) t 3 v3) t 4 v4) t 5 v5) t 6 y) t 7 (-1)) t 8 0) t 11 (-1)) t 3 = v3 from ((ju_i _ _ (by decide)).trans ((ju_i _ _ (by decide)).trans ((ju_i _ _ (by decide)).trans ((ju_i _ _ (by decide)).trans ((ju_i _ _ (by decide)).trans ((ju_i _ _ (by decide)).trans (ju_same _ _ _ _)))))))]; rw [p0]; omega), (by rw [show (ju (ju (ju (ju (ju (ju (ju (ju (ju (ju M t 0 1) t 1 v1) t 2 v2) t 3 v3) t 4 v4) t 5 v5) t 6 y) t 7 (-1)) t 8 0) t 11 (-1)) t 4 = v4 from ((ju_i _ _ (by decide)).trans ((ju_i _ _ (by decide)).trans ((ju_i _ _ (by decide)).trans ((ju_i _ _ (by decide)).trans ((ju_i _ _ (by decide)).trans (ju_same _ _ _ _))))))]; rw [p0]; omega), (by rw [show (ju (ju (ju (ju (ju (ju (ju (ju (ju (ju M t 0 1) t 1 v1) t 2 v2) t 3 v3) t 4 v4) t 5 v5) t 6 y) t 7 (-1)) t 8 0) t 11 (-1)) t 5 = v5 from ((ju_i _ _ (by decide)).trans ((ju_i _ _ (by decide)).trans ((ju_i _ _ (by decide)).trans ((ju_i _ _ (by decide)).trans (ju_same _ _ _ _)))))]; rw [p0]; omega), (by rw [show (ju (ju (ju (ju (ju (ju (ju (ju (ju (ju M t 0 1) t 1 v1) t 2 v2) t 3 v3) t 4 v4) t 5 v5) t 6 y) t 7 (-1)) t 8 0) t 11 (-1)) t 6 = y from ((ju_i _ _ (by decide)).trans ((ju_i _ _ (by decide)).trans ((ju_i _ _ (by decide)).trans (ju_same _ _ _ _))))]), (by rw [show (ju (ju (ju (ju (ju (ju (ju (ju (ju (ju M t 0 1) t 1 v1) t 2 v2) t 3 v3) t 4 v4) t 5 v5) t 6 y) t 7 (-1)) t 8 0) t 11 (-1)) t 7 = -1 from ((ju_i _ _ (by decide)).trans ((ju_i _ _ (by decide)).trans (ju_same _ _ _ _)))]), (by rw [show (ju (ju (ju (ju (ju (ju (ju (ju (ju (ju M t 0 1) t 1 v1) t 2 v2) t 3 v3) t 4 v4) t 5 v5) t 6 y) t 7 (-1)) t 8 0) t 11 (-1)) t 8 = 0 from ((ju_i _ _ (by decide)).trans (ju_same _ _ _ _))]), (by rw [show (ju (ju (ju (ju (ju (ju (ju (ju (ju (ju M t 0 1) t 1 v1) t 2 v2) t 3 v3) t 4 v4) t 5 v5) t 6 y) t 7 (-1)) t 8 0) t 11 (-1)) t 11 = -1 from (ju_same _ _ _ _)])⟩, fun k k0 k1 => absurd k1 (by omega), fun b k b0 b1 => by rw [ju_c _ _ b0, ju_c _ _ b0, ju_c _ _ b0, ju_c _ _ b0, ju_c _ _ b0, ju_c _ _ b0, ju_c _ _ b0, ju_c _ _ b0, ju_c _ _ b0, ju_c _ _ b0, p0]⟩ (by omega)
theorem c_Gathering_lastPlace_x {A : Nat → Option (Nat × (Nat → Int32))} {Q : Option Value → jm → Prop} {M : jm} (hC_M : CI M) {t : Nat} (k_t : kd t = 15) {W : Int} (g_W : M t 7 = W) (q : ∀ (r : Int), (-1) ≤ r ∧ r ≤ 360 → (r = lpf W) → Q (some (.int (Int32.ofInt r))) M) : jc A 1 102 [.ref (t)] M Q := by
  refine jc_of (m := xm_102) rfl (Nat.le_of_ble_eq_true rfl) rfl ?_
  have b_W : (-1) ≤ W ∧ W ≤ 70000 := by rw [← g_W]; exact (CI.r hC_M k_t (by decide) 7)
  refine jr.aload_n rfl rfl ?_
  refine jr.getf (i := 7) (x := W) (v := .int (Int32.ofInt (W))) rfl rfl (Nat.lt_trans (kx_15 k_t).1 (by decide)) (kx_15 k_t).2 (by decide) rfl rfl g_W rfl ?_
  refine jr.iconst rfl ?_
  refine jr.icmp_ne rfl rfl (by omega) (by omega) (fun h5 => ?_) (fun h5 => ?_)
  · have sx5 : (0 : Int) ≤ W := by omega
    refine jr.aload_n rfl rfl ?_
    refine jr.getf (i := 7) (x := W) (v := .int (Int32.ofInt (W))) rfl rfl (Nat.lt_trans (kx_15 k_t).1 (by decide)) (kx_15 k_t).2 (by decide) rfl rfl g_W rfl ?_
    refine jr.sipush rfl (by decide) ?_
    refine jr.imin rfl rfl (Nat.le_of_ble_eq_true rfl) (by omega) (by omega) ?_
    intro v1 d1 b1 c1
    exact jr.ireturn rfl rfl rfl (q _ (by omega) (by unfold lpf; (repeat' split) <;> omega))
  · refine jr.sipush rfl (by decide) ?_
    refine jr.goto rfl rfl ?_
    exact jr.ireturn rfl rfl rfl (q _ (by omega) (by unfold lpf; (repeat' split) <;> omega))
theorem c_Gathering_rowBytes_x {A : Nat → Option (Nat × (Nat → Int32))} {Q : Option Value → jm → Prop} {M : jm} (hC_M : CI M) {t : Nat} (k_t : kd t = 15) {W : Int} (g_W : M t 7 = W) {K : Int} (g_K : M t 8 = K) (q : ∀ (r : Int), (-2147483648) ≤ r ∧ r ≤ 2147483647 → (r = rbf W K) → Q (some (.int (Int32.ofInt r))) M) : jc A 1 103 [.ref (t)] M Q := by
  refine jc_of (m := xm_103) rfl (Nat.le_of_ble_eq_true rfl) rfl ?_
  have b_W : (-1) ≤ W ∧ W ≤ 70000 := by rw [← g_W]; exact (CI.r hC_M k_t (by decide) 7)
  have b_K : (-2147483648) ≤ K ∧ K ≤ 2147483647 := by rw [← g_K]; exact (CI.r hC_M k_t (by decide) 8)
  refine jr.aload_n rfl rfl ?_
  refine jr.getf (i := 7) (x := W) (v := .int (Int32.ofInt (W))) rfl rfl (Nat.lt_trans (kx_15 k_t).1 (by decide)) (kx_15 k_t).2 (by decide) rfl rfl g_W rfl ?_
  refine jr.iconst rfl ?_
  refine jr.icmp_eq rfl rfl (by omega) (by omega) (fun h5 => ?_) (fun h5 => ?_)
  · refine jr.aload_n rfl rfl ?_
    refine jr.getf (i := 8) (x := K) (v := .int (Int32.ofInt (K))) rfl rfl (Nat.lt_trans (kx_15 k_t).1 (by decide)) (kx_15 k_t).2 (by decide) rfl rfl g_K rfl ?_
    refine jr.bipush rfl (by decide) ?_
    refine jr.icmp_gt rfl rfl (by omega) (by omega) (fun h19 => ?_) (fun h19 => ?_)
    · refine jr.aload_n rfl rfl ?_
      refine jr.getf (i := 8) (x := K) (v := .int (Int32.ofInt (K))) rfl rfl (Nat.lt_trans (kx_15 k_t).1 (by decide)) (kx_15 k_t).2 (by decide) rfl rfl g_K rfl ?_
      refine jr.sipush rfl (by decide) ?_
      refine jr.icmp_gt rfl rfl (by omega) (by omega) (fun h34 => ?_) (fun h34 => ?_)
      · refine jr.aload_n rfl rfl ?_
        refine jr.getf (i := 8) (x := K) (v := .int (Int32.ofInt (K))) rfl rfl (Nat.lt_trans (kx_15 k_t).1 (by decide)) (kx_15 k_t).2 (by decide) rfl rfl g_K rfl ?_
        refine jr.sipush rfl (by decide) ?_
        refine jr.icmp_gt rfl rfl (by omega) (by omega) (fun h50 => ?_) (fun h50 => ?_)
        · refine jr.sipush rfl (by decide) ?_
          exact jr.ireturn rfl rfl rfl (q _ (by omega) (by unfold rbf; (repeat' split) <;> omega))
        · refine jr.sipush rfl (by decide) ?_
          refine jr.goto rfl rfl ?_
          exact jr.ireturn rfl rfl rfl (q _ (by omega) (by unfold rbf; (repeat' split) <;> omega))
      · refine jr.sipush rfl (by decide) ?_
        refine jr.goto rfl rfl ?_
        exact jr.ireturn rfl rfl rfl (q _ (by omega) (by unfold rbf; (repeat' split) <;> omega))
    · refine jr.bipush rfl (by decide) ?_
      refine jr.goto rfl rfl ?_
      exact jr.ireturn rfl rfl rfl (q _ (by omega) (by unfold rbf; (repeat' split) <;> omega))
  · have sx5 : (0 : Int) ≤ W := by omega
    refine jr.aload_n rfl rfl ?_
    refine jr.getf (i := 7) (x := W) (v := .int (Int32.ofInt (W))) rfl rfl (Nat.lt_trans (kx_15 k_t).1 (by decide)) (kx_15 k_t).2 (by decide) rfl rfl g_W rfl ?_
    exact jr.ireturn rfl rfl rfl (q _ (by omega) (by unfold rbf; (repeat' split) <;> omega))
/-- is every place of the row filled, from i on -/
noncomputable def rdy (w : Int → Int) : Nat → Int → Int
  | 0, _ => 1
  | n + 1, i => if w i = -1 then 0 else rdy w n (i + 1)
theorem rdy_s {w : Int → Int} {L i : Int} (h : i < L) : rdy w (L - i).toNat i = if w i = -1 then 0 else rdy w (L - (i + 1)).toNat (i + 1) := by
  obtain ⟨n, hn⟩ : ∃ n : Nat, L = i + 1 + n := ⟨(L - i - 1).toNat, by omega⟩
  subst hn
  rw [show (i + 1 + (n : Int) - i).toNat = n + 1 by omega, show (i + 1 + (n : Int) - (i + 1)).toNat = n by omega]
  rfl
theorem rdy_e {w : Int → Int} {L i : Int} (h : L ≤ i) : rdy w (L - i).toNat i = 1 := by
  rw [show (L - i).toNat = 0 by omega]
  rfl
theorem c_Gathering_isReady_x_L20 {A : Nat → Option (Nat × (Nat → Int32))} {Q : Option Value → jm → Prop} {M : jm} (hC_M : CI M) {t : Nat} (k_t : kd t = 15) {W : Int} {K : Int} (q : ∀ (r : Int), 0 ≤ r ∧ r ≤ 1 → (((W = -1 ∨ K = -1) ∧ r = 0) ∨ (W ≠ -1 ∧ K ≠ -1 ∧ r = rdy (M (t + 1)) (lpf W).toNat 0)) → Q (some (.int (Int32.ofInt r))) M) : ∀ (nM : Nat) (i : Int), 0 ≤ i ∧ i ≤ 360 → M t 7 = W → M t 11 = K → (rdy (M (t + 1)) (lpf W).toNat 0 = rdy (M (t + 1)) (lpf W - i).toNat i) → (W ≠ -1 ∧ K ≠ -1) → 360 - i ≤ nM → jr A 1 xm_97 20 [(1, .int (Int32.ofInt (i))), (0, .ref (t))] [] M Q := by
  intro nM
  induction nM using Nat.strongRecOn with
  | ind nM ih =>
    intro i h_i g_W g_K hy0 hy1 hm
    have b_W : (-1) ≤ W ∧ W ≤ 70000 := by rw [← g_W]; exact (CI.r hC_M k_t (by decide) 7)
    have b_K : (-1) ≤ K ∧ K ≤ 400 := by rw [← g_K]; exact (CI.r hC_M k_t (by decide) 11)
    refine jr.iload_n rfl rfl ?_
    refine jr.aload_n rfl rfl ?_
    refine jr_v rfl rfl (Or.inl rfl) rfl rfl (Nat.lt_trans (kx_15 k_t).1 (by decide)) (kx_15 k_t).2 ⟨rfl, Nat.le_of_ble_eq_true rfl, Nat.le_of_ble_eq_true rfl⟩ rfl (jc.deep (c_Gathering_lastPlace_x hC_M k_t g_W (fun r1 z1 w1_0 => ?_)) (by decide))
    refine jr.icmp_ge rfl rfl (by omega) (by omega) (fun h25 => ?_) (fun h25 => ?_)
    · refine jr.iconst rfl ?_
      exact jr.ireturn rfl rfl rfl (q _ (by omega) (Or.inr ⟨by omega, by omega, by rw [hy0, rdy_e (by omega)]⟩))
    · refine jr.aload_n rfl rfl ?_
      have k2 := kf_15_9 k_t
      refine jr.getf (i := 9) (v := .ref (t + 1)) rfl rfl (Nat.lt_trans (kx_15 k_t).1 (by decide)) (kx_15 k_t).2 (by decide) rfl rfl rfl (jval_ref rfl k2.1) ?_
      refine jr.iload_n rfl rfl ?_
      obtain ⟨v3, e3⟩ : ∃ z_, M ((t + 1)) i = z_ := ⟨_, rfl⟩
      have b3 : (-1) ≤ v3 ∧ v3 ≤ 255 := by rw [← e3]; exact (CI.r hC_M k2.2 (by decide) i)
      refine jr.iald (i := i) (x := v3) rfl (Nat.lt_trans (kx_17 k2.2).1 (by decide)) (kx_17 k2.2).2 (by decide) (by omega) (by omega) e3 ?_
      refine jr.iconst rfl ?_
      refine jr.icmp_ne rfl rfl (by omega) (by omega) (fun h35 => ?_) (fun h35 => ?_)
      · have sx35 : (0 : Int) ≤ v3 := by omega
        refine jr.iinc rfl rfl (by decide) rfl ?_
        refine jr.goto rfl rfl ?_
        refine jr.pick [0, 1] rfl rfl ?_
        exact ih (nM - 1) (by omega) (i + 1) (by omega) g_W g_K (by rw [hy0, rdy_s (by omega), if_neg (by omega)]) (by omega) (by omega)
      · refine jr.iconst rfl ?_
        exact jr.ireturn rfl rfl rfl (q _ (by omega) (Or.inr ⟨by omega, by omega, by rw [hy0, rdy_s (by omega), if_pos (by omega)]⟩))
theorem c_Gathering_isReady_x {A : Nat → Option (Nat × (Nat → Int32))} {Q : Option Value → jm → Prop} {M : jm} (hC_M : CI M) {t : Nat} (k_t : kd t = 15) {W : Int} (g_W : M t 7 = W) {K : Int} (g_K : M t 11 = K) (q : ∀ (r : Int), 0 ≤ r ∧ r ≤ 1 → (((W = -1 ∨ K = -1) ∧ r = 0) ∨ (W ≠ -1 ∧ K ≠ -1 ∧ r = rdy (M (t + 1)) (lpf W).toNat 0)) → Q (some (.int (Int32.ofInt r))) M) : jc A 2 97 [.ref (t)] M Q := by
  refine jc_of (m := xm_97) rfl (Nat.le_of_ble_eq_true rfl) rfl ?_
  have b_W : (-1) ≤ W ∧ W ≤ 70000 := by rw [← g_W]; exact (CI.r hC_M k_t (by decide) 7)
  have b_K : (-1) ≤ K ∧ K ≤ 400 := by rw [← g_K]; exact (CI.r hC_M k_t (by decide) 11)
  refine jr.aload_n rfl rfl ?_
  refine jr.getf (i := 7) (x := W) (v := .int (Int32.ofInt (W))) rfl rfl (Nat.lt_trans (kx_15 k_t).1 (by decide)) (kx_15 k_t).2 (by decide) rfl rfl g_W rfl ?_
  refine jr.iconst rfl ?_
  refine jr.icmp_eq rfl rfl (by omega) (by omega) (fun h5 => ?_) (fun h5 => ?_)
  · refine jr.iconst rfl ?_
    exact jr.ireturn rfl rfl rfl (q _ (by omega) (Or.inl ⟨by omega, by omega⟩))
  · have sx5 : (0 : Int) ≤ W := by omega
    refine jr.aload_n rfl rfl ?_
    refine jr.getf (i := 11) (x := K) (v := .int (Int32.ofInt (K))) rfl rfl (Nat.lt_trans (kx_15 k_t).1 (by decide)) (kx_15 k_t).2 (by decide) rfl rfl g_K rfl ?_
    refine jr.iconst rfl ?_
    refine jr.icmp_ne rfl rfl (by omega) (by omega) (fun h13 => ?_) (fun h13 => ?_)
    · have sx13 : (0 : Int) ≤ K := by omega
      refine jr.iconst rfl ?_
      refine jr.istore_n rfl (by decide) rfl ?_
      refine jr.pick [0, 1] rfl rfl ?_
      exact c_Gathering_isReady_x_L20 hC_M k_t q 360 0 (by omega) g_W g_K (by rw [show lpf W - 0 = lpf W from by omega]) (by omega) (by omega)
    · refine jr.iconst rfl ?_
      exact jr.ireturn rfl rfl rfl (q _ (by omega) (Or.inl ⟨by omega, by omega⟩))
end
section
/-! ===== the class: a gathering keeps headers, takes a piece in ===== -/
noncomputable def KPH (T M : jm) (t : Nat) (f : Int → Int) (N C y : Int) : Prop := (M t 11 = enf f N C y ∧ M t 12 = pA f N C (ntf f N C) ∧ ((T t 1 = 6 ∧ M t 13 = pA f N C (y - 1) + (if kA f N C (y - 1) = 3 then 4 else 0)) ∨ (T t 1 ≠ 6 ∧ M t 13 = T t 13))) ∧ (∀ k : Int, 0 ≤ k → k < enf f N C y → M (t + 2) k = f k) ∧ (∀ k : Int, k ≠ 11 → k ≠ 12 → k ≠ 13 → M t k = T t k) ∧ ∀ (b : Nat) (k : Int), b ≠ t → b ≠ t + 2 → M b k = T b k
theorem hst_y {f : Int → Int} {N : Int} (hf : ∀ i : Int, 0 ≤ i → i < 400 → 0 ≤ f i ∧ f i ≤ 255) (hN : N ≤ 400) : ∀ n : Nat, (∀ i : Int, 0 ≤ i → i < n → hok f N i) → 0 ≤ hY f N (n : Int) := by
  intro n
  induction n with
  | zero => intro _; exact Int.le_refl _
  | succ n ih =>
    intro h
    have h1 := ih (fun i h0 h1 => h i h0 (by omega))
    have s := (hst_s (f := f) (N := N) (i := (n : Int)) (by omega)).2
    have hl := hok_l (h n (by omega) (by omega)) hf hN
    rw [show ((n + 1 : Nat) : Int) = (n : Int) + 1 by omega, s]
    omega
theorem HS.y {M : jm} {t : Nat} {f : Int → Int} {N C x : Int} (h : HS M t f N) (hC : M t 3 = C) (hx : 0 ≤ x ∧ x < C) : 0 ≤ hY f N x ∧ hY f N x + lst (hX f N x) ≤ N ∧ hY f N x + hZ f N x ≤ N ∧ 0 ≤ hZ f N x ∧ ¬ ((hX f N x = 2 ∨ hX f N x = 8) ∧ hZ f N x < 20) ∧ (hX f N x ≠ 6 ∨ hZ f N x = 8) := by
  have hf : ∀ i : Int, 0 ≤ i → i < 400 → 0 ≤ f i ∧ f i ≤ 255 := fun i h0 h1 => (h.1 i h0 h1).2
  have hr := h.2.2.2.2.1 x hx.1 (by omega)
  have hl := hok_l hr.1 hf h.2.2.1.2
  have hy := hst_y hf h.2.2.1.2 x.toNat (fun i h0 h1 => (h.2.2.2.2.1 i h0 (by omega)).1)
  rw [Int.toNat_of_nonneg hx.1] at hy
  have h6 := (hsZ_r hf h.2.2.1.2 (hsF_z hr.1.2).2.1).2
  exact ⟨hy, hl.1, hl.2.1, hl.2.2.1, hl.2.2.2, h6⟩
noncomputable def W_c_Gathering_keepHeaders_x : List (Nat × Nat) := [(15, 11), (15, 12), (15, 13), (16, 1000)]
theorem c_Gathering_keepHeaders_x {A : Nat → Option (Nat × (Nat → Int32))} {Q : Option Value → jm → Prop} {f : Int → Int} {N : Int} {T : jm} {M : jm} (hC_M : CI M) (ht_M : FR W_c_Gathering_keepHeaders_x T M) {t : Nat} (k_t : kd t = 15) {y : Int} (h_y : 0 ≤ y ∧ y ≤ 11) {C : Int} (g_C : M 3 3 = C) (p0 : T = M) (p1 : HS M 3 f N) (p2 : y < C) (p3 : hX f N y = 2 ∨ hX f N y = 6) (q : ∀ (M' : jm), CI M' → FR W_c_Gathering_keepHeaders_x T M' → (KPH T M' t f N C y) → Q none M') : jc A 3 100 [.ref (t), .ref (3), .int (Int32.ofInt (y))] M Q := by
  refine jc_of (m := xm_100) rfl (Nat.le_of_ble_eq_true rfl) rfl ?_
  have b_C : 0 ≤ C ∧ C ≤ 12 := by rw [← g_C]; exact (CI.r hC_M (show kd 3 = 18 from rfl) (by decide) 3)
  refine jr.aload_n rfl rfl ?_
  refine jr.aload_n rfl rfl ?_
  refine jr.iload_n rfl rfl ?_
  refine jr_v rfl rfl (Or.inl rfl) rfl rfl (by decide) rfl ⟨rfl, Nat.le_of_ble_eq_true rfl, Nat.le_of_ble_eq_true rfl⟩ rfl (jc.deep (c_Headers_endOf_x hC_M (show kd 3 = 18 from rfl) (by omega) g_C p1 (fun r1 z1 w1_0 => ?_)) (by decide))
  have hen : 0 ≤ r1 ∧ r1 ≤ 400 ∧ 8 ≤ r1 := (by have hq := enf_i (f := f) (N := N) (C := C) (x := y) (by omega); have hy := HS.y p1 g_C (x := y) (by omega); have hN := p1.2.2.1; omega)
  refine jr.putf (i := 11) (x := r1) rfl rfl (Nat.lt_trans (kx_15 k_t).1 (by decide)) (kx_15 k_t).2 (by decide) rfl rfl rfl rfl rfl ?_
  refine jr.aload_n rfl rfl ?_
  obtain ⟨v2, e2⟩ : ∃ z_, M 3 7 = z_ := ⟨_, rfl⟩
  have b2 : 0 ≤ v2 ∧ v2 ≤ 597 := by rw [← e2]; exact (CI.r hC_M (show kd 3 = 18 from rfl) (by decide) 7)
  have k3 : kd (v2).toNat = 33 := ((congrArg (fun z : Int => kd z.toNat) (show (ju M t 11 r1) 3 7 = v2 from ((ju_i _ _ (by decide)).trans e2))).symm.trans (CI.x (CI.u hC_M (i := 11) k_t (show (-1 : Int) ≤ _ ∧ _ ≤ (400 : Int) from by omega) rfl) (show kd 3 = 18 from rfl) 7 rfl (by decide)))
  refine jr.getf (i := 7) (x := v2) (v := .ref (v2.toNat)) rfl rfl (by decide) rfl (by decide) rfl rfl ((ju_i _ _ (by decide)).trans e2) rfl ?_
  have k4 := kf_33_0 k3
  refine jr.getf (i := 0) (v := .ref ((v2.toNat) + 1)) rfl rfl (Nat.lt_trans (kx_33 k3).1 (by decide)) (kx_33 k3).2 (by decide) rfl rfl rfl (jval_ref rfl k4.1) ?_
  refine jr.iconst rfl ?_
  refine jr.aload_n rfl rfl ?_
  have k5 := kf_15_10 k_t
  refine jr.getf (i := 10) (v := .ref (t + 2)) rfl rfl (Nat.lt_trans (kx_15 k_t).1 (by decide)) (kx_15 k_t).2 (by decide) rfl rfl rfl (jval_ref rfl k5.1) ?_
  refine jr.iconst rfl ?_
  refine jr.aload_n rfl rfl ?_
  refine jr.getf (i := 11) (x := r1) (v := .int (Int32.ofInt (r1))) rfl rfl (Nat.lt_trans (kx_15 k_t).1 (by decide)) (kx_15 k_t).2 (by decide) rfl rfl (ju_same _ _ _ _) rfl ?_
  refine jr.acp rfl rfl (Nat.le_of_ble_eq_true rfl) (Nat.lt_trans (kx_34 k4.2).1 (by decide)) (kx_34 k4.2).2 (Nat.lt_trans (kx_16 k5.2).1 (by decide)) (kx_16 k5.2).2 (by decide) (by decide) (by omega) (by omega) (by omega) (by omega) (by omega) ?_
  have hC_M6 : CI (jcpy ((ju M t 11 r1)) (((v2.toNat) + 1)) 0 ((t + 2)) 0 r1) := CI.cpy (CI.u hC_M (i := 11) k_t (show (-1 : Int) ≤ _ ∧ _ ≤ (400 : Int) from by omega) rfl) k4.2 k5.2 (by decide) (fun i j => (show (-1 : Int) ≤ (-1 : Int) ∧ (255 : Int) ≤ (255 : Int) from by decide)) (fun _ => rfl)
  have ht_M6 : FR W_c_Gathering_keepHeaders_x T (jcpy ((ju M t 11 r1)) (((v2.toNat) + 1)) 0 ((t + 2)) 0 r1) := FR.cpy (FR.o ht_M k_t rfl) k5.2 (fun _ => rfl)
  have hf_M6 : FR [(16, 1000)] ((ju M t 11 r1)) (jcpy ((ju M t 11 r1)) (((v2.toNat) + 1)) 0 ((t + 2)) 0 r1) := FR.cpy (FR.rfl _ _) k5.2 (fun _ => rfl)
  have hx_M6 : ∀ (b : Nat) (k : Int), jcpy ((ju M t 11 r1)) (((v2.toNat) + 1)) 0 ((t + 2)) 0 r1 b k = if b = (t + 2) ∧ 0 ≤ k ∧ k < 0 + r1 then ((ju M t 11 r1)) (((v2.toNat) + 1)) (0 + (k - 0)) else ((ju M t 11 r1)) b k := fun _ _ => rfl
  generalize jcpy ((ju M t 11 r1)) (((v2.toNat) + 1)) 0 ((t + 2)) 0 r1 = M6 at hC_M6 ht_M6 hf_M6 hx_M6 ⊢
  refine jr.aload_n rfl rfl ?_
  refine jr.aload_n rfl rfl ?_
  refine jr.aload_n rfl rfl ?_
  refine jr.bipush rfl (by decide) ?_
  have e8 : M6 3 3 = C := (hf_M6.g (show kd 3 = 18 from rfl) rfl).trans ((ju_i _ _ (by decide)).trans g_C)
  refine jr_v rfl rfl (Or.inl rfl) rfl rfl (by decide) rfl ⟨rfl, Nat.le_of_ble_eq_true rfl, Nat.le_of_ble_eq_true rfl⟩ rfl (jc.deep (c_Headers_firstOf_x hC_M6 (show kd 3 = 18 from rfl) (by omega) e8 (HS.fr (HS.fr p1 (show kd 3 = 18 from rfl) hC_M (FR.o (FR.rfl [(15, 11)] M) k_t rfl) rfl) (show kd 3 = 18 from rfl) (CI.u hC_M (i := 11) k_t (show (-1 : Int) ≤ _ ∧ _ ≤ (400 : Int) from by omega) rfl) hf_M6 rfl) (fun r7 z7 w7_0 => ?_)) (by decide))
  refine jr_v rfl rfl (Or.inl rfl) rfl rfl (by decide) rfl ⟨rfl, Nat.le_of_ble_eq_true rfl, Nat.le_of_ble_eq_true rfl⟩ rfl (jc.deep (c_Headers_placeAt_x hC_M6 (show kd 3 = 18 from rfl) (by omega) e8 (HS.fr (HS.fr p1 (show kd 3 = 18 from rfl) hC_M (FR.o (FR.rfl [(15, 11)] M) k_t rfl) rfl) (show kd 3 = 18 from rfl) (CI.u hC_M (i := 11) k_t (show (-1 : Int) ≤ _ ∧ _ ≤ (400 : Int) from by omega) rfl) hf_M6 rfl) (fun r9 z9 w9_0 => ?_)) (by decide))
  refine jr.putf (i := 12) (x := r9) rfl rfl (Nat.lt_trans (kx_15 k_t).1 (by decide)) (kx_15 k_t).2 (by decide) rfl rfl rfl rfl rfl ?_
  refine jr.aload_n rfl rfl ?_
  obtain ⟨v10, e10⟩ : ∃ z_, M t 1 = z_ := ⟨_, rfl⟩
  have b10 : (-2147483648) ≤ v10 ∧ v10 ≤ 2147483647 := by rw [← e10]; exact (CI.r hC_M k_t (by decide) 1)
  have e11 : M6 t 1 = v10 := (hf_M6.g k_t rfl).trans ((ju_i _ _ (by decide)).trans e10)
  refine jr.getf (i := 1) (x := v10) (v := .int (Int32.ofInt (v10))) rfl rfl (Nat.lt_trans (kx_15 k_t).1 (by decide)) (kx_15 k_t).2 (by decide) rfl rfl ((ju_i _ _ (by decide)).trans e11) rfl ?_
  refine jr.bipush rfl (by decide) ?_
  refine jr.icmp_ne rfl rfl (by omega) (by omega) (fun h49 => ?_) (fun h49 => ?_)
  · have e12 : M6 t 11 = r1 := (hf_M6.g k_t rfl).trans (ju_same _ _ _ _)
    exact jr.vreturn rfl rfl (q _ (CI.u hC_M6 (i := 12) k_t (show (-1 : Int) ≤ _ ∧ _ ≤ (400 : Int) from by omega) rfl) (FR.o ht_M6 k_t rfl)  ⟨⟨(by rw [show (ju M6 t 12 r9) t 11 = r1 from ((ju_i _ _ (by decide)).trans e12)]; exact w1_0), (by rw [show (ju M6 t 12 r9) t 12 = r9 from (ju_same _ _ _ _)]; rw [← w7_0]; exact w9_0), Or.inr ⟨by rw [p0]; omega, by rw [ju_i _ _ (by decide), hx_M6, if_neg (by omega), ju_i _ _ (by decide), p0]⟩⟩, fun k k0 k1 => by rw [ju_c _ _ (show t + 2 ≠ t by omega), hx_M6, if_pos (by omega)]; have h9 := (p1.1 (0 + (k - 0)) (by omega) (by omega)).1; rw [e2] at h9; rw [ju_c _ _ (kd_ne (by rw [(kf_33_0 (show kd (v2).toNat = 33 from (congrArg (fun z : Int => kd z.toNat) e2).symm.trans (CI.x hC_M (show kd 3 = 18 from rfl) 7 rfl (by decide)))).2, k_t]; decide)), h9, show 0 + (k - 0) = k from by omega], fun k a b c => by rw [ju_i _ _ b, hx_M6, if_neg (by omega), ju_i _ _ a, p0], fun b k hb hb2 => by rw [ju_c _ _ hb, hx_M6, if_neg (by intro h; exact hb2 h.1), ju_c _ _ hb, p0]⟩)
  · refine jr.aload_n rfl rfl ?_
    refine jr.aload_n rfl rfl ?_
    refine jr.iload_n rfl rfl ?_
    refine jr.iconst rfl ?_
    refine jr.isub rfl ?_
    refine jr_v rfl rfl (Or.inl rfl) rfl rfl (by decide) rfl ⟨rfl, Nat.le_of_ble_eq_true rfl, Nat.le_of_ble_eq_true rfl⟩ rfl (jc.deep (c_Headers_placeAt_x (CI.u hC_M6 (i := 12) k_t (show (-1 : Int) ≤ _ ∧ _ ≤ (400 : Int) from by omega) rfl) (show kd 3 = 18 from rfl) (by omega) ((ju_i _ _ (by decide)).trans e8) (HS.fr (HS.fr (HS.fr p1 (show kd 3 = 18 from rfl) hC_M (FR.o (FR.rfl [(15, 11)] M) k_t rfl) rfl) (show kd 3 = 18 from rfl) (CI.u hC_M (i := 11) k_t (show (-1 : Int) ≤ _ ∧ _ ≤ (400 : Int) from by omega) rfl) hf_M6 rfl) (show kd 3 = 18 from rfl) hC_M6 (FR.o (FR.rfl [(15, 12)] M6) k_t rfl) rfl) (fun r13 z13 w13_0 => ?_)) (by decide))
    refine jr.aload_n rfl rfl ?_
    refine jr.iload_n rfl rfl ?_
    refine jr.iconst rfl ?_
    refine jr.isub rfl ?_
    refine jr_v rfl rfl (Or.inl rfl) rfl rfl (by decide) rfl ⟨rfl, Nat.le_of_ble_eq_true rfl, Nat.le_of_ble_eq_true rfl⟩ rfl (jc.deep (c_Headers_kindAt_x (CI.u hC_M6 (i := 12) k_t (show (-1 : Int) ≤ _ ∧ _ ≤ (400 : Int) from by omega) rfl) (show kd 3 = 18 from rfl) (by omega) ((ju_i _ _ (by decide)).trans e8) (HS.fr (HS.fr (HS.fr p1 (show kd 3 = 18 from rfl) hC_M (FR.o (FR.rfl [(15, 11)] M) k_t rfl) rfl) (show kd 3 = 18 from rfl) (CI.u hC_M (i := 11) k_t (show (-1 : Int) ≤ _ ∧ _ ≤ (400 : Int) from by omega) rfl) hf_M6 rfl) (show kd 3 = 18 from rfl) hC_M6 (FR.o (FR.rfl [(15, 12)] M6) k_t rfl) rfl) (fun r14 z14 w14_0 => ?_)) (by decide))
    refine jr.iconst rfl ?_
    refine jr.icmp_ne rfl rfl (by omega) (by omega) (fun h68 => ?_) (fun h68 => ?_)
    · refine jr.iconst rfl ?_
      refine jr.iadd rfl ?_
      refine jr.putf (i := 13) (x := (r13 + 0)) rfl rfl (Nat.lt_trans (kx_15 k_t).1 (by decide)) (kx_15 k_t).2 (by decide) rfl rfl rfl rfl rfl ?_
      have e15 : M6 t 11 = r1 := (hf_M6.g k_t rfl).trans (ju_same _ _ _ _)
      exact jr.vreturn rfl rfl (q _ (CI.u (CI.u hC_M6 (i := 12) k_t (show (-1 : Int) ≤ _ ∧ _ ≤ (400 : Int) from by omega) rfl) (i := 13) k_t (show (-1 : Int) ≤ _ ∧ _ ≤ (404 : Int) from by omega) rfl) (FR.o (FR.o ht_M6 k_t rfl) k_t rfl)  ⟨⟨(by rw [show (ju (ju M6 t 12 r9) t 13 (r13 + 0)) t 11 = r1 from ((ju_i _ _ (by decide)).trans ((ju_i _ _ (by decide)).trans e15))]; exact w1_0), (by rw [show (ju (ju M6 t 12 r9) t 13 (r13 + 0)) t 12 = r9 from ((ju_i _ _ (by decide)).trans (ju_same _ _ _ _))]; rw [← w7_0]; exact w9_0), Or.inl ⟨by rw [p0]; omega, by rw [show (ju (ju M6 t 12 r9) t 13 (r13 + 0)) t 13 = r13 + 0 from (ju_same _ _ _ _), ← w13_0, ← w14_0]; first | (rw [if_pos (by omega)]) | (rw [if_neg (by omega)])⟩⟩, fun k k0 k1 => by rw [ju_c _ _ (show t + 2 ≠ t by omega), ju_c _ _ (show t + 2 ≠ t by omega), hx_M6, if_pos (by omega)]; have h9 := (p1.1 (0 + (k - 0)) (by omega) (by omega)).1; rw [e2] at h9; rw [ju_c _ _ (kd_ne (by rw [(kf_33_0 (show kd (v2).toNat = 33 from (congrArg (fun z : Int => kd z.toNat) e2).symm.trans (CI.x hC_M (show kd 3 = 18 from rfl) 7 rfl (by decide)))).2, k_t]; decide)), h9, show 0 + (k - 0) = k from by omega], fun k a b c => by rw [ju_i _ _ c, ju_i _ _ b, hx_M6, if_neg (by omega), ju_i _ _ a, p0], fun b k hb hb2 => by rw [ju_c _ _ hb, ju_c _ _ hb, hx_M6, if_neg (by intro h; exact hb2 h.1), ju_c _ _ hb, p0]⟩)
    · refine jr.iconst rfl ?_
      refine jr.goto rfl rfl ?_
      refine jr.iadd rfl ?_
      refine jr.putf (i := 13) (x := (r13 + 4)) rfl rfl (Nat.lt_trans (kx_15 k_t).1 (by decide)) (kx_15 k_t).2 (by decide) rfl rfl rfl rfl rfl ?_
      have e16 : M6 t 11 = r1 := (hf_M6.g k_t rfl).trans (ju_same _ _ _ _)
      exact jr.vreturn rfl rfl (q _ (CI.u (CI.u hC_M6 (i := 12) k_t (show (-1 : Int) ≤ _ ∧ _ ≤ (400 : Int) from by omega) rfl) (i := 13) k_t (show (-1 : Int) ≤ _ ∧ _ ≤ (404 : Int) from by omega) rfl) (FR.o (FR.o ht_M6 k_t rfl) k_t rfl)  ⟨⟨(by rw [show (ju (ju M6 t 12 r9) t 13 (r13 + 4)) t 11 = r1 from ((ju_i _ _ (by decide)).trans ((ju_i _ _ (by decide)).trans e16))]; exact w1_0), (by rw [show (ju (ju M6 t 12 r9) t 13 (r13 + 4)) t 12 = r9 from ((ju_i _ _ (by decide)).trans (ju_same _ _ _ _))]; rw [← w7_0]; exact w9_0), Or.inl ⟨by rw [p0]; omega, by rw [show (ju (ju M6 t 12 r9) t 13 (r13 + 4)) t 13 = r13 + 4 from (ju_same _ _ _ _), ← w13_0, ← w14_0]; first | (rw [if_pos (by omega)]) | (rw [if_neg (by omega)])⟩⟩, fun k k0 k1 => by rw [ju_c _ _ (show t + 2 ≠ t by omega), ju_c _ _ (show t + 2 ≠ t by omega), hx_M6, if_pos (by omega)]; have h9 := (p1.1 (0 + (k - 0)) (by omega) (by omega)).1; rw [e2] at h9; rw [ju_c _ _ (kd_ne (by rw [(kf_33_0 (show kd (v2).toNat = 33 from (congrArg (fun z : Int => kd z.toNat) e2).symm.trans (CI.x hC_M (show kd 3 = 18 from rfl) 7 rfl (by decide)))).2, k_t]; decide)), h9, show 0 + (k - 0) = k from by omega], fun k a b c => by rw [ju_i _ _ c, ju_i _ _ b, hx_M6, if_neg (by omega), ju_i _ _ a, p0], fun b k hb hb2 => by rw [ju_c _ _ hb, ju_c _ _ hb, hx_M6, if_neg (by intro h; exact hb2 h.1), ju_c _ _ hb, p0]⟩)
noncomputable def gov (w : Int → Int) (s : Int) : Nat → Int
  | 0 => 0
  | n + 1 => gov w s n + (if w (s + n) = -1 then 0 else 1)
theorem gov_s {w : Int → Int} {s i : Int} (h : 0 ≤ i) : gov w s (i + 1).toNat = gov w s i.toNat + (if w (s + i) = -1 then 0 else 1) := by
  obtain ⟨n, rfl⟩ := Int.eq_ofNat_of_zero_le h
  rw [show ((n : Int) + 1).toNat = n + 1 by omega, show ((n : Int)).toNat = n by omega]
  rfl
/-- a row with m bytes of f from e on laid at s, where it was empty -/
noncomputable def glay (w f : Int → Int) (s e m : Int) : Int → Int := fun k => if s ≤ k ∧ k < s + m ∧ w k = -1 then f (e + (k - s)) else w k
noncomputable def wh1 (f : Int → Int) (N C y W : Int) : Int := if W = -1 ∧ mrf f N C y ≠ 1 then ofs f N C y + (N - enf f N C y) else W
noncomputable def cm1 (f : Int → Int) (N C y K : Int) : Int := if K ≤ ofs f N C y + (N - enf f N C y) then ofs f N C y + (N - enf f N C y) else K
noncomputable def mlf (D s L : Int) : Int := if D ≤ L - s then D else if 0 ≤ L - s then L - s else 0
noncomputable def TK0 (T M : jm) (t : Nat) (W K : Int) : Prop := M t 7 = W ∧ M t 8 = K ∧ (∀ k : Int, k ≠ 7 → k ≠ 8 → M t k = T t k) ∧ ∀ (b : Nat) (k : Int), b ≠ t → M b k = T b k
noncomputable def TKF (T M : jm) (t : Nat) (f : Int → Int) (N C y : Int) : Prop := (M t 7 = wh1 f N C y (T t 7) ∧ M t 8 = cm1 f N C y (T t 8)) ∧ (∀ k : Int, k ≠ 7 → k ≠ 8 → k ≠ 11 → k ≠ 12 → k ≠ 13 → M t k = T t k) ∧ ((ofs f N C y = 0 ∧ T t 11 = -1 ∧ (M t 11 = enf f N C y ∧ M t 12 = pA f N C (ntf f N C) ∧ ((T t 1 = 6 ∧ M t 13 = pA f N C (y - 1) + (if kA f N C (y - 1) = 3 then 4 else 0)) ∨ (T t 1 ≠ 6 ∧ M t 13 = T t 13))) ∧ ∀ k : Int, 0 ≤ k → k < enf f N C y → M (t + 2) k = f k) ∨ (¬ (ofs f N C y = 0 ∧ T t 11 = -1) ∧ (M t 11 = T t 11 ∧ M t 12 = T t 12 ∧ M t 13 = T t 13) ∧ ∀ k : Int, M (t + 2) k = T (t + 2) k)) ∧ ∀ (b : Nat) (k : Int), b ≠ t → b ≠ t + 1 → b ≠ t + 2 → b ≠ 14 → M b k = T b k
theorem TK0.n {T M : jm} {t : Nat} {f : Int → Int} {N C y W K : Int} (h : TK0 T M t W K) (hW : W = wh1 f N C y (T t 7)) (hK : K = cm1 f N C y (T t 8)) (hn : ¬ (ofs f N C y = 0 ∧ T t 11 = -1)) : TKF T M t f N C y := ⟨⟨h.1.trans hW, h.2.1.trans hK⟩, fun k a b _ _ _ => h.2.2.1 k a b, Or.inr ⟨hn, ⟨h.2.2.1 11 (by decide) (by decide), h.2.2.1 12 (by decide) (by decide), h.2.2.1 13 (by decide) (by decide)⟩, fun k => h.2.2.2 (t + 2) k (by omega)⟩, fun b k b0 _ _ _ => h.2.2.2 b k b0⟩
theorem TK0.k {T M M1 : jm} {t : Nat} {f : Int → Int} {N C y W K : Int} (h : TK0 T M t W K) (hW : W = wh1 f N C y (T t 7)) (hK : K = cm1 f N C y (T t 8)) (hn : ofs f N C y = 0 ∧ T t 11 = -1) (w : KPH M M1 t f N C y) : TKF T M1 t f N C y := by
  obtain ⟨w1, w2, w3, w4⟩ := w
  have e1 : M t 1 = T t 1 := h.2.2.1 1 (by decide) (by decide)
  have e13 : M t 13 = T t 13 := h.2.2.1 13 (by decide) (by decide)
  rw [e1, e13] at w1
  refine ⟨⟨?_, ?_⟩, fun k a b c d e => ?_, Or.inl ⟨hn.1, hn.2, w1, w2⟩, fun b k b0 b1 b2 b3 => ?_⟩
  · rw [w3 7 (by decide) (by decide) (by decide)]; exact h.1.trans hW
  · rw [w3 8 (by decide) (by decide) (by decide)]; exact h.2.1.trans hK
  · rw [w3 k c d e]; exact h.2.2.1 k a b
  · rw [w4 b k b0 b2]; exact h.2.2.2 b k b0
theorem TKF.r {T M : jm} {t : Nat} {f : Int → Int} {N C y i v : Int} (h : TKF T M t f N C y) : TKF T (ju M (t + 1) i v) t f N C y := by
  have n0 : t ≠ t + 1 := by omega
  have n2 : t + 2 ≠ t + 1 := by omega
  unfold TKF at h ⊢
  simp only [ju_c M v n0, ju_c M v n2]
  exact ⟨h.1, h.2.1, h.2.2.1, fun b k b0 b1 b2 b3 => by rw [ju_c M v b1]; exact h.2.2.2 b k b0 b1 b2 b3⟩
theorem TKF.l {T M : jm} {t : Nat} {f : Int → Int} {N C y i v : Int} (h : TKF T M t f N C y) (ht : t ≠ 14) (ht2 : t + 2 ≠ 14) : TKF T (ju M 14 i v) t f N C y := by
  unfold TKF at h ⊢
  simp only [ju_c M v ht, ju_c M v ht2]
  exact ⟨h.1, h.2.1, h.2.2.1, fun b k b0 b1 b2 b3 => by rw [ju_c M v b3]; exact h.2.2.2 b k b0 b1 b2 b3⟩
/-- the row as far as it is laid -/
noncomputable def TKR (T M : jm) (t : Nat) (f : Int → Int) (s e i o : Int) : Prop := (∀ k : Int, 0 ≤ k → k < 360 → M (t + 1) k = glay (T (t + 1)) f s e i k) ∧ o = gov (T (t + 1)) s i.toNat
theorem TKR.z {T M : jm} {t : Nat} {f : Int → Int} {s e : Int} (h : ∀ k : Int, M (t + 1) k = T (t + 1) k) : TKR T M t f s e 0 0 := ⟨fun k _ _ => by rw [h k]; unfold glay; rw [if_neg (by omega)], rfl⟩
theorem TKR.w {T M : jm} {t : Nat} {f : Int → Int} {s e i o v r : Int} (h : TKR T M t f s e i o) (hi : 0 ≤ i) (h0 : 0 ≤ s) (h1 : s + i < 360) (hv : M (t + 1) (s + i) = v) (he : v = -1) (hr : r = f (e + i)) : TKR T (ju M (t + 1) (s + i) r) t f s e (i + 1) o := by
  have q := h.1 (s + i) (by omega) h1
  unfold glay at q
  rw [if_neg (by omega), hv, he] at q
  refine ⟨fun k k0 k1 => ?_, ?_⟩
  · unfold glay
    by_cases e1 : k = s + i
    · subst e1
      rw [ju_same, if_pos ⟨by omega, by omega, q.symm⟩, hr, show e + (s + i - s) = e + i by omega]
    · rw [ju_i _ _ e1, h.1 k k0 k1]
      unfold glay
      by_cases c : s ≤ k ∧ k < s + i ∧ T (t + 1) k = -1
      · rw [if_pos c, if_pos ⟨c.1, by omega, c.2.2⟩]
      · rw [if_neg c, if_neg (by intro d; exact c ⟨d.1, by omega, d.2.2⟩)]
  · rw [gov_s hi, if_pos q.symm, h.2]; omega
theorem TKR.n {T M : jm} {t : Nat} {f : Int → Int} {s e i o v : Int} (h : TKR T M t f s e i o) (hi : 0 ≤ i) (h0 : 0 ≤ s) (h1 : s + i < 360) (hv : M (t + 1) (s + i) = v) (he : v ≠ -1) : TKR T M t f s e (i + 1) (o + 1) := by
  have q := h.1 (s + i) (by omega) h1
  unfold glay at q
  rw [if_neg (by omega), hv] at q
  refine ⟨fun k k0 k1 => ?_, ?_⟩
  · rw [h.1 k k0 k1]
    unfold glay
    by_cases c : s ≤ k ∧ k < s + i ∧ T (t + 1) k = -1
    · rw [if_pos c, if_pos ⟨c.1, by omega, c.2.2⟩]
    · rw [if_neg c, if_neg (by
        intro d
        by_cases e1 : k = s + i
        · subst e1; rw [← q] at d; exact he d.2.2
        · exact c ⟨d.1, by omega, d.2.2⟩)]
  · rw [gov_s hi, if_neg (by rw [← q]; exact he), h.2]
noncomputable def TKI (T M : jm) (t : Nat) (f : Int → Int) (N C y : Int) : Prop := TKF T M t f N C y ∧ (∀ k : Int, 0 ≤ k → k < 360 → M (t + 1) k = glay (T (t + 1)) f (ofs f N C y) (enf f N C y) (mlf (N - enf f N C y) (ofs f N C y) (lpf (wh1 f N C y (T t 7)))) k) ∧ (M 14 0 = mlf (N - enf f N C y) (ofs f N C y) (lpf (wh1 f N C y (T t 7))) - gov (T (t + 1)) (ofs f N C y) (mlf (N - enf f N C y) (ofs f N C y) (lpf (wh1 f N C y (T t 7)))).toNat ∧ M 14 1 = gov (T (t + 1)) (ofs f N C y) (mlf (N - enf f N C y) (ofs f N C y) (lpf (wh1 f N C y (T t 7)))).toNat ∧ M 14 2 = N - enf f N C y - mlf (N - enf f N C y) (ofs f N C y) (lpf (wh1 f N C y (T t 7))) ∧ M 14 3 = rbf (wh1 f N C y (T t 7)) (cm1 f N C y (T t 8)) ∧ M 14 4 = wh1 f N C y (T t 7))
theorem lpf_r (w : Int) : lpf w ≤ 360 := by
  unfold lpf
  (repeat' split) <;> omega
theorem tki {T M M2 : jm} {t : Nat} {f : Int → Int} {N C y s d i o W K v0 v1 v2 v3 v4 : Int} (ht : t ≠ 14 ∧ t + 1 ≠ 14 ∧ t + 2 ≠ 14) (h1 : TKF T M t f N C y) (h2 : TKR T M t f s (enf f N C y) i o) (hs : s = ofs f N C y) (hd : d = N - enf f N C y) (h7 : M t 7 = W) (h8 : M t 8 = K) (hi : 0 ≤ i ∧ i ≤ d) (hx : i = 0 ∨ s + i ≤ lpf W) (he : d ≤ i ∨ lpf W ≤ s + i) (e : M2 = ju (ju (ju (ju (ju M 14 0 v0) 14 1 v1) 14 2 v2) 14 3 v3) 14 4 v4) (e0 : v0 = i - o) (e1 : v1 = o) (e2 : v2 = d - i) (e3 : v3 = rbf W K) (e4 : v4 = W) : TKI T M2 t f N C y := by
  have hW : wh1 f N C y (T t 7) = W := by rw [← h7]; exact h1.1.1.symm
  have hK : cm1 f N C y (T t 8) = K := by rw [← h8]; exact h1.1.2.symm
  have hm : mlf (N - enf f N C y) (ofs f N C y) (lpf (wh1 f N C y (T t 7))) = i := by
    rw [hW, ← hs, ← hd]
    unfold mlf
    (repeat' split) <;> omega
  subst e
  refine ⟨(((((h1.l ht.1 ht.2.2).l ht.1 ht.2.2).l ht.1 ht.2.2).l ht.1 ht.2.2).l ht.1 ht.2.2), fun k k0 k1 => ?_, ?_⟩
  · rw [hm, ← hs, ju_c _ _ ht.2.1, ju_c _ _ ht.2.1, ju_c _ _ ht.2.1, ju_c _ _ ht.2.1, ju_c _ _ ht.2.1]
    exact h2.1 k k0 k1
  · rw [hm, ← hs, ← hd, hW, hK, ← h2.2]
    refine ⟨?_, ?_, ?_, ?_, ?_⟩
    · rw [ju_i _ _ (by decide), ju_i _ _ (by decide), ju_i _ _ (by decide), ju_i _ _ (by decide), ju_same]; exact e0
    · rw [ju_i _ _ (by decide), ju_i _ _ (by decide), ju_i _ _ (by decide), ju_same]; exact e1
    · rw [ju_i _ _ (by decide), ju_i _ _ (by decide), ju_same]; exact e2
    · rw [ju_i _ _ (by decide), ju_same]; exact e3
    · rw [ju_same]; exact e4
noncomputable def W_c_Gathering_takeIn_x : List (Nat × Nat) := [(15, 7), (15, 8), (15, 11), (15, 12), (15, 13), (16, 1000), (17, 1000), (41, 1000)]
theorem c_Gathering_takeIn_x_L80 {A : Nat → Option (Nat × (Nat → Int32))} {Q : Option Value → jm → Prop} {f : Int → Int} {N : Int} {T : jm} {t : Nat} (k_t : kd t = 15) {C : Int} {W : Int} {K : Int} {y : Int} (q : ∀ (M' : jm), CI M' → FR W_c_Gathering_takeIn_x T M' → (TKI T M' t f N C y) → Q none M') : ∀ (nM : Nat) (M : jm) (s : Int) (d : Int) (o : Int) (i : Int), CI M → FR W_c_Gathering_takeIn_x T M → 0 ≤ y ∧ y ≤ 11 → 0 ≤ s ∧ s ≤ 65528 → 1 ≤ d ∧ d ≤ 400 → 0 ≤ o ∧ o ≤ 400 → 0 ≤ i ∧ i ≤ 400 → M 3 3 = C → M t 7 = W → M t 8 = K → (HS M 3 f N) → (TKF T M t f N C y) → (TKR T M t f s (enf f N C y) i o) → (s = ofs f N C y ∧ d = N - enf f N C y) → (o ≤ i ∧ i ≤ d ∧ (i = 0 ∨ s + i ≤ lpf W)) → (y < C ∧ enf f N C y + d = N ∧ 0 ≤ enf f N C y ∧ N ≤ 400) → (t ≠ 14 ∧ t + 1 ≠ 14 ∧ t + 2 ≠ 14) → 400 - i ≤ nM → jr A 3 xm_96 80 [(2, .int (Int32.ofInt (y))), (4, .int (Int32.ofInt (s))), (5, .int (Int32.ofInt (d))), (6, .int (Int32.ofInt (o))), (7, .int (Int32.ofInt (i))), (0, .ref (t)), (1, .ref (3)), (3, .ref (14))] [] M Q := by
  intro nM
  induction nM using Nat.strongRecOn with
  | ind nM ih =>
    intro M s d o i hC_M ht_M h_y h_s h_d h_o h_i g_C g_W g_K hy0 hy1 hy2 hy3 hy4 hy5 hy6 hm
    have b_C : 0 ≤ C ∧ C ≤ 12 := by rw [← g_C]; exact (CI.r hC_M (show kd 3 = 18 from rfl) (by decide) 3)
    have b_W : (-1) ≤ W ∧ W ≤ 70000 := by rw [← g_W]; exact (CI.r hC_M k_t (by decide) 7)
    have b_K : (-2147483648) ≤ K ∧ K ≤ 2147483647 := by rw [← g_K]; exact (CI.r hC_M k_t (by decide) 8)
    refine jr.iload rfl rfl ?_
    refine jr.iload rfl rfl ?_
    refine jr.icmp_ge rfl rfl (by omega) (by omega) (fun h84 => ?_) (fun h84 => ?_)
    · refine jr.aload_n rfl rfl ?_
      refine jr.iconst rfl ?_
      refine jr.iload rfl rfl ?_
      refine jr.iload rfl rfl ?_
      refine jr.isub rfl ?_
      refine jr.iast (i := 0) (x := (i - o)) rfl (by decide) rfl (by decide) (by omega) (by omega) ?_
      refine jr.aload_n rfl rfl ?_
      refine jr.iconst rfl ?_
      refine jr.iload rfl rfl ?_
      refine jr.iast (i := 1) (x := o) rfl (by decide) rfl (by decide) (by omega) (by omega) ?_
      refine jr.aload_n rfl rfl ?_
      refine jr.iconst rfl ?_
      refine jr.iload rfl rfl ?_
      refine jr.iload rfl rfl ?_
      refine jr.isub rfl ?_
      refine jr.iast (i := 2) (x := (d - i)) rfl (by decide) rfl (by decide) (by omega) (by omega) ?_
      refine jr.aload_n rfl rfl ?_
      refine jr.iconst rfl ?_
      refine jr.aload_n rfl rfl ?_
      refine jr_v rfl rfl (Or.inl rfl) rfl rfl (Nat.lt_trans (kx_15 k_t).1 (by decide)) (kx_15 k_t).2 ⟨rfl, Nat.le_of_ble_eq_true rfl, Nat.le_of_ble_eq_true rfl⟩ rfl (jc.deep (c_Gathering_rowBytes_x (CI.u (CI.u (CI.u hC_M (i := 0) (show kd 14 = 41 from rfl) (show (-2147483648 : Int) ≤ _ ∧ _ ≤ (2147483647 : Int) from by omega) rfl) (i := 1) (show kd 14 = 41 from rfl) (show (-2147483648 : Int) ≤ _ ∧ _ ≤ (2147483647 : Int) from by omega) rfl) (i := 2) (show kd 14 = 41 from rfl) (show (-2147483648 : Int) ≤ _ ∧ _ ≤ (2147483647 : Int) from by omega) rfl) k_t ((ju_i _ _ (by decide)).trans ((ju_i _ _ (by decide)).trans ((ju_i _ _ (by decide)).trans g_W))) ((ju_i _ _ (by decide)).trans ((ju_i _ _ (by decide)).trans ((ju_i _ _ (by decide)).trans g_K))) (fun r1 z1 w1_0 => ?_)) (by decide))
      refine jr.iast (i := 3) (x := r1) rfl (by decide) rfl (by decide) (by omega) (by omega) ?_
      refine jr.aload_n rfl rfl ?_
      refine jr.iconst rfl ?_
      refine jr.aload_n rfl rfl ?_
      refine jr.getf (i := 7) (x := W) (v := .int (Int32.ofInt (W))) rfl rfl (Nat.lt_trans (kx_15 k_t).1 (by decide)) (kx_15 k_t).2 (by decide) rfl rfl ((ju_i _ _ (by decide)).trans ((ju_i _ _ (by decide)).trans ((ju_i _ _ (by decide)).trans ((ju_i _ _ (by decide)).trans g_W)))) rfl ?_
      refine jr.iast (i := 4) (x := W) rfl (by decide) rfl (by decide) (by omega) (by omega) ?_
      exact jr.vreturn rfl rfl (q _ (CI.u (CI.u (CI.u (CI.u (CI.u hC_M (i := 0) (show kd 14 = 41 from rfl) (show (-2147483648 : Int) ≤ _ ∧ _ ≤ (2147483647 : Int) from by omega) rfl) (i := 1) (show kd 14 = 41 from rfl) (show (-2147483648 : Int) ≤ _ ∧ _ ≤ (2147483647 : Int) from by omega) rfl) (i := 2) (show kd 14 = 41 from rfl) (show (-2147483648 : Int) ≤ _ ∧ _ ≤ (2147483647 : Int) from by omega) rfl) (i := 3) (show kd 14 = 41 from rfl) (show (-2147483648 : Int) ≤ _ ∧ _ ≤ (2147483647 : Int) from by omega) rfl) (i := 4) (show kd 14 = 41 from rfl) (show (-2147483648 : Int) ≤ _ ∧ _ ≤ (2147483647 : Int) from by omega) rfl) (FR.o (FR.o (FR.o (FR.o (FR.o ht_M (show kd 14 = 41 from rfl) rfl) (show kd 14 = 41 from rfl) rfl) (show kd 14 = 41 from rfl) rfl) (show kd 14 = 41 from rfl) rfl) (show kd 14 = 41 from rfl) rfl)  (tki hy6 hy1 hy2 hy3.1 hy3.2 g_W g_K (by omega) hy4.2.2 (by omega) rfl rfl rfl rfl w1_0 rfl))
    · refine jr.iload rfl rfl ?_
      refine jr.iload rfl rfl ?_
      refine jr.iadd rfl ?_
      refine jr.aload_n rfl rfl ?_
      refine jr_v rfl rfl (Or.inl rfl) rfl rfl (Nat.lt_trans (kx_15 k_t).1 (by decide)) (kx_15 k_t).2 ⟨rfl, Nat.le_of_ble_eq_true rfl, Nat.le_of_ble_eq_true rfl⟩ rfl (jc.deep (c_Gathering_lastPlace_x hC_M k_t g_W (fun r2 z2 w2_0 => ?_)) (by decide))
      have hlp := lpf_r W
      refine jr.icmp_ge rfl rfl (by omega) (by omega) (fun h96 => ?_) (fun h96 => ?_)
      · refine jr.aload_n rfl rfl ?_
        refine jr.iconst rfl ?_
        refine jr.iload rfl rfl ?_
        refine jr.iload rfl rfl ?_
        refine jr.isub rfl ?_
        refine jr.iast (i := 0) (x := (i - o)) rfl (by decide) rfl (by decide) (by omega) (by omega) ?_
        refine jr.aload_n rfl rfl ?_
        refine jr.iconst rfl ?_
        refine jr.iload rfl rfl ?_
        refine jr.iast (i := 1) (x := o) rfl (by decide) rfl (by decide) (by omega) (by omega) ?_
        refine jr.aload_n rfl rfl ?_
        refine jr.iconst rfl ?_
        refine jr.iload rfl rfl ?_
        refine jr.iload rfl rfl ?_
        refine jr.isub rfl ?_
        refine jr.iast (i := 2) (x := (d - i)) rfl (by decide) rfl (by decide) (by omega) (by omega) ?_
        refine jr.aload_n rfl rfl ?_
        refine jr.iconst rfl ?_
        refine jr.aload_n rfl rfl ?_
        refine jr_v rfl rfl (Or.inl rfl) rfl rfl (Nat.lt_trans (kx_15 k_t).1 (by decide)) (kx_15 k_t).2 ⟨rfl, Nat.le_of_ble_eq_true rfl, Nat.le_of_ble_eq_true rfl⟩ rfl (jc.deep (c_Gathering_rowBytes_x (CI.u (CI.u (CI.u hC_M (i := 0) (show kd 14 = 41 from rfl) (show (-2147483648 : Int) ≤ _ ∧ _ ≤ (2147483647 : Int) from by omega) rfl) (i := 1) (show kd 14 = 41 from rfl) (show (-2147483648 : Int) ≤ _ ∧ _ ≤ (2147483647 : Int) from by omega) rfl) (i := 2) (show kd 14 = 41 from rfl) (show (-2147483648 : Int) ≤ _ ∧ _ ≤ (2147483647 : Int) from by omega) rfl) k_t ((ju_i _ _ (by decide)).trans ((ju_i _ _ (by decide)).trans ((ju_i _ _ (by decide)).trans g_W))) ((ju_i _ _ (by decide)).trans ((ju_i _ _ (by decide)).trans ((ju_i _ _ (by decide)).trans g_K))) (fun r3 z3 w3_0 => ?_)) (by decide))
        refine jr.iast (i := 3) (x := r3) rfl (by decide) rfl (by decide) (by omega) (by omega) ?_
        refine jr.aload_n rfl rfl ?_
        refine jr.iconst rfl ?_
        refine jr.aload_n rfl rfl ?_
        refine jr.getf (i := 7) (x := W) (v := .int (Int32.ofInt (W))) rfl rfl (Nat.lt_trans (kx_15 k_t).1 (by decide)) (kx_15 k_t).2 (by decide) rfl rfl ((ju_i _ _ (by decide)).trans ((ju_i _ _ (by decide)).trans ((ju_i _ _ (by decide)).trans ((ju_i _ _ (by decide)).trans g_W)))) rfl ?_
        refine jr.iast (i := 4) (x := W) rfl (by decide) rfl (by decide) (by omega) (by omega) ?_
        exact jr.vreturn rfl rfl (q _ (CI.u (CI.u (CI.u (CI.u (CI.u hC_M (i := 0) (show kd 14 = 41 from rfl) (show (-2147483648 : Int) ≤ _ ∧ _ ≤ (2147483647 : Int) from by omega) rfl) (i := 1) (show kd 14 = 41 from rfl) (show (-2147483648 : Int) ≤ _ ∧ _ ≤ (2147483647 : Int) from by omega) rfl) (i := 2) (show kd 14 = 41 from rfl) (show (-2147483648 : Int) ≤ _ ∧ _ ≤ (2147483647 : Int) from by omega) rfl) (i := 3) (show kd 14 = 41 from rfl) (show (-2147483648 : Int) ≤ _ ∧ _ ≤ (2147483647 : Int) from by omega) rfl) (i := 4) (show kd 14 = 41 from rfl) (show (-2147483648 : Int) ≤ _ ∧ _ ≤ (2147483647 : Int) from by omega) rfl) (FR.o (FR.o (FR.o (FR.o (FR.o ht_M (show kd 14 = 41 from rfl) rfl) (show kd 14 = 41 from rfl) rfl) (show kd 14 = 41 from rfl) rfl) (show kd 14 = 41 from rfl) rfl) (show kd 14 = 41 from rfl) rfl)  (tki hy6 hy1 hy2 hy3.1 hy3.2 g_W g_K (by omega) hy4.2.2 (by omega) rfl rfl rfl rfl w3_0 rfl))
      · refine jr.aload_n rfl rfl ?_
        have k4 := kf_15_9 k_t
        refine jr.getf (i := 9) (v := .ref (t + 1)) rfl rfl (Nat.lt_trans (kx_15 k_t).1 (by decide)) (kx_15 k_t).2 (by decide) rfl rfl rfl (jval_ref rfl k4.1) ?_
        refine jr.iload rfl rfl ?_
        refine jr.iload rfl rfl ?_
        refine jr.iadd rfl ?_
        obtain ⟨v5, e5⟩ : ∃ z_, M ((t + 1)) (s + i) = z_ := ⟨_, rfl⟩
        have b5 : (-1) ≤ v5 ∧ v5 ≤ 255 := by rw [← e5]; exact (CI.r hC_M k4.2 (by decide) (s + i))
        refine jr.iald (i := (s + i)) (x := v5) rfl (Nat.lt_trans (kx_17 k4.2).1 (by decide)) (kx_17 k4.2).2 (by decide) (by omega) (by omega) e5 ?_
        refine jr.iconst rfl ?_
        refine jr.icmp_ne rfl rfl (by omega) (by omega) (fun h110 => ?_) (fun h110 => ?_)
        · have sx110 : (0 : Int) ≤ v5 := by omega
          refine jr.iinc rfl rfl (by decide) rfl ?_
          refine jr.iinc rfl rfl (by decide) rfl ?_
          refine jr.goto rfl rfl ?_
          refine jr.pick [2, 3, 4, 1, 0, 5, 6, 7] rfl rfl ?_
          exact ih (nM - 1) (by omega) M s d (o + 1) (i + 1) hC_M ht_M (by omega) (by omega) (by omega) (by omega) (by omega) g_C g_W g_K hy0 hy1 (TKR.n hy2 (by omega) (by omega) (by omega) e5 (by omega)) hy3 (by omega) (by omega) hy6 (by omega)
        · refine jr.aload_n rfl rfl ?_
          have k6 := kf_15_9 k_t
          refine jr.getf (i := 9) (v := .ref (t + 1)) rfl rfl (Nat.lt_trans (kx_15 k_t).1 (by decide)) (kx_15 k_t).2 (by decide) rfl rfl rfl (jval_ref rfl k6.1) ?_
          refine jr.iload rfl rfl ?_
          refine jr.iload rfl rfl ?_
          refine jr.iadd rfl ?_
          refine jr.aload_n rfl rfl ?_
          obtain ⟨v7, e7⟩ : ∃ z_, M 3 7 = z_ := ⟨_, rfl⟩
          have b7 : 0 ≤ v7 ∧ v7 ≤ 597 := by rw [← e7]; exact (CI.r hC_M (show kd 3 = 18 from rfl) (by decide) 7)
          have k8 : kd (v7).toNat = 33 := ((congrArg (fun z : Int => kd z.toNat) (show M 3 7 = v7 from e7)).symm.trans (CI.x hC_M (show kd 3 = 18 from rfl) 7 rfl (by decide)))
          refine jr.getf (i := 7) (x := v7) (v := .ref (v7.toNat)) rfl rfl (by decide) rfl (by decide) rfl rfl e7 rfl ?_
          refine jr.aload_n rfl rfl ?_
          refine jr.iload_n rfl rfl ?_
          refine jr_v rfl rfl (Or.inl rfl) rfl rfl (by decide) rfl ⟨rfl, Nat.le_of_ble_eq_true rfl, Nat.le_of_ble_eq_true rfl⟩ rfl (jc.deep (c_Headers_endOf_x hC_M (show kd 3 = 18 from rfl) (by omega) g_C hy0 (fun r9 z9 w9_0 => ?_)) (by decide))
          refine jr.iload rfl rfl ?_
          refine jr.iadd rfl ?_
          obtain ⟨v11, e11⟩ : ∃ z_, M ((v7.toNat)) 1 = z_ := ⟨_, rfl⟩
          have b11 : (-1) ≤ v11 ∧ v11 ≤ 400 := by rw [← e11]; exact (CI.r hC_M k8 (by decide) 1)
          have hnl : v11 = N := (by have hq := hy0.2.1; rw [e7, e11] at hq; exact hq)
          refine jr_v rfl rfl (Or.inl rfl) rfl rfl (Nat.lt_trans (kx_33 k8).1 (by decide)) (kx_33 k8).2 ⟨rfl, Nat.le_of_ble_eq_true rfl, Nat.le_of_ble_eq_true rfl⟩ rfl (jc.deep (c_Packet_byteAt_h hC_M k8 (by omega) e11 (by have hq := hy0.1; rw [e7] at hq; exact hq) (fun r10 z10 w10_0 => ?_)) (by decide))
          refine jr.iast (i := (s + i)) (x := r10) rfl (Nat.lt_trans (kx_17 k6.2).1 (by decide)) (kx_17 k6.2).2 (by decide) (by omega) (by omega) ?_
          refine jr.goto rfl rfl ?_
          refine jr.iinc rfl rfl (by decide) rfl ?_
          refine jr.goto rfl rfl ?_
          refine jr.pick [1, 2, 3, 4, 0, 5, 6, 7] rfl rfl ?_
          exact ih (nM - 1) (by omega) ((ju M ((t + 1)) (s + i) r10)) s d o (i + 1) (CI.u hC_M (i := (s + i)) k6.2 (show (-1 : Int) ≤ _ ∧ _ ≤ (255 : Int) from by omega) rfl) (FR.o ht_M k6.2 rfl) (by omega) (by omega) (by omega) (by omega) (by omega) ((ju_c _ _ (kd_ne (by rw [(show kd 3 = 18 from rfl), k6.2]; decide))).trans g_C) ((ju_c _ _ (kd_ne (by rw [k_t, k6.2]; decide))).trans g_W) ((ju_c _ _ (kd_ne (by rw [k_t, k6.2]; decide))).trans g_K) (HS.fr hy0 (show kd 3 = 18 from rfl) hC_M (FR.o (FR.rfl [(17, 1000)] M) k6.2 rfl) rfl) (TKF.r hy1) (TKR.w hy2 (by omega) (by omega) (by omega) e5 (by omega) (by rw [w10_0.1, hb_i (by omega) (by omega), w9_0])) hy3 (by omega) (by omega) hy6 (by omega)
theorem c_Gathering_takeIn_x {A : Nat → Option (Nat × (Nat → Int32))} {Q : Option Value → jm → Prop} {f : Int → Int} {N : Int} {T : jm} {M : jm} (hC_M : CI M) (ht_M : FR W_c_Gathering_takeIn_x T M) {t : Nat} (k_t : kd t = 15) {y : Int} (h_y : 0 ≤ y ∧ y ≤ 11) {C : Int} (g_C : M 3 3 = C) (p0 : T = M) (p1 : HS M 3 f N) (p2 : y < C) (p3 : hX f N y = 2 ∨ hX f N y = 6) (p4 : 1 ≤ N - enf f N C y) (p5 : t ≠ 14 ∧ t + 1 ≠ 14 ∧ t + 2 ≠ 14) (q : ∀ (M' : jm), CI M' → FR W_c_Gathering_takeIn_x T M' → (TKI T M' t f N C y) → Q none M') : jc A 4 96 [.ref (t), .ref (3), .int (Int32.ofInt (y)), .ref (14)] M Q := by
  refine jc_of (m := xm_96) rfl (Nat.le_of_ble_eq_true rfl) rfl ?_
  have b_C : 0 ≤ C ∧ C ≤ 12 := by rw [← g_C]; exact (CI.r hC_M (show kd 3 = 18 from rfl) (by decide) 3)
  refine jr.aload_n rfl rfl ?_
  refine jr.iload_n rfl rfl ?_
  refine jr_v rfl rfl (Or.inl rfl) rfl rfl (by decide) rfl ⟨rfl, Nat.le_of_ble_eq_true rfl, Nat.le_of_ble_eq_true rfl⟩ rfl (jc.deep (c_Headers_offsetOf_x hC_M (show kd 3 = 18 from rfl) (by omega) g_C p1 (by omega) (by omega) (fun r1 z1 w1_0 => ?_)) (by decide))
  refine jr.istore rfl (by decide) rfl ?_
  refine jr.aload_n rfl rfl ?_
  refine jr.iload_n rfl rfl ?_
  obtain ⟨v3, e3⟩ : ∃ z_, M 3 7 = z_ := ⟨_, rfl⟩
  have b3 : 0 ≤ v3 ∧ v3 ≤ 597 := by rw [← e3]; exact (CI.r hC_M (show kd 3 = 18 from rfl) (by decide) 7)
  have k2_S : kd (v3).toNat = 33 := (congrArg (fun z : Int => kd z.toNat) e3).symm.trans (CI.x hC_M (show kd 3 = 18 from rfl) 7 rfl (by decide))
  refine jr_v rfl rfl (Or.inl rfl) rfl rfl (by decide) rfl ⟨rfl, Nat.le_of_ble_eq_true rfl, Nat.le_of_ble_eq_true rfl⟩ rfl (jc.deep (c_Headers_dataBehind_x hC_M (show kd 3 = 18 from rfl) (by omega) g_C e3 p1 (fun r2 z2 w2_0 => ?_)) (by decide))
  have hdb : 1 ≤ r2 ∧ r2 ≤ 400 ∧ enf f N C y + r2 = N ∧ 0 ≤ enf f N C y ∧ N ≤ 400 := (by have hq := enf_i (f := f) (N := N) (C := C) (x := y) (by omega); have hy := HS.y p1 g_C (x := y) (by omega); have hN := p1.2.2.1; omega)
  refine jr.istore rfl (by decide) rfl ?_
  refine jr.aload_n rfl rfl ?_
  obtain ⟨v4, e4⟩ : ∃ z_, M t 7 = z_ := ⟨_, rfl⟩
  have b4 : (-1) ≤ v4 ∧ v4 ≤ 70000 := by rw [← e4]; exact (CI.r hC_M k_t (by decide) 7)
  refine jr.getf (i := 7) (x := v4) (v := .int (Int32.ofInt (v4))) rfl rfl (Nat.lt_trans (kx_15 k_t).1 (by decide)) (kx_15 k_t).2 (by decide) rfl rfl e4 rfl ?_
  refine jr.iconst rfl ?_
  refine jr.icmp_ne rfl rfl (by omega) (by omega) (fun h19 => ?_) (fun h19 => ?_)
  · have sx19 : (0 : Int) ≤ v4 := by omega
    refine jr.aload_n rfl rfl ?_
    refine jr.aload_n rfl rfl ?_
    obtain ⟨v5, e5⟩ : ∃ z_, M t 8 = z_ := ⟨_, rfl⟩
    have b5 : (-2147483648) ≤ v5 ∧ v5 ≤ 2147483647 := by rw [← e5]; exact (CI.r hC_M k_t (by decide) 8)
    refine jr.getf (i := 8) (x := v5) (v := .int (Int32.ofInt (v5))) rfl rfl (Nat.lt_trans (kx_15 k_t).1 (by decide)) (kx_15 k_t).2 (by decide) rfl rfl e5 rfl ?_
    refine jr.iload rfl rfl ?_
    refine jr.iload rfl rfl ?_
    refine jr.iadd rfl ?_
    refine jr.imax rfl rfl (Nat.le_of_ble_eq_true rfl) (by omega) (by omega) ?_
    intro v6 d6 b6 c6
    refine jr.putf (i := 8) (x := v6) rfl rfl (Nat.lt_trans (kx_15 k_t).1 (by decide)) (kx_15 k_t).2 (by decide) rfl rfl rfl rfl rfl ?_
    refine jr.iload rfl rfl ?_
    refine jr.if_ne rfl rfl (by omega) (fun h57 => ?_) (fun h57 => ?_)
    · have sx57 : (1 : Int) ≤ r1 := by omega
      refine jr.iconst rfl ?_
      refine jr.istore rfl (by decide) rfl ?_
      refine jr.iconst rfl ?_
      refine jr.istore rfl (by decide) rfl ?_
      obtain ⟨v7, e7⟩ : ∃ z_, M t 11 = z_ := ⟨_, rfl⟩
      have b7 : (-1) ≤ v7 ∧ v7 ≤ 400 := by rw [← e7]; exact (CI.r hC_M k_t (by decide) 11)
      refine jr.pick [6, 3, 2, 1, 0, 4, 5, 7] rfl rfl ?_
      exact c_Gathering_takeIn_x_L80 k_t q 400 ((ju M t 8 v6)) r1 r2 0 0 (CI.u hC_M (i := 8) k_t (show (-2147483648 : Int) ≤ _ ∧ _ ≤ (2147483647 : Int) from by omega) rfl) (FR.o ht_M k_t rfl) (by omega) (by omega) (by omega) (by omega) (by omega) ((ju_i _ _ (by decide)).trans g_C) ((ju_i _ _ (by decide)).trans e4) (ju_same _ _ _ _) (HS.fr p1 (show kd 3 = 18 from rfl) hC_M (FR.o (FR.rfl [(15, 8)] M) k_t rfl) rfl) (TK0.n (show TK0 T ((ju M t 8 v6)) t v4 v6 from ⟨((ju_i _ _ (by decide)).trans e4), (ju_same _ _ _ _), fun k a b => by rw [ju_i _ _ b, p0], fun b k hb => by rw [ju_c _ _ hb, p0]⟩) (by unfold wh1; rw [← w1_0, ← w2_0, p0, e4]; first | (rw [if_neg (by omega)])) (by unfold cm1; rw [← w1_0, ← w2_0, p0, e5]; first | (rw [if_pos (by omega)]; omega) | (rw [if_neg (by omega)]; omega) | (split <;> omega)) (by rw [← w1_0, p0, e7]; omega)) (TKR.z (fun k => by rw [ju_c _ _ (show t + 1 ≠ t by omega), p0])) ⟨w1_0, w2_0⟩ (by omega) (by omega) p5 (by omega)
    · refine jr.aload_n rfl rfl ?_
      obtain ⟨v8, e8⟩ : ∃ z_, M t 11 = z_ := ⟨_, rfl⟩
      have b8 : (-1) ≤ v8 ∧ v8 ≤ 400 := by rw [← e8]; exact (CI.r hC_M k_t (by decide) 11)
      refine jr.getf (i := 11) (x := v8) (v := .int (Int32.ofInt (v8))) rfl rfl (Nat.lt_trans (kx_15 k_t).1 (by decide)) (kx_15 k_t).2 (by decide) rfl rfl ((ju_i _ _ (by decide)).trans e8) rfl ?_
      refine jr.iconst rfl ?_
      refine jr.icmp_ne rfl rfl (by omega) (by omega) (fun h65 => ?_) (fun h65 => ?_)
      · have sx65 : (0 : Int) ≤ v8 := by omega
        refine jr.iconst rfl ?_
        refine jr.istore rfl (by decide) rfl ?_
        refine jr.iconst rfl ?_
        refine jr.istore rfl (by decide) rfl ?_
        refine jr.pick [6, 3, 2, 1, 0, 4, 5, 7] rfl rfl ?_
        exact c_Gathering_takeIn_x_L80 k_t q 400 ((ju M t 8 v6)) r1 r2 0 0 (CI.u hC_M (i := 8) k_t (show (-2147483648 : Int) ≤ _ ∧ _ ≤ (2147483647 : Int) from by omega) rfl) (FR.o ht_M k_t rfl) (by omega) (by omega) (by omega) (by omega) (by omega) ((ju_i _ _ (by decide)).trans g_C) ((ju_i _ _ (by decide)).trans e4) (ju_same _ _ _ _) (HS.fr p1 (show kd 3 = 18 from rfl) hC_M (FR.o (FR.rfl [(15, 8)] M) k_t rfl) rfl) (TK0.n (show TK0 T ((ju M t 8 v6)) t v4 v6 from ⟨((ju_i _ _ (by decide)).trans e4), (ju_same _ _ _ _), fun k a b => by rw [ju_i _ _ b, p0], fun b k hb => by rw [ju_c _ _ hb, p0]⟩) (by unfold wh1; rw [← w1_0, ← w2_0, p0, e4]; first | (rw [if_neg (by omega)])) (by unfold cm1; rw [← w1_0, ← w2_0, p0, e5]; first | (rw [if_pos (by omega)]; omega) | (rw [if_neg (by omega)]; omega) | (split <;> omega)) (by rw [← w1_0, p0, e8]; omega)) (TKR.z (fun k => by rw [ju_c _ _ (show t + 1 ≠ t by omega), p0])) ⟨w1_0, w2_0⟩ (by omega) (by omega) p5 (by omega)
      · refine jr.aload_n rfl rfl ?_
        refine jr.aload_n rfl rfl ?_
        refine jr.iload_n rfl rfl ?_
        refine jr_v rfl rfl (Or.inl rfl) rfl rfl (Nat.lt_trans (kx_15 k_t).1 (by decide)) (kx_15 k_t).2 ⟨rfl, Nat.le_of_ble_eq_true rfl, Nat.le_of_ble_eq_true rfl⟩ rfl (jc.deep (c_Gathering_keepHeaders_x (CI.u hC_M (i := 8) k_t (show (-2147483648 : Int) ≤ _ ∧ _ ≤ (2147483647 : Int) from by omega) rfl) (FR.rfl _ ((ju M t 8 v6))) k_t (by omega) ((ju_i _ _ (by decide)).trans g_C) rfl (HS.fr p1 (show kd 3 = 18 from rfl) hC_M (FR.o (FR.rfl [(15, 8)] M) k_t rfl) rfl) (by omega) (by omega) (fun M9 hC_M9 hf_M9 w9_0 => ?_)) (by decide))
        have ht_M9 : FR W_c_Gathering_takeIn_x T M9 := FR.t (FR.o ht_M k_t rfl) hf_M9 (kw_sub rfl)
        refine jr.iconst rfl ?_
        refine jr.istore rfl (by decide) rfl ?_
        refine jr.iconst rfl ?_
        refine jr.istore rfl (by decide) rfl ?_
        have e10 : M9 3 3 = C := (hf_M9.g (show kd 3 = 18 from rfl) rfl).trans ((ju_i _ _ (by decide)).trans g_C)
        have e11 : M9 t 7 = v4 := (hf_M9.g k_t rfl).trans ((ju_i _ _ (by decide)).trans e4)
        have e12 : M9 t 8 = v6 := (hf_M9.g k_t rfl).trans (ju_same _ _ _ _)
        refine jr.pick [6, 3, 2, 1, 0, 4, 5, 7] rfl rfl ?_
        exact c_Gathering_takeIn_x_L80 k_t q 400 M9 r1 r2 0 0 hC_M9 ht_M9 (by omega) (by omega) (by omega) (by omega) (by omega) e10 e11 e12 (HS.fr (HS.fr p1 (show kd 3 = 18 from rfl) hC_M (FR.o (FR.rfl [(15, 8)] M) k_t rfl) rfl) (show kd 3 = 18 from rfl) (CI.u hC_M (i := 8) k_t (show (-2147483648 : Int) ≤ _ ∧ _ ≤ (2147483647 : Int) from by omega) rfl) hf_M9 rfl) (TK0.k (show TK0 T ((ju M t 8 v6)) t v4 v6 from ⟨((ju_i _ _ (by decide)).trans e4), (ju_same _ _ _ _), fun k a b => by rw [ju_i _ _ b, p0], fun b k hb => by rw [ju_c _ _ hb, p0]⟩) (by unfold wh1; rw [← w1_0, ← w2_0, p0, e4]; first | (rw [if_neg (by omega)])) (by unfold cm1; rw [← w1_0, ← w2_0, p0, e5]; first | (rw [if_pos (by omega)]; omega) | (rw [if_neg (by omega)]; omega) | (split <;> omega)) (by rw [← w1_0, p0, e8]; omega) w9_0) (TKR.z (fun k => by rw [w9_0.2.2.2 (t + 1) k (by omega) (by omega), ju_c _ _ (show t + 1 ≠ t by omega), p0])) ⟨w1_0, w2_0⟩ (by omega) (by omega) p5 (by omega)
  · refine jr.aload_n rfl rfl ?_
    refine jr.iload_n rfl rfl ?_
    refine jr_v rfl rfl (Or.inl rfl) rfl rfl (by decide) rfl ⟨rfl, Nat.le_of_ble_eq_true rfl, Nat.le_of_ble_eq_true rfl⟩ rfl (jc.deep (c_Headers_isMoreToCome_x hC_M (show kd 3 = 18 from rfl) (by omega) g_C p1 (fun r13 z13 w13_0 => ?_)) (by decide))
    refine jr.if_ne rfl rfl (by omega) (fun h27 => ?_) (fun h27 => ?_)
    · have sx27 : (1 : Int) ≤ r13 := by omega
      refine jr.aload_n rfl rfl ?_
      refine jr.aload_n rfl rfl ?_
      obtain ⟨v14, e14⟩ : ∃ z_, M t 8 = z_ := ⟨_, rfl⟩
      have b14 : (-2147483648) ≤ v14 ∧ v14 ≤ 2147483647 := by rw [← e14]; exact (CI.r hC_M k_t (by decide) 8)
      refine jr.getf (i := 8) (x := v14) (v := .int (Int32.ofInt (v14))) rfl rfl (Nat.lt_trans (kx_15 k_t).1 (by decide)) (kx_15 k_t).2 (by decide) rfl rfl e14 rfl ?_
      refine jr.iload rfl rfl ?_
      refine jr.iload rfl rfl ?_
      refine jr.iadd rfl ?_
      refine jr.imax rfl rfl (Nat.le_of_ble_eq_true rfl) (by omega) (by omega) ?_
      intro v15 d15 b15 c15
      refine jr.putf (i := 8) (x := v15) rfl rfl (Nat.lt_trans (kx_15 k_t).1 (by decide)) (kx_15 k_t).2 (by decide) rfl rfl rfl rfl rfl ?_
      refine jr.iload rfl rfl ?_
      refine jr.if_ne rfl rfl (by omega) (fun h57 => ?_) (fun h57 => ?_)
      · have sx57 : (1 : Int) ≤ r1 := by omega
        refine jr.iconst rfl ?_
        refine jr.istore rfl (by decide) rfl ?_
        refine jr.iconst rfl ?_
        refine jr.istore rfl (by decide) rfl ?_
        obtain ⟨v16, e16⟩ : ∃ z_, M t 11 = z_ := ⟨_, rfl⟩
        have b16 : (-1) ≤ v16 ∧ v16 ≤ 400 := by rw [← e16]; exact (CI.r hC_M k_t (by decide) 11)
        refine jr.pick [6, 3, 2, 1, 0, 4, 5, 7] rfl rfl ?_
        exact c_Gathering_takeIn_x_L80 k_t q 400 ((ju M t 8 v15)) r1 r2 0 0 (CI.u hC_M (i := 8) k_t (show (-2147483648 : Int) ≤ _ ∧ _ ≤ (2147483647 : Int) from by omega) rfl) (FR.o ht_M k_t rfl) (by omega) (by omega) (by omega) (by omega) (by omega) ((ju_i _ _ (by decide)).trans g_C) ((ju_i _ _ (by decide)).trans e4) (ju_same _ _ _ _) (HS.fr p1 (show kd 3 = 18 from rfl) hC_M (FR.o (FR.rfl [(15, 8)] M) k_t rfl) rfl) (TK0.n (show TK0 T ((ju M t 8 v15)) t v4 v15 from ⟨((ju_i _ _ (by decide)).trans e4), (ju_same _ _ _ _), fun k a b => by rw [ju_i _ _ b, p0], fun b k hb => by rw [ju_c _ _ hb, p0]⟩) (by unfold wh1; rw [← w1_0, ← w2_0, p0, e4]; first | (rw [← w13_0, if_pos (by omega)]) | (rw [← w13_0, if_neg (by omega)]) | (rw [if_neg (by omega)])) (by unfold cm1; rw [← w1_0, ← w2_0, p0, e14]; first | (rw [if_pos (by omega)]; omega) | (rw [if_neg (by omega)]; omega) | (split <;> omega)) (by rw [← w1_0, p0, e16]; omega)) (TKR.z (fun k => by rw [ju_c _ _ (show t + 1 ≠ t by omega), p0])) ⟨w1_0, w2_0⟩ (by omega) (by omega) p5 (by omega)
      · refine jr.aload_n rfl rfl ?_
        obtain ⟨v17, e17⟩ : ∃ z_, M t 11 = z_ := ⟨_, rfl⟩
        have b17 : (-1) ≤ v17 ∧ v17 ≤ 400 := by rw [← e17]; exact (CI.r hC_M k_t (by decide) 11)
        refine jr.getf (i := 11) (x := v17) (v := .int (Int32.ofInt (v17))) rfl rfl (Nat.lt_trans (kx_15 k_t).1 (by decide)) (kx_15 k_t).2 (by decide) rfl rfl ((ju_i _ _ (by decide)).trans e17) rfl ?_
        refine jr.iconst rfl ?_
        refine jr.icmp_ne rfl rfl (by omega) (by omega) (fun h65 => ?_) (fun h65 => ?_)
        · have sx65 : (0 : Int) ≤ v17 := by omega
          refine jr.iconst rfl ?_
          refine jr.istore rfl (by decide) rfl ?_
          refine jr.iconst rfl ?_
          refine jr.istore rfl (by decide) rfl ?_
          refine jr.pick [6, 3, 2, 1, 0, 4, 5, 7] rfl rfl ?_
          exact c_Gathering_takeIn_x_L80 k_t q 400 ((ju M t 8 v15)) r1 r2 0 0 (CI.u hC_M (i := 8) k_t (show (-2147483648 : Int) ≤ _ ∧ _ ≤ (2147483647 : Int) from by omega) rfl) (FR.o ht_M k_t rfl) (by omega) (by omega) (by omega) (by omega) (by omega) ((ju_i _ _ (by decide)).trans g_C) ((ju_i _ _ (by decide)).trans e4) (ju_same _ _ _ _) (HS.fr p1 (show kd 3 = 18 from rfl) hC_M (FR.o (FR.rfl [(15, 8)] M) k_t rfl) rfl) (TK0.n (show TK0 T ((ju M t 8 v15)) t v4 v15 from ⟨((ju_i _ _ (by decide)).trans e4), (ju_same _ _ _ _), fun k a b => by rw [ju_i _ _ b, p0], fun b k hb => by rw [ju_c _ _ hb, p0]⟩) (by unfold wh1; rw [← w1_0, ← w2_0, p0, e4]; first | (rw [← w13_0, if_pos (by omega)]) | (rw [← w13_0, if_neg (by omega)]) | (rw [if_neg (by omega)])) (by unfold cm1; rw [← w1_0, ← w2_0, p0, e14]; first | (rw [if_pos (by omega)]; omega) | (rw [if_neg (by omega)]; omega) | (split <;> omega)) (by rw [← w1_0, p0, e17]; omega)) (TKR.z (fun k => by rw [ju_c _ _ (show t + 1 ≠ t by omega), p0])) ⟨w1_0, w2_0⟩ (by omega) (by omega) p5 (by omega)
        · refine jr.aload_n rfl rfl ?_
          refine jr.aload_n rfl rfl ?_
          refine jr.iload_n rfl rfl ?_
          refine jr_v rfl rfl (Or.inl rfl) rfl rfl (Nat.lt_trans (kx_15 k_t).1 (by decide)) (kx_15 k_t).2 ⟨rfl, Nat.le_of_ble_eq_true rfl, Nat.le_of_ble_eq_true rfl⟩ rfl (jc.deep (c_Gathering_keepHeaders_x (CI.u hC_M (i := 8) k_t (show (-2147483648 : Int) ≤ _ ∧ _ ≤ (2147483647 : Int) from by omega) rfl) (FR.rfl _ ((ju M t 8 v15))) k_t (by omega) ((ju_i _ _ (by decide)).trans g_C) rfl (HS.fr p1 (show kd 3 = 18 from rfl) hC_M (FR.o (FR.rfl [(15, 8)] M) k_t rfl) rfl) (by omega) (by omega) (fun M18 hC_M18 hf_M18 w18_0 => ?_)) (by decide))
          have ht_M18 : FR W_c_Gathering_takeIn_x T M18 := FR.t (FR.o ht_M k_t rfl) hf_M18 (kw_sub rfl)
          refine jr.iconst rfl ?_
          refine jr.istore rfl (by decide) rfl ?_
          refine jr.iconst rfl ?_
          refine jr.istore rfl (by decide) rfl ?_
          have e19 : M18 3 3 = C := (hf_M18.g (show kd 3 = 18 from rfl) rfl).trans ((ju_i _ _ (by decide)).trans g_C)
          have e20 : M18 t 7 = v4 := (hf_M18.g k_t rfl).trans ((ju_i _ _ (by decide)).trans e4)
          have e21 : M18 t 8 = v15 := (hf_M18.g k_t rfl).trans (ju_same _ _ _ _)
          refine jr.pick [6, 3, 2, 1, 0, 4, 5, 7] rfl rfl ?_
          exact c_Gathering_takeIn_x_L80 k_t q 400 M18 r1 r2 0 0 hC_M18 ht_M18 (by omega) (by omega) (by omega) (by omega) (by omega) e19 e20 e21 (HS.fr (HS.fr p1 (show kd 3 = 18 from rfl) hC_M (FR.o (FR.rfl [(15, 8)] M) k_t rfl) rfl) (show kd 3 = 18 from rfl) (CI.u hC_M (i := 8) k_t (show (-2147483648 : Int) ≤ _ ∧ _ ≤ (2147483647 : Int) from by omega) rfl) hf_M18 rfl) (TK0.k (show TK0 T ((ju M t 8 v15)) t v4 v15 from ⟨((ju_i _ _ (by decide)).trans e4), (ju_same _ _ _ _), fun k a b => by rw [ju_i _ _ b, p0], fun b k hb => by rw [ju_c _ _ hb, p0]⟩) (by unfold wh1; rw [← w1_0, ← w2_0, p0, e4]; first | (rw [← w13_0, if_pos (by omega)]) | (rw [← w13_0, if_neg (by omega)]) | (rw [if_neg (by omega)])) (by unfold cm1; rw [← w1_0, ← w2_0, p0, e14]; first | (rw [if_pos (by omega)]; omega) | (rw [if_neg (by omega)]; omega) | (split <;> omega)) (by rw [← w1_0, p0, e17]; omega) w18_0) (TKR.z (fun k => by rw [w18_0.2.2.2 (t + 1) k (by omega) (by omega), ju_c _ _ (show t + 1 ≠ t by omega), p0])) ⟨w1_0, w2_0⟩ (by omega) (by omega) p5 (by omega)
    · refine jr.aload_n rfl rfl ?_
      refine jr.iload rfl rfl ?_
      refine jr.iload rfl rfl ?_
      refine jr.iadd rfl ?_
      refine jr.putf (i := 7) (x := (r1 + r2)) rfl rfl (Nat.lt_trans (kx_15 k_t).1 (by decide)) (kx_15 k_t).2 (by decide) rfl rfl rfl rfl rfl ?_
      refine jr.aload_n rfl rfl ?_
      refine jr.aload_n rfl rfl ?_
      obtain ⟨v22, e22⟩ : ∃ z_, M t 8 = z_ := ⟨_, rfl⟩
      have b22 : (-2147483648) ≤ v22 ∧ v22 ≤ 2147483647 := by rw [← e22]; exact (CI.r hC_M k_t (by decide) 8)
      refine jr.getf (i := 8) (x := v22) (v := .int (Int32.ofInt (v22))) rfl rfl (Nat.lt_trans (kx_15 k_t).1 (by decide)) (kx_15 k_t).2 (by decide) rfl rfl ((ju_i _ _ (by decide)).trans e22) rfl ?_
      refine jr.iload rfl rfl ?_
      refine jr.iload rfl rfl ?_
      refine jr.iadd rfl ?_
      refine jr.imax rfl rfl (Nat.le_of_ble_eq_true rfl) (by omega) (by omega) ?_
      intro v23 d23 b23 c23
      refine jr.putf (i := 8) (x := v23) rfl rfl (Nat.lt_trans (kx_15 k_t).1 (by decide)) (kx_15 k_t).2 (by decide) rfl rfl rfl rfl rfl ?_
      refine jr.iload rfl rfl ?_
      refine jr.if_ne rfl rfl (by omega) (fun h57 => ?_) (fun h57 => ?_)
      · have sx57 : (1 : Int) ≤ r1 := by omega
        refine jr.iconst rfl ?_
        refine jr.istore rfl (by decide) rfl ?_
        refine jr.iconst rfl ?_
        refine jr.istore rfl (by decide) rfl ?_
        obtain ⟨v24, e24⟩ : ∃ z_, M t 11 = z_ := ⟨_, rfl⟩
        have b24 : (-1) ≤ v24 ∧ v24 ≤ 400 := by rw [← e24]; exact (CI.r hC_M k_t (by decide) 11)
        refine jr.pick [6, 3, 2, 1, 0, 4, 5, 7] rfl rfl ?_
        exact c_Gathering_takeIn_x_L80 k_t q 400 ((ju (ju M t 7 (r1 + r2)) t 8 v23)) r1 r2 0 0 (CI.u (CI.u hC_M (i := 7) k_t (show (-1 : Int) ≤ _ ∧ _ ≤ (70000 : Int) from by omega) rfl) (i := 8) k_t (show (-2147483648 : Int) ≤ _ ∧ _ ≤ (2147483647 : Int) from by omega) rfl) (FR.o (FR.o ht_M k_t rfl) k_t rfl) (by omega) (by omega) (by omega) (by omega) (by omega) ((ju_i _ _ (by decide)).trans ((ju_i _ _ (by decide)).trans g_C)) ((ju_i _ _ (by decide)).trans (ju_same _ _ _ _)) (ju_same _ _ _ _) (HS.fr p1 (show kd 3 = 18 from rfl) hC_M (FR.o (FR.o (FR.rfl [(15, 7), (15, 8)] M) k_t rfl) k_t rfl) rfl) (TK0.n (show TK0 T ((ju (ju M t 7 (r1 + r2)) t 8 v23)) t (r1 + r2) v23 from ⟨((ju_i _ _ (by decide)).trans (ju_same _ _ _ _)), (ju_same _ _ _ _), fun k a b => by rw [ju_i _ _ b, ju_i _ _ a, p0], fun b k hb => by rw [ju_c _ _ hb, ju_c _ _ hb, p0]⟩) (by unfold wh1; rw [← w1_0, ← w2_0, p0, e4]; first | (rw [← w13_0, if_pos (by omega)]) | (rw [← w13_0, if_neg (by omega)]) | (rw [if_neg (by omega)])) (by unfold cm1; rw [← w1_0, ← w2_0, p0, e22]; first | (rw [if_pos (by omega)]; omega) | (rw [if_neg (by omega)]; omega) | (split <;> omega)) (by rw [← w1_0, p0, e24]; omega)) (TKR.z (fun k => by rw [ju_c _ _ (show t + 1 ≠ t by omega), ju_c _ _ (show t + 1 ≠ t by omega), p0])) ⟨w1_0, w2_0⟩ (by omega) (by omega) p5 (by omega)
      · refine jr.aload_n rfl rfl ?_
        obtain ⟨v25, e25⟩ : ∃ z_, M t 11 = z_ := ⟨_, rfl⟩
        have b25 : (-1) ≤ v25 ∧ v25 ≤ 400 := by rw [← e25]; exact (CI.r hC_M k_t (by decide) 11)
        refine jr.getf (i := 11) (x := v25) (v := .int (Int32.ofInt (v25))) rfl rfl (Nat.lt_trans (kx_15 k_t).1 (by decide)) (kx_15 k_t).2 (by decide) rfl rfl ((ju_i _ _ (by decide)).trans ((ju_i _ _ (by decide)).trans e25)) rfl ?_
        refine jr.iconst rfl ?_
        refine jr.icmp_ne rfl rfl (by omega) (by omega) (fun h65 => ?_) (fun h65 => ?_)
        · have sx65 : (0 : Int) ≤ v25 := by omega
          refine jr.iconst rfl ?_
          refine jr.istore rfl (by decide) rfl ?_
          refine jr.iconst rfl ?_
          refine jr.istore rfl (by decide) rfl ?_
          refine jr.pick [6, 3, 2, 1, 0, 4, 5, 7] rfl rfl ?_
          exact c_Gathering_takeIn_x_L80 k_t q 400 ((ju (ju M t 7 (r1 + r2)) t 8 v23)) r1 r2 0 0 (CI.u (CI.u hC_M (i := 7) k_t (show (-1 : Int) ≤ _ ∧ _ ≤ (70000 : Int) from by omega) rfl) (i := 8) k_t (show (-2147483648 : Int) ≤ _ ∧ _ ≤ (2147483647 : Int) from by omega) rfl) (FR.o (FR.o ht_M k_t rfl) k_t rfl) (by omega) (by omega) (by omega) (by omega) (by omega) ((ju_i _ _ (by decide)).trans ((ju_i _ _ (by decide)).trans g_C)) ((ju_i _ _ (by decide)).trans (ju_same _ _ _ _)) (ju_same _ _ _ _) (HS.fr p1 (show kd 3 = 18 from rfl) hC_M (FR.o (FR.o (FR.rfl [(15, 7), (15, 8)] M) k_t rfl) k_t rfl) rfl) (TK0.n (show TK0 T ((ju (ju M t 7 (r1 + r2)) t 8 v23)) t (r1 + r2) v23 from ⟨((ju_i _ _ (by decide)).trans (ju_same _ _ _ _)), (ju_same _ _ _ _), fun k a b => by rw [ju_i _ _ b, ju_i _ _ a, p0], fun b k hb => by rw [ju_c _ _ hb, ju_c _ _ hb, p0]⟩) (by unfold wh1; rw [← w1_0, ← w2_0, p0, e4]; first | (rw [← w13_0, if_pos (by omega)]) | (rw [← w13_0, if_neg (by omega)]) | (rw [if_neg (by omega)])) (by unfold cm1; rw [← w1_0, ← w2_0, p0, e22]; first | (rw [if_pos (by omega)]; omega) | (rw [if_neg (by omega)]; omega) | (split <;> omega)) (by rw [← w1_0, p0, e25]; omega)) (TKR.z (fun k => by rw [ju_c _ _ (show t + 1 ≠ t by omega), ju_c _ _ (show t + 1 ≠ t by omega), p0])) ⟨w1_0, w2_0⟩ (by omega) (by omega) p5 (by omega)
        · refine jr.aload_n rfl rfl ?_
          refine jr.aload_n rfl rfl ?_
          refine jr.iload_n rfl rfl ?_
          refine jr_v rfl rfl (Or.inl rfl) rfl rfl (Nat.lt_trans (kx_15 k_t).1 (by decide)) (kx_15 k_t).2 ⟨rfl, Nat.le_of_ble_eq_true rfl, Nat.le_of_ble_eq_true rfl⟩ rfl (jc.deep (c_Gathering_keepHeaders_x (CI.u (CI.u hC_M (i := 7) k_t (show (-1 : Int) ≤ _ ∧ _ ≤ (70000 : Int) from by omega) rfl) (i := 8) k_t (show (-2147483648 : Int) ≤ _ ∧ _ ≤ (2147483647 : Int) from by omega) rfl) (FR.rfl _ ((ju (ju M t 7 (r1 + r2)) t 8 v23))) k_t (by omega) ((ju_i _ _ (by decide)).trans ((ju_i _ _ (by decide)).trans g_C)) rfl (HS.fr p1 (show kd 3 = 18 from rfl) hC_M (FR.o (FR.o (FR.rfl [(15, 7), (15, 8)] M) k_t rfl) k_t rfl) rfl) (by omega) (by omega) (fun M26 hC_M26 hf_M26 w26_0 => ?_)) (by decide))
          have ht_M26 : FR W_c_Gathering_takeIn_x T M26 := FR.t (FR.o (FR.o ht_M k_t rfl) k_t rfl) hf_M26 (kw_sub rfl)
          refine jr.iconst rfl ?_
          refine jr.istore rfl (by decide) rfl ?_
          refine jr.iconst rfl ?_
          refine jr.istore rfl (by decide) rfl ?_
          have e27 : M26 3 3 = C := (hf_M26.g (show kd 3 = 18 from rfl) rfl).trans ((ju_i _ _ (by decide)).trans ((ju_i _ _ (by decide)).trans g_C))
          have e28 : M26 t 7 = r1 + r2 := (hf_M26.g k_t rfl).trans ((ju_i _ _ (by decide)).trans (ju_same _ _ _ _))
          have e29 : M26 t 8 = v23 := (hf_M26.g k_t rfl).trans (ju_same _ _ _ _)
          refine jr.pick [6, 3, 2, 1, 0, 4, 5, 7] rfl rfl ?_
          exact c_Gathering_takeIn_x_L80 k_t q 400 M26 r1 r2 0 0 hC_M26 ht_M26 (by omega) (by omega) (by omega) (by omega) (by omega) e27 e28 e29 (HS.fr (HS.fr p1 (show kd 3 = 18 from rfl) hC_M (FR.o (FR.o (FR.rfl [(15, 7), (15, 8)] M) k_t rfl) k_t rfl) rfl) (show kd 3 = 18 from rfl) (CI.u (CI.u hC_M (i := 7) k_t (show (-1 : Int) ≤ _ ∧ _ ≤ (70000 : Int) from by omega) rfl) (i := 8) k_t (show (-2147483648 : Int) ≤ _ ∧ _ ≤ (2147483647 : Int) from by omega) rfl) hf_M26 rfl) (TK0.k (show TK0 T ((ju (ju M t 7 (r1 + r2)) t 8 v23)) t (r1 + r2) v23 from ⟨((ju_i _ _ (by decide)).trans (ju_same _ _ _ _)), (ju_same _ _ _ _), fun k a b => by rw [ju_i _ _ b, ju_i _ _ a, p0], fun b k hb => by rw [ju_c _ _ hb, ju_c _ _ hb, p0]⟩) (by unfold wh1; rw [← w1_0, ← w2_0, p0, e4]; first | (rw [← w13_0, if_pos (by omega)]) | (rw [← w13_0, if_neg (by omega)]) | (rw [if_neg (by omega)])) (by unfold cm1; rw [← w1_0, ← w2_0, p0, e22]; first | (rw [if_pos (by omega)]; omega) | (rw [if_neg (by omega)]; omega) | (split <;> omega)) (by rw [← w1_0, p0, e25]; omega) w26_0) (TKR.z (fun k => by rw [w26_0.2.2.2 (t + 1) k (by omega) (by omega), ju_c _ _ (show t + 1 ≠ t by omega), ju_c _ _ (show t + 1 ≠ t by omega), p0])) ⟨w1_0, w2_0⟩ (by omega) (by omega) p5 (by omega)
end
section
/-! ===== the class: a packet is put together ===== -/
noncomputable def hlf (K L : Int) : Int := if K = 6 then L - 8 else L
noncomputable def mk0 (kp rw f : Int → Int) (A W : Int) : Int → Int := fun k => if 0 ≤ k ∧ k < A then kp k else if A ≤ k ∧ k < A + W then rw (k - A) else f k
noncomputable def mk2 (g : Int → Int) (nt ln : Int) : Int → Int := ptn (ptn g (nt + 2) 2 (ln - nt)) (nt + 6) 2 0
noncomputable def mkF (g : Int → Int) (K A W nt nx nv : Int) : Int → Int := if K = 2 then ptn (mk2 g nt (A + W)) (nt + 10) 2 (tn (sb (fz (mk2 g nt (A + W)) (nt + 10)) nt (A - nt).toNat)) else ptn (ptn g nx 1 nv) (nt + 2) 2 (A + W - nt - 24)
theorem ptn_2 (f : Int → Int) (y v w : Int) : ptn (ptn f y 2 v) y 2 w = ptn f y 2 w := by
  funext k
  unfold ptn
  by_cases q : y ≤ k ∧ k < y + 2
  · rw [if_pos q, if_pos q]
  · rw [if_neg q, if_neg q, if_neg q]
theorem sb_p0 {f : Int → Int} {y a : Int} (n : Nat) : sb (ptn f y 2 0) a n = sb (fz f y) a n := sb_e n (fun i _ _ => by
  unfold ptn fz
  by_cases q : y ≤ i ∧ i < y + 2
  · rw [if_pos q, if_pos (by omega)]
    unfold bt
    (repeat' split) <;> omega
  · rw [if_neg q, if_neg (by omega)])
/-- rows from which a packet is put together -/
noncomputable def MKP (M : jm) (t : Nat) (kp rw : Int → Int) (A W : Int) : Prop := (∀ k : Int, 0 ≤ k → k < A → M (t + 2) k = kp k ∧ 0 ≤ kp k ∧ kp k ≤ 255) ∧ ∀ k : Int, 0 ≤ k → k < W → M (t + 1) k = rw k ∧ 0 ≤ rw k ∧ rw k ≤ 255
theorem mk0_b {M1 M2 M : jm} {t c : Nat} {kp rw f : Int → Int} {A W : Int} (h : MKP M t kp rw A W) (hb : BY8 M c f) (hA : 0 ≤ A ∧ 0 ≤ W ∧ A + W ≤ 400) (c1 : t + 2 ≠ c) (c2 : t + 1 ≠ c) (e1 : ∀ (b : Nat) (k : Int), M1 b k = if b = c ∧ 0 ≤ k ∧ k < 0 + A then M (t + 2) (0 + (k - 0)) else M b k) (e2 : ∀ (b : Nat) (k : Int), M2 b k = if b = c ∧ A ≤ k ∧ k < A + W then M1 (t + 1) (0 + (k - A)) else M1 b k) : BY8 M2 c (mk0 kp rw f A W) := by
  intro i h0 h1
  rw [e2]
  unfold mk0
  by_cases q : A ≤ i ∧ i < A + W
  · rw [if_pos ⟨rfl, q⟩, if_neg (by omega), if_pos q, e1, if_neg (by intro h; exact c2 h.1), show 0 + (i - A) = i - A by omega]
    exact h.2 (i - A) (by omega) (by omega)
  · rw [if_neg (by intro h; exact q h.2), e1]
    by_cases q2 : 0 ≤ i ∧ i < A
    · rw [if_pos ⟨rfl, by omega⟩, if_pos q2, show 0 + (i - 0) = i by omega]
      exact h.1 i q2.1 q2.2
    · rw [if_neg (by intro h; exact q2 ⟨h.2.1, by omega⟩), if_neg q2, if_neg q]
      exact hb i h0 h1
theorem c_Gathering_headersLength_x {A : Nat → Option (Nat × (Nat → Int32))} {Q : Option Value → jm → Prop} {M : jm} (hC_M : CI M) {t : Nat} (k_t : kd t = 15) {K : Int} (g_K : M t 1 = K) {L : Int} (g_L : M t 11 = L) (q : ∀ (r : Int), (-9) ≤ r ∧ r ≤ 400 → (r = hlf K L) → Q (some (.int (Int32.ofInt r))) M) : jc A 1 101 [.ref (t)] M Q := by
  refine jc_of (m := xm_101) rfl (Nat.le_of_ble_eq_true rfl) rfl ?_
  have b_K : (-2147483648) ≤ K ∧ K ≤ 2147483647 := by rw [← g_K]; exact (CI.r hC_M k_t (by decide) 1)
  have b_L : (-1) ≤ L ∧ L ≤ 400 := by rw [← g_L]; exact (CI.r hC_M k_t (by decide) 11)
  refine jr.aload_n rfl rfl ?_
  refine jr.getf (i := 1) (x := K) (v := .int (Int32.ofInt (K))) rfl rfl (Nat.lt_trans (kx_15 k_t).1 (by decide)) (kx_15 k_t).2 (by decide) rfl rfl g_K rfl ?_
  refine jr.bipush rfl (by decide) ?_
  refine jr.icmp_ne rfl rfl (by omega) (by omega) (fun h6 => ?_) (fun h6 => ?_)
  · refine jr.aload_n rfl rfl ?_
    refine jr.getf (i := 11) (x := L) (v := .int (Int32.ofInt (L))) rfl rfl (Nat.lt_trans (kx_15 k_t).1 (by decide)) (kx_15 k_t).2 (by decide) rfl rfl g_L rfl ?_
    exact jr.ireturn rfl rfl rfl (q _ (by omega) (by unfold hlf; (repeat' split) <;> omega))
  · refine jr.aload_n rfl rfl ?_
    refine jr.getf (i := 11) (x := L) (v := .int (Int32.ofInt (L))) rfl rfl (Nat.lt_trans (kx_15 k_t).1 (by decide)) (kx_15 k_t).2 (by decide) rfl rfl g_L rfl ?_
    refine jr.bipush rfl (by decide) ?_
    refine jr.isub rfl ?_
    refine jr.goto rfl rfl ?_
    exact jr.ireturn rfl rfl rfl (q _ (by omega) (by unfold hlf; (repeat' split) <;> omega))
theorem c_Gathering_packetLength_x {A : Nat → Option (Nat × (Nat → Int32))} {Q : Option Value → jm → Prop} {M : jm} (hC_M : CI M) {t : Nat} (k_t : kd t = 15) {K : Int} (g_K : M t 1 = K) {L : Int} (g_L : M t 11 = L) {W : Int} (g_W : M t 7 = W) (q : ∀ (r : Int), (-10) ≤ r ∧ r ≤ 70400 → (r = hlf K L + W) → Q (some (.int (Int32.ofInt r))) M) : jc A 2 98 [.ref (t)] M Q := by
  refine jc_of (m := xm_98) rfl (Nat.le_of_ble_eq_true rfl) rfl ?_
  have b_K : (-2147483648) ≤ K ∧ K ≤ 2147483647 := by rw [← g_K]; exact (CI.r hC_M k_t (by decide) 1)
  have b_L : (-1) ≤ L ∧ L ≤ 400 := by rw [← g_L]; exact (CI.r hC_M k_t (by decide) 11)
  have b_W : (-1) ≤ W ∧ W ≤ 70000 := by rw [← g_W]; exact (CI.r hC_M k_t (by decide) 7)
  refine jr.aload_n rfl rfl ?_
  refine jr_v rfl rfl (Or.inl rfl) rfl rfl (Nat.lt_trans (kx_15 k_t).1 (by decide)) (kx_15 k_t).2 ⟨rfl, Nat.le_of_ble_eq_true rfl, Nat.le_of_ble_eq_true rfl⟩ rfl (jc.deep (c_Gathering_headersLength_x hC_M k_t g_K g_L (fun r1 z1 w1_0 => ?_)) (by decide))
  refine jr.aload_n rfl rfl ?_
  refine jr.getf (i := 7) (x := W) (v := .int (Int32.ofInt (W))) rfl rfl (Nat.lt_trans (kx_15 k_t).1 (by decide)) (kx_15 k_t).2 (by decide) rfl rfl g_W rfl ?_
  refine jr.iadd rfl ?_
  exact jr.ireturn rfl rfl rfl (q _ (by omega) (by omega))
theorem mkF_2 {g : Int → Int} {K A W nt nx nv l a s v : Int} (hK : K = 2) (hl : l = A + W) (ha : a = A) (hs : s = sb (ptn (ptn (ptn g (nt + 2) 2 (l - nt)) (nt + 6) 2 0) (nt + 10) 2 0) nt (a - nt).toNat) (hv : v = tn s) : ptn (ptn (ptn (ptn g (nt + 2) 2 (l - nt)) (nt + 6) 2 0) (nt + 10) 2 0) (nt + 10) 2 v = mkF g K A W nt nx nv := by
  subst hl
  subst ha
  unfold mkF
  rw [if_pos hK, ptn_2, hv, hs, sb_p0]
  rfl
theorem mkF_6 {g : Int → Int} {K A W nt nx nv l : Int} (hK : K ≠ 2) (hl : l = A + W) : ptn (ptn g nx 1 nv) (nt + 2) 2 (l - nt - 24) = mkF g K A W nt nx nv := by
  subst hl
  unfold mkF
  rw [if_neg hK]
theorem lpf_w {w : Int} (h : 0 ≤ w ∧ w ≤ 360) : lpf w = w := by
  unfold lpf
  rw [if_neg (by omega), if_pos h.2]
/-- what makePacket leaves behind -/
noncomputable def MKD (T M : jm) (x : Nat) (h : Int → Int) (ln : Int) : Prop := BY8 M (x + 1) h ∧ M x 1 = ln ∧ M x 2 = 0 ∧ ∀ (b : Nat) (k : Int), b ≠ x → b ≠ x + 1 → M b k = T b k
noncomputable def W_c_Gathering_makePacket_x : List (Nat × Nat) := [(33, 1), (33, 2), (34, 1000)]
theorem c_Gathering_makePacket_x {A : Nat → Option (Nat × (Nat → Int32))} {Q : Option Value → jm → Prop} {kp rw f : Int → Int} {T : jm} {M : jm} (hC_M : CI M) (ht_M : FR W_c_Gathering_makePacket_x T M) {t : Nat} (k_t : kd t = 15) {x : Nat} (k_x : kd x = 33) {K : Int} (g_K : M t 1 = K) {W : Int} (g_W : M t 7 = W) {L : Int} (g_L : M t 11 = L) {P : Int} (g_P : M t 12 = P) {U : Int} (g_U : M t 13 = U) {X : Int} (g_X : M t 5 = X) (p0 : T = M) (p1 : MKP M t kp rw (hlf K L) W) (p2 : BY8 M (x + 1) f) (p3 : (0 ≤ W ∧ W ≤ 360) ∧ 8 ≤ L ∧ (0 ≤ hlf K L ∧ hlf K L + W ≤ 400)) (p4 : (K ≠ 2 ∨ (P + 20 ≤ hlf K L)) ∧ 0 ≤ P ∧ P ≤ 400) (q : ∀ (M' : jm), CI M' → FR W_c_Gathering_makePacket_x T M' → (MKD T M' x (mkF (mk0 kp rw f (hlf K L) W) K (hlf K L) W P U X) (hlf K L + W)) → Q none M') : jc A 3 99 [.ref (t), .ref (x)] M Q := by
  refine jc_of (m := xm_99) rfl (Nat.le_of_ble_eq_true rfl) rfl ?_
  have b_K : (-2147483648) ≤ K ∧ K ≤ 2147483647 := by rw [← g_K]; exact (CI.r hC_M k_t (by decide) 1)
  have b_W : (-1) ≤ W ∧ W ≤ 70000 := by rw [← g_W]; exact (CI.r hC_M k_t (by decide) 7)
  have b_L : (-1) ≤ L ∧ L ≤ 400 := by rw [← g_L]; exact (CI.r hC_M k_t (by decide) 11)
  have b_P : (-1) ≤ P ∧ P ≤ 400 := by rw [← g_P]; exact (CI.r hC_M k_t (by decide) 12)
  have b_U : (-1) ≤ U ∧ U ≤ 404 := by rw [← g_U]; exact (CI.r hC_M k_t (by decide) 13)
  have b_X : (-9223372036854775808) ≤ X ∧ X ≤ 9223372036854775807 := by rw [← g_X]; exact (CI.r hC_M k_t (by decide) 5)
  have k_by : kd (x + 1) = 34 := (kf_33_0 k_x).2
  refine jr.aload_n rfl rfl ?_
  refine jr_v rfl rfl (Or.inl rfl) rfl rfl (Nat.lt_trans (kx_15 k_t).1 (by decide)) (kx_15 k_t).2 ⟨rfl, Nat.le_of_ble_eq_true rfl, Nat.le_of_ble_eq_true rfl⟩ rfl (jc.deep (c_Gathering_headersLength_x hC_M k_t g_K g_L (fun r1 z1 w1_0 => ?_)) (by decide))
  refine jr.istore_n rfl (by decide) rfl ?_
  refine jr.aload_n rfl rfl ?_
  have k2 := kf_15_10 k_t
  refine jr.getf (i := 10) (v := .ref (t + 2)) rfl rfl (Nat.lt_trans (kx_15 k_t).1 (by decide)) (kx_15 k_t).2 (by decide) rfl rfl rfl (jval_ref rfl k2.1) ?_
  refine jr.iconst rfl ?_
  refine jr.aload_n rfl rfl ?_
  have k3 := kf_33_0 k_x
  refine jr.getf (i := 0) (v := .ref (x + 1)) rfl rfl (Nat.lt_trans (kx_33 k_x).1 (by decide)) (kx_33 k_x).2 (by decide) rfl rfl rfl (jval_ref rfl k3.1) ?_
  refine jr.iconst rfl ?_
  refine jr.iload_n rfl rfl ?_
  refine jr.acp rfl rfl (Nat.le_of_ble_eq_true rfl) (Nat.lt_trans (kx_16 k2.2).1 (by decide)) (kx_16 k2.2).2 (Nat.lt_trans (kx_34 k3.2).1 (by decide)) (kx_34 k3.2).2 (by decide) (by decide) (by omega) (by omega) (by omega) (by omega) (by omega) ?_
  have hC_M4 : CI (jcpy M ((t + 2)) 0 ((x + 1)) 0 r1) := CI.cpy hC_M k2.2 k3.2 (by decide) (fun i j => (show (-1 : Int) ≤ (-1 : Int) ∧ (255 : Int) ≤ (255 : Int) from by decide)) (fun _ => rfl)
  have ht_M4 : FR W_c_Gathering_makePacket_x T (jcpy M ((t + 2)) 0 ((x + 1)) 0 r1) := FR.cpy ht_M k3.2 (fun _ => rfl)
  have hf_M4 : FR [(34, 1000)] M (jcpy M ((t + 2)) 0 ((x + 1)) 0 r1) := FR.cpy (FR.rfl _ _) k3.2 (fun _ => rfl)
  have hx_M4 : ∀ (b : Nat) (k : Int), jcpy M ((t + 2)) 0 ((x + 1)) 0 r1 b k = if b = (x + 1) ∧ 0 ≤ k ∧ k < 0 + r1 then M ((t + 2)) (0 + (k - 0)) else M b k := fun _ _ => rfl
  generalize jcpy M ((t + 2)) 0 ((x + 1)) 0 r1 = M4 at hC_M4 ht_M4 hf_M4 hx_M4 ⊢
  refine jr.aload_n rfl rfl ?_
  have k5 := kf_15_9 k_t
  refine jr.getf (i := 9) (v := .ref (t + 1)) rfl rfl (Nat.lt_trans (kx_15 k_t).1 (by decide)) (kx_15 k_t).2 (by decide) rfl rfl rfl (jval_ref rfl k5.1) ?_
  refine jr.iconst rfl ?_
  refine jr.aload_n rfl rfl ?_
  have k6 := kf_33_0 k_x
  refine jr.getf (i := 0) (v := .ref (x + 1)) rfl rfl (Nat.lt_trans (kx_33 k_x).1 (by decide)) (kx_33 k_x).2 (by decide) rfl rfl rfl (jval_ref rfl k6.1) ?_
  refine jr.iload_n rfl rfl ?_
  refine jr.aload_n rfl rfl ?_
  have e8 : M4 t 7 = W := (hf_M4.g k_t rfl).trans g_W
  refine jr_v rfl rfl (Or.inl rfl) rfl rfl (Nat.lt_trans (kx_15 k_t).1 (by decide)) (kx_15 k_t).2 ⟨rfl, Nat.le_of_ble_eq_true rfl, Nat.le_of_ble_eq_true rfl⟩ rfl (jc.deep (c_Gathering_lastPlace_x hC_M4 k_t e8 (fun r7 z7 w7_0 => ?_)) (by decide))
  have hlw : r7 = W := (by rw [w7_0, lpf_w (by omega)])
  refine jr.acp rfl rfl (Nat.le_of_ble_eq_true rfl) (Nat.lt_trans (kx_17 k5.2).1 (by decide)) (kx_17 k5.2).2 (Nat.lt_trans (kx_34 k6.2).1 (by decide)) (kx_34 k6.2).2 (by decide) (by decide) (by omega) (by omega) (by omega) (by omega) (by omega) ?_
  have hC_M9 : CI (jcpy M4 ((t + 1)) 0 ((x + 1)) r1 r7) := CI.cpy hC_M4 k5.2 k6.2 (by decide) (fun i j => (show (-1 : Int) ≤ (-1 : Int) ∧ (255 : Int) ≤ (255 : Int) from by decide)) (fun _ => rfl)
  have ht_M9 : FR W_c_Gathering_makePacket_x T (jcpy M4 ((t + 1)) 0 ((x + 1)) r1 r7) := FR.cpy ht_M4 k6.2 (fun _ => rfl)
  have hf_M9 : FR [(34, 1000)] M4 (jcpy M4 ((t + 1)) 0 ((x + 1)) r1 r7) := FR.cpy (FR.rfl _ _) k6.2 (fun _ => rfl)
  have hx_M9 : ∀ (b : Nat) (k : Int), jcpy M4 ((t + 1)) 0 ((x + 1)) r1 r7 b k = if b = (x + 1) ∧ r1 ≤ k ∧ k < r1 + r7 then M4 ((t + 1)) (0 + (k - r1)) else M4 b k := fun _ _ => rfl
  generalize jcpy M4 ((t + 1)) 0 ((x + 1)) r1 r7 = M9 at hC_M9 ht_M9 hf_M9 hx_M9 ⊢
  refine jr.aload_n rfl rfl ?_
  refine jr.aload_n rfl rfl ?_
  have e11 : M4 t 1 = K := (hf_M4.g k_t rfl).trans g_K
  have e12 : M9 t 1 = K := (hf_M9.g k_t rfl).trans e11
  have e13 : M4 t 11 = L := (hf_M4.g k_t rfl).trans g_L
  have e14 : M9 t 11 = L := (hf_M9.g k_t rfl).trans e13
  have e15 : M9 t 7 = W := (hf_M9.g k_t rfl).trans e8
  refine jr_v rfl rfl (Or.inl rfl) rfl rfl (Nat.lt_trans (kx_15 k_t).1 (by decide)) (kx_15 k_t).2 ⟨rfl, Nat.le_of_ble_eq_true rfl, Nat.le_of_ble_eq_true rfl⟩ rfl (jc.deep (c_Gathering_packetLength_x hC_M9 k_t e12 e14 e15 (fun r10 z10 w10_0 => ?_)) (by decide))
  refine jr.putf (i := 1) (x := r10) rfl rfl (Nat.lt_trans (kx_33 k_x).1 (by decide)) (kx_33 k_x).2 (by decide) rfl rfl rfl rfl rfl ?_
  refine jr.aload_n rfl rfl ?_
  refine jr.lconst (x := 0) rfl (by decide) ?_
  refine jr.putf (i := 2) (x := 0) rfl rfl (Nat.lt_trans (kx_33 k_x).1 (by decide)) (kx_33 k_x).2 (by decide) rfl rfl rfl rfl rfl ?_
  refine jr.aload_n rfl rfl ?_
  refine jr.getf (i := 1) (x := K) (v := .int (Int32.ofInt (K))) rfl rfl (Nat.lt_trans (kx_15 k_t).1 (by decide)) (kx_15 k_t).2 (by decide) rfl rfl ((ju_i _ _ (by decide)).trans ((ju_c _ _ (kd_ne (by rw [k_t, k_x]; decide))).trans e12)) rfl ?_
  refine jr.iconst rfl ?_
  refine jr.icmp_ne rfl rfl (by omega) (by omega) (fun h54 => ?_) (fun h54 => ?_)
  · refine jr.aload_n rfl rfl ?_
    have k16 := kf_33_0 k_x
    refine jr.getf (i := 0) (v := .ref (x + 1)) rfl rfl (Nat.lt_trans (kx_33 k_x).1 (by decide)) (kx_33 k_x).2 (by decide) rfl rfl rfl (jval_ref rfl k16.1) ?_
    refine jr.aload_n rfl rfl ?_
    have e17 : M4 t 13 = U := (hf_M4.g k_t rfl).trans g_U
    have e18 : M9 t 13 = U := (hf_M9.g k_t rfl).trans e17
    refine jr.getf (i := 13) (x := U) (v := .int (Int32.ofInt (U))) rfl rfl (Nat.lt_trans (kx_15 k_t).1 (by decide)) (kx_15 k_t).2 (by decide) rfl rfl ((ju_i _ _ (by decide)).trans ((ju_i _ _ (by decide)).trans e18)) rfl ?_
    refine jr.iconst rfl ?_
    refine jr.aload_n rfl rfl ?_
    have e19 : M4 t 5 = X := (hf_M4.g k_t rfl).trans g_X
    have e20 : M9 t 5 = X := (hf_M9.g k_t rfl).trans e19
    refine jr.getf (i := 5) (x := X) (v := .long (Int64.ofInt (X))) rfl rfl (Nat.lt_trans (kx_15 k_t).1 (by decide)) (kx_15 k_t).2 (by decide) rfl rfl ((ju_i _ _ (by decide)).trans ((ju_i _ _ (by decide)).trans e20)) rfl ?_
    refine jr_s rfl rfl (Or.inr rfl) ⟨Nat.le_of_ble_eq_true rfl, Nat.le_of_ble_eq_true rfl⟩ rfl rfl (jc.deep (c_PacketWall_putNumber_pf (CI.u (CI.u hC_M9 (i := 1) k_x (show (-1 : Int) ≤ _ ∧ _ ≤ (400 : Int) from by omega) rfl) (i := 2) k_x (show (-9223372036854775808 : Int) ≤ _ ∧ _ ≤ (9223372036854775807 : Int) from by omega) rfl) (FR.rfl _ ((ju (ju M9 x 1 r10) x 2 0))) k16.2 (by omega) (by omega) (by omega) rfl (fun M21 hC_M21 hf_M21 w21_0 => ?_)) (by decide))
    have ht_M21 : FR W_c_Gathering_makePacket_x T M21 := FR.t (FR.o (FR.o ht_M9 k_x rfl) k_x rfl) hf_M21 (kw_sub rfl)
    refine jr.aload_n rfl rfl ?_
    have k22 := kf_33_0 k_x
    refine jr.getf (i := 0) (v := .ref (x + 1)) rfl rfl (Nat.lt_trans (kx_33 k_x).1 (by decide)) (kx_33 k_x).2 (by decide) rfl rfl rfl (jval_ref rfl k22.1) ?_
    refine jr.aload_n rfl rfl ?_
    have e23 : M4 t 12 = P := (hf_M4.g k_t rfl).trans g_P
    have e24 : M9 t 12 = P := (hf_M9.g k_t rfl).trans e23
    have e25 : M21 t 12 = P := (hf_M21.g k_t rfl).trans ((ju_i _ _ (by decide)).trans ((ju_i _ _ (by decide)).trans e24))
    refine jr.getf (i := 12) (x := P) (v := .int (Int32.ofInt (P))) rfl rfl (Nat.lt_trans (kx_15 k_t).1 (by decide)) (kx_15 k_t).2 (by decide) rfl rfl e25 rfl ?_
    refine jr.iconst rfl ?_
    refine jr.iadd rfl ?_
    refine jr.iconst rfl ?_
    refine jr.aload_n rfl rfl ?_
    have e26 : M21 x 1 = r10 := (hf_M21.g k_x rfl).trans ((ju_i _ _ (by decide)).trans (ju_same _ _ _ _))
    refine jr.getf (i := 1) (x := r10) (v := .int (Int32.ofInt (r10))) rfl rfl (Nat.lt_trans (kx_33 k_x).1 (by decide)) (kx_33 k_x).2 (by decide) rfl rfl e26 rfl ?_
    refine jr.aload_n rfl rfl ?_
    refine jr.getf (i := 12) (x := P) (v := .int (Int32.ofInt (P))) rfl rfl (Nat.lt_trans (kx_15 k_t).1 (by decide)) (kx_15 k_t).2 (by decide) rfl rfl e25 rfl ?_
    refine jr.isub rfl ?_
    refine jr.bipush rfl (by decide) ?_
    refine jr.isub rfl ?_
    refine jr.i2l rfl (by omega) ?_
    refine jr_s rfl rfl (Or.inr rfl) ⟨Nat.le_of_ble_eq_true rfl, Nat.le_of_ble_eq_true rfl⟩ rfl rfl (jc.deep (c_PacketWall_putNumber_pf hC_M21 (FR.rfl _ M21) k22.2 (by omega) (by omega) (by omega) rfl (fun M27 hC_M27 hf_M27 w27_0 => ?_)) (by decide))
    have ht_M27 : FR W_c_Gathering_makePacket_x T M27 := FR.t ht_M21 hf_M27 (kw_sub rfl)
    have e28 : M27 x 1 = r10 := (hf_M27.g k_x rfl).trans e26
    have e29 : M21 x 2 = 0 := (hf_M21.g k_x rfl).trans (ju_same _ _ _ _)
    have e30 : M27 x 2 = 0 := (hf_M27.g k_x rfl).trans e29
    exact jr.vreturn rfl rfl (q _ hC_M27 ht_M27  ⟨by rw [← (mkF_6 (by omega) w10_0)]; exact (PN.by8 w27_0 (PN.by8 w21_0 (BY8.fr (mk0_b (M1 := M4) (M2 := M9) (c := x + 1) (A := hlf K L) (W := W) p1 p2 (by omega) (kd_ne (by rw [(kf_15_10 k_t).2, k_by]; decide)) (kd_ne (by rw [(kf_15_9 k_t).2, k_by]; decide)) (by rw [← w1_0]; exact hx_M4) (by rw [← w1_0, ← hlw]; exact hx_M9)) k_by (FR.o (FR.o (FR.rfl [(33, 1), (33, 2)] M9) k_x rfl) k_x rfl) rfl))), (e28).trans w10_0, e30, fun b k h1 h2 => by rw [w27_0.2 b k h2, w21_0.2 b k h2, ju_c _ _ h1, ju_c _ _ h1, hx_M9, if_neg (fun h => h2 h.1), hx_M4, if_neg (fun h => h2 h.1), p0]⟩)
  · refine jr.aload_n rfl rfl ?_
    have k31 := kf_33_0 k_x
    refine jr.getf (i := 0) (v := .ref (x + 1)) rfl rfl (Nat.lt_trans (kx_33 k_x).1 (by decide)) (kx_33 k_x).2 (by decide) rfl rfl rfl (jval_ref rfl k31.1) ?_
    refine jr.aload_n rfl rfl ?_
    have e32 : M4 t 12 = P := (hf_M4.g k_t rfl).trans g_P
    have e33 : M9 t 12 = P := (hf_M9.g k_t rfl).trans e32
    refine jr.getf (i := 12) (x := P) (v := .int (Int32.ofInt (P))) rfl rfl (Nat.lt_trans (kx_15 k_t).1 (by decide)) (kx_15 k_t).2 (by decide) rfl rfl ((ju_i _ _ (by decide)).trans ((ju_i _ _ (by decide)).trans e33)) rfl ?_
    refine jr.iconst rfl ?_
    refine jr.iadd rfl ?_
    refine jr.iconst rfl ?_
    refine jr.aload_n rfl rfl ?_
    refine jr.getf (i := 1) (x := r10) (v := .int (Int32.ofInt (r10))) rfl rfl (Nat.lt_trans (kx_33 k_x).1 (by decide)) (kx_33 k_x).2 (by decide) rfl rfl ((ju_i _ _ (by decide)).trans (ju_same _ _ _ _)) rfl ?_
    refine jr.aload_n rfl rfl ?_
    refine jr.getf (i := 12) (x := P) (v := .int (Int32.ofInt (P))) rfl rfl (Nat.lt_trans (kx_15 k_t).1 (by decide)) (kx_15 k_t).2 (by decide) rfl rfl ((ju_i _ _ (by decide)).trans ((ju_i _ _ (by decide)).trans e33)) rfl ?_
    refine jr.isub rfl ?_
    refine jr.i2l rfl (by omega) ?_
    refine jr_s rfl rfl (Or.inr rfl) ⟨Nat.le_of_ble_eq_true rfl, Nat.le_of_ble_eq_true rfl⟩ rfl rfl (jc.deep (c_PacketWall_putNumber_pf (CI.u (CI.u hC_M9 (i := 1) k_x (show (-1 : Int) ≤ _ ∧ _ ≤ (400 : Int) from by omega) rfl) (i := 2) k_x (show (-9223372036854775808 : Int) ≤ _ ∧ _ ≤ (9223372036854775807 : Int) from by omega) rfl) (FR.rfl _ ((ju (ju M9 x 1 r10) x 2 0))) k31.2 (by omega) (by omega) (by omega) rfl (fun M34 hC_M34 hf_M34 w34_0 => ?_)) (by decide))
    have ht_M34 : FR W_c_Gathering_makePacket_x T M34 := FR.t (FR.o (FR.o ht_M9 k_x rfl) k_x rfl) hf_M34 (kw_sub rfl)
    refine jr.aload_n rfl rfl ?_
    have k35 := kf_33_0 k_x
    refine jr.getf (i := 0) (v := .ref (x + 1)) rfl rfl (Nat.lt_trans (kx_33 k_x).1 (by decide)) (kx_33 k_x).2 (by decide) rfl rfl rfl (jval_ref rfl k35.1) ?_
    refine jr.aload_n rfl rfl ?_
    have e36 : M34 t 12 = P := (hf_M34.g k_t rfl).trans ((ju_i _ _ (by decide)).trans ((ju_i _ _ (by decide)).trans e33))
    refine jr.getf (i := 12) (x := P) (v := .int (Int32.ofInt (P))) rfl rfl (Nat.lt_trans (kx_15 k_t).1 (by decide)) (kx_15 k_t).2 (by decide) rfl rfl e36 rfl ?_
    refine jr.bipush rfl (by decide) ?_
    refine jr.iadd rfl ?_
    refine jr.iconst rfl ?_
    refine jr.lconst (x := 0) rfl (by decide) ?_
    refine jr_s rfl rfl (Or.inr rfl) ⟨Nat.le_of_ble_eq_true rfl, Nat.le_of_ble_eq_true rfl⟩ rfl rfl (jc.deep (c_PacketWall_putNumber_pf hC_M34 (FR.rfl _ M34) k35.2 (by omega) (by omega) (by omega) rfl (fun M37 hC_M37 hf_M37 w37_0 => ?_)) (by decide))
    have ht_M37 : FR W_c_Gathering_makePacket_x T M37 := FR.t ht_M34 hf_M37 (kw_sub rfl)
    refine jr.aload_n rfl rfl ?_
    have k38 := kf_33_0 k_x
    refine jr.getf (i := 0) (v := .ref (x + 1)) rfl rfl (Nat.lt_trans (kx_33 k_x).1 (by decide)) (kx_33 k_x).2 (by decide) rfl rfl rfl (jval_ref rfl k38.1) ?_
    refine jr.aload_n rfl rfl ?_
    have e39 : M37 t 12 = P := (hf_M37.g k_t rfl).trans e36
    refine jr.getf (i := 12) (x := P) (v := .int (Int32.ofInt (P))) rfl rfl (Nat.lt_trans (kx_15 k_t).1 (by decide)) (kx_15 k_t).2 (by decide) rfl rfl e39 rfl ?_
    refine jr.bipush rfl (by decide) ?_
    refine jr.iadd rfl ?_
    refine jr.iconst rfl ?_
    refine jr.lconst (x := 0) rfl (by decide) ?_
    refine jr_s rfl rfl (Or.inr rfl) ⟨Nat.le_of_ble_eq_true rfl, Nat.le_of_ble_eq_true rfl⟩ rfl rfl (jc.deep (c_PacketWall_putNumber_pf hC_M37 (FR.rfl _ M37) k38.2 (by omega) (by omega) (by omega) rfl (fun M40 hC_M40 hf_M40 w40_0 => ?_)) (by decide))
    have ht_M40 : FR W_c_Gathering_makePacket_x T M40 := FR.t ht_M37 hf_M40 (kw_sub rfl)
    refine jr.aload_n rfl rfl ?_
    have k41 := kf_33_0 k_x
    refine jr.getf (i := 0) (v := .ref (x + 1)) rfl rfl (Nat.lt_trans (kx_33 k_x).1 (by decide)) (kx_33 k_x).2 (by decide) rfl rfl rfl (jval_ref rfl k41.1) ?_
    refine jr.aload_n rfl rfl ?_
    have e42 : M40 t 12 = P := (hf_M40.g k_t rfl).trans e39
    refine jr.getf (i := 12) (x := P) (v := .int (Int32.ofInt (P))) rfl rfl (Nat.lt_trans (kx_15 k_t).1 (by decide)) (kx_15 k_t).2 (by decide) rfl rfl e42 rfl ?_
    refine jr.bipush rfl (by decide) ?_
    refine jr.iadd rfl ?_
    refine jr.iconst rfl ?_
    refine jr.aload_n rfl rfl ?_
    have k43 := kf_33_0 k_x
    refine jr.getf (i := 0) (v := .ref (x + 1)) rfl rfl (Nat.lt_trans (kx_33 k_x).1 (by decide)) (kx_33 k_x).2 (by decide) rfl rfl rfl (jval_ref rfl k43.1) ?_
    refine jr.aload_n rfl rfl ?_
    refine jr.getf (i := 12) (x := P) (v := .int (Int32.ofInt (P))) rfl rfl (Nat.lt_trans (kx_15 k_t).1 (by decide)) (kx_15 k_t).2 (by decide) rfl rfl e42 rfl ?_
    refine jr.iload_n rfl rfl ?_
    refine jr_s rfl rfl (Or.inr rfl) ⟨Nat.le_of_ble_eq_true rfl, Nat.le_of_ble_eq_true rfl⟩ rfl rfl (jc.deep (c_PacketWall_addedTwos_pw hC_M40 k43.2 (by omega) (by omega) (by omega) (PN.by8 w40_0 (PN.by8 w37_0 (PN.by8 w34_0 (BY8.fr (mk0_b (M1 := M4) (M2 := M9) (c := x + 1) (A := hlf K L) (W := W) p1 p2 (by omega) (kd_ne (by rw [(kf_15_10 k_t).2, k_by]; decide)) (kd_ne (by rw [(kf_15_9 k_t).2, k_by]; decide)) (by rw [← w1_0]; exact hx_M4) (by rw [← w1_0, ← hlw]; exact hx_M9)) k_by (FR.o (FR.o (FR.rfl [(33, 1), (33, 2)] M9) k_x rfl) k_x rfl) rfl)))) (fun r44 z44 w44_0 => ?_)) (by decide))
    refine jr_s rfl rfl (Or.inr rfl) ⟨Nat.le_of_ble_eq_true rfl, Nat.le_of_ble_eq_true rfl⟩ rfl rfl (jc.deep (c_PacketWall_foldedSum_x hC_M40 (by omega) (fun r45 z45 w45_0 => ?_)) (by decide))
    refine jr.i2l rfl (by omega) ?_
    refine jr_s rfl rfl (Or.inr rfl) ⟨Nat.le_of_ble_eq_true rfl, Nat.le_of_ble_eq_true rfl⟩ rfl rfl (jc.deep (c_PacketWall_putNumber_pf hC_M40 (FR.rfl _ M40) k41.2 (by omega) (by omega) (by omega) rfl (fun M46 hC_M46 hf_M46 w46_0 => ?_)) (by decide))
    have ht_M46 : FR W_c_Gathering_makePacket_x T M46 := FR.t ht_M40 hf_M46 (kw_sub rfl)
    refine jr.goto rfl rfl ?_
    have e47 : M34 x 1 = r10 := (hf_M34.g k_x rfl).trans ((ju_i _ _ (by decide)).trans (ju_same _ _ _ _))
    have e48 : M37 x 1 = r10 := (hf_M37.g k_x rfl).trans e47
    have e49 : M40 x 1 = r10 := (hf_M40.g k_x rfl).trans e48
    have e50 : M46 x 1 = r10 := (hf_M46.g k_x rfl).trans e49
    have e51 : M34 x 2 = 0 := (hf_M34.g k_x rfl).trans (ju_same _ _ _ _)
    have e52 : M37 x 2 = 0 := (hf_M37.g k_x rfl).trans e51
    have e53 : M40 x 2 = 0 := (hf_M40.g k_x rfl).trans e52
    have e54 : M46 x 2 = 0 := (hf_M46.g k_x rfl).trans e53
    exact jr.vreturn rfl rfl (q _ hC_M46 ht_M46  ⟨by rw [← (mkF_2 (by omega) w10_0 w1_0 w44_0 w45_0)]; exact (PN.by8 w46_0 (PN.by8 w40_0 (PN.by8 w37_0 (PN.by8 w34_0 (BY8.fr (mk0_b (M1 := M4) (M2 := M9) (c := x + 1) (A := hlf K L) (W := W) p1 p2 (by omega) (kd_ne (by rw [(kf_15_10 k_t).2, k_by]; decide)) (kd_ne (by rw [(kf_15_9 k_t).2, k_by]; decide)) (by rw [← w1_0]; exact hx_M4) (by rw [← w1_0, ← hlw]; exact hx_M9)) k_by (FR.o (FR.o (FR.rfl [(33, 1), (33, 2)] M9) k_x rfl) k_x rfl) rfl))))), (e50).trans w10_0, e54, fun b k h1 h2 => by rw [w46_0.2 b k h2, w40_0.2 b k h2, w37_0.2 b k h2, w34_0.2 b k h2, ju_c _ _ h1, ju_c _ _ h1, hx_M9, if_neg (fun h => h2 h.1), hx_M4, if_neg (fun h => h2 h.1), p0]⟩)
end
section
/-! ===== the class: gather ===== -/
noncomputable def pF (M : jm) : Nat → Int → Int
  | 0, _ => -1
  | n + 1, i => if M (xe 2 i) 1 = -1 then i else pF M n (i + 1)
theorem pF_s {M : jm} {i : Int} (h : i < 24) : pF M (24 - i).toNat i = if M (xe 2 i) 1 = -1 then i else pF M (24 - (i + 1)).toNat (i + 1) := by
  obtain ⟨n, hn⟩ : ∃ n : Nat, i = 23 - n := ⟨(23 - i).toNat, by omega⟩
  subst hn
  rw [show (24 - (23 - (n : Int))).toNat = n + 1 by omega, show (24 - (23 - (n : Int) + 1)).toNat = n by omega]
  rfl
theorem pF_r (M : jm) : ∀ (n : Nat) (i : Int), 0 ≤ i → pF M n i = -1 ∨ (i ≤ pF M n i ∧ pF M n i < i + n ∧ M (xe 2 (pF M n i)) 1 = -1) := by
  intro n
  induction n with
  | zero => intro i _; exact Or.inl rfl
  | succ n ih =>
    intro i h0
    unfold pF
    by_cases q : M (xe 2 i) 1 = -1
    · rw [if_pos q]; exact Or.inr ⟨Int.le_refl _, by omega, q⟩
    · rw [if_neg q]
      rcases ih (i + 1) (by omega) with r | r
      · exact Or.inl r
      · exact Or.inr ⟨by omega, by omega, r.2.2⟩
/-- the bytes of all packets -/
noncomputable def PBS (M : jm) (F : Int → Int → Int) : Prop := ∀ p : Int, 0 ≤ p → p < 24 → BY8 M (xe 2 p + 1) (F p)
noncomputable def mkA (M : jm) (G : Nat) (f : Int → Int) : Int → Int := mkF (mk0 (M (G + 2)) (M (G + 1)) f (hlf (M G 1) (M G 11)) (M G 7)) (M G 1) (hlf (M G 1) (M G 11)) (M G 7) (M G 12) (M G 13) (M G 5)
noncomputable def PTO (T M : jm) (G : Nat) (F : Int → Int → Int) (r : Int) : Prop := ((pF T 24 0 = -1 ∨ 400 < hlf (T G 1) (T G 11) + T G 7) ∧ r = -5 ∧ M = T) ∨ ((pF T 24 0 ≠ -1 ∧ hlf (T G 1) (T G 11) + T G 7 ≤ 400) ∧ r = pF T 24 0 ∧ ∃ M1 : jm, MKD T M1 (xe 2 (pF T 24 0)) (mkA T G (F (pF T 24 0))) (hlf (T G 1) (T G 11) + T G 7) ∧ M = ju M1 G 0 0)
/-- a gathering that is ready can be made a packet -/
noncomputable def GRD (M : jm) (G : Nat) : Prop := (0 ≤ M G 7 ∧ M G 7 ≤ 360) ∧ (8 ≤ M G 11 ∧ M G 11 ≤ 400) ∧ (M G 1 ≠ 2 ∨ M G 12 + 20 ≤ hlf (M G 1) (M G 11)) ∧ (0 ≤ M G 12 ∧ M G 12 ≤ 400) ∧ (∀ k : Int, 0 ≤ k → k < M G 11 → 0 ≤ M (G + 2) k ∧ M (G + 2) k ≤ 255) ∧ ∀ k : Int, 0 ≤ k → k < M G 7 → 0 ≤ M (G + 1) k ∧ M (G + 1) k ≤ 255
theorem hlf_r {K L : Int} (h : 8 ≤ L) : 0 ≤ hlf K L ∧ hlf K L ≤ L := by
  unfold hlf
  split <;> omega
theorem GRD.m {M : jm} {G : Nat} (h : GRD M G) : MKP M G (M (G + 2)) (M (G + 1)) (hlf (M G 1) (M G 11)) (M G 7) := by
  have q := hlf_r (K := M G 1) h.2.1.1
  exact ⟨fun k k0 k1 => ⟨rfl, h.2.2.2.2.1 k k0 (by omega)⟩, fun k k0 k1 => ⟨rfl, h.2.2.2.2.2 k k0 k1⟩⟩
noncomputable def W_c_PacketWall_putTogether_x : List (Nat × Nat) := [(15, 0), (33, 1), (33, 2), (34, 1000)]
theorem c_PacketWall_putTogether_x_L5 {A : Nat → Option (Nat × (Nat → Int32))} {Q : Option Value → jm → Prop} {F : Int → Int → Int} {T : jm} {x : Nat} (k_x : kd x = 15) {K : Int} {W : Int} {L : Int} {P : Int} {U : Int} {X : Int} (q : ∀ (r : Int) (M' : jm), CI M' → FR W_c_PacketWall_putTogether_x T M' → (-2147483648) ≤ r ∧ r ≤ 2147483647 → (PTO T M' x F r) → Q (some (.int (Int32.ofInt r))) M') : ∀ (nM : Nat) (M : jm) (f : Int) (i : Int), CI M → FR W_c_PacketWall_putTogether_x T M → (-1) ≤ f ∧ f ≤ 23 → (-1) ≤ i ∧ i ≤ 23 → M x 1 = K → M x 7 = W → M x 11 = L → M x 12 = P → M x 13 = U → M x 5 = X → (f = pF M (24 - (i + 1)).toNat (i + 1)) → (M = T) → (PBS M F) → (GRD M x) → i + 1 ≤ nM → jr A 3 xm_48 5 [(2, .int (Int32.ofInt (f))), (3, .int (Int32.ofInt (i))), (0, .ref (0)), (1, .ref (x))] [] M Q := by
  intro nM
  induction nM using Nat.strongRecOn with
  | ind nM ih =>
    intro M f i hC_M ht_M h_f h_i g_K g_W g_L g_P g_U g_X hy0 hy1 hy2 hy3 hm
    have b_K : (-2147483648) ≤ K ∧ K ≤ 2147483647 := by rw [← g_K]; exact (CI.r hC_M k_x (by decide) 1)
    have b_W : (-1) ≤ W ∧ W ≤ 70000 := by rw [← g_W]; exact (CI.r hC_M k_x (by decide) 7)
    have b_L : (-1) ≤ L ∧ L ≤ 400 := by rw [← g_L]; exact (CI.r hC_M k_x (by decide) 11)
    have b_P : (-1) ≤ P ∧ P ≤ 400 := by rw [← g_P]; exact (CI.r hC_M k_x (by decide) 12)
    have b_U : (-1) ≤ U ∧ U ≤ 404 := by rw [← g_U]; exact (CI.r hC_M k_x (by decide) 13)
    have b_X : (-9223372036854775808) ≤ X ∧ X ≤ 9223372036854775807 := by rw [← g_X]; exact (CI.r hC_M k_x (by decide) 5)
    have hG := hy3
    unfold GRD at hG
    rw [g_K, g_L, g_W, g_P] at hG
    obtain ⟨hG1, hG2, hG3, hG4, hG5, hG6⟩ := hG
    have hG7 := hlf_r (K := K) (L := L) hG2.1
    have eG : T = M := hy1.symm
    refine jr.iload_n rfl rfl ?_
    refine jr.if_lt rfl rfl (by omega) (fun h6 => ?_) (fun h6 => ?_)
    · refine jr.iload_n rfl rfl ?_
      refine jr.iconst rfl ?_
      refine jr.icmp_eq rfl rfl (by omega) (by omega) (fun h31 => ?_) (fun h31 => ?_)
      · refine jr.bipush rfl (by decide) ?_
        exact jr.ireturn rfl rfl rfl (q _ _ hC_M ht_M (by omega) (by have hpf : pF T 24 0 = f := (by have h9 := hy0; rw [show (24 - (i + 1)).toNat = 24 from by omega, show i + 1 = 0 from by omega] at h9; rw [eG]; exact h9.symm); have hT : hlf (T x 1) (T x 11) + T x 7 = hlf K L + W := (by rw [eG, g_K, g_L, g_W]); unfold PTO; rw [hpf, hT]; exact Or.inl ⟨by omega, by omega, hy1⟩))
      · have sx31 : (0 : Int) ≤ f := by omega
        refine jr.aload_n rfl rfl ?_
        refine jr_v rfl rfl (Or.inl rfl) rfl rfl (Nat.lt_trans (kx_15 k_x).1 (by decide)) (kx_15 k_x).2 ⟨rfl, Nat.le_of_ble_eq_true rfl, Nat.le_of_ble_eq_true rfl⟩ rfl (jc.deep (c_Gathering_packetLength_x hC_M k_x g_K g_L g_W (fun r1 z1 w1_0 => ?_)) (by decide))
        refine jr.sipush rfl (by decide) ?_
        refine jr.icmp_le rfl rfl (by omega) (by omega) (fun h41 => ?_) (fun h41 => ?_)
        · refine jr.aload_n rfl rfl ?_
          refine jr.aload_n rfl rfl ?_
          refine jr.getf (i := 2) (v := .ref 2) rfl rfl (by decide) rfl (by decide) rfl rfl rfl rfl ?_
          refine jr.iload_n rfl rfl ?_
          have k2 := kxe_42 (a := 2) rfl (i := f) (by omega) (by omega)
          refine jr.aald (c := (xe 2 f)) rfl (by decide) rfl (by decide) (by decide) rfl (by decide) (by omega) (by omega) k2.1 ?_
          refine jr_v rfl rfl (Or.inl rfl) rfl rfl (Nat.lt_trans (kx_15 k_x).1 (by decide)) (kx_15 k_x).2 ⟨rfl, Nat.le_of_ble_eq_true rfl, Nat.le_of_ble_eq_true rfl⟩ rfl (jc.deep (c_Gathering_makePacket_x hC_M (FR.rfl _ M) k_x k2.2 g_K g_W g_L g_P g_U g_X rfl (by have h9 := GRD.m hy3; rw [g_K, g_L, g_W] at h9; exact h9) (hy2 f (by omega) (by omega)) (by omega) (by omega) (fun M3 hC_M3 hf_M3 w3_0 => ?_)) (by decide))
          have ht_M3 : FR W_c_PacketWall_putTogether_x T M3 := FR.t ht_M hf_M3 (kw_sub rfl)
          refine jr.aload_n rfl rfl ?_
          refine jr.iconst rfl ?_
          refine jr.putf (i := 0) (x := 0) rfl rfl (Nat.lt_trans (kx_15 k_x).1 (by decide)) (kx_15 k_x).2 (by decide) rfl rfl rfl rfl rfl ?_
          refine jr.iload_n rfl rfl ?_
          exact jr.ireturn rfl rfl rfl (q _ _ (CI.u hC_M3 (i := 0) k_x (show (0 : Int) ≤ _ ∧ _ ≤ (1 : Int) from by omega) rfl) (FR.o ht_M3 k_x rfl) (by omega) (by have hpf : pF T 24 0 = f := (by have h9 := hy0; rw [show (24 - (i + 1)).toNat = 24 from by omega, show i + 1 = 0 from by omega] at h9; rw [eG]; exact h9.symm); have hT : hlf (T x 1) (T x 11) + T x 7 = hlf K L + W := (by rw [eG, g_K, g_L, g_W]); unfold PTO; rw [hpf, hT]; exact Or.inr ⟨⟨by omega, by omega⟩, rfl, M3, by unfold mkA; rw [eG, g_K, g_L, g_W, g_P, g_U, g_X]; exact w3_0, rfl⟩))
        · refine jr.bipush rfl (by decide) ?_
          exact jr.ireturn rfl rfl rfl (q _ _ hC_M ht_M (by omega) (by have hpf : pF T 24 0 = f := (by have h9 := hy0; rw [show (24 - (i + 1)).toNat = 24 from by omega, show i + 1 = 0 from by omega] at h9; rw [eG]; exact h9.symm); have hT : hlf (T x 1) (T x 11) + T x 7 = hlf K L + W := (by rw [eG, g_K, g_L, g_W]); unfold PTO; rw [hpf, hT]; exact Or.inl ⟨by omega, by omega, hy1⟩))
    · refine jr.aload_n rfl rfl ?_
      refine jr.getf (i := 2) (v := .ref 2) rfl rfl (by decide) rfl (by decide) rfl rfl rfl rfl ?_
      refine jr.iload_n rfl rfl ?_
      have k4 := kxe_42 (a := 2) rfl (i := i) (by omega) (by omega)
      refine jr.aald (c := (xe 2 i)) rfl (by decide) rfl (by decide) (by decide) rfl (by decide) (by omega) (by omega) k4.1 ?_
      refine jr_v rfl rfl (Or.inl rfl) rfl rfl (Nat.lt_trans (kx_33 k4.2).1 (by decide)) (kx_33 k4.2).2 ⟨rfl, Nat.le_of_ble_eq_true rfl, Nat.le_of_ble_eq_true rfl⟩ rfl (jc.deep (c_Packet_isThere hC_M k4.2 (fun r5 z5 w5_0 => ?_)) (by decide))
      obtain ⟨v6, e6⟩ : ∃ z_, M ((xe 2 i)) 1 = z_ := ⟨_, rfl⟩
      have b6 : (-1) ≤ v6 ∧ v6 ≤ 400 := by rw [← e6]; exact (CI.r hC_M k4.2 (by decide) 1)
      refine jr.if_ne rfl rfl (by omega) (fun h18 => ?_) (fun h18 => ?_)
      · have sx18 : (1 : Int) ≤ r5 := by omega
        refine jr.iinc rfl rfl (by decide) rfl ?_
        refine jr.goto rfl rfl ?_
        refine jr.pick [1, 0, 2, 3] rfl rfl ?_
        exact ih (nM - 1) (by omega) M f (i + (-1)) hC_M ht_M (by omega) (by omega) g_K g_W g_L g_P g_U g_X (by rw [show i + -1 + 1 = i from by omega, pF_s (by omega)]; first | (rw [if_pos (by omega)]; done) | (rw [if_neg (by omega)]; exact hy0)) hy1 hy2 hy3 (by omega)
      · refine jr.iload_n rfl rfl ?_
        refine jr.istore_n rfl (by decide) rfl ?_
        refine jr.iinc rfl rfl (by decide) rfl ?_
        refine jr.goto rfl rfl ?_
        refine jr.pick [1, 0, 2, 3] rfl rfl ?_
        exact ih (nM - 1) (by omega) M i (i + (-1)) hC_M ht_M (by omega) (by omega) g_K g_W g_L g_P g_U g_X (by rw [show i + -1 + 1 = i from by omega, pF_s (by omega)]; first | (rw [if_pos (by omega)]; done) | (rw [if_neg (by omega)]; exact hy0)) hy1 hy2 hy3 (by omega)
theorem c_PacketWall_putTogether_x {A : Nat → Option (Nat × (Nat → Int32))} {Q : Option Value → jm → Prop} {F : Int → Int → Int} {T : jm} {M : jm} (hC_M : CI M) (ht_M : FR W_c_PacketWall_putTogether_x T M) {x : Nat} (k_x : kd x = 15) (p0 : T = M) (p1 : PBS M F) (p2 : GRD M x) (q : ∀ (r : Int) (M' : jm), CI M' → FR W_c_PacketWall_putTogether_x T M' → (-2147483648) ≤ r ∧ r ≤ 2147483647 → (PTO T M' x F r) → Q (some (.int (Int32.ofInt r))) M') : jc A 4 48 [.ref (0), .ref (x)] M Q := by
  refine jc_of (m := xm_48) rfl (Nat.le_of_ble_eq_true rfl) rfl ?_
  refine jr.iconst rfl ?_
  refine jr.istore_n rfl (by decide) rfl ?_
  refine jr.bipush rfl (by decide) ?_
  refine jr.istore_n rfl (by decide) rfl ?_
  obtain ⟨v1, e1⟩ : ∃ z_, M x 1 = z_ := ⟨_, rfl⟩
  have b1 : (-2147483648) ≤ v1 ∧ v1 ≤ 2147483647 := by rw [← e1]; exact (CI.r hC_M k_x (by decide) 1)
  obtain ⟨v2, e2⟩ : ∃ z_, M x 7 = z_ := ⟨_, rfl⟩
  have b2 : (-1) ≤ v2 ∧ v2 ≤ 70000 := by rw [← e2]; exact (CI.r hC_M k_x (by decide) 7)
  obtain ⟨v3, e3⟩ : ∃ z_, M x 11 = z_ := ⟨_, rfl⟩
  have b3 : (-1) ≤ v3 ∧ v3 ≤ 400 := by rw [← e3]; exact (CI.r hC_M k_x (by decide) 11)
  obtain ⟨v4, e4⟩ : ∃ z_, M x 12 = z_ := ⟨_, rfl⟩
  have b4 : (-1) ≤ v4 ∧ v4 ≤ 400 := by rw [← e4]; exact (CI.r hC_M k_x (by decide) 12)
  obtain ⟨v5, e5⟩ : ∃ z_, M x 13 = z_ := ⟨_, rfl⟩
  have b5 : (-1) ≤ v5 ∧ v5 ≤ 404 := by rw [← e5]; exact (CI.r hC_M k_x (by decide) 13)
  obtain ⟨v6, e6⟩ : ∃ z_, M x 5 = z_ := ⟨_, rfl⟩
  have b6 : (-9223372036854775808) ≤ v6 ∧ v6 ≤ 9223372036854775807 := by rw [← e6]; exact (CI.r hC_M k_x (by decide) 5)
  refine jr.pick [1, 0, 2, 3] rfl rfl ?_
  exact c_PacketWall_putTogether_x_L5 k_x q 24 M (-1) 23 hC_M ht_M (by omega) (by omega) e1 e2 e3 e4 e5 e6 rfl p0.symm p1 p2 (by omega)
end
section
/-! ===== the class: gather, whole ===== -/
theorem xgn0 : ∀ n : Nat, n < 8 → xe 10 (n : Int) ≠ 11 ∧ xe 10 (n : Int) ≠ 14 ∧ xe 10 (n : Int) + 1 ≠ 14 ∧ xe 10 (n : Int) + 2 ≠ 14 := by decide +kernel
theorem xg_ {g : Int} (h : 0 ≤ g ∧ g < 8) : xe 10 g ≠ 11 ∧ xe 10 g ≠ 14 ∧ xe 10 g + 1 ≠ 14 ∧ xe 10 g + 2 ≠ 14 := by
  obtain ⟨n, rfl⟩ := Int.eq_ofNat_of_zero_le h.1
  exact xgn0 n (by omega)
theorem pcf_r {f : Int → Int} {N C : Int} (hC : 0 ≤ C) : pcf f N C = -1 ∨ ((0 ≤ pcf f N C ∧ pcf f N C < C) ∧ ((hX f N (pcf f N C) = 2 ∧ pcf f N C = ntf f N C) ∨ hX f N (pcf f N C) = 6)) := by
  have hn := ntf_r (f := f) (N := N) hC
  unfold pcf
  split
  · exact Or.inl rfl
  · rename_i h1
    have hn2 := hn.resolve_left h1
    split
    · rename_i h2
      split
      · right
        rw [kA_i hn2.1] at h2
        exact ⟨hn2.1, Or.inl ⟨h2, rfl⟩⟩
      · exact Or.inl rfl
    · split
      · rename_i h3
        right
        have hi := inf_r (f := f) (N := N) (C := C) (x := ntf f N C) (by omega)
        have hin : 0 ≤ inf f N C (ntf f N C) ∧ inf f N C (ntf f N C) < C := by
          unfold kA at h3
          split at h3
          · assumption
          · omega
        rw [kA_i hin] at h3
        exact ⟨hin, Or.inr h3⟩
      · exact Or.inl rfl
theorem gS_r (M : jm) : ∀ (n : Nat) (i : Int), 0 ≤ i → gS M n i = -1 ∨ ((i ≤ gS M n i ∧ gS M n i < i + n) ∧ M (xe 10 (gS M n i)) 0 ≠ 0 ∧ M (xe 10 (gS M n i)) 1 = M 11 1) := by
  intro n
  induction n with
  | zero => intro i _; exact Or.inl rfl
  | succ n ih =>
    intro i h0
    unfold gS
    split
    · rename_i q; exact Or.inr ⟨⟨Int.le_refl _, by omega⟩, q.1, q.2.1⟩
    · rcases ih (i + 1) (by omega) with r | r
      · exact Or.inl r
      · exact Or.inr ⟨⟨by omega, by omega⟩, r.2⟩
theorem rdy_1 {w : Int → Int} : ∀ (n : Nat) (i : Int), rdy w n i ≠ 0 → ∀ k : Int, i ≤ k → k < i + n → w k ≠ -1 := by
  intro n
  induction n with
  | zero => intro i _ k h0 h1; omega
  | succ n ih =>
    intro i h k h0 h1
    unfold rdy at h
    split at h
    · exact absurd rfl h
    · rename_i q
      by_cases e : k = i
      · rw [e]; exact q
      · exact ih (i + 1) h k (by omega) (by omega)
/-- all but headers and the name that is sought is as it was -/
noncomputable def NH (T M : jm) : Prop := ∀ (b : Nat) (k : Int), (kd b < 18 ∨ 21 < kd b) → b ≠ 11 → M b k = T b k
noncomputable def GK1 (M : jm) (G : Nat) : Prop := (M G 7 = -1 ∨ (0 ≤ M G 7 ∧ M G 7 ≤ 360)) ∧ (M G 11 = -1 ∨ ((8 ≤ M G 11 ∧ M G 11 ≤ 400) ∧ (0 ≤ M G 12 ∧ M G 12 ≤ 400) ∧ (M G 1 ≠ 2 ∨ M G 12 + 20 ≤ hlf (M G 1) (M G 11)) ∧ ∀ k : Int, 0 ≤ k → k < M G 11 → 0 ≤ M (G + 2) k ∧ M (G + 2) k ≤ 255))
noncomputable def GOK (M : jm) : Prop := ∀ g : Int, 0 ≤ g → g < 8 → M (xe 10 g) 0 ≠ 0 → GK1 M (xe 10 g)
noncomputable def fstv (M : jm) : Int := if gS M 8 0 = -1 ∨ M (xe 10 (gS M 8 0)) 7 = -1 then 1 else 0
noncomputable def GBG (M2 M3 : jm) (g Z : Int) : Prop := (gS M2 8 0 ≠ -1 ∧ g = gS M2 8 0 ∧ M3 = M2) ∨ (gS M2 8 0 = -1 ∧ g = gF M2 8 0 ∧ g ≠ -1 ∧ BGA M2 M3 (xe 10 g) 11 (Z + 30))
noncomputable def NRD (M : jm) (G : Nat) : Prop := M G 7 = -1 ∨ M G 11 = -1 ∨ rdy (M (G + 1)) (lpf (M G 7)).toNat 0 = 0
noncomputable def NM5 (M : jm) (f : Int → Int) (N C y : Int) : Prop := M 11 1 = kA f N C y ∧ M 11 2 = adf f N C (ntf f N C) 0 ∧ M 11 3 = adf f N C (ntf f N C) 1 ∧ M 11 4 = vA f N C y 3 ∧ M 11 5 = vA f N C y (if kA f N C y = 2 then 7 else 0)
noncomputable def GAK (M2 M : jm) (f : Int → Int) (N C Z : Int) (F : Int → Int → Int) (r : Int) : Prop := (rfq f N C (pcf f N C) (fstv M2) ∧ r = -4 ∧ M = M2) ∨ (¬ rfq f N C (pcf f N C) (fstv M2) ∧ gS M2 8 0 = -1 ∧ gF M2 8 0 = -1 ∧ r = -5 ∧ M = M2) ∨ (¬ rfq f N C (pcf f N C) (fstv M2) ∧ ∃ (g : Int) (M3 M4 : jm), GBG M2 M3 g Z ∧ TKI M3 M4 (xe 10 g) f N C (pcf f N C) ∧ ((NRD M4 (xe 10 g) ∧ r = -1 ∧ M = M4) ∨ (¬ NRD M4 (xe 10 g) ∧ PTO M4 M (xe 10 g) F r)))
noncomputable def GAQ (T M : jm) (f : Int → Int) (N C Z : Int) (F : Int → Int → Int) (r : Int) : Prop := ((hX f N C ≠ -1 ∨ pcf f N C = -1) ∧ r = -4 ∧ NH T M) ∨ (hX f N C = -1 ∧ pcf f N C ≠ -1 ∧ ∃ M2 : jm, NH T M2 ∧ NM5 M2 f N C (pcf f N C) ∧ GAK M2 M f N C Z F r)
theorem kw_hd {W : List (Nat × Nat)} (h1 : W.all (fun w => Nat.ble 18 w.1 && Nat.ble w.1 21) = true) {K : Nat} {i : Int} (hk : K < 18 ∨ 21 < K) : kw W K i = false := by
  induction W with
  | nil => rfl
  | cons w r ih =>
    rw [List.all_cons, Bool.and_eq_true] at h1
    unfold kw
    rw [ih h1.2, Bool.or_false]
    unfold kh
    have q2 := h1.1
    rw [Bool.and_eq_true] at q2
    have a := Nat.le_of_ble_eq_true q2.1
    have b := Nat.le_of_ble_eq_true q2.2
    cases e : Nat.beq w.1 K with
    | false => rfl
    | true => have q := Nat.eq_of_beq_eq_true e; omega
theorem NH.f {W : List (Nat × Nat)} {T M : jm} (h : FR W T M) (h1 : W.all (fun w => Nat.ble 18 w.1 && Nat.ble w.1 21) = true) : NH T M := fun b k hb _ => h b k (kw_hd h1 hb)
theorem NH.t {T M M2 : jm} (h : NH T M) (h2 : ∀ (b : Nat) (k : Int), b ≠ 11 → M2 b k = M b k) : NH T M2 := fun b k hb h0 => (h2 b k h0).trans (h b k hb h0)
theorem nxN_m {f : Int → Int} {N : Int} : ∀ (n : Nat) (i j : Int), i ≤ j → j < i + n → (hX f N j = 2 ∨ hX f N j = 3) → nxN f N n i ≠ -1 ∨ i < 0 := by
  intro n
  induction n with
  | zero => intro i j h0 h1 _; omega
  | succ n ih =>
    intro i j h0 h1 h2
    unfold nxN
    by_cases q : hX f N i = 2 ∨ hX f N i = 3
    · rw [if_pos q]; omega
    · rw [if_neg q]
      have e : i ≠ j := fun e => q (by rw [e]; exact h2)
      rcases ih (i + 1) j (by omega) (by omega) h2 with u | u
      · exact Or.inl u
      · right; omega
theorem hX_n0 {M : jm} {f : Int → Int} {N C y : Int} (hs : HS M 3 f N) (hC : M 3 3 = C) (hy : 0 ≤ y ∧ y < C) (h4 : 4 ≤ hX f N y ∧ hX f N y ≤ 9) : ntf f N C ≠ -1 := by
  have q := hX_n f N y.toNat (by rw [Int.toNat_of_nonneg hy.1]; exact h4)
  have r := (nxD_r f N y.toNat).resolve_left q
  have u := nxN_m (f := f) (N := N) C.toNat 0 (nxD f N y.toNat) r.1 (by omega) r.2.2
  unfold ntf
  omega
theorem GRD.t {M0 M3 M4 : jm} {G : Nat} {f : Int → Int} {N C y : Int} (hs : HS M0 3 f N) (hC : M0 3 3 = C) (hy : 0 ≤ y ∧ y < C) (hk2 : (hX f N y = 2 ∧ y = ntf f N C) ∨ hX f N y = 6) (hK : GK1 M3 G) (hn : M3 G 1 = kA f N C y) (ht : TKI M3 M4 G f N C y) (hf : wh1 f N C y (M3 G 7) = M3 G 7 ∨ (0 ≤ wh1 f N C y (M3 G 7) ∧ wh1 f N C y (M3 G 7) ≤ 360)) (hC4 : CI M4) (kG : kd G = 15) (h7 : M4 G 7 ≠ -1) (h11 : M4 G 11 ≠ -1) (hr : rdy (M4 (G + 1)) (lpf (M4 G 7)).toNat 0 ≠ 0) : GRD M4 G := by
  obtain ⟨⟨⟨e7, e8⟩, eo, ek, _⟩, _, _⟩ := ht
  have hN := hs.2.2.1
  have q := HS.y hs hC hy
  have hen := enf_i (f := f) (N := N) (C := C) hy
  have e1 : M4 G 1 = M3 G 1 := eo 1 (by decide) (by decide) (by decide) (by decide) (by decide)
  have hW : 0 ≤ M4 G 7 ∧ M4 G 7 ≤ 360 := by
    rw [e7] at h7 ⊢
    rcases hf with hf | hf
    · rw [hf] at h7 ⊢
      exact hK.1.resolve_left h7
    · exact hf
  have hlp : lpf (M4 G 7) = M4 G 7 := lpf_w hW
  have hrow : ∀ k : Int, 0 ≤ k → k < M4 G 7 → 0 ≤ M4 (G + 1) k ∧ M4 (G + 1) k ≤ 255 := fun k k0 k1 => by
    have a := rdy_1 _ _ hr k k0 (by rw [hlp]; omega)
    have b : (-1 : Int) ≤ M4 (G + 1) k ∧ M4 (G + 1) k ≤ (255 : Int) := CI.r hC4 (kf_15_9 kG).2 (by decide) k
    omega
  have h8 : 8 ≤ enf f N C y := by rw [hen]; omega
  rcases ek with ⟨z1, z2, ⟨z3, z4, z5⟩, z6⟩ | ⟨z1, ⟨z3, z4, z5⟩, z6⟩
  · have hnt : pA f N C (ntf f N C) = -1 ∨ (0 ≤ pA f N C (ntf f N C) ∧ pA f N C (ntf f N C) ≤ 400) := by
      unfold pA
      split
      · rename_i hh
        have := HS.y hs hC hh
        have l := hls_r (hX f N (ntf f N C))
        right
        omega
      · exact Or.inl rfl
    have hnr := ntf_r (f := f) (N := N) (C := C) (by omega)
    have hn0 : 0 ≤ ntf f N C ∧ ntf f N C < C := by
      rcases hk2 with h | h
      · rw [← h.2]; exact hy
      · rcases hnr with u | u
        · exfalso
          have hh := hX_n0 hs hC hy (by omega)
          exact hh u
        · exact u.1
    have hnt2 : pA f N C (ntf f N C) = hY f N (ntf f N C) := by unfold pA; rw [if_pos hn0]
    have qn := HS.y hs hC hn0
    refine ⟨hW, ⟨by rw [z3]; omega, by rw [z3, hen]; omega⟩, ?_, ⟨by rw [z4, hnt2]; omega, by rw [z4, hnt2]; omega⟩, fun k k0 k1 => ?_, hrow⟩
    · rcases hk2 with h | h
      · right
        rw [e1, hn, kA_i hy, h.1, z4, hnt2, z3, hen, ← h.2]
        show hY f N y + 20 ≤ hY f N y + hZ f N y
        omega
      · left
        rw [e1, hn, kA_i hy, h]
        decide
    · rw [z3] at k1
      rw [z6 k k0 k1]
      exact (hs.1 k k0 (by omega)).2
  · rw [z3] at h11
    obtain ⟨g1, g2, g3, g4⟩ := hK.2.resolve_left h11
    refine ⟨hW, by rw [z3]; exact g1, by rw [e1, z4, z3]; exact g3, by rw [z4]; exact g2, fun k k0 k1 => ?_, hrow⟩
    rw [z6 k]
    exact g4 k k0 (by rw [← z3]; exact k1)
end
section
/-! ===== the class: gather, the walk ===== -/
theorem PBS.fr {W : List (Nat × Nat)} {T M : jm} {F : Int → Int → Int} (h : PBS T F) (g : FR W T M) (h1 : ksep W [(34, 1000)] = true) : PBS M F := fun p h0 h2 => BY8.fr (h p h0 h2) (kf_33_0 (kxe_42 (show kd 2 = 42 from rfl) h0 h2).2).2 g h1
theorem GK1.e {T M : jm} {G : Nat} (h : GK1 T G) (e : ∀ k : Int, M G k = T G k) (e2 : ∀ k : Int, M (G + 2) k = T (G + 2) k) : GK1 M G := by
  unfold GK1 at h ⊢
  simp only [e, e2]
  exact h
theorem wh1_b {f : Int → Int} {N C y W s : Int} (h : ¬ rfq f N C y s) (hs : W = -1 → s = 1) (ho : 0 ≤ ofs f N C y) : wh1 f N C y W = W ∨ (0 ≤ wh1 f N C y W ∧ wh1 f N C y W ≤ 360) := by
  unfold rfq at h
  unfold wh1
  split
  · rename_i q
    have := hs q.1
    right
    omega
  · exact Or.inl rfl
theorem rfq_d {f : Int → Int} {N C y s : Int} (h : ¬ rfq f N C y s) : 1 ≤ N - enf f N C y := by
  unfold rfq at h
  omega
theorem hxc_z {M : jm} {t : Nat} {f : Int → Int} {N C : Int} (h : HS M t f N) (hC : M t 3 = C) (h0 : M t 4 = 0) : hX f N C = -1 := by
  subst hC
  rcases h.2.2.2.2.2 with g | g
  · exact g.1
  · exact absurd (g.2.2.1.symm.trans h0) g.2.1
theorem hxc_n {M : jm} {t : Nat} {f : Int → Int} {N C : Int} (h : HS M t f N) (hC : M t 3 = C) (h0 : M t 4 ≠ 0) : hX f N C ≠ -1 := by
  subst hC
  rcases h.2.2.2.2.2 with g | g
  · exact absurd g.2.1 h0
  · exact g.1
noncomputable def W_c_PacketWall_gather_x : List (Nat × Nat) := [(15, 0), (15, 1), (15, 2), (15, 3), (15, 4), (15, 5), (15, 6), (15, 7), (15, 8), (15, 11), (15, 12), (15, 13), (16, 1000), (17, 1000), (18, 3), (18, 4), (18, 5), (18, 6), (18, 7), (19, 1000), (20, 1000), (21, 1000), (33, 1), (33, 2), (34, 1000), (41, 1000)]
theorem c_PacketWall_gather_x {A : Nat → Option (Nat × (Nat → Int32))} {Q : Option Value → jm → Prop} {F : Int → Int → Int} {T : jm} {M : jm} (hC_M : CI M) (ht_M : FR W_c_PacketWall_gather_x T M) {x : Int} (h_x : (-2147483648) ≤ x ∧ x ≤ 2147483647) {Z : Int} (g_Z : M 0 8 = Z) (p0 : T = M) (p1 : PBS M F) (p2 : GOK M) (p3 : 0 ≤ Z ∧ Z ≤ 2000000000) (q : ∀ (r : Int) (M' : jm), CI M' → FR W_c_PacketWall_gather_x T M' → (-2147483648) ≤ r ∧ r ≤ 2147483647 → (((x < 0 ∨ 23 < x ∨ T (xe 2 x) 1 = -1) ∧ r = -2 ∧ NH T M') ∨ (((0 ≤ x ∧ x ≤ 23) ∧ T (xe 2 x) 1 ≠ -1) ∧ ∃ C : Int, HE (F x) (T (xe 2 x) 1) C ∧ GAQ T M' (F x) (T (xe 2 x) 1) C Z F r)) → Q (some (.int (Int32.ofInt r))) M') : jc A 6 16 [.ref (0), .int (Int32.ofInt (x))] M Q := by
  refine jc_of (m := xm_16) rfl (Nat.le_of_ble_eq_true rfl) rfl ?_
  have b_Z : (-2147483648) ≤ Z ∧ Z ≤ 2147483647 := by rw [← g_Z]; exact (CI.r hC_M (show kd 0 = 35 from rfl) (by decide) 8)
  refine jr.aload_n rfl rfl ?_
  refine jr.iload_n rfl rfl ?_
  refine jr_v rfl rfl (Or.inl rfl) rfl rfl (by decide) rfl ⟨rfl, Nat.le_of_ble_eq_true rfl, Nat.le_of_ble_eq_true rfl⟩ rfl (jc.deep (c_PacketWall_isPacket_x hC_M (by omega) (fun r1 z1 w1_0 w1_1 => ?_)) (by decide))
  refine jr.if_ne rfl rfl (by omega) (fun h5 => ?_) (fun h5 => ?_)
  · have sx5 : (1 : Int) ≤ r1 := by omega
    refine jr.aload_n rfl rfl ?_
    refine jr.getf (i := 3) (v := .ref 3) rfl rfl (by decide) rfl (by decide) rfl rfl rfl rfl ?_
    refine jr.aload_n rfl rfl ?_
    refine jr.getf (i := 2) (v := .ref 2) rfl rfl (by decide) rfl (by decide) rfl rfl rfl rfl ?_
    refine jr.iload_n rfl rfl ?_
    have k2 := kxe_42 (a := 2) rfl (i := x) (by omega) (by omega)
    refine jr.aald (c := (xe 2 x)) rfl (by decide) rfl (by decide) (by decide) rfl (by decide) (by omega) (by omega) k2.1 ?_
    obtain ⟨v4, e4⟩ : ∃ z_, M ((xe 2 x)) 1 = z_ := ⟨_, rfl⟩
    have b4 : (-1) ≤ v4 ∧ v4 ≤ 400 := by rw [← e4]; exact (CI.r hC_M k2.2 (by decide) 1)
    refine jr_v rfl rfl (Or.inl rfl) rfl rfl (by decide) rfl ⟨rfl, Nat.le_of_ble_eq_true rfl, Nat.le_of_ble_eq_true rfl⟩ rfl (jc.deep (c_Headers_readAll_x hC_M (FR.rfl _ M) (show kd 3 = 18 from rfl) k2.2 e4 (p1 x (by omega) (by omega)) (fun M3 hC_M3 hf_M3 w3_0 w3_1 w3_2 => ?_)) (by decide))
    have ht_M3 : FR W_c_PacketWall_gather_x T M3 := FR.t ht_M hf_M3 (kw_sub rfl)
    refine jr.aload_n rfl rfl ?_
    refine jr.getf (i := 3) (v := .ref 3) rfl rfl (by decide) rfl (by decide) rfl rfl rfl rfl ?_
    obtain ⟨v6, e6⟩ : ∃ z_, M3 3 3 = z_ := ⟨_, rfl⟩
    have b6 : 0 ≤ v6 ∧ v6 ≤ 12 := by rw [← e6]; exact (CI.r hC_M3 (show kd 3 = 18 from rfl) (by decide) 3)
    obtain ⟨v7, e7⟩ : ∃ z_, M3 3 4 = z_ := ⟨_, rfl⟩
    have b7 : (-2147483648) ≤ v7 ∧ v7 ≤ 2147483647 := by rw [← e7]; exact (CI.r hC_M3 (show kd 3 = 18 from rfl) (by decide) 4)
    refine jr_v rfl rfl (Or.inl rfl) rfl rfl (by decide) rfl ⟨rfl, Nat.le_of_ble_eq_true rfl, Nat.le_of_ble_eq_true rfl⟩ rfl (jc.deep (c_Headers_pieceHeader_x hC_M3 (show kd 3 = 18 from rfl) e6 e7 ((w3_1.resolve_left (fun h => by omega)).2) (fun r5 z5 w5_0 => ?_)) (by decide))
    have hpc : r5 = -1 ∨ (v7 = 0 ∧ r5 = pcf (F x) v4 v6 ∧ (0 ≤ r5 ∧ r5 < v6) ∧ ((hX (F x) v4 r5 = 2 ∧ r5 = ntf (F x) v4 v6) ∨ hX (F x) v4 r5 = 6)) := Or.elim w5_0 (fun h => Or.inl h.2) (fun h => Or.elim (pcf_r (f := F x) (N := v4) (C := v6) (by omega)) (fun u => Or.inl (by omega)) (fun u => Or.inr ⟨h.1, h.2, by rw [h.2]; exact u.1, by rw [h.2]; exact u.2⟩))
    refine jr.istore_n rfl (by decide) rfl ?_
    refine jr.iload_n rfl rfl ?_
    refine jr.iconst rfl ?_
    refine jr.icmp_ne rfl rfl (by omega) (by omega) (fun h34 => ?_) (fun h34 => ?_)
    · have sx34 : (0 : Int) ≤ r5 := by omega
      refine jr.aload_n rfl rfl ?_
      refine jr.getf (i := 6) (v := .ref 11) rfl rfl (by decide) rfl (by decide) rfl rfl rfl rfl ?_
      refine jr.aload_n rfl rfl ?_
      refine jr.getf (i := 3) (v := .ref 3) rfl rfl (by decide) rfl (by decide) rfl rfl rfl rfl ?_
      refine jr.iload_n rfl rfl ?_
      obtain ⟨hF0, hpe, hp0, hp6⟩ := hpc.resolve_left (by omega)
      have hxc : hX (F x) v4 v6 = -1 := hxc_z ((w3_1.resolve_left (fun h => by omega)).2) e6 (by rw [e7]; exact hF0)
      refine jr_v rfl rfl (Or.inl rfl) rfl rfl (by decide) rfl ⟨rfl, Nat.le_of_ble_eq_true rfl, Nat.le_of_ble_eq_true rfl⟩ rfl (jc.deep (c_Gathering_nameBy_x hC_M3 (FR.rfl _ M3) (show kd 11 = 15 from rfl) (by omega) e6 rfl ((w3_1.resolve_left (fun h => by omega)).2) (fun M8 hC_M8 hf_M8 w8_0 => ?_)) (by decide))
      have ht_M8 : FR W_c_PacketWall_gather_x T M8 := FR.t ht_M3 hf_M8 (kw_sub rfl)
      refine jr.aload_n rfl rfl ?_
      refine jr_v rfl rfl (Or.inl rfl) rfl rfl (by decide) rfl ⟨rfl, Nat.le_of_ble_eq_true rfl, Nat.le_of_ble_eq_true rfl⟩ rfl (jc.deep (c_PacketWall_soughtGathering_x hC_M8  (fun r9 z9 w9_0 => ?_)) (by decide))
      have hgs := gS_r M8 8 0 (by decide)
      rw [← w9_0] at hgs
      refine jr.istore_n rfl (by decide) rfl ?_
      refine jr.iload_n rfl rfl ?_
      refine jr.iconst rfl ?_
      refine jr.icmp_eq rfl rfl (by omega) (by omega) (fun h59 => ?_) (fun h59 => ?_)
      · refine jr.iconst rfl ?_
        refine jr.goto rfl rfl ?_
        refine jr.istore rfl (by decide) rfl ?_
        refine jr.aload_n rfl rfl ?_
        refine jr.iload_n rfl rfl ?_
        refine jr.iload rfl rfl ?_
        have e11 : M8 3 3 = v6 := (hf_M8.g (show kd 3 = 18 from rfl) rfl).trans e6
        refine jr_v rfl rfl (Or.inl rfl) rfl rfl (by decide) rfl ⟨rfl, Nat.le_of_ble_eq_true rfl, Nat.le_of_ble_eq_true rfl⟩ rfl (jc.deep (c_PacketWall_isRefusedPiece_x hC_M8 (by omega) (by omega) e11 (HS.fr ((w3_1.resolve_left (fun h => by omega)).2) (show kd 3 = 18 from rfl) hC_M3 hf_M8 rfl) (by omega) (by omega) (fun r10 z10 w10_0 => ?_)) (by decide))
        refine jr.if_eq rfl rfl (by omega) (fun h89 => ?_) (fun h89 => ?_)
        · refine jr.iload_n rfl rfl ?_
          refine jr.iconst rfl ?_
          refine jr.icmp_ne rfl rfl (by omega) (by omega) (fun h97 => ?_) (fun h97 => ?_)
          · exact absurd h97 (by omega)
          · refine jr.aload_n rfl rfl ?_
            refine jr_v rfl rfl (Or.inl rfl) rfl rfl (by decide) rfl ⟨rfl, Nat.le_of_ble_eq_true rfl, Nat.le_of_ble_eq_true rfl⟩ rfl (jc.deep (c_PacketWall_freeGathering_x hC_M8  (fun r12 z12 w12_0 => ?_)) (by decide))
            refine jr.istore_n rfl (by decide) rfl ?_
            refine jr.iload_n rfl rfl ?_
            refine jr.iconst rfl ?_
            refine jr.icmp_ne rfl rfl (by omega) (by omega) (fun h107 => ?_) (fun h107 => ?_)
            · have sx107 : (0 : Int) ≤ r12 := by omega
              refine jr.aload_n rfl rfl ?_
              refine jr.getf (i := 5) (v := .ref 10) rfl rfl (by decide) rfl (by decide) rfl rfl rfl rfl ?_
              refine jr.iload_n rfl rfl ?_
              have k13 := kxe_40 (a := 10) rfl (i := r12) (by omega) (by omega)
              refine jr.aald (c := (xe 10 r12)) rfl (by decide) rfl (by decide) (by decide) rfl (by decide) (by omega) (by omega) k13.1 ?_
              refine jr.aload_n rfl rfl ?_
              refine jr.getf (i := 6) (v := .ref 11) rfl rfl (by decide) rfl (by decide) rfl rfl rfl rfl ?_
              refine jr.aload_n rfl rfl ?_
              have e14 : M3 0 8 = Z := (hf_M3.g (show kd 0 = 35 from rfl) rfl).trans g_Z
              have e15 : M8 0 8 = Z := (hf_M8.g (show kd 0 = 35 from rfl) rfl).trans e14
              refine jr.getf (i := 8) (x := Z) (v := .int (Int32.ofInt (Z))) rfl rfl (by decide) rfl (by decide) rfl rfl e15 rfl ?_
              refine jr.bipush rfl (by decide) ?_
              refine jr.iadd rfl ?_
              refine jr_v rfl rfl (Or.inl rfl) rfl rfl (Nat.lt_trans (kx_15 k13.2).1 (by decide)) (kx_15 k13.2).2 ⟨rfl, Nat.le_of_ble_eq_true rfl, Nat.le_of_ble_eq_true rfl⟩ rfl (jc.deep (c_Gathering_beginAs_x hC_M8 (FR.rfl _ M8) k13.2 (by omega) rfl (xg_ (by omega)).1 (fun M16 hC_M16 hf_M16 w16_0 => ?_)) (by decide))
              have ht_M16 : FR W_c_PacketWall_gather_x T M16 := FR.t ht_M8 hf_M16 (kw_sub rfl)
              refine jr.aload_n rfl rfl ?_
              refine jr.getf (i := 5) (v := .ref 10) rfl rfl (by decide) rfl (by decide) rfl rfl rfl rfl ?_
              refine jr.iload_n rfl rfl ?_
              have k17 := kxe_40 (a := 10) rfl (i := r12) (by omega) (by omega)
              refine jr.aald (c := (xe 10 r12)) rfl (by decide) rfl (by decide) (by decide) rfl (by decide) (by omega) (by omega) k17.1 ?_
              refine jr.aload_n rfl rfl ?_
              refine jr.getf (i := 3) (v := .ref 3) rfl rfl (by decide) rfl (by decide) rfl rfl rfl rfl ?_
              refine jr.iload_n rfl rfl ?_
              refine jr.aload_n rfl rfl ?_
              refine jr.getf (i := 7) (v := .ref 14) rfl rfl (by decide) rfl (by decide) rfl rfl rfl rfl ?_
              have e19 : M16 3 3 = v6 := (hf_M16.g (show kd 3 = 18 from rfl) rfl).trans e11
              refine jr_v rfl rfl (Or.inl rfl) rfl rfl (Nat.lt_trans (kx_15 k17.2).1 (by decide)) (kx_15 k17.2).2 ⟨rfl, Nat.le_of_ble_eq_true rfl, Nat.le_of_ble_eq_true rfl⟩ rfl (jc.deep (c_Gathering_takeIn_x hC_M16 (FR.rfl _ M16) k17.2 (by omega) e19 rfl (HS.fr (HS.fr ((w3_1.resolve_left (fun h => by omega)).2) (show kd 3 = 18 from rfl) hC_M3 hf_M8 rfl) (show kd 3 = 18 from rfl) hC_M8 hf_M16 rfl) (by omega) (by omega) (rfq_d ((w10_0.resolve_left (fun h => by omega)).2)) (xg_ (by omega)).2 (fun M18 hC_M18 hf_M18 w18_0 => ?_)) (by decide))
              have ht_M18 : FR W_c_PacketWall_gather_x T M18 := FR.t ht_M16 hf_M18 (kw_sub rfl)
              refine jr.aload_n rfl rfl ?_
              refine jr.getf (i := 5) (v := .ref 10) rfl rfl (by decide) rfl (by decide) rfl rfl rfl rfl ?_
              refine jr.iload_n rfl rfl ?_
              have k20 := kxe_40 (a := 10) rfl (i := r12) (by omega) (by omega)
              refine jr.aald (c := (xe 10 r12)) rfl (by decide) rfl (by decide) (by decide) rfl (by decide) (by omega) (by omega) k20.1 ?_
              obtain ⟨v22, e22⟩ : ∃ z_, M18 ((xe 10 r12)) 7 = z_ := ⟨_, rfl⟩
              have b22 : (-1) ≤ v22 ∧ v22 ≤ 70000 := by rw [← e22]; exact (CI.r hC_M18 k20.2 (by decide) 7)
              obtain ⟨v23, e23⟩ : ∃ z_, M18 ((xe 10 r12)) 11 = z_ := ⟨_, rfl⟩
              have b23 : (-1) ≤ v23 ∧ v23 ≤ 400 := by rw [← e23]; exact (CI.r hC_M18 k20.2 (by decide) 11)
              refine jr_v rfl rfl (Or.inl rfl) rfl rfl (Nat.lt_trans (kx_15 k20.2).1 (by decide)) (kx_15 k20.2).2 ⟨rfl, Nat.le_of_ble_eq_true rfl, Nat.le_of_ble_eq_true rfl⟩ rfl (jc.deep (c_Gathering_isReady_x hC_M18 k20.2 e22 e23 (fun r21 z21 w21_0 => ?_)) (by decide))
              refine jr.if_eq rfl rfl (by omega) (fun h160 => ?_) (fun h160 => ?_)
              · refine jr.iconst rfl ?_
                exact jr.ireturn rfl rfl rfl (q _ _ hC_M18 ht_M18 (by omega) (Or.inr ⟨by rw [p0]; omega, by rw [p0, e4]; exact ⟨v6, (by have hq := HQ.e ((w3_1.resolve_left (fun h => by omega)).2).2.2.2; rw [e6] at hq; exact hq), Or.inr ⟨hxc, by rw [← hpe]; omega, M8, (by rw [← p0]; exact (NH.t (show NH T M3 from by rw [p0]; exact NH.f hf_M3 rfl) (fun b k h => w8_0.2.1 b k h))), (by rw [← hpe]; exact w8_0.1), (by unfold GAK; rw [← hpe, (show fstv M8 = 1 from by unfold fstv; rw [← w9_0]; exact if_pos (by first | (left; omega) | (right; omega))), ← w9_0]; exact Or.inr (Or.inr ⟨((w10_0.resolve_left (fun h => by omega)).2), r12, M16, M18, Or.inr ⟨by rw [← w9_0]; omega, w12_0, by omega, w16_0⟩, by have h9 := w18_0; rw [hpe] at h9; rw [hpe]; exact h9, Or.inl ⟨(show NRD M18 (xe 10 r12) from by unfold NRD; rw [e22, e23]; exact Or.elim w21_0 (fun h => Or.elim h.1 (fun u => Or.inl u) (fun u => Or.inr (Or.inl u))) (fun h => Or.inr (Or.inr (by have h9 := h.2.2; omega)))), by omega, rfl⟩⟩))⟩⟩⟩))
              · have sx160 : (1 : Int) ≤ r21 := by omega
                refine jr.aload_n rfl rfl ?_
                refine jr.aload_n rfl rfl ?_
                refine jr.getf (i := 5) (v := .ref 10) rfl rfl (by decide) rfl (by decide) rfl rfl rfl rfl ?_
                refine jr.iload_n rfl rfl ?_
                have k24 := kxe_40 (a := 10) rfl (i := r12) (by omega) (by omega)
                refine jr.aald (c := (xe 10 r12)) rfl (by decide) rfl (by decide) (by decide) rfl (by decide) (by omega) (by omega) k24.1 ?_
                have e26 : M18 3 3 = v6 := (hf_M18.g (show kd 3 = 18 from rfl) rfl).trans e19
                refine jr_v rfl rfl (Or.inl rfl) rfl rfl (by decide) rfl ⟨rfl, Nat.le_of_ble_eq_true rfl, Nat.le_of_ble_eq_true rfl⟩ rfl (jc.deep (c_PacketWall_putTogether_x hC_M18 (FR.rfl _ M18) k24.2 rfl (PBS.fr (PBS.fr (PBS.fr (PBS.fr p1 hf_M3 rfl) hf_M8 rfl) hf_M16 rfl) hf_M18 rfl) (GRD.t (M3 := M16) ((w3_1.resolve_left (fun h => by omega)).2) e6 hp0 hp6 (show GK1 M16 (xe 10 r12) from ⟨Or.inl w16_0.1.2.2.2.2.2.2.2.1, Or.inl w16_0.1.2.2.2.2.2.2.2.2.2⟩) (w16_0.1.2.1.trans w8_0.1.1) w18_0 (wh1_b ((w10_0.resolve_left (fun h => by omega)).2) (fun _ => rfl) (by unfold ofs; have h9 := ofs_r (f := F x) (N := v4) (C := v6) (x := r5) (by omega) (by omega); omega)) hC_M18 (kxe_40 (show kd 10 = 40 from rfl) (i := r12) (by omega) (by omega)).2 (by rw [e22]; exact (w21_0.resolve_left (fun h => by omega)).1) (by rw [e23]; exact (w21_0.resolve_left (fun h => by omega)).2.1) (by rw [e22]; have h9 := (w21_0.resolve_left (fun h => by omega)).2.2; omega)) (fun r25 M25 hC_M25 hf_M25 z25 w25_0 => ?_)) (by decide))
                have ht_M25 : FR W_c_PacketWall_gather_x T M25 := FR.t ht_M18 hf_M25 (kw_sub rfl)
                refine jr.goto rfl rfl ?_
                exact jr.ireturn rfl rfl rfl (q _ _ hC_M25 ht_M25 (by omega) (Or.inr ⟨by rw [p0]; omega, by rw [p0, e4]; exact ⟨v6, (by have hq := HQ.e ((w3_1.resolve_left (fun h => by omega)).2).2.2.2; rw [e6] at hq; exact hq), Or.inr ⟨hxc, by rw [← hpe]; omega, M8, (by rw [← p0]; exact (NH.t (show NH T M3 from by rw [p0]; exact NH.f hf_M3 rfl) (fun b k h => w8_0.2.1 b k h))), (by rw [← hpe]; exact w8_0.1), (by unfold GAK; rw [← hpe, (show fstv M8 = 1 from by unfold fstv; rw [← w9_0]; exact if_pos (by first | (left; omega) | (right; omega))), ← w9_0]; exact Or.inr (Or.inr ⟨((w10_0.resolve_left (fun h => by omega)).2), r12, M16, M18, Or.inr ⟨by rw [← w9_0]; omega, w12_0, by omega, w16_0⟩, by have h9 := w18_0; rw [hpe] at h9; rw [hpe]; exact h9, Or.inr ⟨(fun h => by unfold NRD at h; rw [e22, e23] at h; exact Or.elim w21_0 (fun u => by omega) (fun u => Or.elim h (fun z => u.1 z) (fun z => Or.elim z (fun z => u.2.1 z) (fun z => by have h9 := u.2.2; omega)))), w25_0⟩⟩))⟩⟩⟩))
            · refine jr.bipush rfl (by decide) ?_
              exact jr.ireturn rfl rfl rfl (q _ _ hC_M8 ht_M8 (by omega) (Or.inr ⟨by rw [p0]; omega, by rw [p0, e4]; exact ⟨v6, (by have hq := HQ.e ((w3_1.resolve_left (fun h => by omega)).2).2.2.2; rw [e6] at hq; exact hq), Or.inr ⟨hxc, by rw [← hpe]; omega, M8, (by rw [← p0]; exact (NH.t (show NH T M3 from by rw [p0]; exact NH.f hf_M3 rfl) (fun b k h => w8_0.2.1 b k h))), (by rw [← hpe]; exact w8_0.1), (by unfold GAK; rw [← hpe, (show fstv M8 = 1 from by unfold fstv; rw [← w9_0]; exact if_pos (by first | (left; omega) | (right; omega))), ← w9_0]; exact Or.inr (Or.inl ⟨((w10_0.resolve_left (fun h => by omega)).2), by omega, by rw [← w12_0]; omega, by omega, rfl⟩))⟩⟩⟩))
        · have sx89 : (1 : Int) ≤ r10 := by omega
          refine jr.bipush rfl (by decide) ?_
          exact jr.ireturn rfl rfl rfl (q _ _ hC_M8 ht_M8 (by omega) (Or.inr ⟨by rw [p0]; omega, by rw [p0, e4]; exact ⟨v6, (by have hq := HQ.e ((w3_1.resolve_left (fun h => by omega)).2).2.2.2; rw [e6] at hq; exact hq), Or.inr ⟨hxc, by rw [← hpe]; omega, M8, (by rw [← p0]; exact (NH.t (show NH T M3 from by rw [p0]; exact NH.f hf_M3 rfl) (fun b k h => w8_0.2.1 b k h))), (by rw [← hpe]; exact w8_0.1), (by unfold GAK; rw [← hpe, (show fstv M8 = 1 from by unfold fstv; rw [← w9_0]; exact if_pos (by first | (left; omega) | (right; omega))), ← w9_0]; exact Or.inl ⟨(w10_0.resolve_right (fun h => by omega)).2, by omega, rfl⟩)⟩⟩⟩))
      · have sx59 : (0 : Int) ≤ r9 := by omega
        refine jr.aload_n rfl rfl ?_
        refine jr.getf (i := 5) (v := .ref 10) rfl rfl (by decide) rfl (by decide) rfl rfl rfl rfl ?_
        refine jr.iload_n rfl rfl ?_
        have k27 := kxe_40 (a := 10) rfl (i := r9) (by omega) (by omega)
        refine jr.aald (c := (xe 10 r9)) rfl (by decide) rfl (by decide) (by decide) rfl (by decide) (by omega) (by omega) k27.1 ?_
        obtain ⟨v28, e28⟩ : ∃ z_, M ((xe 10 r9)) 7 = z_ := ⟨_, rfl⟩
        have b28 : (-1) ≤ v28 ∧ v28 ≤ 70000 := by rw [← e28]; exact (CI.r hC_M k27.2 (by decide) 7)
        have e29 : M3 ((xe 10 r9)) 7 = v28 := (hf_M3.g k27.2 rfl).trans e28
        have e30 : M8 ((xe 10 r9)) 7 = v28 := (hf_M8.g k27.2 rfl).trans e29
        refine jr.getf (i := 7) (x := v28) (v := .int (Int32.ofInt (v28))) rfl rfl (Nat.lt_trans (kx_15 k27.2).1 (by decide)) (kx_15 k27.2).2 (by decide) rfl rfl e30 rfl ?_
        refine jr.iconst rfl ?_
        refine jr.icmp_ne rfl rfl (by omega) (by omega) (fun h72 => ?_) (fun h72 => ?_)
        · have sx72 : (0 : Int) ≤ v28 := by omega
          refine jr.iconst rfl ?_
          refine jr.istore rfl (by decide) rfl ?_
          refine jr.aload_n rfl rfl ?_
          refine jr.iload_n rfl rfl ?_
          refine jr.iload rfl rfl ?_
          have e32 : M8 3 3 = v6 := (hf_M8.g (show kd 3 = 18 from rfl) rfl).trans e6
          refine jr_v rfl rfl (Or.inl rfl) rfl rfl (by decide) rfl ⟨rfl, Nat.le_of_ble_eq_true rfl, Nat.le_of_ble_eq_true rfl⟩ rfl (jc.deep (c_PacketWall_isRefusedPiece_x hC_M8 (by omega) (by omega) e32 (HS.fr ((w3_1.resolve_left (fun h => by omega)).2) (show kd 3 = 18 from rfl) hC_M3 hf_M8 rfl) (by omega) (by omega) (fun r31 z31 w31_0 => ?_)) (by decide))
          refine jr.if_eq rfl rfl (by omega) (fun h89 => ?_) (fun h89 => ?_)
          · refine jr.iload_n rfl rfl ?_
            refine jr.iconst rfl ?_
            refine jr.icmp_ne rfl rfl (by omega) (by omega) (fun h97 => ?_) (fun h97 => ?_)
            · refine jr.aload_n rfl rfl ?_
              refine jr.getf (i := 5) (v := .ref 10) rfl rfl (by decide) rfl (by decide) rfl rfl rfl rfl ?_
              refine jr.iload_n rfl rfl ?_
              have k33 := kxe_40 (a := 10) rfl (i := r9) (by omega) (by omega)
              refine jr.aald (c := (xe 10 r9)) rfl (by decide) rfl (by decide) (by decide) rfl (by decide) (by omega) (by omega) k33.1 ?_
              refine jr.aload_n rfl rfl ?_
              refine jr.getf (i := 3) (v := .ref 3) rfl rfl (by decide) rfl (by decide) rfl rfl rfl rfl ?_
              refine jr.iload_n rfl rfl ?_
              refine jr.aload_n rfl rfl ?_
              refine jr.getf (i := 7) (v := .ref 14) rfl rfl (by decide) rfl (by decide) rfl rfl rfl rfl ?_
              refine jr_v rfl rfl (Or.inl rfl) rfl rfl (Nat.lt_trans (kx_15 k33.2).1 (by decide)) (kx_15 k33.2).2 ⟨rfl, Nat.le_of_ble_eq_true rfl, Nat.le_of_ble_eq_true rfl⟩ rfl (jc.deep (c_Gathering_takeIn_x hC_M8 (FR.rfl _ M8) k33.2 (by omega) e32 rfl (HS.fr ((w3_1.resolve_left (fun h => by omega)).2) (show kd 3 = 18 from rfl) hC_M3 hf_M8 rfl) (by omega) (by omega) (rfq_d ((w31_0.resolve_left (fun h => by omega)).2)) (xg_ (by omega)).2 (fun M34 hC_M34 hf_M34 w34_0 => ?_)) (by decide))
              have ht_M34 : FR W_c_PacketWall_gather_x T M34 := FR.t ht_M8 hf_M34 (kw_sub rfl)
              refine jr.aload_n rfl rfl ?_
              refine jr.getf (i := 5) (v := .ref 10) rfl rfl (by decide) rfl (by decide) rfl rfl rfl rfl ?_
              refine jr.iload_n rfl rfl ?_
              have k35 := kxe_40 (a := 10) rfl (i := r9) (by omega) (by omega)
              refine jr.aald (c := (xe 10 r9)) rfl (by decide) rfl (by decide) (by decide) rfl (by decide) (by omega) (by omega) k35.1 ?_
              obtain ⟨v37, e37⟩ : ∃ z_, M34 ((xe 10 r9)) 7 = z_ := ⟨_, rfl⟩
              have b37 : (-1) ≤ v37 ∧ v37 ≤ 70000 := by rw [← e37]; exact (CI.r hC_M34 k35.2 (by decide) 7)
              obtain ⟨v38, e38⟩ : ∃ z_, M34 ((xe 10 r9)) 11 = z_ := ⟨_, rfl⟩
              have b38 : (-1) ≤ v38 ∧ v38 ≤ 400 := by rw [← e38]; exact (CI.r hC_M34 k35.2 (by decide) 11)
              refine jr_v rfl rfl (Or.inl rfl) rfl rfl (Nat.lt_trans (kx_15 k35.2).1 (by decide)) (kx_15 k35.2).2 ⟨rfl, Nat.le_of_ble_eq_true rfl, Nat.le_of_ble_eq_true rfl⟩ rfl (jc.deep (c_Gathering_isReady_x hC_M34 k35.2 e37 e38 (fun r36 z36 w36_0 => ?_)) (by decide))
              refine jr.if_eq rfl rfl (by omega) (fun h160 => ?_) (fun h160 => ?_)
              · refine jr.iconst rfl ?_
                exact jr.ireturn rfl rfl rfl (q _ _ hC_M34 ht_M34 (by omega) (Or.inr ⟨by rw [p0]; omega, by rw [p0, e4]; exact ⟨v6, (by have hq := HQ.e ((w3_1.resolve_left (fun h => by omega)).2).2.2.2; rw [e6] at hq; exact hq), Or.inr ⟨hxc, by rw [← hpe]; omega, M8, (by rw [← p0]; exact (NH.t (show NH T M3 from by rw [p0]; exact NH.f hf_M3 rfl) (fun b k h => w8_0.2.1 b k h))), (by rw [← hpe]; exact w8_0.1), (by unfold GAK; rw [← hpe, (show fstv M8 = 0 from by unfold fstv; rw [← w9_0]; exact if_neg (by omega)), ← w9_0]; exact Or.inr (Or.inr ⟨((w31_0.resolve_left (fun h => by omega)).2), r9, M8, M34, Or.inl ⟨by rw [← w9_0]; omega, w9_0, rfl⟩, by have h9 := w34_0; rw [hpe] at h9; rw [hpe]; exact h9, Or.inl ⟨(show NRD M34 (xe 10 r9) from by unfold NRD; rw [e37, e38]; exact Or.elim w36_0 (fun h => Or.elim h.1 (fun u => Or.inl u) (fun u => Or.inr (Or.inl u))) (fun h => Or.inr (Or.inr (by have h9 := h.2.2; omega)))), by omega, rfl⟩⟩))⟩⟩⟩))
              · have sx160 : (1 : Int) ≤ r36 := by omega
                refine jr.aload_n rfl rfl ?_
                refine jr.aload_n rfl rfl ?_
                refine jr.getf (i := 5) (v := .ref 10) rfl rfl (by decide) rfl (by decide) rfl rfl rfl rfl ?_
                refine jr.iload_n rfl rfl ?_
                have k39 := kxe_40 (a := 10) rfl (i := r9) (by omega) (by omega)
                refine jr.aald (c := (xe 10 r9)) rfl (by decide) rfl (by decide) (by decide) rfl (by decide) (by omega) (by omega) k39.1 ?_
                have e41 : M34 3 3 = v6 := (hf_M34.g (show kd 3 = 18 from rfl) rfl).trans e32
                refine jr_v rfl rfl (Or.inl rfl) rfl rfl (by decide) rfl ⟨rfl, Nat.le_of_ble_eq_true rfl, Nat.le_of_ble_eq_true rfl⟩ rfl (jc.deep (c_PacketWall_putTogether_x hC_M34 (FR.rfl _ M34) k39.2 rfl (PBS.fr (PBS.fr (PBS.fr p1 hf_M3 rfl) hf_M8 rfl) hf_M34 rfl) (GRD.t (M3 := M8) ((w3_1.resolve_left (fun h => by omega)).2) e6 hp0 hp6 (GK1.e (T := T) (by rw [p0]; exact p2 r9 (by omega) (by omega) (by rw [← p0]; exact (by rw [← (NH.t (show NH T M3 from by rw [p0]; exact NH.f hf_M3 rfl) (fun b k h => w8_0.2.1 b k h)) (xe 10 r9) 0 (by rw [(kxe_40 (show kd 10 = 40 from rfl) (i := r9) (by omega) (by omega)).2]; decide) (xg_ (by omega)).1]; exact (hgs.resolve_left (by omega)).2.1))) (fun k => ((NH.t (show NH T M3 from by rw [p0]; exact NH.f hf_M3 rfl) (fun b k h => w8_0.2.1 b k h)) (xe 10 r9) k (by rw [(kxe_40 (show kd 10 = 40 from rfl) (i := r9) (by omega) (by omega)).2]; decide) (by first | exact (xg_ (by omega)).1 | omega))) (fun k => ((NH.t (show NH T M3 from by rw [p0]; exact NH.f hf_M3 rfl) (fun b k h => w8_0.2.1 b k h)) ((xe 10 r9) + 2) k (by rw [(kf_15_10 (kxe_40 (show kd 10 = 40 from rfl) (i := r9) (by omega) (by omega)).2).2]; decide) (kd_ne (by rw [(kf_15_10 (kxe_40 (show kd 10 = 40 from rfl) (i := r9) (by omega) (by omega)).2).2]; decide))))) ((hgs.resolve_left (by omega)).2.2.trans w8_0.1.1) w34_0 (wh1_b ((w31_0.resolve_left (fun h => by omega)).2) (fun h => by exfalso; omega) (by unfold ofs; have h9 := ofs_r (f := F x) (N := v4) (C := v6) (x := r5) (by omega) (by omega); omega)) hC_M34 (kxe_40 (show kd 10 = 40 from rfl) (i := r9) (by omega) (by omega)).2 (by rw [e37]; exact (w36_0.resolve_left (fun h => by omega)).1) (by rw [e38]; exact (w36_0.resolve_left (fun h => by omega)).2.1) (by rw [e37]; have h9 := (w36_0.resolve_left (fun h => by omega)).2.2; omega)) (fun r40 M40 hC_M40 hf_M40 z40 w40_0 => ?_)) (by decide))
                have ht_M40 : FR W_c_PacketWall_gather_x T M40 := FR.t ht_M34 hf_M40 (kw_sub rfl)
                refine jr.goto rfl rfl ?_
                exact jr.ireturn rfl rfl rfl (q _ _ hC_M40 ht_M40 (by omega) (Or.inr ⟨by rw [p0]; omega, by rw [p0, e4]; exact ⟨v6, (by have hq := HQ.e ((w3_1.resolve_left (fun h => by omega)).2).2.2.2; rw [e6] at hq; exact hq), Or.inr ⟨hxc, by rw [← hpe]; omega, M8, (by rw [← p0]; exact (NH.t (show NH T M3 from by rw [p0]; exact NH.f hf_M3 rfl) (fun b k h => w8_0.2.1 b k h))), (by rw [← hpe]; exact w8_0.1), (by unfold GAK; rw [← hpe, (show fstv M8 = 0 from by unfold fstv; rw [← w9_0]; exact if_neg (by omega)), ← w9_0]; exact Or.inr (Or.inr ⟨((w31_0.resolve_left (fun h => by omega)).2), r9, M8, M34, Or.inl ⟨by rw [← w9_0]; omega, w9_0, rfl⟩, by have h9 := w34_0; rw [hpe] at h9; rw [hpe]; exact h9, Or.inr ⟨(fun h => by unfold NRD at h; rw [e37, e38] at h; exact Or.elim w36_0 (fun u => by omega) (fun u => Or.elim h (fun z => u.1 z) (fun z => Or.elim z (fun z => u.2.1 z) (fun z => by have h9 := u.2.2; omega)))), w40_0⟩⟩))⟩⟩⟩))
            · exact absurd (by omega) h97
          · have sx89 : (1 : Int) ≤ r31 := by omega
            refine jr.bipush rfl (by decide) ?_
            exact jr.ireturn rfl rfl rfl (q _ _ hC_M8 ht_M8 (by omega) (Or.inr ⟨by rw [p0]; omega, by rw [p0, e4]; exact ⟨v6, (by have hq := HQ.e ((w3_1.resolve_left (fun h => by omega)).2).2.2.2; rw [e6] at hq; exact hq), Or.inr ⟨hxc, by rw [← hpe]; omega, M8, (by rw [← p0]; exact (NH.t (show NH T M3 from by rw [p0]; exact NH.f hf_M3 rfl) (fun b k h => w8_0.2.1 b k h))), (by rw [← hpe]; exact w8_0.1), (by unfold GAK; rw [← hpe, (show fstv M8 = 0 from by unfold fstv; rw [← w9_0]; exact if_neg (by omega)), ← w9_0]; exact Or.inl ⟨(w31_0.resolve_right (fun h => by omega)).2, by omega, rfl⟩)⟩⟩⟩))
        · refine jr.iconst rfl ?_
          refine jr.goto rfl rfl ?_
          refine jr.istore rfl (by decide) rfl ?_
          refine jr.aload_n rfl rfl ?_
          refine jr.iload_n rfl rfl ?_
          refine jr.iload rfl rfl ?_
          have e43 : M8 3 3 = v6 := (hf_M8.g (show kd 3 = 18 from rfl) rfl).trans e6
          refine jr_v rfl rfl (Or.inl rfl) rfl rfl (by decide) rfl ⟨rfl, Nat.le_of_ble_eq_true rfl, Nat.le_of_ble_eq_true rfl⟩ rfl (jc.deep (c_PacketWall_isRefusedPiece_x hC_M8 (by omega) (by omega) e43 (HS.fr ((w3_1.resolve_left (fun h => by omega)).2) (show kd 3 = 18 from rfl) hC_M3 hf_M8 rfl) (by omega) (by omega) (fun r42 z42 w42_0 => ?_)) (by decide))
          refine jr.if_eq rfl rfl (by omega) (fun h89 => ?_) (fun h89 => ?_)
          · refine jr.iload_n rfl rfl ?_
            refine jr.iconst rfl ?_
            refine jr.icmp_ne rfl rfl (by omega) (by omega) (fun h97 => ?_) (fun h97 => ?_)
            · refine jr.aload_n rfl rfl ?_
              refine jr.getf (i := 5) (v := .ref 10) rfl rfl (by decide) rfl (by decide) rfl rfl rfl rfl ?_
              refine jr.iload_n rfl rfl ?_
              have k44 := kxe_40 (a := 10) rfl (i := r9) (by omega) (by omega)
              refine jr.aald (c := (xe 10 r9)) rfl (by decide) rfl (by decide) (by decide) rfl (by decide) (by omega) (by omega) k44.1 ?_
              refine jr.aload_n rfl rfl ?_
              refine jr.getf (i := 3) (v := .ref 3) rfl rfl (by decide) rfl (by decide) rfl rfl rfl rfl ?_
              refine jr.iload_n rfl rfl ?_
              refine jr.aload_n rfl rfl ?_
              refine jr.getf (i := 7) (v := .ref 14) rfl rfl (by decide) rfl (by decide) rfl rfl rfl rfl ?_
              refine jr_v rfl rfl (Or.inl rfl) rfl rfl (Nat.lt_trans (kx_15 k44.2).1 (by decide)) (kx_15 k44.2).2 ⟨rfl, Nat.le_of_ble_eq_true rfl, Nat.le_of_ble_eq_true rfl⟩ rfl (jc.deep (c_Gathering_takeIn_x hC_M8 (FR.rfl _ M8) k44.2 (by omega) e43 rfl (HS.fr ((w3_1.resolve_left (fun h => by omega)).2) (show kd 3 = 18 from rfl) hC_M3 hf_M8 rfl) (by omega) (by omega) (rfq_d ((w42_0.resolve_left (fun h => by omega)).2)) (xg_ (by omega)).2 (fun M45 hC_M45 hf_M45 w45_0 => ?_)) (by decide))
              have ht_M45 : FR W_c_PacketWall_gather_x T M45 := FR.t ht_M8 hf_M45 (kw_sub rfl)
              refine jr.aload_n rfl rfl ?_
              refine jr.getf (i := 5) (v := .ref 10) rfl rfl (by decide) rfl (by decide) rfl rfl rfl rfl ?_
              refine jr.iload_n rfl rfl ?_
              have k46 := kxe_40 (a := 10) rfl (i := r9) (by omega) (by omega)
              refine jr.aald (c := (xe 10 r9)) rfl (by decide) rfl (by decide) (by decide) rfl (by decide) (by omega) (by omega) k46.1 ?_
              obtain ⟨v48, e48⟩ : ∃ z_, M45 ((xe 10 r9)) 7 = z_ := ⟨_, rfl⟩
              have b48 : (-1) ≤ v48 ∧ v48 ≤ 70000 := by rw [← e48]; exact (CI.r hC_M45 k46.2 (by decide) 7)
              obtain ⟨v49, e49⟩ : ∃ z_, M45 ((xe 10 r9)) 11 = z_ := ⟨_, rfl⟩
              have b49 : (-1) ≤ v49 ∧ v49 ≤ 400 := by rw [← e49]; exact (CI.r hC_M45 k46.2 (by decide) 11)
              refine jr_v rfl rfl (Or.inl rfl) rfl rfl (Nat.lt_trans (kx_15 k46.2).1 (by decide)) (kx_15 k46.2).2 ⟨rfl, Nat.le_of_ble_eq_true rfl, Nat.le_of_ble_eq_true rfl⟩ rfl (jc.deep (c_Gathering_isReady_x hC_M45 k46.2 e48 e49 (fun r47 z47 w47_0 => ?_)) (by decide))
              refine jr.if_eq rfl rfl (by omega) (fun h160 => ?_) (fun h160 => ?_)
              · refine jr.iconst rfl ?_
                exact jr.ireturn rfl rfl rfl (q _ _ hC_M45 ht_M45 (by omega) (Or.inr ⟨by rw [p0]; omega, by rw [p0, e4]; exact ⟨v6, (by have hq := HQ.e ((w3_1.resolve_left (fun h => by omega)).2).2.2.2; rw [e6] at hq; exact hq), Or.inr ⟨hxc, by rw [← hpe]; omega, M8, (by rw [← p0]; exact (NH.t (show NH T M3 from by rw [p0]; exact NH.f hf_M3 rfl) (fun b k h => w8_0.2.1 b k h))), (by rw [← hpe]; exact w8_0.1), (by unfold GAK; rw [← hpe, (show fstv M8 = 1 from by unfold fstv; rw [← w9_0]; exact if_pos (by first | (left; omega) | (right; omega))), ← w9_0]; exact Or.inr (Or.inr ⟨((w42_0.resolve_left (fun h => by omega)).2), r9, M8, M45, Or.inl ⟨by rw [← w9_0]; omega, w9_0, rfl⟩, by have h9 := w45_0; rw [hpe] at h9; rw [hpe]; exact h9, Or.inl ⟨(show NRD M45 (xe 10 r9) from by unfold NRD; rw [e48, e49]; exact Or.elim w47_0 (fun h => Or.elim h.1 (fun u => Or.inl u) (fun u => Or.inr (Or.inl u))) (fun h => Or.inr (Or.inr (by have h9 := h.2.2; omega)))), by omega, rfl⟩⟩))⟩⟩⟩))
              · have sx160 : (1 : Int) ≤ r47 := by omega
                refine jr.aload_n rfl rfl ?_
                refine jr.aload_n rfl rfl ?_
                refine jr.getf (i := 5) (v := .ref 10) rfl rfl (by decide) rfl (by decide) rfl rfl rfl rfl ?_
                refine jr.iload_n rfl rfl ?_
                have k50 := kxe_40 (a := 10) rfl (i := r9) (by omega) (by omega)
                refine jr.aald (c := (xe 10 r9)) rfl (by decide) rfl (by decide) (by decide) rfl (by decide) (by omega) (by omega) k50.1 ?_
                have e52 : M45 3 3 = v6 := (hf_M45.g (show kd 3 = 18 from rfl) rfl).trans e43
                refine jr_v rfl rfl (Or.inl rfl) rfl rfl (by decide) rfl ⟨rfl, Nat.le_of_ble_eq_true rfl, Nat.le_of_ble_eq_true rfl⟩ rfl (jc.deep (c_PacketWall_putTogether_x hC_M45 (FR.rfl _ M45) k50.2 rfl (PBS.fr (PBS.fr (PBS.fr p1 hf_M3 rfl) hf_M8 rfl) hf_M45 rfl) (GRD.t (M3 := M8) ((w3_1.resolve_left (fun h => by omega)).2) e6 hp0 hp6 (GK1.e (T := T) (by rw [p0]; exact p2 r9 (by omega) (by omega) (by rw [← p0]; exact (by rw [← (NH.t (show NH T M3 from by rw [p0]; exact NH.f hf_M3 rfl) (fun b k h => w8_0.2.1 b k h)) (xe 10 r9) 0 (by rw [(kxe_40 (show kd 10 = 40 from rfl) (i := r9) (by omega) (by omega)).2]; decide) (xg_ (by omega)).1]; exact (hgs.resolve_left (by omega)).2.1))) (fun k => ((NH.t (show NH T M3 from by rw [p0]; exact NH.f hf_M3 rfl) (fun b k h => w8_0.2.1 b k h)) (xe 10 r9) k (by rw [(kxe_40 (show kd 10 = 40 from rfl) (i := r9) (by omega) (by omega)).2]; decide) (by first | exact (xg_ (by omega)).1 | omega))) (fun k => ((NH.t (show NH T M3 from by rw [p0]; exact NH.f hf_M3 rfl) (fun b k h => w8_0.2.1 b k h)) ((xe 10 r9) + 2) k (by rw [(kf_15_10 (kxe_40 (show kd 10 = 40 from rfl) (i := r9) (by omega) (by omega)).2).2]; decide) (kd_ne (by rw [(kf_15_10 (kxe_40 (show kd 10 = 40 from rfl) (i := r9) (by omega) (by omega)).2).2]; decide))))) ((hgs.resolve_left (by omega)).2.2.trans w8_0.1.1) w45_0 (wh1_b ((w42_0.resolve_left (fun h => by omega)).2) (fun _ => rfl) (by unfold ofs; have h9 := ofs_r (f := F x) (N := v4) (C := v6) (x := r5) (by omega) (by omega); omega)) hC_M45 (kxe_40 (show kd 10 = 40 from rfl) (i := r9) (by omega) (by omega)).2 (by rw [e48]; exact (w47_0.resolve_left (fun h => by omega)).1) (by rw [e49]; exact (w47_0.resolve_left (fun h => by omega)).2.1) (by rw [e48]; have h9 := (w47_0.resolve_left (fun h => by omega)).2.2; omega)) (fun r51 M51 hC_M51 hf_M51 z51 w51_0 => ?_)) (by decide))
                have ht_M51 : FR W_c_PacketWall_gather_x T M51 := FR.t ht_M45 hf_M51 (kw_sub rfl)
                refine jr.goto rfl rfl ?_
                exact jr.ireturn rfl rfl rfl (q _ _ hC_M51 ht_M51 (by omega) (Or.inr ⟨by rw [p0]; omega, by rw [p0, e4]; exact ⟨v6, (by have hq := HQ.e ((w3_1.resolve_left (fun h => by omega)).2).2.2.2; rw [e6] at hq; exact hq), Or.inr ⟨hxc, by rw [← hpe]; omega, M8, (by rw [← p0]; exact (NH.t (show NH T M3 from by rw [p0]; exact NH.f hf_M3 rfl) (fun b k h => w8_0.2.1 b k h))), (by rw [← hpe]; exact w8_0.1), (by unfold GAK; rw [← hpe, (show fstv M8 = 1 from by unfold fstv; rw [← w9_0]; exact if_pos (by first | (left; omega) | (right; omega))), ← w9_0]; exact Or.inr (Or.inr ⟨((w42_0.resolve_left (fun h => by omega)).2), r9, M8, M45, Or.inl ⟨by rw [← w9_0]; omega, w9_0, rfl⟩, by have h9 := w45_0; rw [hpe] at h9; rw [hpe]; exact h9, Or.inr ⟨(fun h => by unfold NRD at h; rw [e48, e49] at h; exact Or.elim w47_0 (fun u => by omega) (fun u => Or.elim h (fun z => u.1 z) (fun z => Or.elim z (fun z => u.2.1 z) (fun z => by have h9 := u.2.2; omega)))), w51_0⟩⟩))⟩⟩⟩))
            · exact absurd (by omega) h97
          · have sx89 : (1 : Int) ≤ r42 := by omega
            refine jr.bipush rfl (by decide) ?_
            exact jr.ireturn rfl rfl rfl (q _ _ hC_M8 ht_M8 (by omega) (Or.inr ⟨by rw [p0]; omega, by rw [p0, e4]; exact ⟨v6, (by have hq := HQ.e ((w3_1.resolve_left (fun h => by omega)).2).2.2.2; rw [e6] at hq; exact hq), Or.inr ⟨hxc, by rw [← hpe]; omega, M8, (by rw [← p0]; exact (NH.t (show NH T M3 from by rw [p0]; exact NH.f hf_M3 rfl) (fun b k h => w8_0.2.1 b k h))), (by rw [← hpe]; exact w8_0.1), (by unfold GAK; rw [← hpe, (show fstv M8 = 1 from by unfold fstv; rw [← w9_0]; exact if_pos (by first | (left; omega) | (right; omega))), ← w9_0]; exact Or.inl ⟨(w42_0.resolve_right (fun h => by omega)).2, by omega, rfl⟩)⟩⟩⟩))
    · refine jr.bipush rfl (by decide) ?_
      exact jr.ireturn rfl rfl rfl (q _ _ hC_M3 ht_M3 (by omega) (Or.inr ⟨by rw [p0]; omega, by rw [p0, e4]; exact ⟨v6, (by have hq := HQ.e ((w3_1.resolve_left (fun h => by omega)).2).2.2.2; rw [e6] at hq; exact hq), Or.inl ⟨Or.elim w5_0 (fun h => Or.inl (hxc_n ((w3_1.resolve_left (fun h => by omega)).2) e6 (by rw [e7]; exact h.1))) (fun h => Or.inr (by omega)), by omega, by rw [← p0]; exact (show NH T M3 from by rw [p0]; exact NH.f hf_M3 rfl)⟩⟩⟩))
  · refine jr.bipush rfl (by decide) ?_
    exact jr.ireturn rfl rfl rfl (q _ _ hC_M ht_M (by omega) (Or.inl ⟨by rw [p0]; omega, by omega, by rw [p0]; exact fun _ _ _ _ => rfl⟩))
end
section
/-! ===== the reference: pieces, exactly ===== -/
theorem r_net_L2_x {A : Nat → Option (Nat × (Nat → Int32))} {Q : Option Value → jm → Prop} {f : Int → Int} {N C : Int} {M : jm} (hI_M : RI M) (hH_M : RH M) (hS_M : RF M) (q : ∀ (r : Int), (-1) ≤ r ∧ r ≤ 11 → (r = -1 ∨ (0 ≤ r ∧ r < M 598 6 ∧ (M 603 r = 2 ∧ M 604 r ≤ 380 ∨ M 603 r = 3 ∧ M 604 r ≤ 376))) → (r = -1 → (∀ j : Int, 0 ≤ j → j < M 598 6 → M 603 j ≠ 2 ∧ M 603 j ≠ 3)) → (∀ j : Int, 0 ≤ j → j < r → M 603 j ≠ 2 ∧ M 603 j ≠ 3) → r = ntf f N C → Q (some (.int (Int32.ofInt r))) M) : ∀ (nM : Nat) (h : Int), 0 ≤ h ∧ h ≤ 12 → h ≤ M 598 6 → (∀ j : Int, 0 ≤ j → j < h → M 603 j ≠ 2 ∧ M 603 j ≠ 3) → HT M f N C → ntf f N C = nxN f N (C - h).toNat h → 12 - h ≤ nM → jr A 0 xm_286 2 [(1, .int (Int32.ofInt (h))), (0, .ref (598))] [] M Q := by
  intro nM
  induction nM using Nat.strongRecOn with
  | ind nM ih =>
    intro h h_h hy0 hy1 hy2 hy3 hm
    have rt := RH.two hH_M h
    refine jr.iload_n rfl rfl ?_
    refine jr.aload_n rfl rfl ?_
    obtain ⟨v1, e1⟩ : ∃ z, M 598 6 = z := ⟨_, rfl⟩
    have b1 : 0 ≤ v1 ∧ v1 ≤ 12 := by rw [← e1]; exact hI_M 598 6 (by decide)
    refine jr.getf (i := 6) (x := v1) (v := .int (Int32.ofInt (v1))) rfl rfl (by decide) rfl (by decide) rfl rfl e1 rfl ?_
    refine jr.icmp_ge rfl rfl (by omega) (by omega) (fun h7 => ?_) (fun h7 => ?_)
    · refine jr.iload_n rfl rfl ?_
      refine jr.aload_n rfl rfl ?_
      refine jr.getf (i := 6) (x := v1) (v := .int (Int32.ofInt (v1))) rfl rfl (by decide) rfl (by decide) rfl rfl e1 rfl ?_
      refine jr.icmp_ge rfl rfl (by omega) (by omega) (fun h41 => ?_) (fun h41 => ?_)
      · refine jr.iconst rfl ?_
        exact jr.ireturn rfl rfl rfl (q _ (by omega) (by omega) (fun _ j j0 j1 => hy1 j j0 (by omega)) (fun j j0 j1 => hy1 j j0 (by omega)) (by rw [hy3, nxN_e (by have h9 := hy2.1; omega)]))
      · refine jr.iload_n rfl rfl ?_
        refine jr.goto rfl rfl ?_
        exact jr.ireturn rfl rfl rfl (q _ (by omega) (by omega) (fun q => absurd q (by omega)) (fun j j0 j1 => hy1 j j0 (by omega)) (by have hh := HT.f hy2 (x := h) (by have h9 := hy2.1; omega); rw [hy3, nxN_s (by have h9 := hy2.1; omega), if_pos (by omega)]))
    · refine jr.aload_n rfl rfl ?_
      refine jr.getf (i := 7) (v := .ref 603) rfl rfl (by decide) rfl (by decide) rfl rfl rfl rfl ?_
      refine jr.iload_n rfl rfl ?_
      obtain ⟨v2, e2⟩ : ∃ z, M 603 h = z := ⟨_, rfl⟩
      have b2 : 0 ≤ v2 ∧ v2 ≤ 11 := by rw [← e2]; exact (by have q := hI_M 603 h (by decide); rw [xri_row rfl rfl] at q; exact q)
      refine jr.iald (i := h) (x := v2) rfl (by decide) rfl (by decide) (by omega) (by omega) e2 ?_
      refine jr.iconst rfl ?_
      refine jr.icmp_eq rfl rfl (by omega) (by omega) (fun h17 => ?_) (fun h17 => ?_)
      · refine jr.iload_n rfl rfl ?_
        refine jr.aload_n rfl rfl ?_
        refine jr.getf (i := 6) (x := v1) (v := .int (Int32.ofInt (v1))) rfl rfl (by decide) rfl (by decide) rfl rfl e1 rfl ?_
        refine jr.icmp_ge rfl rfl (by omega) (by omega) (fun h41 => ?_) (fun h41 => ?_)
        · refine jr.iconst rfl ?_
          exact jr.ireturn rfl rfl rfl (q _ (by omega) (by omega) (fun _ j j0 j1 => hy1 j j0 (by omega)) (fun j j0 j1 => hy1 j j0 (by omega)) (by rw [hy3, nxN_e (by have h9 := hy2.1; omega)]))
        · refine jr.iload_n rfl rfl ?_
          refine jr.goto rfl rfl ?_
          exact jr.ireturn rfl rfl rfl (q _ (by omega) (by omega) (fun q => absurd q (by omega)) (fun j j0 j1 => hy1 j j0 (by omega)) (by have hh := HT.f hy2 (x := h) (by have h9 := hy2.1; omega); rw [hy3, nxN_s (by have h9 := hy2.1; omega), if_pos (by omega)]))
      · refine jr.aload_n rfl rfl ?_
        refine jr.getf (i := 7) (v := .ref 603) rfl rfl (by decide) rfl (by decide) rfl rfl rfl rfl ?_
        refine jr.iload_n rfl rfl ?_
        refine jr.iald (i := h) (x := v2) rfl (by decide) rfl (by decide) (by omega) (by omega) e2 ?_
        refine jr.iconst rfl ?_
        refine jr.icmp_eq rfl rfl (by omega) (by omega) (fun h27 => ?_) (fun h27 => ?_)
        · refine jr.iload_n rfl rfl ?_
          refine jr.aload_n rfl rfl ?_
          refine jr.getf (i := 6) (x := v1) (v := .int (Int32.ofInt (v1))) rfl rfl (by decide) rfl (by decide) rfl rfl e1 rfl ?_
          refine jr.icmp_ge rfl rfl (by omega) (by omega) (fun h41 => ?_) (fun h41 => ?_)
          · refine jr.iconst rfl ?_
            exact jr.ireturn rfl rfl rfl (q _ (by omega) (by omega) (fun _ j j0 j1 => hy1 j j0 (by omega)) (fun j j0 j1 => hy1 j j0 (by omega)) (by rw [hy3, nxN_e (by have h9 := hy2.1; omega)]))
          · refine jr.iload_n rfl rfl ?_
            refine jr.goto rfl rfl ?_
            exact jr.ireturn rfl rfl rfl (q _ (by omega) (by omega) (fun q => absurd q (by omega)) (fun j j0 j1 => hy1 j j0 (by omega)) (by have hh := HT.f hy2 (x := h) (by have h9 := hy2.1; omega); rw [hy3, nxN_s (by have h9 := hy2.1; omega), if_pos (by omega)]))
        · refine jr.iinc rfl rfl (by decide) rfl ?_
          refine jr.goto rfl rfl ?_
          refine jr.pick [0, 1] rfl rfl ?_
          exact ih (nM - 1) (by omega) (h + 1) (by omega) (by omega) (fun j j0 j1 => by by_cases q : j = h; (subst q; omega); exact hy1 j j0 (by omega)) hy2 (by have hh := HT.f hy2 (x := h) (by have h9 := hy2.1; omega); rw [hy3, nxN_s (by have h9 := hy2.1; omega), if_neg (by omega)]) (by omega)
theorem r_net_x {A : Nat → Option (Nat × (Nat → Int32))} {Q : Option Value → jm → Prop} {f : Int → Int} {N C : Int} {M : jm} (hI_M : RI M) (hH_M : RH M) (hS_M : RF M) (p0 : HT M f N C) (q : ∀ (r : Int), (-1) ≤ r ∧ r ≤ 11 → (r = -1 ∨ (0 ≤ r ∧ r < M 598 6 ∧ (M 603 r = 2 ∧ M 604 r ≤ 380 ∨ M 603 r = 3 ∧ M 604 r ≤ 376))) → (r = -1 → (∀ j : Int, 0 ≤ j → j < M 598 6 → M 603 j ≠ 2 ∧ M 603 j ≠ 3)) → (∀ j : Int, 0 ≤ j → j < r → M 603 j ≠ 2 ∧ M 603 j ≠ 3) → r = ntf f N C → Q (some (.int (Int32.ofInt r))) M) : jc A 1 286 [.ref (598)] M Q := by
  have bh : (0 : Int) ≤ M 598 6 ∧ M 598 6 ≤ 12 := hI_M 598 6 (by decide)
  refine jc_of (m := xm_286) rfl (Nat.le_of_ble_eq_true rfl) rfl ?_
  refine jr.iconst rfl ?_
  refine jr.istore_n rfl (by decide) rfl ?_
  refine jr.pick [0, 1] rfl rfl ?_
  exact r_net_L2_x hI_M hH_M hS_M q 12 0 (by omega) (by omega) (fun j j0 j1 => by omega) p0 (by unfold ntf; rw [show C - 0 = C from by omega]) (by omega)
theorem r_piece_L67_x {A : Nat → Option (Nat × (Nat → Int32))} {Q : Option Value → jm → Prop} {f : Int → Int} {N C : Int} {M : jm} (hI_M : RI M) (hH_M : RH M) (hS_M : RF M) (q : ∀ (r : Int), (-1) ≤ r ∧ r ≤ 11 → (r = -1 ∨ (0 ≤ r ∧ r < M 598 6 ∧ (M 603 r = 2 ∧ M 604 r ≤ 380 ∨ M 603 r = 6 ∧ M 604 r ≤ 392 ∧ 1 ≤ r))) → (r ≠ -1 → (∃ t : Int, 0 ≤ t ∧ t < M 598 6 ∧ (M 603 t = 2 ∨ M 603 t = 3) ∧ (∀ j : Int, 0 ≤ j → j < t → M 603 j ≠ 2 ∧ M 603 j ≠ 3) ∧ ((M 603 r = 2 ∧ t = r) ∨ (M 603 r = 6 ∧ M 603 t = 3)))) → r = pcf f N C → Q (some (.int (Int32.ofInt r))) M) : ∀ (nM : Nat) (h : Int) (x : Int), 1 ≤ h ∧ h ≤ 13 → 0 ≤ x ∧ x ≤ 23 → (∃ t : Int, 0 ≤ t ∧ t < M 598 6 ∧ M 603 t = 3 ∧ (∀ j : Int, 0 ≤ j → j < t → M 603 j ≠ 2 ∧ M 603 j ≠ 3)) → HT M f N C → rf M x = f → pcf f N C = (if kA f N C (nxI f N (C - h).toNat h) = 6 then nxI f N (C - h).toNat h else -1) → 13 - h ≤ nM → jr A 4 xm_287 67 [(2, .int (Int32.ofInt (h))), (1, .int (Int32.ofInt (x))), (0, .ref (598))] [] M Q := by
  intro nM
  induction nM using Nat.strongRecOn with
  | ind nM ih =>
    intro h x h_h h_x hy0 hy1 hy2 hy3 hm
    have rt := RH.part hH_M h
    refine jr.iload_n rfl rfl ?_
    refine jr.aload_n rfl rfl ?_
    obtain ⟨v1, e1⟩ : ∃ z, M 598 6 = z := ⟨_, rfl⟩
    have b1 : 0 ≤ v1 ∧ v1 ≤ 12 := by rw [← e1]; exact hI_M 598 6 (by decide)
    refine jr.getf (i := 6) (x := v1) (v := .int (Int32.ofInt (v1))) rfl rfl (by decide) rfl (by decide) rfl rfl e1 rfl ?_
    refine jr.icmp_ge rfl rfl (by omega) (by omega) (fun h72 => ?_) (fun h72 => ?_)
    · refine jr.iload_n rfl rfl ?_
      refine jr.aload_n rfl rfl ?_
      refine jr.getf (i := 6) (x := v1) (v := .int (Int32.ofInt (v1))) rfl rfl (by decide) rfl (by decide) rfl rfl e1 rfl ?_
      refine jr.icmp_ge rfl rfl (by omega) (by omega) (fun h106 => ?_) (fun h106 => ?_)
      · refine jr.iconst rfl ?_
        exact jr.ireturn rfl rfl rfl (q _ (by omega) (by omega) (fun q => by first | exact absurd rfl q | (obtain ⟨t, z1, z2, z3, z4⟩ := hy0; exact ⟨t, z1, z2, Or.inr z3, z4, Or.inr ⟨by omega, z3⟩⟩) | exact ⟨r1, by omega, by omega, by omega, w1_2, Or.inl ⟨by omega, rfl⟩⟩) (by first | (exfalso; omega) | (rw [hy3, nxI_e (by have h9 := hy1.1; omega)]; split <;> rfl) | (have hc : 0 ≤ h ∧ h < C := (by have h9 := hy1.1; omega); have hh := HT.f hy1 hc; have e : nxI f N (C - h).toNat h = h := (by rw [nxI_s hc.2, if_neg (by omega)]); rw [hy3, e, kA_i hc, if_neg (by omega)])))
      · refine jr.aload_n rfl rfl ?_
        refine jr.getf (i := 7) (v := .ref 603) rfl rfl (by decide) rfl (by decide) rfl rfl rfl rfl ?_
        refine jr.iload_n rfl rfl ?_
        obtain ⟨v2, e2⟩ : ∃ z, M 603 h = z := ⟨_, rfl⟩
        have b2 : 0 ≤ v2 ∧ v2 ≤ 11 := by rw [← e2]; exact (by have q := hI_M 603 h (by decide); rw [xri_row rfl rfl] at q; exact q)
        refine jr.iald (i := h) (x := v2) rfl (by decide) rfl (by decide) (by omega) (by omega) e2 ?_
        refine jr.bipush rfl (by decide) ?_
        refine jr.icmp_ne rfl rfl (by omega) (by omega) (fun h117 => ?_) (fun h117 => ?_)
        · refine jr.iconst rfl ?_
          exact jr.ireturn rfl rfl rfl (q _ (by omega) (by omega) (fun q => by first | exact absurd rfl q | (obtain ⟨t, z1, z2, z3, z4⟩ := hy0; exact ⟨t, z1, z2, Or.inr z3, z4, Or.inr ⟨by omega, z3⟩⟩) | exact ⟨r1, by omega, by omega, by omega, w1_2, Or.inl ⟨by omega, rfl⟩⟩) (by first | (exfalso; omega) | (rw [hy3, nxI_e (by have h9 := hy1.1; omega)]; split <;> rfl) | (have hc : 0 ≤ h ∧ h < C := (by have h9 := hy1.1; omega); have hh := HT.f hy1 hc; have e : nxI f N (C - h).toNat h = h := (by rw [nxI_s hc.2, if_neg (by omega)]); rw [hy3, e, kA_i hc, if_neg (by omega)])))
        · refine jr.iload_n rfl rfl ?_
          refine jr.goto rfl rfl ?_
          exact jr.ireturn rfl rfl rfl (q _ (by omega) (by omega) (fun q => by first | exact absurd rfl q | (obtain ⟨t, z1, z2, z3, z4⟩ := hy0; exact ⟨t, z1, z2, Or.inr z3, z4, Or.inr ⟨by omega, z3⟩⟩) | exact ⟨r1, by omega, by omega, by omega, w1_2, Or.inl ⟨by omega, rfl⟩⟩) (by have hc : 0 ≤ h ∧ h < C := (by have h9 := hy1.1; omega); have hh := HT.f hy1 hc; have e : nxI f N (C - h).toNat h = h := (by rw [nxI_s hc.2, if_neg (by omega)]); rw [hy3, e, kA_i hc, if_pos (by omega)]))
    · refine jr.aload_n rfl rfl ?_
      refine jr.getf (i := 7) (v := .ref 603) rfl rfl (by decide) rfl (by decide) rfl rfl rfl rfl ?_
      refine jr.iload_n rfl rfl ?_
      obtain ⟨v3, e3⟩ : ∃ z, M 603 h = z := ⟨_, rfl⟩
      have b3 : 0 ≤ v3 ∧ v3 ≤ 11 := by rw [← e3]; exact (by have q := hI_M 603 h (by decide); rw [xri_row rfl rfl] at q; exact q)
      refine jr.iald (i := h) (x := v3) rfl (by decide) rfl (by decide) (by omega) (by omega) e3 ?_
      refine jr.iconst rfl ?_
      refine jr.icmp_eq rfl rfl (by omega) (by omega) (fun h82 => ?_) (fun h82 => ?_)
      · refine jr.iinc rfl rfl (by decide) rfl ?_
        refine jr.goto rfl rfl ?_
        refine jr.pick [0, 1, 2] rfl rfl ?_
        exact ih (nM - 1) (by omega) (h + 1) x (by omega) (by omega) hy0 hy1 hy2 (by have hc : 0 ≤ h ∧ h < C := (by have h9 := hy1.1; omega); have hh := HT.f hy1 hc; have e : nxI f N (C - h).toNat h = nxI f N (C - (h + 1)).toNat (h + 1) := (by rw [nxI_s hc.2, if_pos (by omega)]); rw [hy3, e]) (by omega)
      · refine jr.aload_n rfl rfl ?_
        refine jr.getf (i := 7) (v := .ref 603) rfl rfl (by decide) rfl (by decide) rfl rfl rfl rfl ?_
        refine jr.iload_n rfl rfl ?_
        refine jr.iald (i := h) (x := v3) rfl (by decide) rfl (by decide) (by omega) (by omega) e3 ?_
        refine jr.iconst rfl ?_
        refine jr.icmp_ne rfl rfl (by omega) (by omega) (fun h92 => ?_) (fun h92 => ?_)
        · refine jr.iload_n rfl rfl ?_
          refine jr.aload_n rfl rfl ?_
          refine jr.getf (i := 6) (x := v1) (v := .int (Int32.ofInt (v1))) rfl rfl (by decide) rfl (by decide) rfl rfl e1 rfl ?_
          refine jr.icmp_ge rfl rfl (by omega) (by omega) (fun h106 => ?_) (fun h106 => ?_)
          · refine jr.iconst rfl ?_
            exact jr.ireturn rfl rfl rfl (q _ (by omega) (by omega) (fun q => by first | exact absurd rfl q | (obtain ⟨t, z1, z2, z3, z4⟩ := hy0; exact ⟨t, z1, z2, Or.inr z3, z4, Or.inr ⟨by omega, z3⟩⟩) | exact ⟨r1, by omega, by omega, by omega, w1_2, Or.inl ⟨by omega, rfl⟩⟩) (by first | (exfalso; omega) | (rw [hy3, nxI_e (by have h9 := hy1.1; omega)]; split <;> rfl) | (have hc : 0 ≤ h ∧ h < C := (by have h9 := hy1.1; omega); have hh := HT.f hy1 hc; have e : nxI f N (C - h).toNat h = h := (by rw [nxI_s hc.2, if_neg (by omega)]); rw [hy3, e, kA_i hc, if_neg (by omega)])))
          · refine jr.aload_n rfl rfl ?_
            refine jr.getf (i := 7) (v := .ref 603) rfl rfl (by decide) rfl (by decide) rfl rfl rfl rfl ?_
            refine jr.iload_n rfl rfl ?_
            refine jr.iald (i := h) (x := v3) rfl (by decide) rfl (by decide) (by omega) (by omega) e3 ?_
            refine jr.bipush rfl (by decide) ?_
            refine jr.icmp_ne rfl rfl (by omega) (by omega) (fun h117 => ?_) (fun h117 => ?_)
            · refine jr.iconst rfl ?_
              exact jr.ireturn rfl rfl rfl (q _ (by omega) (by omega) (fun q => by first | exact absurd rfl q | (obtain ⟨t, z1, z2, z3, z4⟩ := hy0; exact ⟨t, z1, z2, Or.inr z3, z4, Or.inr ⟨by omega, z3⟩⟩) | exact ⟨r1, by omega, by omega, by omega, w1_2, Or.inl ⟨by omega, rfl⟩⟩) (by first | (exfalso; omega) | (rw [hy3, nxI_e (by have h9 := hy1.1; omega)]; split <;> rfl) | (have hc : 0 ≤ h ∧ h < C := (by have h9 := hy1.1; omega); have hh := HT.f hy1 hc; have e : nxI f N (C - h).toNat h = h := (by rw [nxI_s hc.2, if_neg (by omega)]); rw [hy3, e, kA_i hc, if_neg (by omega)])))
            · refine jr.iload_n rfl rfl ?_
              refine jr.goto rfl rfl ?_
              exact jr.ireturn rfl rfl rfl (q _ (by omega) (by omega) (fun q => by first | exact absurd rfl q | (obtain ⟨t, z1, z2, z3, z4⟩ := hy0; exact ⟨t, z1, z2, Or.inr z3, z4, Or.inr ⟨by omega, z3⟩⟩) | exact ⟨r1, by omega, by omega, by omega, w1_2, Or.inl ⟨by omega, rfl⟩⟩) (by have hc : 0 ≤ h ∧ h < C := (by have h9 := hy1.1; omega); have hh := HT.f hy1 hc; have e : nxI f N (C - h).toNat h = h := (by rw [nxI_s hc.2, if_neg (by omega)]); rw [hy3, e, kA_i hc, if_pos (by omega)]))
        · refine jr.iinc rfl rfl (by decide) rfl ?_
          refine jr.goto rfl rfl ?_
          refine jr.pick [0, 1, 2] rfl rfl ?_
          exact ih (nM - 1) (by omega) (h + 1) x (by omega) (by omega) hy0 hy1 hy2 (by have hc : 0 ≤ h ∧ h < C := (by have h9 := hy1.1; omega); have hh := HT.f hy1 hc; have e : nxI f N (C - h).toNat h = nxI f N (C - (h + 1)).toNat (h + 1) := (by rw [nxI_s hc.2, if_pos (by omega)]); rw [hy3, e]) (by omega)
theorem r_piece_x {A : Nat → Option (Nat × (Nat → Int32))} {Q : Option Value → jm → Prop} {f : Int → Int} {N C : Int} {M : jm} (hI_M : RI M) (hH_M : RH M) (hS_M : RF M) {x : Int} (h_x : 0 ≤ x ∧ x ≤ 23) (p0 : HT M f N C) (p1 : rf M x = f) (q : ∀ (r : Int), (-1) ≤ r ∧ r ≤ 11 → (r = -1 ∨ (0 ≤ r ∧ r < M 598 6 ∧ (M 603 r = 2 ∧ M 604 r ≤ 380 ∨ M 603 r = 6 ∧ M 604 r ≤ 392 ∧ 1 ≤ r))) → (r ≠ -1 → (∃ t : Int, 0 ≤ t ∧ t < M 598 6 ∧ (M 603 t = 2 ∨ M 603 t = 3) ∧ (∀ j : Int, 0 ≤ j → j < t → M 603 j ≠ 2 ∧ M 603 j ≠ 3) ∧ ((M 603 r = 2 ∧ t = r) ∨ (M 603 r = 6 ∧ M 603 t = 3)))) → r = pcf f N C → Q (some (.int (Int32.ofInt r))) M) : jc A 5 287 [.ref (598), .int (Int32.ofInt (x))] M Q := by
  refine jc_of (m := xm_287) rfl (Nat.le_of_ble_eq_true rfl) rfl ?_
  refine jr.aload_n rfl rfl ?_
  refine jr_v rfl rfl (Or.inl rfl) rfl rfl (by decide) rfl ⟨rfl, Nat.le_of_ble_eq_true rfl, Nat.le_of_ble_eq_true rfl⟩ rfl (jc.deep (r_net_x hI_M hH_M hS_M   p0 (fun r1 z1 w1_0 w1_1 w1_2 w1_3 => ?_)) (by decide))
  refine jr.istore_n rfl (by decide) rfl ?_
  refine jr.iload_n rfl rfl ?_
  refine jr.iconst rfl ?_
  refine jr.icmp_ne rfl rfl (by omega) (by omega) (fun h7 => ?_) (fun h7 => ?_)
  · refine jr.aload_n rfl rfl ?_
    refine jr.getf (i := 7) (v := .ref 603) rfl rfl (by decide) rfl (by decide) rfl rfl rfl rfl ?_
    refine jr.iload_n rfl rfl ?_
    obtain ⟨v2, e2⟩ : ∃ z, M 603 r1 = z := ⟨_, rfl⟩
    have b2 : 0 ≤ v2 ∧ v2 ≤ 11 := by rw [← e2]; exact (by have q := hI_M 603 r1 (by decide); rw [xri_row rfl rfl] at q; exact q)
    refine jr.iald (i := r1) (x := v2) rfl (by decide) rfl (by decide) (by omega) (by omega) e2 ?_
    refine jr.iconst rfl ?_
    refine jr.icmp_ne rfl rfl (by omega) (by omega) (fun h19 => ?_) (fun h19 => ?_)
    · refine jr.iinc rfl rfl (by decide) rfl ?_
      refine jr.pick [0, 2, 1] rfl rfl ?_
      exact r_piece_L67_x hI_M hH_M hS_M q 13 (r1 + 1) x (by omega) (by omega) ⟨r1, by omega, by omega, by omega, w1_2⟩ p0 p1 (by have h6 := p0.1; have hc : 0 ≤ r1 ∧ r1 < C := (by omega); have hh := HT.f p0 hc; unfold pcf; rw [← w1_3, if_neg (by omega), if_neg (by rw [kA_i hc]; omega)]; rfl) (by omega)
    · refine jr.aload_n rfl rfl ?_
      refine jr.iload_n rfl rfl ?_
      refine jr.aload_n rfl rfl ?_
      refine jr.getf (i := 8) (v := .ref 604) rfl rfl (by decide) rfl (by decide) rfl rfl rfl rfl ?_
      refine jr.iload_n rfl rfl ?_
      obtain ⟨v3, e3⟩ : ∃ z, M 604 r1 = z := ⟨_, rfl⟩
      have b3 : 0 ≤ v3 ∧ v3 ≤ 400 := by rw [← e3]; exact (by have q := hI_M 604 r1 (by decide); rw [xri_row rfl rfl] at q; exact q)
      refine jr.iald (i := r1) (x := v3) rfl (by decide) rfl (by decide) (by omega) (by omega) e3 ?_
      refine jr.iconst rfl ?_
      refine jr_v rfl rfl (Or.inl rfl) rfl rfl (by decide) rfl ⟨rfl, Nat.le_of_ble_eq_true rfl, Nat.le_of_ble_eq_true rfl⟩ rfl (jc.deep (r_ofFour_x hI_M hH_M hS_M  (by omega) (by omega) (by omega)  (fun r4 z4 w4_0 => ?_)) (by decide))
      refine jr.lconst (x := 0) rfl (by decide) ?_
      refine jr.lcmp_gt rfl rfl rfl (by omega) (by omega) (fun h35 => ?_) (fun h35 => ?_)
      · refine jr.iload_n rfl rfl ?_
        refine jr.goto rfl rfl ?_
        exact jr.ireturn rfl rfl rfl (q _ (by omega) (by omega) (fun q => by first | exact absurd rfl q | (obtain ⟨t, z1, z2, z3, z4⟩ := hy0; exact ⟨t, z1, z2, Or.inr z3, z4, Or.inr ⟨by omega, z3⟩⟩) | exact ⟨r1, by omega, by omega, by omega, w1_2, Or.inl ⟨by omega, rfl⟩⟩) (by have h6 := p0.1; have hc : 0 ≤ r1 ∧ r1 < C := (by omega); have hh := HT.f p0 hc; have hk : hX f N r1 = 2 := (by omega); have hka : kA f N C r1 = 2 := (by rw [kA_i hc]; exact hk); have v5 := vA_k (j := 5) hc hk (by decide +kernel); have v4 := vA_k (j := 4) hc hk (by decide +kernel); rw [← hh.2.1, e3] at v5 v4; have o5 : ofs f N C r1 = 8 * r4 := (by unfold ofs; rw [if_pos hka, v5, ← p1, ← w4_0 _]); unfold pcf; rw [← w1_3, if_neg (by omega), if_pos hka]; first | (rw [if_pos (Or.inr (by omega))]; done) | (rw [if_pos (Or.inl (by omega))])))
      · refine jr.aload_n rfl rfl ?_
        refine jr.iload_n rfl rfl ?_
        refine jr.aload_n rfl rfl ?_
        refine jr.getf (i := 8) (v := .ref 604) rfl rfl (by decide) rfl (by decide) rfl rfl rfl rfl ?_
        refine jr.iload_n rfl rfl ?_
        refine jr.iald (i := r1) (x := v3) rfl (by decide) rfl (by decide) (by omega) (by omega) e3 ?_
        refine jr.iconst rfl ?_
        refine jr_v rfl rfl (Or.inl rfl) rfl rfl (by decide) rfl ⟨rfl, Nat.le_of_ble_eq_true rfl, Nat.le_of_ble_eq_true rfl⟩ rfl (jc.deep (r_ofFour_x hI_M hH_M hS_M  (by omega) (by omega) (by omega)  (fun r5 z5 w5_0 => ?_)) (by decide))
        refine jr.lconst (x := 1) rfl (by decide) ?_
        refine jr.land rfl ?_
        have b6 : jl_and r5 1 = r5 % 2 ∧ 0 ≤ jl_and r5 1 ∧ jl_and r5 1 ≤ 1 := ⟨jl_and_1 _, by rw [jl_and_1]; omega⟩
        generalize jl_and r5 1 = v6 at b6 ⊢
        refine jr.lconst (x := 1) rfl (by decide) ?_
        refine jr.lcmp_ne rfl rfl rfl (by omega) (by omega) (fun h54 => ?_) (fun h54 => ?_)
        · refine jr.iconst rfl ?_
          exact jr.ireturn rfl rfl rfl (q _ (by omega) (by omega) (fun q => by first | exact absurd rfl q | (obtain ⟨t, z1, z2, z3, z4⟩ := hy0; exact ⟨t, z1, z2, Or.inr z3, z4, Or.inr ⟨by omega, z3⟩⟩) | exact ⟨r1, by omega, by omega, by omega, w1_2, Or.inl ⟨by omega, rfl⟩⟩) (by have h6 := p0.1; have hc : 0 ≤ r1 ∧ r1 < C := (by omega); have hh := HT.f p0 hc; have hk : hX f N r1 = 2 := (by omega); have hka : kA f N C r1 = 2 := (by rw [kA_i hc]; exact hk); have v5 := vA_k (j := 5) hc hk (by decide +kernel); have v4 := vA_k (j := 4) hc hk (by decide +kernel); rw [← hh.2.1, e3] at v5 v4; have o5 : ofs f N C r1 = 8 * r4 := (by unfold ofs; rw [if_pos hka, v5, ← p1, ← w4_0 _]); have m4 : mrf f N C r1 = r5 % 2 := (by unfold mrf; rw [if_pos hka, v4, ← p1, ← w5_0 _]); unfold pcf; rw [← w1_3, if_neg (by omega), if_pos hka]; rw [if_neg (by omega)]))
        · refine jr.iload_n rfl rfl ?_
          refine jr.goto rfl rfl ?_
          exact jr.ireturn rfl rfl rfl (q _ (by omega) (by omega) (fun q => by first | exact absurd rfl q | (obtain ⟨t, z1, z2, z3, z4⟩ := hy0; exact ⟨t, z1, z2, Or.inr z3, z4, Or.inr ⟨by omega, z3⟩⟩) | exact ⟨r1, by omega, by omega, by omega, w1_2, Or.inl ⟨by omega, rfl⟩⟩) (by have h6 := p0.1; have hc : 0 ≤ r1 ∧ r1 < C := (by omega); have hh := HT.f p0 hc; have hk : hX f N r1 = 2 := (by omega); have hka : kA f N C r1 = 2 := (by rw [kA_i hc]; exact hk); have v5 := vA_k (j := 5) hc hk (by decide +kernel); have v4 := vA_k (j := 4) hc hk (by decide +kernel); rw [← hh.2.1, e3] at v5 v4; have o5 : ofs f N C r1 = 8 * r4 := (by unfold ofs; rw [if_pos hka, v5, ← p1, ← w4_0 _]); unfold pcf; rw [← w1_3, if_neg (by omega), if_pos hka]; first | (rw [if_pos (Or.inr (by omega))]; done) | (have m4 : mrf f N C r1 = r5 % 2 := (by unfold mrf; rw [if_pos hka, v4, ← p1, ← w5_0 _]); rw [if_pos (Or.inl (by omega))])))
  · refine jr.iconst rfl ?_
    exact jr.ireturn rfl rfl rfl (q _ (by omega) (by omega) (fun q => by first | exact absurd rfl q | (obtain ⟨t, z1, z2, z3, z4⟩ := hy0; exact ⟨t, z1, z2, Or.inr z3, z4, Or.inr ⟨by omega, z3⟩⟩) | exact ⟨r1, by omega, by omega, by omega, w1_2, Or.inl ⟨by omega, rfl⟩⟩) (by unfold pcf; rw [← w1_3, if_pos (by omega)]))
/-! ===== the reference: gatherings, exactly ===== -/
/-- the last gathering of that name below n -/
noncomputable def gL (M : jm) (k a b c o : Int) : Nat → Int
  | 0 => -1
  | n + 1 => if M 606 (n : Int) ≠ 0 ∧ M 607 (n : Int) = k ∧ M 608 (n : Int) = a ∧ M 609 (n : Int) = b ∧ M 610 (n : Int) = c ∧ M 611 (n : Int) = o then (n : Int) else gL M k a b c o n
theorem gL_s {M : jm} {k a b c o i : Int} (h : 0 ≤ i) : gL M k a b c o (i + 1).toNat = if M 606 i ≠ 0 ∧ M 607 i = k ∧ M 608 i = a ∧ M 609 i = b ∧ M 610 i = c ∧ M 611 i = o then i else gL M k a b c o i.toNat := by
  obtain ⟨n, rfl⟩ := Int.eq_ofNat_of_zero_le h
  rw [show ((n : Int) + 1).toNat = n + 1 by omega, show ((n : Int)).toNat = n by omega]
  rfl
noncomputable def gE (M : jm) : Nat → Int → Int
  | 0, _ => -1
  | n + 1, i => if M 606 i = 0 then i else gE M n (i + 1)
theorem gE_s {M : jm} {i : Int} (h : i < 8) : gE M (8 - i).toNat i = if M 606 i = 0 then i else gE M (8 - (i + 1)).toNat (i + 1) := by
  obtain ⟨n, hn⟩ : ∃ n : Nat, i = 7 - n := ⟨(7 - i).toNat, by omega⟩
  subst hn
  rw [show (8 - (7 - (n : Int))).toNat = n + 1 by omega, show (8 - (7 - (n : Int) + 1)).toNat = n by omega]
  rfl
theorem r_gathering_L6_x {A : Nat → Option (Nat × (Nat → Int32))} {Q : Option Value → jm → Prop} {k0 : Int} {a0 : Int} {b0 : Int} {c0 : Int} {o0 : Int} {M : jm} (hI_M : RI M) (hH_M : RH M) (hS_M : RF M) (q : ∀ (r : Int), (-1) ≤ r ∧ r ≤ 7 → (r = -1 ∨ (0 ≤ r ∧ M 606 r ≠ 0 ∧ M 607 r = k0)) → r = gL M k0 a0 b0 c0 o0 8 → Q (some (.int (Int32.ofInt r))) M) : ∀ (nM : Nat) (g : Int) (f : Int) (o : Int) (c : Int) (b : Int) (a : Int) (k : Int), 0 ≤ g ∧ g ≤ 8 → (-1) ≤ f ∧ f ≤ 7 → (-2147483648) ≤ o ∧ o ≤ 2147483647 → (-9223372036854775808) ≤ c ∧ c ≤ 9223372036854775807 → (-9223372036854775808) ≤ b ∧ b ≤ 9223372036854775807 → (-9223372036854775808) ≤ a ∧ a ≤ 9223372036854775807 → (-2147483648) ≤ k ∧ k ≤ 2147483647 → (f = -1 ∨ (0 ≤ f ∧ M 606 f ≠ 0 ∧ M 607 f = k)) → f = gL M k a b c o g.toNat → k = k0 → a = a0 → b = b0 → c = c0 → o = o0 → 8 - g ≤ nM → jr A 0 xm_288 6 [(10, .int (Int32.ofInt (g))), (9, .int (Int32.ofInt (f))), (8, .int (Int32.ofInt (o))), (6, .long (Int64.ofInt (c))), (4, .long (Int64.ofInt (b))), (2, .long (Int64.ofInt (a))), (1, .int (Int32.ofInt (k))), (0, .ref (598))] [] M Q := by
  intro nM
  induction nM using Nat.strongRecOn with
  | ind nM ih =>
    intro g f o c b a k h_g h_f h_o h_c h_b h_a h_k hy0 hy1 hy2 hy3 hy4 hy5 hy6 hm
    subst hy2
    subst hy3
    subst hy4
    subst hy5
    subst hy6
    refine jr.iload rfl rfl ?_
    refine jr.bipush rfl (by decide) ?_
    refine jr.icmp_ge rfl rfl (by omega) (by omega) (fun h10 => ?_) (fun h10 => ?_)
    · refine jr.iload rfl rfl ?_
      exact jr.ireturn rfl rfl rfl (q _ (by omega) (by omega) (by have h9 := hy1; rw [show g = 8 from by omega] at h9; exact h9))
    · refine jr.aload_n rfl rfl ?_
      refine jr.getf (i := 17) (v := .ref 606) rfl rfl (by decide) rfl (by decide) rfl rfl rfl rfl ?_
      refine jr.iload rfl rfl ?_
      obtain ⟨v1, e1⟩ : ∃ z, M 606 g = z := ⟨_, rfl⟩
      have b1 : 0 ≤ v1 ∧ v1 ≤ 1 := by rw [← e1]; exact (by have q := hI_M 606 g (by decide); rw [xri_row rfl rfl] at q; exact q)
      refine jr.zald (i := g) (x := v1) rfl (by decide) rfl (by decide) (by omega) (by omega) e1 ?_
      refine jr.if_eq rfl rfl (by omega) (fun h20 => ?_) (fun h20 => ?_)
      · refine jr.iload rfl rfl ?_
        refine jr.istore rfl (by decide) rfl ?_
        refine jr.iinc rfl rfl (by decide) rfl ?_
        refine jr.goto rfl rfl ?_
        refine jr.pick [0, 1, 2, 3, 4, 5, 6, 7] rfl rfl ?_
        exact ih (nM - 1) (by omega) (g + 1) f o c b a k (by omega) (by omega) (by omega) (by omega) (by omega) (by omega) (by omega) (by omega) (by rw [gL_s (by omega)]; first | (rw [if_pos (by omega)]; done) | (rw [if_neg (by omega)]; exact hy1)) (by omega) (by omega) (by omega) (by omega) (by omega) (by omega)
      · refine jr.aload_n rfl rfl ?_
        refine jr.getf (i := 18) (v := .ref 607) rfl rfl (by decide) rfl (by decide) rfl rfl rfl rfl ?_
        refine jr.iload rfl rfl ?_
        obtain ⟨v2, e2⟩ : ∃ z, M 607 g = z := ⟨_, rfl⟩
        have b2 : 0 ≤ v2 ∧ v2 ≤ 11 := by rw [← e2]; exact (by have q := hI_M 607 g (by decide); rw [xri_row rfl rfl] at q; exact q)
        refine jr.iald (i := g) (x := v2) rfl (by decide) rfl (by decide) (by omega) (by omega) e2 ?_
        refine jr.iload_n rfl rfl ?_
        refine jr.icmp_ne rfl rfl (by omega) (by omega) (fun h31 => ?_) (fun h31 => ?_)
        · refine jr.iload rfl rfl ?_
          refine jr.istore rfl (by decide) rfl ?_
          refine jr.iinc rfl rfl (by decide) rfl ?_
          refine jr.goto rfl rfl ?_
          refine jr.pick [0, 1, 2, 3, 4, 5, 6, 7] rfl rfl ?_
          exact ih (nM - 1) (by omega) (g + 1) f o c b a k (by omega) (by omega) (by omega) (by omega) (by omega) (by omega) (by omega) (by omega) (by rw [gL_s (by omega)]; first | (rw [if_pos (by omega)]; done) | (rw [if_neg (by omega)]; exact hy1)) (by omega) (by omega) (by omega) (by omega) (by omega) (by omega)
        · refine jr.aload_n rfl rfl ?_
          refine jr.getf (i := 19) (v := .ref 608) rfl rfl (by decide) rfl (by decide) rfl rfl rfl rfl ?_
          refine jr.iload rfl rfl ?_
          obtain ⟨v3, e3⟩ : ∃ z, M 608 g = z := ⟨_, rfl⟩
          have b3 : (-9223372036854775808) ≤ v3 ∧ v3 ≤ 9223372036854775807 := by rw [← e3]; exact (by have q := hI_M 608 g (by decide); rw [xri_row rfl rfl] at q; exact q)
          refine jr.lald (i := g) (x := v3) rfl (by decide) rfl (by decide) (by omega) (by omega) e3 ?_
          refine jr.lload_n rfl rfl ?_
          refine jr.lcmp_ne rfl rfl rfl (by omega) (by omega) (fun h42 => ?_) (fun h42 => ?_)
          · refine jr.iload rfl rfl ?_
            refine jr.istore rfl (by decide) rfl ?_
            refine jr.iinc rfl rfl (by decide) rfl ?_
            refine jr.goto rfl rfl ?_
            refine jr.pick [0, 1, 2, 3, 4, 5, 6, 7] rfl rfl ?_
            exact ih (nM - 1) (by omega) (g + 1) f o c b a k (by omega) (by omega) (by omega) (by omega) (by omega) (by omega) (by omega) (by omega) (by rw [gL_s (by omega)]; first | (rw [if_pos (by omega)]; done) | (rw [if_neg (by omega)]; exact hy1)) (by omega) (by omega) (by omega) (by omega) (by omega) (by omega)
          · refine jr.aload_n rfl rfl ?_
            refine jr.getf (i := 20) (v := .ref 609) rfl rfl (by decide) rfl (by decide) rfl rfl rfl rfl ?_
            refine jr.iload rfl rfl ?_
            obtain ⟨v4, e4⟩ : ∃ z, M 609 g = z := ⟨_, rfl⟩
            have b4 : (-9223372036854775808) ≤ v4 ∧ v4 ≤ 9223372036854775807 := by rw [← e4]; exact (by have q := hI_M 609 g (by decide); rw [xri_row rfl rfl] at q; exact q)
            refine jr.lald (i := g) (x := v4) rfl (by decide) rfl (by decide) (by omega) (by omega) e4 ?_
            refine jr.lload rfl rfl ?_
            refine jr.lcmp_ne rfl rfl rfl (by omega) (by omega) (fun h55 => ?_) (fun h55 => ?_)
            · refine jr.iload rfl rfl ?_
              refine jr.istore rfl (by decide) rfl ?_
              refine jr.iinc rfl rfl (by decide) rfl ?_
              refine jr.goto rfl rfl ?_
              refine jr.pick [0, 1, 2, 3, 4, 5, 6, 7] rfl rfl ?_
              exact ih (nM - 1) (by omega) (g + 1) f o c b a k (by omega) (by omega) (by omega) (by omega) (by omega) (by omega) (by omega) (by omega) (by rw [gL_s (by omega)]; first | (rw [if_pos (by omega)]; done) | (rw [if_neg (by omega)]; exact hy1)) (by omega) (by omega) (by omega) (by omega) (by omega) (by omega)
            · refine jr.aload_n rfl rfl ?_
              refine jr.getf (i := 21) (v := .ref 610) rfl rfl (by decide) rfl (by decide) rfl rfl rfl rfl ?_
              refine jr.iload rfl rfl ?_
              obtain ⟨v5, e5⟩ : ∃ z, M 610 g = z := ⟨_, rfl⟩
              have b5 : (-9223372036854775808) ≤ v5 ∧ v5 ≤ 9223372036854775807 := by rw [← e5]; exact (by have q := hI_M 610 g (by decide); rw [xri_row rfl rfl] at q; exact q)
              refine jr.lald (i := g) (x := v5) rfl (by decide) rfl (by decide) (by omega) (by omega) e5 ?_
              refine jr.lload rfl rfl ?_
              refine jr.lcmp_ne rfl rfl rfl (by omega) (by omega) (fun h68 => ?_) (fun h68 => ?_)
              · refine jr.iload rfl rfl ?_
                refine jr.istore rfl (by decide) rfl ?_
                refine jr.iinc rfl rfl (by decide) rfl ?_
                refine jr.goto rfl rfl ?_
                refine jr.pick [0, 1, 2, 3, 4, 5, 6, 7] rfl rfl ?_
                exact ih (nM - 1) (by omega) (g + 1) f o c b a k (by omega) (by omega) (by omega) (by omega) (by omega) (by omega) (by omega) (by omega) (by rw [gL_s (by omega)]; first | (rw [if_pos (by omega)]; done) | (rw [if_neg (by omega)]; exact hy1)) (by omega) (by omega) (by omega) (by omega) (by omega) (by omega)
              · refine jr.aload_n rfl rfl ?_
                refine jr.getf (i := 22) (v := .ref 611) rfl rfl (by decide) rfl (by decide) rfl rfl rfl rfl ?_
                refine jr.iload rfl rfl ?_
                obtain ⟨v6, e6⟩ : ∃ z, M 611 g = z := ⟨_, rfl⟩
                have b6 : 0 ≤ v6 ∧ v6 ≤ 255 := by rw [← e6]; exact (by have q := hI_M 611 g (by decide); rw [xri_row rfl rfl] at q; exact q)
                refine jr.iald (i := g) (x := v6) rfl (by decide) rfl (by decide) (by omega) (by omega) e6 ?_
                refine jr.iload rfl rfl ?_
                refine jr.icmp_ne rfl rfl (by omega) (by omega) (fun h81 => ?_) (fun h81 => ?_)
                · refine jr.iload rfl rfl ?_
                  refine jr.istore rfl (by decide) rfl ?_
                  refine jr.iinc rfl rfl (by decide) rfl ?_
                  refine jr.goto rfl rfl ?_
                  refine jr.pick [0, 1, 2, 3, 4, 5, 6, 7] rfl rfl ?_
                  exact ih (nM - 1) (by omega) (g + 1) f o c b a k (by omega) (by omega) (by omega) (by omega) (by omega) (by omega) (by omega) (by omega) (by rw [gL_s (by omega)]; first | (rw [if_pos (by omega)]; done) | (rw [if_neg (by omega)]; exact hy1)) (by omega) (by omega) (by omega) (by omega) (by omega) (by omega)
                · refine jr.iload rfl rfl ?_
                  refine jr.goto rfl rfl ?_
                  refine jr.istore rfl (by decide) rfl ?_
                  refine jr.iinc rfl rfl (by decide) rfl ?_
                  refine jr.goto rfl rfl ?_
                  refine jr.pick [0, 1, 2, 3, 4, 5, 6, 7] rfl rfl ?_
                  exact ih (nM - 1) (by omega) (g + 1) g o c b a k (by omega) (by omega) (by omega) (by omega) (by omega) (by omega) (by omega) (by omega) (by rw [gL_s (by omega)]; first | (rw [if_pos (by omega)]; done) | (rw [if_neg (by omega)]; exact hy1)) (by omega) (by omega) (by omega) (by omega) (by omega) (by omega)
theorem r_gathering_x {A : Nat → Option (Nat × (Nat → Int32))} {Q : Option Value → jm → Prop} {M : jm} (hI_M : RI M) (hH_M : RH M) (hS_M : RF M) {k : Int} (h_k : (-2147483648) ≤ k ∧ k ≤ 2147483647) {a : Int} (h_a : (-9223372036854775808) ≤ a ∧ a ≤ 9223372036854775807) {b : Int} (h_b : (-9223372036854775808) ≤ b ∧ b ≤ 9223372036854775807) {c : Int} (h_c : (-9223372036854775808) ≤ c ∧ c ≤ 9223372036854775807) {o : Int} (h_o : (-2147483648) ≤ o ∧ o ≤ 2147483647) (q : ∀ (r : Int), (-1) ≤ r ∧ r ≤ 7 → (r = -1 ∨ (0 ≤ r ∧ M 606 r ≠ 0 ∧ M 607 r = k)) → r = gL M k a b c o 8 → Q (some (.int (Int32.ofInt r))) M) : jc A 1 288 [.ref (598), .int (Int32.ofInt (k)), .long (Int64.ofInt (a)), .long (Int64.ofInt (b)), .long (Int64.ofInt (c)), .int (Int32.ofInt (o))] M Q := by
  refine jc_of (m := xm_288) rfl (Nat.le_of_ble_eq_true rfl) rfl ?_
  refine jr.iconst rfl ?_
  refine jr.istore rfl (by decide) rfl ?_
  refine jr.iconst rfl ?_
  refine jr.istore rfl (by decide) rfl ?_
  refine jr.pick [0, 1, 7, 6, 5, 4, 3, 2] rfl rfl ?_
  exact r_gathering_L6_x hI_M hH_M hS_M q 8 0 (-1) o c b a k (by omega) (by omega) (by omega) (by omega) (by omega) (by omega) (by omega) (by omega) rfl (by omega) (by omega) (by omega) (by omega) (by omega) (by omega)
theorem r_freeGathering_L5_x {A : Nat → Option (Nat × (Nat → Int32))} {Q : Option Value → jm → Prop} {M : jm} (hI_M : RI M) (hH_M : RH M) (hS_M : RF M) (q : ∀ (r : Int), (-1) ≤ r ∧ r ≤ 7 → r = gE M 8 0 → Q (some (.int (Int32.ofInt r))) M) : ∀ (nM : Nat) (g : Int) (f : Int), (-1) ≤ g ∧ g ≤ 7 → (-1) ≤ f ∧ f ≤ 7 → f = gE M (8 - (g + 1)).toNat (g + 1) → g + 1 ≤ nM → jr A 0 xm_289 5 [(2, .int (Int32.ofInt (g))), (1, .int (Int32.ofInt (f))), (0, .ref (598))] [] M Q := by
  intro nM
  induction nM using Nat.strongRecOn with
  | ind nM ih =>
    intro g f h_g h_f hy0 hm
    refine jr.iload_n rfl rfl ?_
    refine jr.if_lt rfl rfl (by omega) (fun h6 => ?_) (fun h6 => ?_)
    · refine jr.iload_n rfl rfl ?_
      exact jr.ireturn rfl rfl rfl (q _ (by omega) (by have h9 := hy0; rw [show (8 - (g + 1)).toNat = 8 from by omega, show g + 1 = 0 from by omega] at h9; exact h9))
    · refine jr.aload_n rfl rfl ?_
      refine jr.getf (i := 17) (v := .ref 606) rfl rfl (by decide) rfl (by decide) rfl rfl rfl rfl ?_
      refine jr.iload_n rfl rfl ?_
      obtain ⟨v1, e1⟩ : ∃ z, M 606 g = z := ⟨_, rfl⟩
      have b1 : 0 ≤ v1 ∧ v1 ≤ 1 := by rw [← e1]; exact (by have q := hI_M 606 g (by decide); rw [xri_row rfl rfl] at q; exact q)
      refine jr.zald (i := g) (x := v1) rfl (by decide) rfl (by decide) (by omega) (by omega) e1 ?_
      refine jr.if_eq rfl rfl (by omega) (fun h15 => ?_) (fun h15 => ?_)
      · refine jr.iload_n rfl rfl ?_
        refine jr.istore_n rfl (by decide) rfl ?_
        refine jr.iinc rfl rfl (by decide) rfl ?_
        refine jr.goto rfl rfl ?_
        refine jr.pick [0, 1, 2] rfl rfl ?_
        exact ih (nM - 1) (by omega) (g + (-1)) g (by omega) (by omega) (by rw [show g + -1 + 1 = g from by omega, gE_s (by omega)]; first | (rw [if_pos (by omega)]; done) | (rw [if_neg (by omega)]; exact hy0)) (by omega)
      · have sx15 : (1 : Int) ≤ v1 := by omega
        refine jr.iload_n rfl rfl ?_
        refine jr.goto rfl rfl ?_
        refine jr.istore_n rfl (by decide) rfl ?_
        refine jr.iinc rfl rfl (by decide) rfl ?_
        refine jr.goto rfl rfl ?_
        refine jr.pick [0, 1, 2] rfl rfl ?_
        exact ih (nM - 1) (by omega) (g + (-1)) f (by omega) (by omega) (by rw [show g + -1 + 1 = g from by omega, gE_s (by omega)]; first | (rw [if_pos (by omega)]; done) | (rw [if_neg (by omega)]; exact hy0)) (by omega)
theorem r_freeGathering_x {A : Nat → Option (Nat × (Nat → Int32))} {Q : Option Value → jm → Prop} {M : jm} (hI_M : RI M) (hH_M : RH M) (hS_M : RF M) (q : ∀ (r : Int), (-1) ≤ r ∧ r ≤ 7 → r = gE M 8 0 → Q (some (.int (Int32.ofInt r))) M) : jc A 1 289 [.ref (598)] M Q := by
  refine jc_of (m := xm_289) rfl (Nat.le_of_ble_eq_true rfl) rfl ?_
  refine jr.iconst rfl ?_
  refine jr.istore_n rfl (by decide) rfl ?_
  refine jr.bipush rfl (by decide) ?_
  refine jr.istore_n rfl (by decide) rfl ?_
  refine jr.pick [0, 1, 2] rfl rfl ?_
  exact r_freeGathering_L5_x hI_M hH_M hS_M q 8 7 (-1) (by omega) (by omega) rfl (by omega)
end
section
/-! ===== the reference: gatherings grow, begin, take data, keep headers ===== -/
noncomputable def szf (c : Int) : Int := if c ≤ 64 then 64 else if c ≤ 128 then 128 else if c ≤ 256 then 256 else 360
noncomputable def s4 (s : Int) : Prop := s = 64 ∨ s = 128 ∨ s = 256 ∨ s = 360
theorem szf_g {s w t : Int} (h : s = 64 ∨ s = 128 ∨ s = 256 ∨ s = 360) (ht : t ≤ s ∧ (s = t ∨ s ≤ szf w)) (he : w ≤ s ∨ 360 ≤ s) : s = if szf w ≤ t then t else szf w := by
  unfold szf at ht ⊢
  (repeat' split at ht) <;> (repeat' split) <;> omega
theorem szf_s {s w t : Int} (h : s = 64 ∨ s = 128 ∨ s = 256 ∨ s = 360) (ht : t ≤ s) (h1 : s < w) (h2 : s < 360) : (s = 256 → 360 ≤ szf w) ∧ (s ≠ 256 → 2 * s ≤ szf w) := by
  unfold szf
  (repeat' split) <;> omega
theorem r_growRow_L0_x {A : Nat → Option (Nat × (Nat → Int32))} {Q : Option Value → jm → Prop} {M0 : jm} {g0 : Int} {w0 : Int} (q : ∀ (M' : jm), RI M' → RH M' → RF M' → RG1 M' → M' 613 g0 = (if szf w0 ≤ M0 613 g0 then M0 613 g0 else szf w0) → (∀ j : Int, j ≠ g0 → M' 613 j = M0 613 j) → (∀ (a : Nat) (i : Int), a ≠ 613 → M' a i = M0 a i) → Q none M') : ∀ (nM : Nat) (M : jm) (w : Int) (g : Int), RI M → RH M → RF M → (∀ (a : Nat) (i : Int), a ≠ 613 → M a i = M0 a i) → (-2147483648) ≤ w ∧ w ≤ 2147483647 → 0 ≤ g ∧ g ≤ 7 → 1 ≤ M 613 g ∧ M 613 g ≤ 720 → RG1 M → (M 613 g = 64 ∨ M 613 g = 128 ∨ M 613 g = 256 ∨ M 613 g = 360) → (M0 613 g ≤ M 613 g ∧ (M 613 g = M0 613 g ∨ M 613 g ≤ szf w)) → (∀ j : Int, j ≠ g → M 613 j = M0 613 j) → g = g0 → w = w0 → 720 - M 613 g ≤ nM → jr A 0 xm_290 0 [(2, .int (Int32.ofInt (w))), (1, .int (Int32.ofInt (g))), (0, .ref (598))] [] M Q := by
  intro nM
  induction nM using Nat.strongRecOn with
  | ind nM ih =>
    intro M w g hI_M hH_M hS_M hF_M h_w h_g hy0 hy1 hy2 hy3 hy4 hy5 hy6 hm
    subst hy5
    subst hy6
    have hG1 := hy1
    refine jr.aload_n rfl rfl ?_
    refine jr.getf (i := 24) (v := .ref 613) rfl rfl (by decide) rfl (by decide) rfl rfl rfl rfl ?_
    refine jr.iload_n rfl rfl ?_
    obtain ⟨v1, e1⟩ : ∃ z, M 613 g = z := ⟨_, rfl⟩
    have b1 : 0 ≤ v1 ∧ v1 ≤ 720 := by rw [← e1]; exact (by have q := hI_M 613 g (by decide); rw [xri_row rfl rfl] at q; exact q)
    refine jr.iald (i := g) (x := v1) rfl (by decide) rfl (by decide) (by omega) (by omega) e1 ?_
    refine jr.iload_n rfl rfl ?_
    refine jr.icmp_ge rfl rfl (by omega) (by omega) (fun h7 => ?_) (fun h7 => ?_)
    · exact jr.vreturn rfl rfl (q _ hI_M hH_M hS_M  hG1 (szf_g hy2 hy3 (by omega)) hy4 (fun a i f613 => (hF_M a i f613)))
    · refine jr.aload_n rfl rfl ?_
      refine jr.getf (i := 24) (v := .ref 613) rfl rfl (by decide) rfl (by decide) rfl rfl rfl rfl ?_
      refine jr.iload_n rfl rfl ?_
      refine jr.iald (i := g) (x := v1) rfl (by decide) rfl (by decide) (by omega) (by omega) e1 ?_
      refine jr.sipush rfl (by decide) ?_
      refine jr.icmp_ge rfl rfl (by omega) (by omega) (fun h19 => ?_) (fun h19 => ?_)
      · exact jr.vreturn rfl rfl (q _ hI_M hH_M hS_M  hG1 (szf_g hy2 hy3 (by omega)) hy4 (fun a i f613 => (hF_M a i f613)))
      · refine jr.aload_n rfl rfl ?_
        refine jr.getf (i := 24) (v := .ref 613) rfl rfl (by decide) rfl (by decide) rfl rfl rfl rfl ?_
        refine jr.iload_n rfl rfl ?_
        refine jr.aload_n rfl rfl ?_
        refine jr.getf (i := 24) (v := .ref 613) rfl rfl (by decide) rfl (by decide) rfl rfl rfl rfl ?_
        refine jr.iload_n rfl rfl ?_
        refine jr.iald (i := g) (x := v1) rfl (by decide) rfl (by decide) (by omega) (by omega) e1 ?_
        refine jr.sipush rfl (by decide) ?_
        refine jr.icmp_ne rfl rfl (by omega) (by omega) (fun h36 => ?_) (fun h36 => ?_)
        · refine jr.iconst rfl ?_
          refine jr.aload_n rfl rfl ?_
          refine jr.getf (i := 24) (v := .ref 613) rfl rfl (by decide) rfl (by decide) rfl rfl rfl rfl ?_
          refine jr.iload_n rfl rfl ?_
          refine jr.iald (i := g) (x := v1) rfl (by decide) rfl (by decide) (by omega) (by omega) e1 ?_
          refine jr.imul rfl ?_
          refine jr.iast (i := g) (x := (2 * v1)) rfl (by decide) rfl (by decide) (by omega) (by omega) ?_
          refine jr.goto rfl rfl ?_
          refine jr.pick [0, 1, 2] rfl rfl ?_
          exact ih (nM - 1) (by omega) (ju M 613 g (2 * v1)) w g (RI.u hI_M (a := 613) (i := g) (by rw [xri_row rfl rfl]; show (0 : Int) ≤ _ ∧ _ ≤ (720 : Int); omega)) (RH.o hH_M (by decide) (by decide) (by decide)) (RF.o hS_M (by decide) (by decide))  (fun a i f613 => ((ju_c _ _ f613).trans (hF_M a i f613))) (by omega) (by omega) (by rw [(ju_same _ _ _ _)]; omega) (RG1.s613 hG1 (by omega) (by omega)) (by rw [ju_same]; have h9 := hy2; omega) (by rw [ju_same]; have h9 := szf_s (w := w) hy2 hy3.1 (by omega) (by omega); omega) (fun j hj => by rw [ju_i _ _ hj]; exact hy4 j hj) (by omega) (by omega) (by rw [(ju_same _ _ _ _)]; omega)
        · refine jr.sipush rfl (by decide) ?_
          refine jr.goto rfl rfl ?_
          refine jr.iast (i := g) (x := 360) rfl (by decide) rfl (by decide) (by omega) (by omega) ?_
          refine jr.goto rfl rfl ?_
          refine jr.pick [0, 1, 2] rfl rfl ?_
          exact ih (nM - 1) (by omega) (ju M 613 g 360) w g (RI.u hI_M (a := 613) (i := g) (by rw [xri_row rfl rfl]; show (0 : Int) ≤ _ ∧ _ ≤ (720 : Int); omega)) (RH.o hH_M (by decide) (by decide) (by decide)) (RF.o hS_M (by decide) (by decide))  (fun a i f613 => ((ju_c _ _ f613).trans (hF_M a i f613))) (by omega) (by omega) (by rw [(ju_same _ _ _ _)]; omega) (RG1.s613 hG1 (by omega) (by omega)) (by rw [ju_same]; have h9 := hy2; omega) (by rw [ju_same]; have h9 := szf_s (w := w) hy2 hy3.1 (by omega) (by omega); omega) (fun j hj => by rw [ju_i _ _ hj]; exact hy4 j hj) (by omega) (by omega) (by rw [(ju_same _ _ _ _)]; omega)
theorem r_growRow_x {A : Nat → Option (Nat × (Nat → Int32))} {Q : Option Value → jm → Prop} {M : jm} (hI_M : RI M) (hH_M : RH M) (hS_M : RF M) {g : Int} (h_g : 0 ≤ g ∧ g ≤ 7) {w : Int} (h_w : (-2147483648) ≤ w ∧ w ≤ 2147483647) (p0 : (M 613 g = 64 ∨ M 613 g = 128 ∨ M 613 g = 256 ∨ M 613 g = 360)) (p1 : RG1 M) (q : ∀ (M' : jm), RI M' → RH M' → RF M' → RG1 M' → M' 613 g = (if szf w ≤ M 613 g then M 613 g else szf w) → (∀ j : Int, j ≠ g → M' 613 j = M 613 j) → (∀ (a : Nat) (i : Int), a ≠ 613 → M' a i = M a i) → Q none M') : jc A 1 290 [.ref (598), .int (Int32.ofInt (g)), .int (Int32.ofInt (w))] M Q := by
  have hG1 := p1
  refine jc_of (m := xm_290) rfl (Nat.le_of_ble_eq_true rfl) rfl ?_
  obtain ⟨v1, e1⟩ : ∃ z, M 613 g = z := ⟨_, rfl⟩
  have b1 : 0 ≤ v1 ∧ v1 ≤ 720 := by rw [← e1]; exact (by have q := hI_M 613 g (by decide); rw [xri_row rfl rfl] at q; exact q)
  refine jr.pick [2, 1, 0] rfl rfl ?_
  exact r_growRow_L0_x q 720 M w g hI_M hH_M hS_M  (fun a i f613 => rfl) (by omega) (by omega) (by omega) hG1 p0 (by omega) (fun _ _ => rfl) (by omega) (by omega) (by omega)
theorem r_tellWhole_L16_x {A : Nat → Option (Nat × (Nat → Int32))} {Q : Option Value → jm → Prop} {M0 : jm} {g0 : Int} {w0 : Int} (q : ∀ (M' : jm), RI M' → RH M' → RF M' → RG1 M' → (M' 614 g0 = w0 ∧ M' 613 g0 = w0) → (∀ j : Int, j ≠ g0 → M' 614 j = M0 614 j ∧ M' 613 j = M0 613 j) → (∀ j : Int, ¬ (360 * g0 + w0 ≤ j ∧ j < 360 * g0 + 360) → M' 616 j = M0 616 j) → (∀ (a : Nat) (i : Int), a ≠ 613 → a ≠ 614 → a ≠ 616 → M' a i = M0 a i) → Q none M') : ∀ (nM : Nat) (M : jm) (k : Int) (w : Int) (g : Int), RI M → RH M → RF M → (∀ (a : Nat) (i : Int), a ≠ 613 → a ≠ 614 → a ≠ 616 → M a i = M0 a i) → 0 ≤ k ∧ k ≤ 360 → 1 ≤ w ∧ w ≤ 360 → 0 ≤ g ∧ g ≤ 7 → RG1 M → (M 614 g = w ∧ M 613 g = w) → (∀ j : Int, j ≠ g → M 614 j = M0 614 j ∧ M 613 j = M0 613 j) → (∀ j : Int, ¬ (360 * g + w ≤ j ∧ j < 360 * g + 360) → M 616 j = M0 616 j) → w ≤ k → g = g0 → w = w0 → 360 - k ≤ nM → jr A 0 xm_291 16 [(3, .int (Int32.ofInt (k))), (2, .int (Int32.ofInt (w))), (1, .int (Int32.ofInt (g))), (0, .ref (598))] [] M Q := by
  intro nM
  induction nM using Nat.strongRecOn with
  | ind nM ih =>
    intro M k w g hI_M hH_M hS_M hF_M h_k h_w h_g hy0 hy1 hy2 hy3 hy4 hy5 hy6 hm
    subst hy5
    subst hy6
    have hG1 := hy0
    refine jr.iload_n rfl rfl ?_
    refine jr.sipush rfl (by decide) ?_
    refine jr.icmp_ge rfl rfl (by omega) (by omega) (fun h20 => ?_) (fun h20 => ?_)
    · exact jr.vreturn rfl rfl (q _ hI_M hH_M hS_M  hG1 hy1 hy2 hy3 (fun a i f613 f614 f616 => (hF_M a i f613 f614 f616)))
    · refine jr.aload_n rfl rfl ?_
      refine jr.getf (i := 27) (v := .ref 616) rfl rfl (by decide) rfl (by decide) rfl rfl rfl rfl ?_
      refine jr.sipush rfl (by decide) ?_
      refine jr.iload_n rfl rfl ?_
      refine jr.imul rfl ?_
      refine jr.iload_n rfl rfl ?_
      refine jr.iadd rfl ?_
      refine jr.iconst rfl ?_
      refine jr.zast (i := ((360 * g) + k)) (x := 0) rfl (by decide) rfl (by decide) (by omega) (by omega) (j_zn (by omega)) ?_
      refine jr.iinc rfl rfl (by decide) rfl ?_
      refine jr.goto rfl rfl ?_
      refine jr.pick [0, 1, 2, 3] rfl rfl ?_
      exact ih (nM - 1) (by omega) (ju M 616 ((360 * g) + k) 0) (k + 1) w g (RI.u hI_M (a := 616) (i := ((360 * g) + k)) (by rw [xri_row rfl rfl]; show (0 : Int) ≤ _ ∧ _ ≤ (1 : Int); omega)) (RH.o hH_M (by decide) (by decide) (by decide)) (RF.o hS_M (by decide) (by decide))  (fun a i f613 f614 f616 => ((ju_c _ _ f616).trans (hF_M a i f613 f614 f616))) (by omega) (by omega) (by omega) (RG1.o hG1 rfl) (by rw [ju_c _ _ (by decide), ju_c _ _ (by decide)]; exact hy1) (fun j hj => by rw [ju_c _ _ (by decide), ju_c _ _ (by decide)]; exact hy2 j hj) (fun j hj => by rw [ju_i _ _ (by omega)]; exact hy3 j hj) (by omega) (by omega) (by omega) (by omega)
theorem r_tellWhole_x {A : Nat → Option (Nat × (Nat → Int32))} {Q : Option Value → jm → Prop} {M : jm} (hI_M : RI M) (hH_M : RH M) (hS_M : RF M) {g : Int} (h_g : 0 ≤ g ∧ g ≤ 7) {w : Int} (h_w : 1 ≤ w ∧ w ≤ 360) (p0 : RG1 M) (q : ∀ (M' : jm), RI M' → RH M' → RF M' → RG1 M' → (M' 614 g = w ∧ M' 613 g = w) → (∀ j : Int, j ≠ g → M' 614 j = M 614 j ∧ M' 613 j = M 613 j) → (∀ j : Int, ¬ (360 * g + w ≤ j ∧ j < 360 * g + 360) → M' 616 j = M 616 j) → (∀ (a : Nat) (i : Int), a ≠ 613 → a ≠ 614 → a ≠ 616 → M' a i = M a i) → Q none M') : jc A 1 291 [.ref (598), .int (Int32.ofInt (g)), .int (Int32.ofInt (w))] M Q := by
  have hG1 := p0
  refine jc_of (m := xm_291) rfl (Nat.le_of_ble_eq_true rfl) rfl ?_
  refine jr.aload_n rfl rfl ?_
  refine jr.getf (i := 25) (v := .ref 614) rfl rfl (by decide) rfl (by decide) rfl rfl rfl rfl ?_
  refine jr.iload_n rfl rfl ?_
  refine jr.iload_n rfl rfl ?_
  refine jr.iast (i := g) (x := w) rfl (by decide) rfl (by decide) (by omega) (by omega) ?_
  refine jr.aload_n rfl rfl ?_
  refine jr.getf (i := 24) (v := .ref 613) rfl rfl (by decide) rfl (by decide) rfl rfl rfl rfl ?_
  refine jr.iload_n rfl rfl ?_
  refine jr.iload_n rfl rfl ?_
  refine jr.iast (i := g) (x := w) rfl (by decide) rfl (by decide) (by omega) (by omega) ?_
  refine jr.iload_n rfl rfl ?_
  refine jr.istore_n rfl (by decide) rfl ?_
  refine jr.pick [0, 3, 2, 1] rfl rfl ?_
  exact r_tellWhole_L16_x q 360 (ju (ju M 614 g w) 613 g w) w w g (RI.u (RI.u hI_M (a := 614) (i := g) (by rw [xri_row rfl rfl]; show (-1 : Int) ≤ _ ∧ _ ≤ (360 : Int); omega)) (a := 613) (i := g) (by rw [xri_row rfl rfl]; show (0 : Int) ≤ _ ∧ _ ≤ (720 : Int); omega)) (RH.o (RH.o hH_M (by decide) (by decide) (by decide)) (by decide) (by decide) (by decide)) (RF.o (RF.o hS_M (by decide) (by decide)) (by decide) (by decide))  (fun a i f613 f614 f616 => ((ju_c _ _ f613).trans ((ju_c _ _ f614).trans rfl))) (by omega) (by omega) (by omega) (RG1.s613 (RG1.o hG1 rfl) (by omega) (by omega)) ⟨by rw [ju_c _ _ (by decide), ju_same], by rw [ju_same]⟩ (fun j hj => ⟨by rw [ju_c _ _ (by decide), ju_i _ _ hj], by rw [ju_i _ _ hj, ju_c _ _ (by decide)]⟩) (fun j _ => by rw [ju_c _ _ (by decide), ju_c _ _ (by decide)]) (by omega) (by omega) (by omega) (by omega)
theorem r_beginGathering_L83_x {A : Nat → Option (Nat × (Nat → Int32))} {Q : Option Value → jm → Prop} {M0 : jm} {g0 : Int} {k0 : Int} {a0 : Int} {b0 : Int} {c0 : Int} {o0 : Int} (q : ∀ (M' : jm), RI M' → RH M' → RF M' → RG1 M' → M' 606 g0 = 1 → M' 607 g0 = k0 → M' 614 g0 = -1 → M' 617 g0 = -1 → M' 613 g0 = 64 → M' 608 g0 = a0 → M' 609 g0 = b0 → M' 610 g0 = c0 → M' 611 g0 = o0 → M' 612 g0 = M0 598 2 + 30 → (∀ (b0 : Nat) (j : Int), b0 ≠ 616 → j ≠ g0 → M' b0 j = M0 b0 j) → (∀ j : Int, (j < 360 * g0 ∨ 360 * g0 + 360 ≤ j) → M' 616 j = M0 616 j) → (∀ k0 : Int, 0 ≤ k0 → k0 < 360 → M' 616 (360 * g0 + k0) = 0) → (∀ (a0 : Nat) (i : Int), a0 ≠ 606 → a0 ≠ 607 → a0 ≠ 608 → a0 ≠ 609 → a0 ≠ 610 → a0 ≠ 611 → a0 ≠ 612 → a0 ≠ 613 → a0 ≠ 614 → a0 ≠ 616 → a0 ≠ 617 → M' a0 i = M0 a0 i) → Q none M') : ∀ (nM : Nat) (M : jm) (j : Int) (o : Int) (c : Int) (b : Int) (a : Int) (k : Int) (g : Int), RI M → RH M → RF M → (∀ (a : Nat) (i : Int), a ≠ 606 → a ≠ 607 → a ≠ 608 → a ≠ 609 → a ≠ 610 → a ≠ 611 → a ≠ 612 → a ≠ 613 → a ≠ 614 → a ≠ 616 → a ≠ 617 → M a i = M0 a i) → 0 ≤ j ∧ j ≤ 360 → 0 ≤ o ∧ o ≤ 255 → (-9223372036854775808) ≤ c ∧ c ≤ 9223372036854775807 → (-9223372036854775808) ≤ b ∧ b ≤ 9223372036854775807 → (-9223372036854775808) ≤ a ∧ a ≤ 9223372036854775807 → 0 ≤ k ∧ k ≤ 11 → 0 ≤ g ∧ g ≤ 7 → RG1 M → M 606 g = 1 → M 607 g = k → M 614 g = -1 → M 617 g = -1 → M 613 g = 64 → M 608 g = a → M 609 g = b → M 610 g = c → M 611 g = o → M 612 g = M0 598 2 + 30 → (∀ (b0 : Nat) (i : Int), b0 ≠ 616 → i ≠ g → M b0 i = M0 b0 i) → (∀ i : Int, (i < 360 * g ∨ 360 * g + 360 ≤ i) → M 616 i = M0 616 i) → (∀ i : Int, 0 ≤ i → i < j → M 616 (360 * g + i) = 0) → g = g0 → k = k0 → a = a0 → b = b0 → c = c0 → o = o0 → 360 - j ≤ nM → jr A 0 xm_293 83 [(10, .int (Int32.ofInt (j))), (9, .int (Int32.ofInt (o))), (7, .long (Int64.ofInt (c))), (5, .long (Int64.ofInt (b))), (3, .long (Int64.ofInt (a))), (2, .int (Int32.ofInt (k))), (1, .int (Int32.ofInt (g))), (0, .ref (598))] [] M Q := by
  intro nM
  induction nM using Nat.strongRecOn with
  | ind nM ih =>
    intro M j o c b a k g hI_M hH_M hS_M hF_M h_j h_o h_c h_b h_a h_k h_g hy0 hy1 hy2 hy3 hy4 hy5 hy6 hy7 hy8 hy9 hy10 hy11 hy12 hy13 hy14 hy15 hy16 hy17 hy18 hy19 hm
    subst hy14
    subst hy15
    subst hy16
    subst hy17
    subst hy18
    subst hy19
    have hG1 := hy0
    refine jr.iload rfl rfl ?_
    refine jr.sipush rfl (by decide) ?_
    refine jr.icmp_ge rfl rfl (by omega) (by omega) (fun h88 => ?_) (fun h88 => ?_)
    · exact jr.vreturn rfl rfl (q _ hI_M hH_M hS_M  hG1 hy1 hy2 hy3 hy4 hy5 hy6 hy7 hy8 hy9 hy10 hy11 hy12 (fun k k0 k1 => hy13 k k0 (by omega)) (fun a i f606 f607 f608 f609 f610 f611 f612 f613 f614 f616 f617 => (hF_M a i f606 f607 f608 f609 f610 f611 f612 f613 f614 f616 f617)))
    · refine jr.aload_n rfl rfl ?_
      refine jr.getf (i := 27) (v := .ref 616) rfl rfl (by decide) rfl (by decide) rfl rfl rfl rfl ?_
      refine jr.sipush rfl (by decide) ?_
      refine jr.iload_n rfl rfl ?_
      refine jr.imul rfl ?_
      refine jr.iload rfl rfl ?_
      refine jr.iadd rfl ?_
      refine jr.iconst rfl ?_
      refine jr.zast (i := ((360 * g) + j)) (x := 0) rfl (by decide) rfl (by decide) (by omega) (by omega) (j_zn (by omega)) ?_
      refine jr.iinc rfl rfl (by decide) rfl ?_
      refine jr.goto rfl rfl ?_
      obtain ⟨v1, e1⟩ : ∃ z, M 606 g = z := ⟨_, rfl⟩
      have b1 : 0 ≤ v1 ∧ v1 ≤ 1 := by rw [← e1]; exact (by have q := hI_M 606 g (by decide); rw [xri_row rfl rfl] at q; exact q)
      obtain ⟨v2, e2⟩ : ∃ z, M 607 g = z := ⟨_, rfl⟩
      have b2 : 0 ≤ v2 ∧ v2 ≤ 11 := by rw [← e2]; exact (by have q := hI_M 607 g (by decide); rw [xri_row rfl rfl] at q; exact q)
      obtain ⟨v3, e3⟩ : ∃ z, M 614 g = z := ⟨_, rfl⟩
      have b3 : (-1) ≤ v3 ∧ v3 ≤ 360 := by rw [← e3]; exact (by have q := hI_M 614 g (by decide); rw [xri_row rfl rfl] at q; exact q)
      obtain ⟨v4, e4⟩ : ∃ z, M 617 g = z := ⟨_, rfl⟩
      have b4 : (-1) ≤ v4 ∧ v4 ≤ 400 := by rw [← e4]; exact (by have q := hI_M 617 g (by decide); rw [xri_row rfl rfl] at q; exact q)
      obtain ⟨v5, e5⟩ : ∃ z, M 613 g = z := ⟨_, rfl⟩
      have b5 : 0 ≤ v5 ∧ v5 ≤ 720 := by rw [← e5]; exact (by have q := hI_M 613 g (by decide); rw [xri_row rfl rfl] at q; exact q)
      obtain ⟨v6, e6⟩ : ∃ z, M 608 g = z := ⟨_, rfl⟩
      have b6 : (-9223372036854775808) ≤ v6 ∧ v6 ≤ 9223372036854775807 := by rw [← e6]; exact (by have q := hI_M 608 g (by decide); rw [xri_row rfl rfl] at q; exact q)
      obtain ⟨v7, e7⟩ : ∃ z, M 609 g = z := ⟨_, rfl⟩
      have b7 : (-9223372036854775808) ≤ v7 ∧ v7 ≤ 9223372036854775807 := by rw [← e7]; exact (by have q := hI_M 609 g (by decide); rw [xri_row rfl rfl] at q; exact q)
      obtain ⟨v8, e8⟩ : ∃ z, M 610 g = z := ⟨_, rfl⟩
      have b8 : (-9223372036854775808) ≤ v8 ∧ v8 ≤ 9223372036854775807 := by rw [← e8]; exact (by have q := hI_M 610 g (by decide); rw [xri_row rfl rfl] at q; exact q)
      obtain ⟨v9, e9⟩ : ∃ z, M 611 g = z := ⟨_, rfl⟩
      have b9 : 0 ≤ v9 ∧ v9 ≤ 255 := by rw [← e9]; exact (by have q := hI_M 611 g (by decide); rw [xri_row rfl rfl] at q; exact q)
      refine jr.pick [0, 1, 2, 3, 4, 5, 6, 7] rfl rfl ?_
      exact ih (nM - 1) (by omega) (ju M 616 ((360 * g) + j) 0) (j + 1) o c b a k g (RI.u hI_M (a := 616) (i := ((360 * g) + j)) (by rw [xri_row rfl rfl]; show (0 : Int) ≤ _ ∧ _ ≤ (1 : Int); omega)) (RH.o hH_M (by decide) (by decide) (by decide)) (RF.o hS_M (by decide) (by decide))  (fun a i f606 f607 f608 f609 f610 f611 f612 f613 f614 f616 f617 => ((ju_c _ _ f616).trans (hF_M a i f606 f607 f608 f609 f610 f611 f612 f613 f614 f616 f617))) (by omega) (by omega) (by omega) (by omega) (by omega) (by omega) (by omega) (RG1.o hG1 rfl) ((((ju_c _ _ (by decide)).trans e1)).trans (by omega)) ((((ju_c _ _ (by decide)).trans e2)).trans (by omega)) ((((ju_c _ _ (by decide)).trans e3)).trans (by omega)) ((((ju_c _ _ (by decide)).trans e4)).trans (by omega)) ((((ju_c _ _ (by decide)).trans e5)).trans (by omega)) ((((ju_c _ _ (by decide)).trans e6)).trans (by omega)) ((((ju_c _ _ (by decide)).trans e7)).trans (by omega)) ((((ju_c _ _ (by decide)).trans e8)).trans (by omega)) ((((ju_c _ _ (by decide)).trans e9)).trans (by omega)) (by rw [ju_c _ _ (by decide)]; exact hy10) (fun b0 i hb hj => by rw [ju_c _ _ hb]; exact hy11 b0 i hb hj) (fun i hi => by rw [ju_i _ _ (by omega)]; exact hy12 i hi) (fun i i0 i1 => by by_cases e : i = j; (rw [e, ju_same]); (rw [ju_i _ _ (by omega)]; exact hy13 i i0 (by omega))) (by omega) (by omega) (by omega) (by omega) (by omega) (by omega) (by omega)
theorem r_beginGathering_x {A : Nat → Option (Nat × (Nat → Int32))} {Q : Option Value → jm → Prop} {M : jm} (hI_M : RI M) (hH_M : RH M) (hS_M : RF M) {g : Int} (h_g : 0 ≤ g ∧ g ≤ 7) {k : Int} (h_k : 0 ≤ k ∧ k ≤ 11) {a : Int} (h_a : (-9223372036854775808) ≤ a ∧ a ≤ 9223372036854775807) {b : Int} (h_b : (-9223372036854775808) ≤ b ∧ b ≤ 9223372036854775807) {c : Int} (h_c : (-9223372036854775808) ≤ c ∧ c ≤ 9223372036854775807) {o : Int} (h_o : 0 ≤ o ∧ o ≤ 255) (p0 : RG1 M) (q : ∀ (M' : jm), RI M' → RH M' → RF M' → RG1 M' → M' 606 g = 1 → M' 607 g = k → M' 614 g = -1 → M' 617 g = -1 → M' 613 g = 64 → M' 608 g = a → M' 609 g = b → M' 610 g = c → M' 611 g = o → M' 612 g = M 598 2 + 30 → (∀ (b : Nat) (j : Int), b ≠ 616 → j ≠ g → M' b j = M b j) → (∀ j : Int, (j < 360 * g ∨ 360 * g + 360 ≤ j) → M' 616 j = M 616 j) → (∀ k : Int, 0 ≤ k → k < 360 → M' 616 (360 * g + k) = 0) → (∀ (a : Nat) (i : Int), a ≠ 606 → a ≠ 607 → a ≠ 608 → a ≠ 609 → a ≠ 610 → a ≠ 611 → a ≠ 612 → a ≠ 613 → a ≠ 614 → a ≠ 616 → a ≠ 617 → M' a i = M a i) → Q none M') : jc A 1 293 [.ref (598), .int (Int32.ofInt (g)), .int (Int32.ofInt (k)), .long (Int64.ofInt (a)), .long (Int64.ofInt (b)), .long (Int64.ofInt (c)), .int (Int32.ofInt (o))] M Q := by
  have hG1 := p0
  refine jc_of (m := xm_293) rfl (Nat.le_of_ble_eq_true rfl) rfl ?_
  refine jr.aload_n rfl rfl ?_
  refine jr.getf (i := 17) (v := .ref 606) rfl rfl (by decide) rfl (by decide) rfl rfl rfl rfl ?_
  refine jr.iload_n rfl rfl ?_
  refine jr.iconst rfl ?_
  refine jr.zast (i := g) (x := 1) rfl (by decide) rfl (by decide) (by omega) (by omega) (j_zn (by omega)) ?_
  refine jr.aload_n rfl rfl ?_
  refine jr.getf (i := 18) (v := .ref 607) rfl rfl (by decide) rfl (by decide) rfl rfl rfl rfl ?_
  refine jr.iload_n rfl rfl ?_
  refine jr.iload_n rfl rfl ?_
  refine jr.iast (i := g) (x := k) rfl (by decide) rfl (by decide) (by omega) (by omega) ?_
  refine jr.aload_n rfl rfl ?_
  refine jr.getf (i := 19) (v := .ref 608) rfl rfl (by decide) rfl (by decide) rfl rfl rfl rfl ?_
  refine jr.iload_n rfl rfl ?_
  refine jr.lload_n rfl rfl ?_
  refine jr.last (i := g) (x := a) rfl (by decide) rfl (by decide) (by omega) (by omega) ?_
  refine jr.aload_n rfl rfl ?_
  refine jr.getf (i := 20) (v := .ref 609) rfl rfl (by decide) rfl (by decide) rfl rfl rfl rfl ?_
  refine jr.iload_n rfl rfl ?_
  refine jr.lload rfl rfl ?_
  refine jr.last (i := g) (x := b) rfl (by decide) rfl (by decide) (by omega) (by omega) ?_
  refine jr.aload_n rfl rfl ?_
  refine jr.getf (i := 21) (v := .ref 610) rfl rfl (by decide) rfl (by decide) rfl rfl rfl rfl ?_
  refine jr.iload_n rfl rfl ?_
  refine jr.lload rfl rfl ?_
  refine jr.last (i := g) (x := c) rfl (by decide) rfl (by decide) (by omega) (by omega) ?_
  refine jr.aload_n rfl rfl ?_
  refine jr.getf (i := 22) (v := .ref 611) rfl rfl (by decide) rfl (by decide) rfl rfl rfl rfl ?_
  refine jr.iload_n rfl rfl ?_
  refine jr.iload rfl rfl ?_
  refine jr.iast (i := g) (x := o) rfl (by decide) rfl (by decide) (by omega) (by omega) ?_
  refine jr.aload_n rfl rfl ?_
  refine jr.getf (i := 23) (v := .ref 612) rfl rfl (by decide) rfl (by decide) rfl rfl rfl rfl ?_
  refine jr.iload_n rfl rfl ?_
  refine jr.aload_n rfl rfl ?_
  obtain ⟨v1, e1⟩ : ∃ z, M 598 2 = z := ⟨_, rfl⟩
  have b1 : 0 ≤ v1 ∧ v1 ≤ 2000000 := by rw [← e1]; exact hI_M 598 2 (by decide)
  refine jr.getf (i := 2) (x := v1) (v := .int (Int32.ofInt (v1))) rfl rfl (by decide) rfl (by decide) rfl rfl ((ju_c _ _ (by decide)).trans ((ju_c _ _ (by decide)).trans ((ju_c _ _ (by decide)).trans ((ju_c _ _ (by decide)).trans ((ju_c _ _ (by decide)).trans ((ju_c _ _ (by decide)).trans e1)))))) rfl ?_
  refine jr.bipush rfl (by decide) ?_
  refine jr.iadd rfl ?_
  refine jr.iast (i := g) (x := (v1 + 30)) rfl (by decide) rfl (by decide) (by omega) (by omega) ?_
  refine jr.aload_n rfl rfl ?_
  refine jr.getf (i := 24) (v := .ref 613) rfl rfl (by decide) rfl (by decide) rfl rfl rfl rfl ?_
  refine jr.iload_n rfl rfl ?_
  refine jr.bipush rfl (by decide) ?_
  refine jr.iast (i := g) (x := 64) rfl (by decide) rfl (by decide) (by omega) (by omega) ?_
  refine jr.aload_n rfl rfl ?_
  refine jr.getf (i := 25) (v := .ref 614) rfl rfl (by decide) rfl (by decide) rfl rfl rfl rfl ?_
  refine jr.iload_n rfl rfl ?_
  refine jr.iconst rfl ?_
  refine jr.iast (i := g) (x := (-1)) rfl (by decide) rfl (by decide) (by omega) (by omega) ?_
  refine jr.aload_n rfl rfl ?_
  refine jr.getf (i := 28) (v := .ref 617) rfl rfl (by decide) rfl (by decide) rfl rfl rfl rfl ?_
  refine jr.iload_n rfl rfl ?_
  refine jr.iconst rfl ?_
  refine jr.iast (i := g) (x := (-1)) rfl (by decide) rfl (by decide) (by omega) (by omega) ?_
  refine jr.iconst rfl ?_
  refine jr.istore rfl (by decide) rfl ?_
  refine jr.pick [0, 7, 6, 5, 4, 3, 2, 1] rfl rfl ?_
  exact r_beginGathering_L83_x q 360 (ju (ju (ju (ju (ju (ju (ju (ju (ju (ju M 606 g 1) 607 g k) 608 g a) 609 g b) 610 g c) 611 g o) 612 g (v1 + 30)) 613 g 64) 614 g (-1)) 617 g (-1)) 0 o c b a k g (RI.u (RI.u (RI.u (RI.u (RI.u (RI.u (RI.u (RI.u (RI.u (RI.u hI_M (a := 606) (i := g) (by rw [xri_row rfl rfl]; show (0 : Int) ≤ _ ∧ _ ≤ (1 : Int); omega)) (a := 607) (i := g) (by rw [xri_row rfl rfl]; show (0 : Int) ≤ _ ∧ _ ≤ (11 : Int); omega)) (a := 608) (i := g) (by rw [xri_row rfl rfl]; show (-9223372036854775808 : Int) ≤ _ ∧ _ ≤ (9223372036854775807 : Int); omega)) (a := 609) (i := g) (by rw [xri_row rfl rfl]; show (-9223372036854775808 : Int) ≤ _ ∧ _ ≤ (9223372036854775807 : Int); omega)) (a := 610) (i := g) (by rw [xri_row rfl rfl]; show (-9223372036854775808 : Int) ≤ _ ∧ _ ≤ (9223372036854775807 : Int); omega)) (a := 611) (i := g) (by rw [xri_row rfl rfl]; show (0 : Int) ≤ _ ∧ _ ≤ (255 : Int); omega)) (a := 612) (i := g) (by rw [xri_row rfl rfl]; show (0 : Int) ≤ _ ∧ _ ≤ (2000030 : Int); omega)) (a := 613) (i := g) (by rw [xri_row rfl rfl]; show (0 : Int) ≤ _ ∧ _ ≤ (720 : Int); omega)) (a := 614) (i := g) (by rw [xri_row rfl rfl]; show (-1 : Int) ≤ _ ∧ _ ≤ (360 : Int); omega)) (a := 617) (i := g) (by rw [xri_row rfl rfl]; show (-1 : Int) ≤ _ ∧ _ ≤ (400 : Int); omega)) (RH.o (RH.o (RH.o (RH.o (RH.o (RH.o (RH.o (RH.o (RH.o (RH.o hH_M (by decide) (by decide) (by decide)) (by decide) (by decide) (by decide)) (by decide) (by decide) (by decide)) (by decide) (by decide) (by decide)) (by decide) (by decide) (by decide)) (by decide) (by decide) (by decide)) (by decide) (by decide) (by decide)) (by decide) (by decide) (by decide)) (by decide) (by decide) (by decide)) (by decide) (by decide) (by decide)) (RF.o (RF.o (RF.o (RF.o (RF.o (RF.o (RF.o (RF.o (RF.o (RF.o hS_M (by decide) (by decide)) (by decide) (by decide)) (by decide) (by decide)) (by decide) (by decide)) (by decide) (by decide)) (by decide) (by decide)) (by decide) (by decide)) (by decide) (by decide)) (by decide) (by decide)) (by decide) (by decide))  (fun a i f606 f607 f608 f609 f610 f611 f612 f613 f614 f616 f617 => ((ju_c _ _ f617).trans ((ju_c _ _ f614).trans ((ju_c _ _ f613).trans ((ju_c _ _ f612).trans ((ju_c _ _ f611).trans ((ju_c _ _ f610).trans ((ju_c _ _ f609).trans ((ju_c _ _ f608).trans ((ju_c _ _ f607).trans ((ju_c _ _ f606).trans rfl))))))))))) (by omega) (by omega) (by omega) (by omega) (by omega) (by omega) (by omega) (RG1.mk (RG1x.s (RG1x.o (RG1x.s (RG1x.o (RG1x.o (RG1x.o (RG1x.o (RG1x.o (RG1x.s (RG1x.s (RG1.x hG1 _) (by decide)) (by decide)) rfl) rfl) rfl) rfl) rfl) (by decide)) rfl) (by decide)) (RGs.new ((ju_c _ _ (by decide)).trans ((ju_c _ _ (by decide)).trans (ju_same _ _ _ _))) (by omega) (ju_same _ _ _ _))) ((((ju_c _ _ (by decide)).trans ((ju_c _ _ (by decide)).trans ((ju_c _ _ (by decide)).trans ((ju_c _ _ (by decide)).trans ((ju_c _ _ (by decide)).trans ((ju_c _ _ (by decide)).trans ((ju_c _ _ (by decide)).trans ((ju_c _ _ (by decide)).trans ((ju_c _ _ (by decide)).trans (ju_same _ _ _ _))))))))))).trans (by omega)) ((((ju_c _ _ (by decide)).trans ((ju_c _ _ (by decide)).trans ((ju_c _ _ (by decide)).trans ((ju_c _ _ (by decide)).trans ((ju_c _ _ (by decide)).trans ((ju_c _ _ (by decide)).trans ((ju_c _ _ (by decide)).trans ((ju_c _ _ (by decide)).trans (ju_same _ _ _ _)))))))))).trans (by omega)) ((((ju_c _ _ (by decide)).trans (ju_same _ _ _ _))).trans (by omega)) (((ju_same _ _ _ _)).trans (by omega)) ((((ju_c _ _ (by decide)).trans ((ju_c _ _ (by decide)).trans (ju_same _ _ _ _)))).trans (by omega)) ((((ju_c _ _ (by decide)).trans ((ju_c _ _ (by decide)).trans ((ju_c _ _ (by decide)).trans ((ju_c _ _ (by decide)).trans ((ju_c _ _ (by decide)).trans ((ju_c _ _ (by decide)).trans ((ju_c _ _ (by decide)).trans (ju_same _ _ _ _))))))))).trans (by omega)) ((((ju_c _ _ (by decide)).trans ((ju_c _ _ (by decide)).trans ((ju_c _ _ (by decide)).trans ((ju_c _ _ (by decide)).trans ((ju_c _ _ (by decide)).trans ((ju_c _ _ (by decide)).trans (ju_same _ _ _ _)))))))).trans (by omega)) ((((ju_c _ _ (by decide)).trans ((ju_c _ _ (by decide)).trans ((ju_c _ _ (by decide)).trans ((ju_c _ _ (by decide)).trans ((ju_c _ _ (by decide)).trans (ju_same _ _ _ _))))))).trans (by omega)) ((((ju_c _ _ (by decide)).trans ((ju_c _ _ (by decide)).trans ((ju_c _ _ (by decide)).trans ((ju_c _ _ (by decide)).trans (ju_same _ _ _ _)))))).trans (by omega)) ((((ju_c _ _ (by decide)).trans ((ju_c _ _ (by decide)).trans ((ju_c _ _ (by decide)).trans (ju_same _ _ _ _))))).trans (by omega)) (fun b0 i hb hj => (ju_i _ _ hj).trans ((ju_i _ _ hj).trans ((ju_i _ _ hj).trans ((ju_i _ _ hj).trans ((ju_i _ _ hj).trans ((ju_i _ _ hj).trans ((ju_i _ _ hj).trans ((ju_i _ _ hj).trans ((ju_i _ _ hj).trans ((ju_i _ _ hj).trans (rfl))))))))))) (fun i _ => by rw [ju_c _ _ (by decide), ju_c _ _ (by decide), ju_c _ _ (by decide), ju_c _ _ (by decide), ju_c _ _ (by decide), ju_c _ _ (by decide), ju_c _ _ (by decide), ju_c _ _ (by decide), ju_c _ _ (by decide), ju_c _ _ (by decide)]) (fun i i0 i1 => absurd i1 (by omega)) (by omega) (by omega) (by omega) (by omega) (by omega) (by omega) (by omega)
end
section
/-! ===== the reference: data laid, headers kept ===== -/
/-- the row of gathering g of the reference -/
noncomputable def wR (M : jm) (g : Int) : Int → Int := fun k => if M 616 (360 * g + k) ≠ 0 then M 615 (360 * g + k) else -1
theorem mlf_s {k o m : Int} (h : 0 ≤ k) (h0 : 0 ≤ o) : (o + k < m → mlf (k + 1) o m = mlf k o m + 1 ∧ mlf k o m = k) ∧ (m ≤ o + k → mlf (k + 1) o m = mlf k o m) := by
  unfold mlf
  (repeat' split) <;> omega
theorem mlf_r {k o m : Int} (h : 0 ≤ k) : 0 ≤ mlf k o m ∧ mlf k o m ≤ k := by
  unfold mlf
  (repeat' split) <;> omega
/-- data laid as far as k -/
noncomputable def LDR (T M : jm) (g x f o m k u v w : Int) : Prop := (∀ j : Int, 0 ≤ j → j < 360 → wR M g j = glay (wR T g) (rf T x) o f (mlf k o m) j) ∧ v = gov (wR T g) o (mlf k o m).toNat ∧ w = mlf k o m - v ∧ u = k - mlf k o m ∧ (∀ j : Int, (j < 360 * g ∨ 360 * g + 360 ≤ j) → M 616 j = T 616 j ∧ M 615 j = T 615 j)
theorem LDR.z {T : jm} {g x f o m : Int} : LDR T T g x f o m 0 0 0 0 := by
  have e : mlf 0 o m = 0 := by unfold mlf; (repeat' split) <;> omega
  refine ⟨fun j _ _ => ?_, by rw [e]; rfl, by rw [e]; rfl, by rw [e]; rfl, fun _ _ => ⟨rfl, rfl⟩⟩
  rw [e]
  unfold glay
  rw [if_neg (by omega)]
theorem LDR.b {T M : jm} {g x f o m k u v w : Int} (h : LDR T M g x f o m k u v w) (hk : 0 ≤ k) (ho : 0 ≤ o) (hm : m ≤ o + k) : LDR T M g x f o m (k + 1) (u + 1) v w := by
  have e := (mlf_s (m := m) hk ho).2 hm
  unfold LDR at h ⊢
  rw [e]
  exact ⟨h.1, h.2.1, h.2.2.1, by have := h.2.2.2.1; omega, h.2.2.2.2⟩
theorem LDR.o {T M : jm} {g x f o m k u v w : Int} (h : LDR T M g x f o m k u v w) (hk : 0 ≤ k) (ho : 0 ≤ o) (hm : o + k < m) (hm3 : m ≤ 360) (hv : M 616 (360 * g + o + k) ≠ 0) (hd : M 615 (360 * g + o + k) ≠ -1) : LDR T M g x f o m (k + 1) u (v + 1) w := by
  have e := (mlf_s (m := m) hk ho).1 hm
  obtain ⟨h1, h2, h3, h4, h5⟩ := h
  have q := h1 (o + k) (by omega) (by omega)
  unfold glay at q
  rw [if_neg (by omega)] at q
  have q2 : wR M g (o + k) = M 615 (360 * g + o + k) := by
    unfold wR
    rw [show 360 * g + (o + k) = 360 * g + o + k by omega, if_pos hv]
  have q3 : wR T g (o + k) ≠ -1 := by rw [← q, q2]; exact hd
  unfold LDR
  rw [e.1, e.2]
  rw [e.2] at h1 h2 h3 h4
  refine ⟨fun j j0 j1 => ?_, ?_, by omega, by omega, h5⟩
  · rw [h1 j j0 j1]
    unfold glay
    by_cases c : o ≤ j ∧ j < o + k ∧ wR T g j = -1
    · rw [if_pos c, if_pos ⟨c.1, by omega, c.2.2⟩]
    · rw [if_neg c, if_neg (by
        intro d
        by_cases e1 : j = o + k
        · subst e1; exact q3 d.2.2
        · exact c ⟨d.1, by omega, d.2.2⟩)]
  · rw [gov_s hk, if_neg q3, h2]
theorem LDR.w {T M : jm} {g x f o m k u v w b : Int} (h : LDR T M g x f o m k u v w) (hg : 0 ≤ g) (hk : 0 ≤ k) (ho : 0 ≤ o) (hm : o + k < m) (hm3 : m ≤ 360) (hv : M 616 (360 * g + o + k) = 0) (hb : b = rf T x (f + k)) : LDR T (ju (ju M 616 (360 * g + o + k) 1) 615 (360 * g + o + k) b) g x f o m (k + 1) u v (w + 1) := by
  have e := (mlf_s (m := m) hk ho).1 hm
  obtain ⟨h1, h2, h3, h4, h5⟩ := h
  have q := h1 (o + k) (by omega) (by omega)
  unfold glay at q
  rw [if_neg (by omega)] at q
  have q2 : wR M g (o + k) = -1 := by
    unfold wR
    rw [show 360 * g + (o + k) = 360 * g + o + k by omega, if_neg (by omega)]
  rw [q2] at q
  unfold LDR
  rw [e.1, e.2]
  rw [e.2] at h1 h2 h3 h4
  refine ⟨fun j j0 j1 => ?_, ?_, by omega, by omega, fun j hj => ?_⟩
  · by_cases e1 : j = o + k
    · subst e1
      unfold glay wR
      rw [show 360 * g + (o + k) = 360 * g + o + k by omega, ju_c _ _ (by decide), ju_same, if_pos (by decide), ju_same]
      rw [if_pos ⟨by omega, by omega, by
        have q5 := q
        unfold wR at q5
        rw [show 360 * g + (o + k) = 360 * g + o + k by omega] at q5
        exact q5.symm⟩, hb, show f + (o + k - o) = f + k by omega]
    · have q4 : wR (ju (ju M 616 (360 * g + o + k) 1) 615 (360 * g + o + k) b) g j = wR M g j := by
        unfold wR
        rw [ju_c _ _ (by decide), ju_i _ _ (by omega), ju_i _ _ (by omega), ju_c _ _ (by decide)]
      rw [q4, h1 j j0 j1]
      unfold glay
      by_cases c : o ≤ j ∧ j < o + k ∧ wR T g j = -1
      · rw [if_pos c, if_pos ⟨c.1, by omega, c.2.2⟩]
      · rw [if_neg c, if_neg (by intro d; exact c ⟨d.1, by omega, d.2.2⟩)]
  · rw [gov_s hk, if_pos q.symm, h2]; omega
  · refine ⟨?_, ?_⟩
    · rw [ju_c _ _ (by decide), ju_i _ _ (by omega)]; exact (h5 j hj).1
    · rw [ju_i _ _ (by omega), ju_c _ _ (by decide)]; exact (h5 j hj).2
theorem ld_end {T M M2 : jm} {g x f o m k c u v w s5 : Int} (h : LDR T M g x f o m k u v w) (hc : k = c) (hm : m = lpf (M 614 g)) (e : M2 = ju (ju (ju (ju (ju (ju M 598 34 1) 622 0 w) 622 1 v) 622 2 u) 622 3 s5) 622 4 (M 614 g)) : ((∀ j : Int, 0 ≤ j → j < 360 → wR M2 g j = glay (wR T g) (rf T x) o f (mlf c o (lpf (M 614 g))) j) ∧ (∀ j : Int, (j < 360 * g ∨ 360 * g + 360 ≤ j) → M2 616 j = T 616 j ∧ M2 615 j = T 615 j)) ∧ M2 598 34 = 1 ∧ M2 622 0 = mlf c o (lpf (M 614 g)) - gov (wR T g) o (mlf c o (lpf (M 614 g))).toNat ∧ M2 622 1 = gov (wR T g) o (mlf c o (lpf (M 614 g))).toNat ∧ M2 622 2 = c - mlf c o (lpf (M 614 g)) ∧ M2 622 3 = s5 ∧ M2 622 4 = M 614 g := by
  subst hc
  subst e
  rw [← hm]
  obtain ⟨h1, h2, h3, h4, h5⟩ := h
  refine ⟨⟨fun j j0 j1 => ?_, fun j hj => ?_⟩, ?_, ?_, ?_, ?_, ?_, ?_⟩
  · rw [← h1 j j0 j1]
    unfold wR
    simp only [ju_c _ _ (show (616 : Nat) ≠ 622 by decide), ju_c _ _ (show (616 : Nat) ≠ 598 by decide), ju_c _ _ (show (615 : Nat) ≠ 622 by decide), ju_c _ _ (show (615 : Nat) ≠ 598 by decide)]
  · simp only [ju_c _ _ (show (616 : Nat) ≠ 622 by decide), ju_c _ _ (show (616 : Nat) ≠ 598 by decide), ju_c _ _ (show (615 : Nat) ≠ 622 by decide), ju_c _ _ (show (615 : Nat) ≠ 598 by decide)]
    exact h5 j hj
  · rw [ju_c _ _ (by decide), ju_c _ _ (by decide), ju_c _ _ (by decide), ju_c _ _ (by decide), ju_c _ _ (by decide), ju_same]
  · rw [ju_i _ _ (by decide), ju_i _ _ (by decide), ju_i _ _ (by decide), ju_i _ _ (by decide), ju_same]; omega
  · rw [ju_i _ _ (by decide), ju_i _ _ (by decide), ju_i _ _ (by decide), ju_same]; exact h2
  · rw [ju_i _ _ (by decide), ju_i _ _ (by decide), ju_same]; exact h4
  · rw [ju_i _ _ (by decide), ju_same]
  · rw [ju_same]
theorem r_layData_L36_x {A : Nat → Option (Nat × (Nat → Int32))} {Q : Option Value → jm → Prop} {M0 : jm} {g0 : Int} {x0 : Int} {f0 : Int} {c0 : Int} {o0 : Int} (q : ∀ (M' : jm), RI M' → RH M' → RF M' → (((∀ j : Int, 0 ≤ j → j < 360 → wR M' g0 j = glay (wR M0 g0) (rf M0 x0) o0 f0 (mlf c0 o0 (lpf (M0 614 g0))) j) ∧ (∀ j : Int, (j < 360 * g0 ∨ 360 * g0 + 360 ≤ j) → M' 616 j = M0 616 j ∧ M' 615 j = M0 615 j)) ∧ M' 598 34 = 1 ∧ M' 622 0 = mlf c0 o0 (lpf (M0 614 g0)) - gov (wR M0 g0) o0 (mlf c0 o0 (lpf (M0 614 g0))).toNat ∧ M' 622 1 = gov (wR M0 g0) o0 (mlf c0 o0 (lpf (M0 614 g0))).toNat ∧ M' 622 2 = c0 - mlf c0 o0 (lpf (M0 614 g0)) ∧ M' 622 3 = M0 613 g0 ∧ M' 622 4 = M0 614 g0) → (∀ (a : Nat) (i : Int), a ≠ 598 → a ≠ 615 → a ≠ 616 → a ≠ 622 → M' a i = M0 a i) → (∀ (i : Int), i ≠ 34 → M' 598 i = M0 598 i) → Q none M') : ∀ (nM : Nat) (M : jm) (k : Int) (u : Int) (v : Int) (w : Int) (m : Int) (o : Int) (c : Int) (f : Int) (x : Int) (g : Int), RI M → RH M → RF M → (∀ (a : Nat) (i : Int), a ≠ 598 → a ≠ 615 → a ≠ 616 → a ≠ 622 → M a i = M0 a i) → (∀ (i : Int), i ≠ 34 → M 598 i = M0 598 i) → 0 ≤ k ∧ k ≤ 400 → 0 ≤ u ∧ u ≤ 400 → 0 ≤ v ∧ v ≤ 400 → 0 ≤ w ∧ w ≤ 400 → 0 ≤ m ∧ m ≤ 360 → 0 ≤ o ∧ o ≤ 65528 → 0 ≤ c ∧ c ≤ 400 → 0 ≤ f ∧ f ≤ 400 → 0 ≤ x ∧ x ≤ 23 → 0 ≤ g ∧ g ≤ 7 → f + c ≤ 400 → u ≤ k → v ≤ k → w ≤ k → k ≤ c → LDR M0 M g x f o m k u v w → m = lpf (M0 614 g) → g = g0 → x = x0 → f = f0 → c = c0 → o = o0 → 400 - k ≤ nM → jr A 1 xm_294 36 [(10, .int (Int32.ofInt (k))), (9, .int (Int32.ofInt (u))), (8, .int (Int32.ofInt (v))), (7, .int (Int32.ofInt (w))), (6, .int (Int32.ofInt (m))), (5, .int (Int32.ofInt (o))), (4, .int (Int32.ofInt (c))), (3, .int (Int32.ofInt (f))), (2, .int (Int32.ofInt (x))), (1, .int (Int32.ofInt (g))), (0, .ref (598))] [] M Q := by
  intro nM
  induction nM using Nat.strongRecOn with
  | ind nM ih =>
    intro M k u v w m o c f x g hI_M hH_M hS_M hF_M hG_M h_k h_u h_v h_w h_m h_o h_c h_f h_x h_g hy0 hy1 hy2 hy3 hy4 hy5 hy6 hy7 hy8 hy9 hy10 hy11 hm
    subst hy7
    subst hy8
    subst hy9
    subst hy10
    subst hy11
    refine jr.iload rfl rfl ?_
    refine jr.iload rfl rfl ?_
    refine jr.icmp_ge rfl rfl (by omega) (by omega) (fun h40 => ?_) (fun h40 => ?_)
    · refine jr.aload_n rfl rfl ?_
      refine jr.iconst rfl ?_
      refine jr.putf (i := 34) (x := 1) rfl rfl (by decide) rfl (by decide) rfl rfl rfl rfl rfl ?_
      refine jr.aload_n rfl rfl ?_
      refine jr.getf (i := 33) (v := .ref 622) rfl rfl (by decide) rfl (by decide) rfl rfl rfl rfl ?_
      refine jr.iconst rfl ?_
      refine jr.iload rfl rfl ?_
      refine jr.iast (i := 0) (x := w) rfl (by decide) rfl (by decide) (by omega) (by omega) ?_
      refine jr.aload_n rfl rfl ?_
      refine jr.getf (i := 33) (v := .ref 622) rfl rfl (by decide) rfl (by decide) rfl rfl rfl rfl ?_
      refine jr.iconst rfl ?_
      refine jr.iload rfl rfl ?_
      refine jr.iast (i := 1) (x := v) rfl (by decide) rfl (by decide) (by omega) (by omega) ?_
      refine jr.aload_n rfl rfl ?_
      refine jr.getf (i := 33) (v := .ref 622) rfl rfl (by decide) rfl (by decide) rfl rfl rfl rfl ?_
      refine jr.iconst rfl ?_
      refine jr.iload rfl rfl ?_
      refine jr.iast (i := 2) (x := u) rfl (by decide) rfl (by decide) (by omega) (by omega) ?_
      refine jr.aload_n rfl rfl ?_
      refine jr.getf (i := 33) (v := .ref 622) rfl rfl (by decide) rfl (by decide) rfl rfl rfl rfl ?_
      refine jr.iconst rfl ?_
      refine jr.aload_n rfl rfl ?_
      refine jr.getf (i := 24) (v := .ref 613) rfl rfl (by decide) rfl (by decide) rfl rfl rfl rfl ?_
      refine jr.iload_n rfl rfl ?_
      obtain ⟨v1, e1⟩ : ∃ z, M 613 g = z := ⟨_, rfl⟩
      have b1 : 0 ≤ v1 ∧ v1 ≤ 720 := by rw [← e1]; exact (by have q := hI_M 613 g (by decide); rw [xri_row rfl rfl] at q; exact q)
      refine jr.iald (i := g) (x := v1) rfl (by decide) rfl (by decide) (by omega) (by omega) ((ju_c _ _ (by decide)).trans ((ju_c _ _ (by decide)).trans ((ju_c _ _ (by decide)).trans ((ju_c _ _ (by decide)).trans e1)))) ?_
      refine jr.iast (i := 3) (x := v1) rfl (by decide) rfl (by decide) (by omega) (by omega) ?_
      refine jr.aload_n rfl rfl ?_
      refine jr.getf (i := 33) (v := .ref 622) rfl rfl (by decide) rfl (by decide) rfl rfl rfl rfl ?_
      refine jr.iconst rfl ?_
      refine jr.aload_n rfl rfl ?_
      refine jr.getf (i := 25) (v := .ref 614) rfl rfl (by decide) rfl (by decide) rfl rfl rfl rfl ?_
      refine jr.iload_n rfl rfl ?_
      obtain ⟨v2, e2⟩ : ∃ z, M 614 g = z := ⟨_, rfl⟩
      have b2 : (-1) ≤ v2 ∧ v2 ≤ 360 := by rw [← e2]; exact (by have q := hI_M 614 g (by decide); rw [xri_row rfl rfl] at q; exact q)
      refine jr.iald (i := g) (x := v2) rfl (by decide) rfl (by decide) (by omega) (by omega) ((ju_c _ _ (by decide)).trans ((ju_c _ _ (by decide)).trans ((ju_c _ _ (by decide)).trans ((ju_c _ _ (by decide)).trans ((ju_c _ _ (by decide)).trans e2))))) ?_
      refine jr.iast (i := 4) (x := v2) rfl (by decide) rfl (by decide) (by omega) (by omega) ?_
      exact jr.vreturn rfl rfl (q _ (RI.u (RI.u (RI.u (RI.u (RI.u (RI.u hI_M (a := 598) (i := 34) (show (0 : Int) ≤ _ ∧ _ ≤ (1 : Int) from by omega)) (a := 622) (i := 0) (by rw [xri_row rfl rfl]; show (-1 : Int) ≤ _ ∧ _ ≤ (720 : Int); omega)) (a := 622) (i := 1) (by rw [xri_row rfl rfl]; show (-1 : Int) ≤ _ ∧ _ ≤ (720 : Int); omega)) (a := 622) (i := 2) (by rw [xri_row rfl rfl]; show (-1 : Int) ≤ _ ∧ _ ≤ (720 : Int); omega)) (a := 622) (i := 3) (by rw [xri_row rfl rfl]; show (-1 : Int) ≤ _ ∧ _ ≤ (720 : Int); omega)) (a := 622) (i := 4) (by rw [xri_row rfl rfl]; show (-1 : Int) ≤ _ ∧ _ ≤ (720 : Int); omega)) (RH.o (RH.o (RH.o (RH.o (RH.o (RH.o hH_M (by decide) (by decide) (by decide)) (by decide) (by decide) (by decide)) (by decide) (by decide) (by decide)) (by decide) (by decide) (by decide)) (by decide) (by decide) (by decide)) (by decide) (by decide) (by decide)) (RF.o (RF.o (RF.o (RF.o (RF.o (RF.o hS_M (by decide) (by decide)) (by decide) (by decide)) (by decide) (by decide)) (by decide) (by decide)) (by decide) (by decide)) (by decide) (by decide))  (by have f14 : M 614 g = M0 614 g := hF_M 614 g (by decide) (by decide) (by decide) (by decide); have f13 : M 613 g = M0 613 g := hF_M 613 g (by decide) (by decide) (by decide) (by decide); have h9 := ld_end (M2 := (ju (ju (ju (ju (ju (ju M 598 34 1) 622 0 w) 622 1 v) 622 2 u) 622 3 v1) 622 4 v2)) (s5 := v1) hy5 (show k = c from by omega) (by rw [f14]; exact hy6) (by rw [e2]); rw [f14] at h9; rw [show M0 613 g = v1 from by omega]; exact h9) (fun a i f598 f615 f616 f622 => ((ju_c _ _ f622).trans ((ju_c _ _ f622).trans ((ju_c _ _ f622).trans ((ju_c _ _ f622).trans ((ju_c _ _ f622).trans ((ju_c _ _ f598).trans (hF_M a i f598 f615 f616 f622)))))))) (fun i g34 => ((ju_c _ _ (by decide)).trans ((ju_c _ _ (by decide)).trans ((ju_c _ _ (by decide)).trans ((ju_c _ _ (by decide)).trans ((ju_c _ _ (by decide)).trans ((ju_i _ _ g34).trans (hG_M i g34)))))))))
    · refine jr.iload rfl rfl ?_
      refine jr.iload rfl rfl ?_
      refine jr.iadd rfl ?_
      refine jr.iload rfl rfl ?_
      refine jr.icmp_lt rfl rfl (by omega) (by omega) (fun h50 => ?_) (fun h50 => ?_)
      · refine jr.aload_n rfl rfl ?_
        refine jr.getf (i := 27) (v := .ref 616) rfl rfl (by decide) rfl (by decide) rfl rfl rfl rfl ?_
        refine jr.sipush rfl (by decide) ?_
        refine jr.iload_n rfl rfl ?_
        refine jr.imul rfl ?_
        refine jr.iload rfl rfl ?_
        refine jr.iadd rfl ?_
        refine jr.iload rfl rfl ?_
        refine jr.iadd rfl ?_
        obtain ⟨v3, e3⟩ : ∃ z, M 616 (((360 * g) + o) + k) = z := ⟨_, rfl⟩
        have b3 : 0 ≤ v3 ∧ v3 ≤ 1 := by rw [← e3]; exact (by have q := hI_M 616 (((360 * g) + o) + k) (by decide); rw [xri_row rfl rfl] at q; exact q)
        refine jr.zald (i := (((360 * g) + o) + k)) (x := v3) rfl (by decide) rfl (by decide) (by omega) (by omega) e3 ?_
        refine jr.if_eq rfl rfl (by omega) (fun h75 => ?_) (fun h75 => ?_)
        · refine jr.aload_n rfl rfl ?_
          refine jr.getf (i := 27) (v := .ref 616) rfl rfl (by decide) rfl (by decide) rfl rfl rfl rfl ?_
          refine jr.sipush rfl (by decide) ?_
          refine jr.iload_n rfl rfl ?_
          refine jr.imul rfl ?_
          refine jr.iload rfl rfl ?_
          refine jr.iadd rfl ?_
          refine jr.iload rfl rfl ?_
          refine jr.iadd rfl ?_
          refine jr.iconst rfl ?_
          refine jr.zast (i := (((360 * g) + o) + k)) (x := 1) rfl (by decide) rfl (by decide) (by omega) (by omega) (j_zn (by omega)) ?_
          refine jr.aload_n rfl rfl ?_
          refine jr.getf (i := 26) (v := .ref 615) rfl rfl (by decide) rfl (by decide) rfl rfl rfl rfl ?_
          refine jr.sipush rfl (by decide) ?_
          refine jr.iload_n rfl rfl ?_
          refine jr.imul rfl ?_
          refine jr.iload rfl rfl ?_
          refine jr.iadd rfl ?_
          refine jr.iload rfl rfl ?_
          refine jr.iadd rfl ?_
          refine jr.aload_n rfl rfl ?_
          refine jr.iload_n rfl rfl ?_
          refine jr.iload_n rfl rfl ?_
          refine jr.iload rfl rfl ?_
          refine jr.iadd rfl ?_
          refine jr_v rfl rfl (Or.inl rfl) rfl rfl (by decide) rfl ⟨rfl, Nat.le_of_ble_eq_true rfl, Nat.le_of_ble_eq_true rfl⟩ rfl (jc.deep (r_one (RI.u hI_M (a := 616) (i := (((360 * g) + o) + k)) (by rw [xri_row rfl rfl]; show (0 : Int) ≤ _ ∧ _ ≤ (1 : Int); omega)) (RH.o hH_M (by decide) (by decide) (by decide)) (RF.o hS_M (by decide) (by decide)) (Kp.rfl _) (by omega) (by omega)  (fun r4 z4 w4_0 => ?_)) (by decide))
          refine jr.iast (i := (((360 * g) + o) + k)) (x := r4) rfl (by decide) rfl (by decide) (by omega) (by omega) ?_
          refine jr.iinc rfl rfl (by decide) rfl ?_
          refine jr.iinc rfl rfl (by decide) rfl ?_
          refine jr.goto rfl rfl ?_
          refine jr.pick [0, 2, 3, 1, 4, 5, 6, 7, 8, 9, 10] rfl rfl ?_
          exact ih (nM - 1) (by omega) (ju (ju M 616 (((360 * g) + o) + k) 1) 615 (((360 * g) + o) + k) r4) (k + 1) u v (w + 1) m o c f x g (RI.u (RI.u hI_M (a := 616) (i := (((360 * g) + o) + k)) (by rw [xri_row rfl rfl]; show (0 : Int) ≤ _ ∧ _ ≤ (1 : Int); omega)) (a := 615) (i := (((360 * g) + o) + k)) (by rw [xri_row rfl rfl]; show (0 : Int) ≤ _ ∧ _ ≤ (255 : Int); omega)) (RH.o (RH.o hH_M (by decide) (by decide) (by decide)) (by decide) (by decide) (by decide)) (RF.o (RF.o hS_M (by decide) (by decide)) (by decide) (by decide))  (fun a i f598 f615 f616 f622 => ((ju_c _ _ f615).trans ((ju_c _ _ f616).trans (hF_M a i f598 f615 f616 f622)))) (fun i g34 => ((ju_c _ _ (by decide)).trans ((ju_c _ _ (by decide)).trans (hG_M i g34)))) (by omega) (by omega) (by omega) (by omega) (by omega) (by omega) (by omega) (by omega) (by omega) (by omega) (by omega) (by omega) (by omega) (by omega) (by omega) (LDR.w hy5 (by omega) (by omega) (by omega) (by omega) (by omega) (by omega) (by rw [show rf M0 x (f + k) = M0 601 (400 * x + (f + k)) from rfl, ← hF_M 601 _ (by decide) (by decide) (by decide) (by decide)]; have h8 := w4_0; rw [ju_c _ _ (by decide)] at h8; exact h8)) hy6 (by omega) (by omega) (by omega) (by omega) (by omega) (by omega)
        · have sx75 : (1 : Int) ≤ v3 := by omega
          refine jr.iinc rfl rfl (by decide) rfl ?_
          refine jr.goto rfl rfl ?_
          refine jr.iinc rfl rfl (by decide) rfl ?_
          refine jr.goto rfl rfl ?_
          refine jr.pick [0, 2, 1, 3, 4, 5, 6, 7, 8, 9, 10] rfl rfl ?_
          exact ih (nM - 1) (by omega) M (k + 1) u (v + 1) w m o c f x g hI_M hH_M hS_M  (fun a i f598 f615 f616 f622 => (hF_M a i f598 f615 f616 f622)) (fun i g34 => (hG_M i g34)) (by omega) (by omega) (by omega) (by omega) (by omega) (by omega) (by omega) (by omega) (by omega) (by omega) (by omega) (by omega) (by omega) (by omega) (by omega) (LDR.o hy5 (by omega) (by omega) (by omega) (by omega) (by omega) (by have h9 : (0 : Int) ≤ M 615 (360 * g + o + k) ∧ M 615 (360 * g + o + k) ≤ 255 := (by have q := hI_M 615 (360 * g + o + k) (by decide); rw [xri_row rfl rfl] at q; exact q); omega)) hy6 (by omega) (by omega) (by omega) (by omega) (by omega) (by omega)
      · refine jr.iinc rfl rfl (by decide) rfl ?_
        refine jr.goto rfl rfl ?_
        refine jr.iinc rfl rfl (by decide) rfl ?_
        refine jr.goto rfl rfl ?_
        refine jr.pick [0, 1, 2, 3, 4, 5, 6, 7, 8, 9, 10] rfl rfl ?_
        exact ih (nM - 1) (by omega) M (k + 1) (u + 1) v w m o c f x g hI_M hH_M hS_M  (fun a i f598 f615 f616 f622 => (hF_M a i f598 f615 f616 f622)) (fun i g34 => (hG_M i g34)) (by omega) (by omega) (by omega) (by omega) (by omega) (by omega) (by omega) (by omega) (by omega) (by omega) (by omega) (by omega) (by omega) (by omega) (by omega) (LDR.b hy5 (by omega) (by omega) (by omega)) hy6 (by omega) (by omega) (by omega) (by omega) (by omega) (by omega)
theorem r_layData_x {A : Nat → Option (Nat × (Nat → Int32))} {Q : Option Value → jm → Prop} {M : jm} (hI_M : RI M) (hH_M : RH M) (hS_M : RF M) {g : Int} (h_g : 0 ≤ g ∧ g ≤ 7) {x : Int} (h_x : 0 ≤ x ∧ x ≤ 23) {f : Int} (h_f : 0 ≤ f ∧ f ≤ 400) {c : Int} (h_c : 0 ≤ c ∧ c ≤ 400) {o : Int} (h_o : 0 ≤ o ∧ o ≤ 65528) (p0 : f + c ≤ 400) (p1 : (M 614 g = -1 ∨ (0 ≤ M 614 g ∧ M 614 g ≤ 360))) (q : ∀ (M' : jm), RI M' → RH M' → RF M' → (((∀ j : Int, 0 ≤ j → j < 360 → wR M' g j = glay (wR M g) (rf M x) o f (mlf c o (lpf (M 614 g))) j) ∧ (∀ j : Int, (j < 360 * g ∨ 360 * g + 360 ≤ j) → M' 616 j = M 616 j ∧ M' 615 j = M 615 j)) ∧ M' 598 34 = 1 ∧ M' 622 0 = mlf c o (lpf (M 614 g)) - gov (wR M g) o (mlf c o (lpf (M 614 g))).toNat ∧ M' 622 1 = gov (wR M g) o (mlf c o (lpf (M 614 g))).toNat ∧ M' 622 2 = c - mlf c o (lpf (M 614 g)) ∧ M' 622 3 = M 613 g ∧ M' 622 4 = M 614 g) → (∀ (a : Nat) (i : Int), a ≠ 598 → a ≠ 615 → a ≠ 616 → a ≠ 622 → M' a i = M a i) → (∀ (i : Int), i ≠ 34 → M' 598 i = M 598 i) → Q none M') : jc A 2 294 [.ref (598), .int (Int32.ofInt (g)), .int (Int32.ofInt (x)), .int (Int32.ofInt (f)), .int (Int32.ofInt (c)), .int (Int32.ofInt (o))] M Q := by
  refine jc_of (m := xm_294) rfl (Nat.le_of_ble_eq_true rfl) rfl ?_
  refine jr.aload_n rfl rfl ?_
  refine jr.getf (i := 25) (v := .ref 614) rfl rfl (by decide) rfl (by decide) rfl rfl rfl rfl ?_
  refine jr.iload_n rfl rfl ?_
  obtain ⟨v1, e1⟩ : ∃ z, M 614 g = z := ⟨_, rfl⟩
  have b1 : (-1) ≤ v1 ∧ v1 ≤ 360 := by rw [← e1]; exact (by have q := hI_M 614 g (by decide); rw [xri_row rfl rfl] at q; exact q)
  refine jr.iald (i := g) (x := v1) rfl (by decide) rfl (by decide) (by omega) (by omega) e1 ?_
  refine jr.iconst rfl ?_
  refine jr.icmp_ne rfl rfl (by omega) (by omega) (fun h7 => ?_) (fun h7 => ?_)
  · have sx7 : (0 : Int) ≤ v1 := by omega
    refine jr.aload_n rfl rfl ?_
    refine jr.getf (i := 25) (v := .ref 614) rfl rfl (by decide) rfl (by decide) rfl rfl rfl rfl ?_
    refine jr.iload_n rfl rfl ?_
    refine jr.iald (i := g) (x := v1) rfl (by decide) rfl (by decide) (by omega) (by omega) e1 ?_
    refine jr.istore rfl (by decide) rfl ?_
    refine jr.iconst rfl ?_
    refine jr.istore rfl (by decide) rfl ?_
    refine jr.iconst rfl ?_
    refine jr.istore rfl (by decide) rfl ?_
    refine jr.iconst rfl ?_
    refine jr.istore rfl (by decide) rfl ?_
    refine jr.iconst rfl ?_
    refine jr.istore rfl (by decide) rfl ?_
    refine jr.pick [0, 1, 2, 3, 4, 10, 9, 8, 7, 6, 5] rfl rfl ?_
    exact r_layData_L36_x q 400 M 0 0 0 0 v1 o c f x g hI_M hH_M hS_M  (fun a i f598 f615 f616 f622 => rfl) (fun i g34 => rfl) (by omega) (by omega) (by omega) (by omega) (by omega) (by omega) (by omega) (by omega) (by omega) (by omega) (by omega) (by omega) (by omega) (by omega) (by omega) LDR.z (by first | (have h9 := lpf_w (w := M 614 g) (by omega); omega) | (unfold lpf; rw [if_pos (by omega)])) (by omega) (by omega) (by omega) (by omega) (by omega) (by omega)
  · refine jr.sipush rfl (by decide) ?_
    refine jr.goto rfl rfl ?_
    refine jr.istore rfl (by decide) rfl ?_
    refine jr.iconst rfl ?_
    refine jr.istore rfl (by decide) rfl ?_
    refine jr.iconst rfl ?_
    refine jr.istore rfl (by decide) rfl ?_
    refine jr.iconst rfl ?_
    refine jr.istore rfl (by decide) rfl ?_
    refine jr.iconst rfl ?_
    refine jr.istore rfl (by decide) rfl ?_
    refine jr.pick [0, 1, 2, 3, 4, 10, 9, 8, 7, 6, 5] rfl rfl ?_
    exact r_layData_L36_x q 400 M 0 0 0 0 360 o c f x g hI_M hH_M hS_M  (fun a i f598 f615 f616 f622 => rfl) (fun i g34 => rfl) (by omega) (by omega) (by omega) (by omega) (by omega) (by omega) (by omega) (by omega) (by omega) (by omega) (by omega) (by omega) (by omega) (by omega) (by omega) LDR.z (by first | (have h9 := lpf_w (w := M 614 g) (by omega); omega) | (unfold lpf; rw [if_pos (by omega)])) (by omega) (by omega) (by omega) (by omega) (by omega) (by omega)
end
section
/-! ===== the reference: headers kept ===== -/
theorem r_keepHeaders_L22_x {A : Nat → Option (Nat × (Nat → Int32))} {Q : Option Value → jm → Prop} {M0 : jm} {g0 : Int} {x0 : Int} {h0 : Int} {t0 : Int} (q : ∀ (M' : jm), RI M' → RH M' → RF M' → RG1 M' → ((M' 617 g0 = M0 604 h0 + M0 605 h0 ∧ M' 619 g0 = M0 604 h0 ∧ M' 621 g0 = M0 604 t0 ∧ M' 620 g0 = (if h0 = 0 then 0 else M0 604 (h0 - 1) + (if M0 603 (h0 - 1) = 3 then 4 else 0))) ∧ (∀ i : Int, 0 ≤ i → i < M0 604 h0 + M0 605 h0 → M' 618 (400 * g0 + i) = rf M0 x0 i) ∧ (∀ (b : Nat) (j : Int), b ≠ 618 → j ≠ g0 → M' b j = M0 b j) ∧ (∀ j : Int, (j < 400 * g0 ∨ 400 * g0 + 400 ≤ j) → M' 618 j = M0 618 j)) → (∀ (a : Nat) (i : Int), a ≠ 617 → a ≠ 618 → a ≠ 619 → a ≠ 620 → a ≠ 621 → M' a i = M0 a i) → Q none M') : ∀ (nM : Nat) (M : jm) (k : Int) (t : Int) (h : Int) (x : Int) (g : Int), RI M → RH M → RF M → (∀ (a : Nat) (i : Int), a ≠ 617 → a ≠ 618 → a ≠ 619 → a ≠ 620 → a ≠ 621 → M a i = M0 a i) → 0 ≤ k ∧ k ≤ 400 → 0 ≤ t ∧ t ≤ 11 → 0 ≤ h ∧ h ≤ 11 → 0 ≤ x ∧ x ≤ 23 → 0 ≤ g ∧ g ≤ 7 → RG1x M g → (M 604 t < k → M 618 (400 * g + M 604 t) = M 601 (400 * x + M 604 t)) → M 617 g = M 604 h + M 605 h → 8 ≤ M 604 h + M 605 h ∧ M 604 t ≤ 380 ∧ M 604 h ≤ 392 ∧ (M 607 g = 2 → (t = h ∧ M 605 h = 4 * (M 601 (400 * x + M 604 h) % 16) ∧ 20 ≤ M 605 h)) → 1 ≤ M 613 g → (∀ i : Int, 0 ≤ i → i < k → M 618 (400 * g + i) = rf M0 x i) → (∀ (b : Nat) (j : Int), b ≠ 618 → j ≠ g → M b j = M0 b j) → (∀ j : Int, (j < 400 * g ∨ 400 * g + 400 ≤ j) → M 618 j = M0 618 j) → g = g0 → x = x0 → h = h0 → t = t0 → 400 - k ≤ nM → jr A 1 xm_295 22 [(5, .int (Int32.ofInt (k))), (4, .int (Int32.ofInt (t))), (3, .int (Int32.ofInt (h))), (2, .int (Int32.ofInt (x))), (1, .int (Int32.ofInt (g))), (0, .ref (598))] [] M Q := by
  intro nM
  induction nM using Nat.strongRecOn with
  | ind nM ih =>
    intro M k t h x g hI_M hH_M hS_M hF_M h_k h_t h_h h_x h_g hy0 hy1 hy2 hy3 hy4 hy5 hy6 hy7 hy8 hy9 hy10 hy11 hm
    subst hy8
    subst hy9
    subst hy10
    subst hy11
    have hx := hy0
    obtain ⟨k1, k2, k3, k4⟩ := hy3
    have hy3 := And.intro k1 (And.intro k2 (And.intro k3 k4))
    have rt := RH.two hH_M (h - 1)
    have r1 := (hH_M (h - 1)).2
    have r2 := (hH_M h).2
    have nb : (0 : Int) ≤ M 604 t ∧ M 604 t ≤ 400 := by have q := hI_M 604 t (by decide); rw [xri_row rfl rfl] at q; exact q
    refine jr.iload rfl rfl ?_
    refine jr.aload_n rfl rfl ?_
    refine jr.getf (i := 28) (v := .ref 617) rfl rfl (by decide) rfl (by decide) rfl rfl rfl rfl ?_
    refine jr.iload_n rfl rfl ?_
    obtain ⟨v1, e1⟩ : ∃ z, M 617 g = z := ⟨_, rfl⟩
    have b1 : (-1) ≤ v1 ∧ v1 ≤ 400 := by rw [← e1]; exact (by have q := hI_M 617 g (by decide); rw [xri_row rfl rfl] at q; exact q)
    refine jr.iald (i := g) (x := v1) rfl (by decide) rfl (by decide) (by omega) (by omega) e1 ?_
    refine jr.icmp_ge rfl rfl (by omega) (by omega) (fun h30 => ?_) (fun h30 => ?_)
    · refine jr.aload_n rfl rfl ?_
      refine jr.getf (i := 30) (v := .ref 619) rfl rfl (by decide) rfl (by decide) rfl rfl rfl rfl ?_
      refine jr.iload_n rfl rfl ?_
      refine jr.aload_n rfl rfl ?_
      refine jr.getf (i := 8) (v := .ref 604) rfl rfl (by decide) rfl (by decide) rfl rfl rfl rfl ?_
      refine jr.iload_n rfl rfl ?_
      obtain ⟨v2, e2⟩ : ∃ z, M 604 h = z := ⟨_, rfl⟩
      have b2 : 0 ≤ v2 ∧ v2 ≤ 400 := by rw [← e2]; exact (by have q := hI_M 604 h (by decide); rw [xri_row rfl rfl] at q; exact q)
      refine jr.iald (i := h) (x := v2) rfl (by decide) rfl (by decide) (by omega) (by omega) e2 ?_
      refine jr.iast (i := g) (x := v2) rfl (by decide) rfl (by decide) (by omega) (by omega) ?_
      refine jr.aload_n rfl rfl ?_
      refine jr.getf (i := 31) (v := .ref 620) rfl rfl (by decide) rfl (by decide) rfl rfl rfl rfl ?_
      refine jr.iload_n rfl rfl ?_
      refine jr.iload_n rfl rfl ?_
      refine jr.if_ne rfl rfl (by omega) (fun h77 => ?_) (fun h77 => ?_)
      · have sx77 : (1 : Int) ≤ h := by omega
        refine jr.aload_n rfl rfl ?_
        refine jr.getf (i := 8) (v := .ref 604) rfl rfl (by decide) rfl (by decide) rfl rfl rfl rfl ?_
        refine jr.iload_n rfl rfl ?_
        refine jr.iconst rfl ?_
        refine jr.isub rfl ?_
        obtain ⟨v3, e3⟩ : ∃ z, M 604 (h - 1) = z := ⟨_, rfl⟩
        have b3 : 0 ≤ v3 ∧ v3 ≤ 400 := by rw [← e3]; exact (by have q := hI_M 604 (h - 1) (by decide); rw [xri_row rfl rfl] at q; exact q)
        refine jr.iald (i := (h - 1)) (x := v3) rfl (by decide) rfl (by decide) (by omega) (by omega) ((ju_c _ _ (by decide)).trans e3) ?_
        refine jr.aload_n rfl rfl ?_
        refine jr.getf (i := 7) (v := .ref 603) rfl rfl (by decide) rfl (by decide) rfl rfl rfl rfl ?_
        refine jr.iload_n rfl rfl ?_
        refine jr.iconst rfl ?_
        refine jr.isub rfl ?_
        obtain ⟨v4, e4⟩ : ∃ z, M 603 (h - 1) = z := ⟨_, rfl⟩
        have b4 : 0 ≤ v4 ∧ v4 ≤ 11 := by rw [← e4]; exact (by have q := hI_M 603 (h - 1) (by decide); rw [xri_row rfl rfl] at q; exact q)
        refine jr.iald (i := (h - 1)) (x := v4) rfl (by decide) rfl (by decide) (by omega) (by omega) ((ju_c _ _ (by decide)).trans e4) ?_
        refine jr.iconst rfl ?_
        refine jr.icmp_ne rfl rfl (by omega) (by omega) (fun h101 => ?_) (fun h101 => ?_)
        · refine jr.iconst rfl ?_
          refine jr.iadd rfl ?_
          refine jr.iast (i := g) (x := (v3 + 0)) rfl (by decide) rfl (by decide) (by omega) (by omega) ?_
          refine jr.aload_n rfl rfl ?_
          refine jr.getf (i := 32) (v := .ref 621) rfl rfl (by decide) rfl (by decide) rfl rfl rfl rfl ?_
          refine jr.iload_n rfl rfl ?_
          refine jr.aload_n rfl rfl ?_
          refine jr.getf (i := 8) (v := .ref 604) rfl rfl (by decide) rfl (by decide) rfl rfl rfl rfl ?_
          refine jr.iload rfl rfl ?_
          obtain ⟨v5, e5⟩ : ∃ z, M 604 t = z := ⟨_, rfl⟩
          have b5 : 0 ≤ v5 ∧ v5 ≤ 400 := by rw [← e5]; exact (by have q := hI_M 604 t (by decide); rw [xri_row rfl rfl] at q; exact q)
          refine jr.iald (i := t) (x := v5) rfl (by decide) rfl (by decide) (by omega) (by omega) ((ju_c _ _ (by decide)).trans ((ju_c _ _ (by decide)).trans e5)) ?_
          refine jr.iast (i := g) (x := v5) rfl (by decide) rfl (by decide) (by omega) (by omega) ?_
          obtain ⟨v6, e6⟩ : ∃ z, M 613 g = z := ⟨_, rfl⟩
          have b6 : 0 ≤ v6 ∧ v6 ≤ 720 := by rw [← e6]; exact (by have q := hI_M 613 g (by decide); rw [xri_row rfl rfl] at q; exact q)
          obtain ⟨v7, e7⟩ : ∃ z, M 607 g = z := ⟨_, rfl⟩
          have b7 : 0 ≤ v7 ∧ v7 ≤ 11 := by rw [← e7]; exact (by have q := hI_M 607 g (by decide); rw [xri_row rfl rfl] at q; exact q)
          obtain ⟨v8, e8⟩ : ∃ z, M 618 (400 * g + (v5)) = z := ⟨_, rfl⟩
          have b8 : 0 ≤ v8 ∧ v8 ≤ 255 := by rw [← e8]; exact (by have q := hI_M 618 (400 * g + (v5)) (by decide); rw [xri_row rfl rfl] at q; exact q)
          exact jr.vreturn rfl rfl (q _ (RI.u (RI.u (RI.u hI_M (a := 619) (i := g) (by rw [xri_row rfl rfl]; show (0 : Int) ≤ _ ∧ _ ≤ (400 : Int); omega)) (a := 620) (i := g) (by rw [xri_row rfl rfl]; show (0 : Int) ≤ _ ∧ _ ≤ (400 : Int); omega)) (a := 621) (i := g) (by rw [xri_row rfl rfl]; show (0 : Int) ≤ _ ∧ _ ≤ (400 : Int); omega)) (RH.o (RH.o (RH.o hH_M (by decide) (by decide) (by decide)) (by decide) (by decide) (by decide)) (by decide) (by decide) (by decide)) (RF.o (RF.o (RF.o hS_M (by decide) (by decide)) (by decide) (by decide)) (by decide) (by decide))  (RG1.mk (RG1x.s (RG1x.s (RG1x.s hx (by decide)) (by decide)) (by decide)) (RGs.mk' ((ju_c _ _ (by decide)).trans ((ju_c _ _ (by decide)).trans ((ju_c _ _ (by decide)).trans e6))) ((ju_c _ _ (by decide)).trans ((ju_c _ _ (by decide)).trans ((ju_c _ _ (by decide)).trans e1))) (ju_same _ _ _ _) ((ju_c _ _ (by decide)).trans ((ju_c _ _ (by decide)).trans (ju_same _ _ _ _))) ((ju_c _ _ (by decide)).trans (ju_same _ _ _ _)) ((ju_c _ _ (by decide)).trans ((ju_c _ _ (by decide)).trans ((ju_c _ _ (by decide)).trans e7))) (e7 := ((ju_c _ _ (by decide)).trans ((ju_c _ _ (by decide)).trans ((ju_c _ _ (by decide)).trans e8)))) (by omega) (by omega) (by omega) (by omega) (by omega) (by omega) (fun q7 => by obtain ⟨z1, z2, z3⟩ := k4 (by omega); subst z1; have z4 := hy1 (by omega); rw [e5] at z2 z4; omega))) (by have a1 := hF_M 604 h (by decide) (by decide) (by decide) (by decide) (by decide); have a2 := hF_M 605 h (by decide) (by decide) (by decide) (by decide) (by decide); have a3 := hF_M 604 t (by decide) (by decide) (by decide) (by decide) (by decide); have a4 := hF_M 604 (h - 1) (by decide) (by decide) (by decide) (by decide) (by decide); have a5 := hF_M 603 (h - 1) (by decide) (by decide) (by decide) (by decide) (by decide); exact ⟨⟨(by rw [show (ju (ju (ju M 619 g v2) 620 g (v3 + 0)) 621 g v5) 617 g = v1 from ((ju_c _ _ (by decide)).trans ((ju_c _ _ (by decide)).trans ((ju_c _ _ (by decide)).trans e1)))]; have h9 := hy2; omega), (by rw [show (ju (ju (ju M 619 g v2) 620 g (v3 + 0)) 621 g v5) 619 g = v2 from ((ju_c _ _ (by decide)).trans ((ju_c _ _ (by decide)).trans (ju_same _ _ _ _)))]; omega), (by rw [show (ju (ju (ju M 619 g v2) 620 g (v3 + 0)) 621 g v5) 621 g = v5 from (ju_same _ _ _ _)]; omega), (by rw [show (ju (ju (ju M 619 g v2) 620 g (v3 + 0)) 621 g v5) 620 g = v3 + 0 from ((ju_c _ _ (by decide)).trans (ju_same _ _ _ _))]; first | (rw [if_pos (by omega)]) | (rw [if_neg (by omega)]; first | (rw [if_pos (by omega)]; omega) | (rw [if_neg (by omega)]; omega)))⟩, fun i i0 i1 => by rw [ju_c _ _ (by decide), ju_c _ _ (by decide), ju_c _ _ (by decide)]; exact hy5 i i0 (by omega), fun b j hb hj => by rw [ju_i _ _ hj, ju_i _ _ hj, ju_i _ _ hj]; exact hy6 b j hb hj, fun j hj => by rw [ju_c _ _ (by decide), ju_c _ _ (by decide), ju_c _ _ (by decide)]; exact hy7 j hj⟩) (fun a i f617 f618 f619 f620 f621 => ((ju_c _ _ f621).trans ((ju_c _ _ f620).trans ((ju_c _ _ f619).trans (hF_M a i f617 f618 f619 f620 f621))))))
        · refine jr.iconst rfl ?_
          refine jr.goto rfl rfl ?_
          refine jr.iadd rfl ?_
          refine jr.iast (i := g) (x := (v3 + 4)) rfl (by decide) rfl (by decide) (by omega) (by omega) ?_
          refine jr.aload_n rfl rfl ?_
          refine jr.getf (i := 32) (v := .ref 621) rfl rfl (by decide) rfl (by decide) rfl rfl rfl rfl ?_
          refine jr.iload_n rfl rfl ?_
          refine jr.aload_n rfl rfl ?_
          refine jr.getf (i := 8) (v := .ref 604) rfl rfl (by decide) rfl (by decide) rfl rfl rfl rfl ?_
          refine jr.iload rfl rfl ?_
          obtain ⟨v9, e9⟩ : ∃ z, M 604 t = z := ⟨_, rfl⟩
          have b9 : 0 ≤ v9 ∧ v9 ≤ 400 := by rw [← e9]; exact (by have q := hI_M 604 t (by decide); rw [xri_row rfl rfl] at q; exact q)
          refine jr.iald (i := t) (x := v9) rfl (by decide) rfl (by decide) (by omega) (by omega) ((ju_c _ _ (by decide)).trans ((ju_c _ _ (by decide)).trans e9)) ?_
          refine jr.iast (i := g) (x := v9) rfl (by decide) rfl (by decide) (by omega) (by omega) ?_
          obtain ⟨v10, e10⟩ : ∃ z, M 613 g = z := ⟨_, rfl⟩
          have b10 : 0 ≤ v10 ∧ v10 ≤ 720 := by rw [← e10]; exact (by have q := hI_M 613 g (by decide); rw [xri_row rfl rfl] at q; exact q)
          obtain ⟨v11, e11⟩ : ∃ z, M 607 g = z := ⟨_, rfl⟩
          have b11 : 0 ≤ v11 ∧ v11 ≤ 11 := by rw [← e11]; exact (by have q := hI_M 607 g (by decide); rw [xri_row rfl rfl] at q; exact q)
          obtain ⟨v12, e12⟩ : ∃ z, M 618 (400 * g + (v9)) = z := ⟨_, rfl⟩
          have b12 : 0 ≤ v12 ∧ v12 ≤ 255 := by rw [← e12]; exact (by have q := hI_M 618 (400 * g + (v9)) (by decide); rw [xri_row rfl rfl] at q; exact q)
          exact jr.vreturn rfl rfl (q _ (RI.u (RI.u (RI.u hI_M (a := 619) (i := g) (by rw [xri_row rfl rfl]; show (0 : Int) ≤ _ ∧ _ ≤ (400 : Int); omega)) (a := 620) (i := g) (by rw [xri_row rfl rfl]; show (0 : Int) ≤ _ ∧ _ ≤ (400 : Int); omega)) (a := 621) (i := g) (by rw [xri_row rfl rfl]; show (0 : Int) ≤ _ ∧ _ ≤ (400 : Int); omega)) (RH.o (RH.o (RH.o hH_M (by decide) (by decide) (by decide)) (by decide) (by decide) (by decide)) (by decide) (by decide) (by decide)) (RF.o (RF.o (RF.o hS_M (by decide) (by decide)) (by decide) (by decide)) (by decide) (by decide))  (RG1.mk (RG1x.s (RG1x.s (RG1x.s hx (by decide)) (by decide)) (by decide)) (RGs.mk' ((ju_c _ _ (by decide)).trans ((ju_c _ _ (by decide)).trans ((ju_c _ _ (by decide)).trans e10))) ((ju_c _ _ (by decide)).trans ((ju_c _ _ (by decide)).trans ((ju_c _ _ (by decide)).trans e1))) (ju_same _ _ _ _) ((ju_c _ _ (by decide)).trans ((ju_c _ _ (by decide)).trans (ju_same _ _ _ _))) ((ju_c _ _ (by decide)).trans (ju_same _ _ _ _)) ((ju_c _ _ (by decide)).trans ((ju_c _ _ (by decide)).trans ((ju_c _ _ (by decide)).trans e11))) (e7 := ((ju_c _ _ (by decide)).trans ((ju_c _ _ (by decide)).trans ((ju_c _ _ (by decide)).trans e12)))) (by omega) (by omega) (by omega) (by omega) (by omega) (by omega) (fun q7 => by obtain ⟨z1, z2, z3⟩ := k4 (by omega); subst z1; have z4 := hy1 (by omega); rw [e9] at z2 z4; omega))) (by have a1 := hF_M 604 h (by decide) (by decide) (by decide) (by decide) (by decide); have a2 := hF_M 605 h (by decide) (by decide) (by decide) (by decide) (by decide); have a3 := hF_M 604 t (by decide) (by decide) (by decide) (by decide) (by decide); have a4 := hF_M 604 (h - 1) (by decide) (by decide) (by decide) (by decide) (by decide); have a5 := hF_M 603 (h - 1) (by decide) (by decide) (by decide) (by decide) (by decide); exact ⟨⟨(by rw [show (ju (ju (ju M 619 g v2) 620 g (v3 + 4)) 621 g v9) 617 g = v1 from ((ju_c _ _ (by decide)).trans ((ju_c _ _ (by decide)).trans ((ju_c _ _ (by decide)).trans e1)))]; have h9 := hy2; omega), (by rw [show (ju (ju (ju M 619 g v2) 620 g (v3 + 4)) 621 g v9) 619 g = v2 from ((ju_c _ _ (by decide)).trans ((ju_c _ _ (by decide)).trans (ju_same _ _ _ _)))]; omega), (by rw [show (ju (ju (ju M 619 g v2) 620 g (v3 + 4)) 621 g v9) 621 g = v9 from (ju_same _ _ _ _)]; omega), (by rw [show (ju (ju (ju M 619 g v2) 620 g (v3 + 4)) 621 g v9) 620 g = v3 + 4 from ((ju_c _ _ (by decide)).trans (ju_same _ _ _ _))]; first | (rw [if_pos (by omega)]) | (rw [if_neg (by omega)]; first | (rw [if_pos (by omega)]; omega) | (rw [if_neg (by omega)]; omega)))⟩, fun i i0 i1 => by rw [ju_c _ _ (by decide), ju_c _ _ (by decide), ju_c _ _ (by decide)]; exact hy5 i i0 (by omega), fun b j hb hj => by rw [ju_i _ _ hj, ju_i _ _ hj, ju_i _ _ hj]; exact hy6 b j hb hj, fun j hj => by rw [ju_c _ _ (by decide), ju_c _ _ (by decide), ju_c _ _ (by decide)]; exact hy7 j hj⟩) (fun a i f617 f618 f619 f620 f621 => ((ju_c _ _ f621).trans ((ju_c _ _ f620).trans ((ju_c _ _ f619).trans (hF_M a i f617 f618 f619 f620 f621))))))
      · refine jr.iconst rfl ?_
        refine jr.goto rfl rfl ?_
        refine jr.iast (i := g) (x := 0) rfl (by decide) rfl (by decide) (by omega) (by omega) ?_
        refine jr.aload_n rfl rfl ?_
        refine jr.getf (i := 32) (v := .ref 621) rfl rfl (by decide) rfl (by decide) rfl rfl rfl rfl ?_
        refine jr.iload_n rfl rfl ?_
        refine jr.aload_n rfl rfl ?_
        refine jr.getf (i := 8) (v := .ref 604) rfl rfl (by decide) rfl (by decide) rfl rfl rfl rfl ?_
        refine jr.iload rfl rfl ?_
        obtain ⟨v13, e13⟩ : ∃ z, M 604 t = z := ⟨_, rfl⟩
        have b13 : 0 ≤ v13 ∧ v13 ≤ 400 := by rw [← e13]; exact (by have q := hI_M 604 t (by decide); rw [xri_row rfl rfl] at q; exact q)
        refine jr.iald (i := t) (x := v13) rfl (by decide) rfl (by decide) (by omega) (by omega) ((ju_c _ _ (by decide)).trans ((ju_c _ _ (by decide)).trans e13)) ?_
        refine jr.iast (i := g) (x := v13) rfl (by decide) rfl (by decide) (by omega) (by omega) ?_
        obtain ⟨v14, e14⟩ : ∃ z, M 613 g = z := ⟨_, rfl⟩
        have b14 : 0 ≤ v14 ∧ v14 ≤ 720 := by rw [← e14]; exact (by have q := hI_M 613 g (by decide); rw [xri_row rfl rfl] at q; exact q)
        obtain ⟨v15, e15⟩ : ∃ z, M 607 g = z := ⟨_, rfl⟩
        have b15 : 0 ≤ v15 ∧ v15 ≤ 11 := by rw [← e15]; exact (by have q := hI_M 607 g (by decide); rw [xri_row rfl rfl] at q; exact q)
        obtain ⟨v16, e16⟩ : ∃ z, M 618 (400 * g + (v13)) = z := ⟨_, rfl⟩
        have b16 : 0 ≤ v16 ∧ v16 ≤ 255 := by rw [← e16]; exact (by have q := hI_M 618 (400 * g + (v13)) (by decide); rw [xri_row rfl rfl] at q; exact q)
        exact jr.vreturn rfl rfl (q _ (RI.u (RI.u (RI.u hI_M (a := 619) (i := g) (by rw [xri_row rfl rfl]; show (0 : Int) ≤ _ ∧ _ ≤ (400 : Int); omega)) (a := 620) (i := g) (by rw [xri_row rfl rfl]; show (0 : Int) ≤ _ ∧ _ ≤ (400 : Int); omega)) (a := 621) (i := g) (by rw [xri_row rfl rfl]; show (0 : Int) ≤ _ ∧ _ ≤ (400 : Int); omega)) (RH.o (RH.o (RH.o hH_M (by decide) (by decide) (by decide)) (by decide) (by decide) (by decide)) (by decide) (by decide) (by decide)) (RF.o (RF.o (RF.o hS_M (by decide) (by decide)) (by decide) (by decide)) (by decide) (by decide))  (RG1.mk (RG1x.s (RG1x.s (RG1x.s hx (by decide)) (by decide)) (by decide)) (RGs.mk' ((ju_c _ _ (by decide)).trans ((ju_c _ _ (by decide)).trans ((ju_c _ _ (by decide)).trans e14))) ((ju_c _ _ (by decide)).trans ((ju_c _ _ (by decide)).trans ((ju_c _ _ (by decide)).trans e1))) (ju_same _ _ _ _) ((ju_c _ _ (by decide)).trans ((ju_c _ _ (by decide)).trans (ju_same _ _ _ _))) ((ju_c _ _ (by decide)).trans (ju_same _ _ _ _)) ((ju_c _ _ (by decide)).trans ((ju_c _ _ (by decide)).trans ((ju_c _ _ (by decide)).trans e15))) (e7 := ((ju_c _ _ (by decide)).trans ((ju_c _ _ (by decide)).trans ((ju_c _ _ (by decide)).trans e16)))) (by omega) (by omega) (by omega) (by omega) (by omega) (by omega) (fun q7 => by obtain ⟨z1, z2, z3⟩ := k4 (by omega); subst z1; have z4 := hy1 (by omega); rw [e13] at z2 z4; omega))) (by have a1 := hF_M 604 h (by decide) (by decide) (by decide) (by decide) (by decide); have a2 := hF_M 605 h (by decide) (by decide) (by decide) (by decide) (by decide); have a3 := hF_M 604 t (by decide) (by decide) (by decide) (by decide) (by decide); have a4 := hF_M 604 (h - 1) (by decide) (by decide) (by decide) (by decide) (by decide); have a5 := hF_M 603 (h - 1) (by decide) (by decide) (by decide) (by decide) (by decide); exact ⟨⟨(by rw [show (ju (ju (ju M 619 g v2) 620 g 0) 621 g v13) 617 g = v1 from ((ju_c _ _ (by decide)).trans ((ju_c _ _ (by decide)).trans ((ju_c _ _ (by decide)).trans e1)))]; have h9 := hy2; omega), (by rw [show (ju (ju (ju M 619 g v2) 620 g 0) 621 g v13) 619 g = v2 from ((ju_c _ _ (by decide)).trans ((ju_c _ _ (by decide)).trans (ju_same _ _ _ _)))]; omega), (by rw [show (ju (ju (ju M 619 g v2) 620 g 0) 621 g v13) 621 g = v13 from (ju_same _ _ _ _)]; omega), (by rw [show (ju (ju (ju M 619 g v2) 620 g 0) 621 g v13) 620 g = 0 from ((ju_c _ _ (by decide)).trans (ju_same _ _ _ _))]; first | (rw [if_pos (by omega)]) | (rw [if_neg (by omega)]; first | (rw [if_pos (by omega)]; omega) | (rw [if_neg (by omega)]; omega)))⟩, fun i i0 i1 => by rw [ju_c _ _ (by decide), ju_c _ _ (by decide), ju_c _ _ (by decide)]; exact hy5 i i0 (by omega), fun b j hb hj => by rw [ju_i _ _ hj, ju_i _ _ hj, ju_i _ _ hj]; exact hy6 b j hb hj, fun j hj => by rw [ju_c _ _ (by decide), ju_c _ _ (by decide), ju_c _ _ (by decide)]; exact hy7 j hj⟩) (fun a i f617 f618 f619 f620 f621 => ((ju_c _ _ f621).trans ((ju_c _ _ f620).trans ((ju_c _ _ f619).trans (hF_M a i f617 f618 f619 f620 f621))))))
    · refine jr.aload_n rfl rfl ?_
      refine jr.getf (i := 29) (v := .ref 618) rfl rfl (by decide) rfl (by decide) rfl rfl rfl rfl ?_
      refine jr.sipush rfl (by decide) ?_
      refine jr.iload_n rfl rfl ?_
      refine jr.imul rfl ?_
      refine jr.iload rfl rfl ?_
      refine jr.iadd rfl ?_
      refine jr.aload_n rfl rfl ?_
      refine jr.iload_n rfl rfl ?_
      refine jr.iload rfl rfl ?_
      refine jr_v rfl rfl (Or.inl rfl) rfl rfl (by decide) rfl ⟨rfl, Nat.le_of_ble_eq_true rfl, Nat.le_of_ble_eq_true rfl⟩ rfl (jc.deep (r_one hI_M hH_M hS_M (Kp.rfl _) (by omega) (by omega)  (fun r17 z17 w17_0 => ?_)) (by decide))
      refine jr.iast (i := ((400 * g) + k)) (x := r17) rfl (by decide) rfl (by decide) (by omega) (by omega) ?_
      refine jr.iinc rfl rfl (by decide) rfl ?_
      refine jr.goto rfl rfl ?_
      refine jr.pick [0, 1, 2, 3, 4, 5] rfl rfl ?_
      exact ih (nM - 1) (by omega) (ju M 618 ((400 * g) + k) r17) (k + 1) t h x g (RI.u hI_M (a := 618) (i := ((400 * g) + k)) (by rw [xri_row rfl rfl]; show (0 : Int) ≤ _ ∧ _ ≤ (255 : Int); omega)) (RH.o hH_M (by decide) (by decide) (by decide)) (RF.o hS_M (by decide) (by decide))  (fun a i f617 f618 f619 f620 f621 => ((ju_c _ _ f618).trans (hF_M a i f617 f618 f619 f620 f621))) (by omega) (by omega) (by omega) (by omega) (by omega) (RG1x.b hx (by omega) (by omega)) (by intro q; rw [ju_c _ _ (by decide : (604 : Nat) ≠ 618)] at q ⊢; rw [ju_c _ _ (by decide : (601 : Nat) ≠ 618)]; by_cases z : M 604 t = k; (rw [z, ju_same]; first | omega | (rw [← w17_0])); (rw [ju_i _ _ (by omega)]; exact hy1 (by omega))) (by rw [ju_c _ _ (by decide), ju_c _ _ (by decide), ju_c _ _ (by decide)]; exact hy2) (by rw [ju_c _ _ (by decide), ju_c _ _ (by decide), ju_c _ _ (by decide), ju_c _ _ (by decide), ju_c _ _ (by decide)]; exact hy3) (by rw [ju_c _ _ (by decide)]; exact hy4) (fun i i0 i1 => by by_cases e : i = k; (rw [e, ju_same, rf_a, ← hF_M 601 (400 * x + k) (by decide) (by decide) (by decide) (by decide) (by decide)]; have h9 := w17_0; omega); (rw [ju_i _ _ (by omega)]; exact hy5 i i0 (by omega))) (fun b j hb hj => (ju_c _ _ hb).trans (hy6 b j hb hj)) (fun j hj => (ju_i _ _ (by omega)).trans (hy7 j hj)) (by omega) (by omega) (by omega) (by omega) (by omega)
theorem r_keepHeaders_x {A : Nat → Option (Nat × (Nat → Int32))} {Q : Option Value → jm → Prop} {M : jm} (hI_M : RI M) (hH_M : RH M) (hS_M : RF M) {g : Int} (h_g : 0 ≤ g ∧ g ≤ 7) {x : Int} (h_x : 0 ≤ x ∧ x ≤ 23) {h : Int} (h_h : 0 ≤ h ∧ h ≤ 11) {t : Int} (h_t : 0 ≤ t ∧ t ≤ 11) (p0 : 8 ≤ M 604 h + M 605 h) (p1 : M 604 t ≤ 380) (p2 : M 604 h ≤ 392) (p3 : (M 607 g = 2 → (t = h ∧ M 605 h = 4 * (M 601 (400 * x + M 604 h) % 16) ∧ 20 ≤ M 605 h))) (p4 : 1 ≤ M 613 g) (p5 : RG1 M) (q : ∀ (M' : jm), RI M' → RH M' → RF M' → RG1 M' → ((M' 617 g = M 604 h + M 605 h ∧ M' 619 g = M 604 h ∧ M' 621 g = M 604 t ∧ M' 620 g = (if h = 0 then 0 else M 604 (h - 1) + (if M 603 (h - 1) = 3 then 4 else 0))) ∧ (∀ i : Int, 0 ≤ i → i < M 604 h + M 605 h → M' 618 (400 * g + i) = rf M x i) ∧ (∀ (b : Nat) (j : Int), b ≠ 618 → j ≠ g → M' b j = M b j) ∧ (∀ j : Int, (j < 400 * g ∨ 400 * g + 400 ≤ j) → M' 618 j = M 618 j)) → (∀ (a : Nat) (i : Int), a ≠ 617 → a ≠ 618 → a ≠ 619 → a ≠ 620 → a ≠ 621 → M' a i = M a i) → Q none M') : jc A 2 295 [.ref (598), .int (Int32.ofInt (g)), .int (Int32.ofInt (x)), .int (Int32.ofInt (h)), .int (Int32.ofInt (t))] M Q := by
  have hG1 := p5
  have nb : (0 : Int) ≤ M 604 t ∧ M 604 t ≤ 400 := by have q := hI_M 604 t (by decide); rw [xri_row rfl rfl] at q; exact q
  have rt := RH.two hH_M (h - 1)
  have r1 := (hH_M (h - 1)).2
  have r2 := (hH_M h).2
  refine jc_of (m := xm_295) rfl (Nat.le_of_ble_eq_true rfl) rfl ?_
  refine jr.aload_n rfl rfl ?_
  refine jr.getf (i := 28) (v := .ref 617) rfl rfl (by decide) rfl (by decide) rfl rfl rfl rfl ?_
  refine jr.iload_n rfl rfl ?_
  refine jr.aload_n rfl rfl ?_
  refine jr.getf (i := 8) (v := .ref 604) rfl rfl (by decide) rfl (by decide) rfl rfl rfl rfl ?_
  refine jr.iload_n rfl rfl ?_
  obtain ⟨v1, e1⟩ : ∃ z, M 604 h = z := ⟨_, rfl⟩
  have b1 : 0 ≤ v1 ∧ v1 ≤ 400 := by rw [← e1]; exact (by have q := hI_M 604 h (by decide); rw [xri_row rfl rfl] at q; exact q)
  refine jr.iald (i := h) (x := v1) rfl (by decide) rfl (by decide) (by omega) (by omega) e1 ?_
  refine jr.aload_n rfl rfl ?_
  refine jr.getf (i := 9) (v := .ref 605) rfl rfl (by decide) rfl (by decide) rfl rfl rfl rfl ?_
  refine jr.iload_n rfl rfl ?_
  obtain ⟨v2, e2⟩ : ∃ z, M 605 h = z := ⟨_, rfl⟩
  have b2 : 0 ≤ v2 ∧ v2 ≤ 400 := by rw [← e2]; exact (by have q := hI_M 605 h (by decide); rw [xri_row rfl rfl] at q; exact q)
  refine jr.iald (i := h) (x := v2) rfl (by decide) rfl (by decide) (by omega) (by omega) e2 ?_
  refine jr.iadd rfl ?_
  refine jr.iast (i := g) (x := (v1 + v2)) rfl (by decide) rfl (by decide) (by omega) (by omega) ?_
  refine jr.iconst rfl ?_
  refine jr.istore rfl (by decide) rfl ?_
  refine jr.pick [0, 5, 4, 3, 2, 1] rfl rfl ?_
  exact r_keepHeaders_L22_x q 400 (ju M 617 g (v1 + v2)) 0 t h x g (RI.u hI_M (a := 617) (i := g) (by rw [xri_row rfl rfl]; show (-1 : Int) ≤ _ ∧ _ ≤ (400 : Int); omega)) (RH.o hH_M (by decide) (by decide) (by decide)) (RF.o hS_M (by decide) (by decide))  (fun a i f617 f618 f619 f620 f621 => ((ju_c _ _ f617).trans rfl)) (by omega) (by omega) (by omega) (by omega) (by omega) (RG1x.s (RG1.x hG1 _) (by decide)) (fun q => by exfalso; rw [ju_c _ _ (by decide)] at q; omega) (by rw [ju_same, ju_c _ _ (by decide), ju_c _ _ (by decide)]; omega) (by rw [ju_c _ _ (by decide), ju_c _ _ (by decide), ju_c _ _ (by decide), ju_c _ _ (by decide), ju_c _ _ (by decide)]; exact ⟨p0, p1, p2, p3⟩) (by rw [ju_c _ _ (by decide)]; exact p4) (fun i i0 i1 => absurd i1 (by omega)) (fun b j hb hj => ju_i _ _ hj) (fun j hj => ju_c _ _ (by decide)) (by omega) (by omega) (by omega) (by omega) (by omega)
end
