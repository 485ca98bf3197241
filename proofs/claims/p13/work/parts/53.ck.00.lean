/-! ===== the class's methods ===== -/
noncomputable def W_c_Program_clear_m : List (Nat × Nat) := [(47, 2), (47, 3), (47, 4)]
theorem c_Program_clear_m {A : Nat → Option (Nat × (Nat → Int32))} {Q : Option Value → jm → Prop} {G : Nat → Int → Int} {T : jm} {M : jm} (hC_M : CI M) (ht_M : FR W_c_Program_clear_m T M) {t : Nat} (k_t : kd t = 47) (p0 : M 413 2 = ((t : Nat) : Int)) (p1 : MP M G) (q : ∀ (M' : jm), CI M' → FR W_c_Program_clear_m T M' → (MP M' G) → Q none M') : jc A 1 227 [.ref (t)] M Q := by
  refine jc_of (m := xm_227) rfl (Nat.le_of_ble_eq_true rfl) rfl ?_
  obtain ⟨v1, e1⟩ : ∃ z_, M 413 2 = z_ := ⟨_, rfl⟩
  have b1 : 0 ≤ v1 ∧ v1 ≤ 597 := by rw [← e1]; exact (CI.r hC_M (show kd 413 = 44 from rfl) (by decide) 2)
  refine jr.aload_n rfl rfl ?_
  refine jr.iconst rfl ?_
  refine jr.putf (i := 2) (x := 0) rfl rfl (Nat.lt_trans (kx_47 k_t).1 (by decide)) (kx_47 k_t).2 (by decide) rfl rfl rfl rfl rfl ?_
  refine jr.aload_n rfl rfl ?_
  refine jr.iconst rfl ?_
  refine jr.putf (i := 3) (x := 0) rfl rfl (Nat.lt_trans (kx_47 k_t).1 (by decide)) (kx_47 k_t).2 (by decide) rfl rfl rfl rfl rfl ?_
  refine jr.aload_n rfl rfl ?_
  refine jr.iconst rfl ?_
  refine jr.putf (i := 4) (x := 0) rfl rfl (Nat.lt_trans (kx_47 k_t).1 (by decide)) (kx_47 k_t).2 (by decide) rfl rfl rfl rfl rfl ?_
  exact jr.vreturn rfl rfl (q _ (CI.u (CI.u (CI.u hC_M (i := 2) k_t (show (0 : Int) ≤ _ ∧ _ ≤ (932 : Int) from by omega) rfl) (i := 3) k_t (show (0 : Int) ≤ _ ∧ _ ≤ (16 : Int) from by omega) rfl) (i := 4) k_t (show (-2147483648 : Int) ≤ _ ∧ _ ≤ (2147483647 : Int) from by omega) rfl) (FR.o (FR.o (FR.o ht_M k_t rfl) k_t rfl) k_t rfl)  (MP.w (MP.w (MP.w p1 hC_M e1 ⟨by omega, by omega⟩) (CI.u hC_M (i := 2) k_t (show (0 : Int) ≤ _ ∧ _ ≤ (932 : Int) from by omega) rfl) ((ju_c _ _ (kd_ne (by rw [(show kd 413 = 44 from rfl), k_t]; decide))).trans e1) ⟨by omega, by omega⟩) (CI.u (CI.u hC_M (i := 2) k_t (show (0 : Int) ≤ _ ∧ _ ≤ (932 : Int) from by omega) rfl) (i := 3) k_t (show (0 : Int) ≤ _ ∧ _ ≤ (16 : Int) from by omega) rfl) ((ju_i _ _ (by decide)).trans ((ju_c _ _ (kd_ne (by rw [(show kd 413 = 44 from rfl), k_t]; decide))).trans e1)) ⟨by omega, by omega⟩))
noncomputable def W_c_Program_land_m : List (Nat × Nat) := [(48, 1000)]
theorem c_Program_land_m {A : Nat → Option (Nat × (Nat → Int32))} {Q : Option Value → jm → Prop} {G : Nat → Int → Int} {T : jm} {M : jm} (hC_M : CI M) (ht_M : FR W_c_Program_land_m T M) {t : Nat} (k_t : kd t = 47) {x : Int} (h_x : (-2147483648) ≤ x ∧ x ≤ 2147483647) (p0 : M 413 2 = ((t : Nat) : Int)) (p1 : MP M G) (q : ∀ (M' : jm), CI M' → FR W_c_Program_land_m T M' → (MP M' G) → Q none M') : jc A 1 229 [.ref (t), .int (Int32.ofInt (x))] M Q := by
  refine jc_of (m := xm_229) rfl (Nat.le_of_ble_eq_true rfl) rfl ?_
  obtain ⟨v1, e1⟩ : ∃ z_, M 413 2 = z_ := ⟨_, rfl⟩
  have b1 : 0 ≤ v1 ∧ v1 ≤ 597 := by rw [← e1]; exact (CI.r hC_M (show kd 413 = 44 from rfl) (by decide) 2)
  refine jr.iload_n rfl rfl ?_
  refine jr.if_lt rfl rfl (by omega) (fun h1 => ?_) (fun h1 => ?_)
  · exact jr.vreturn rfl rfl (q _ hC_M ht_M  p1)
  · refine jr.iload_n rfl rfl ?_
    refine jr.aload_n rfl rfl ?_
    obtain ⟨v2, e2⟩ : ∃ z_, M t 2 = z_ := ⟨_, rfl⟩
    have b2 : 0 ≤ v2 ∧ v2 ≤ 932 := by rw [← e2]; exact (CI.r hC_M k_t (by decide) 2)
    refine jr.getf (i := 2) (x := v2) (v := .int (Int32.ofInt (v2))) rfl rfl (Nat.lt_trans (kx_47 k_t).1 (by decide)) (kx_47 k_t).2 (by decide) rfl rfl e2 rfl ?_
    refine jr.icmp_ge rfl rfl (by omega) (by omega) (fun h9 => ?_) (fun h9 => ?_)
    · exact jr.vreturn rfl rfl (q _ hC_M ht_M  p1)
    · refine jr.aload_n rfl rfl ?_
      have k3 := kf_47_1 k_t
      refine jr.getf (i := 1) (v := .ref (t + 2)) rfl rfl (Nat.lt_trans (kx_47 k_t).1 (by decide)) (kx_47 k_t).2 (by decide) rfl rfl rfl (jval_ref rfl k3.1) ?_
      refine jr.iload_n rfl rfl ?_
      refine jr.aload_n rfl rfl ?_
      refine jr.getf (i := 2) (x := v2) (v := .int (Int32.ofInt (v2))) rfl rfl (Nat.lt_trans (kx_47 k_t).1 (by decide)) (kx_47 k_t).2 (by decide) rfl rfl e2 rfl ?_
      refine jr.iast (i := x) (x := v2) rfl (Nat.lt_trans (kx_48 k3.2).1 (by decide)) (kx_48 k3.2).2 (by decide) (by omega) (by omega) ?_
      exact jr.vreturn rfl rfl (q _ (CI.u hC_M (i := x) k3.2 (show (-2147483648 : Int) ≤ _ ∧ _ ≤ (2147483647 : Int) from by omega) rfl) (FR.o ht_M k3.2 rfl)  (MP.w p1 hC_M e1 ⟨by omega, by omega⟩))
noncomputable def W_c_Program_emit_m : List (Nat × Nat) := [(47, 2), (48, 1000), (51, 1000)]
theorem c_Program_emit_m {A : Nat → Option (Nat × (Nat → Int32))} {Q : Option Value → jm → Prop} {G : Nat → Int → Int} {T : jm} {M : jm} (hC_M : CI M) (ht_M : FR W_c_Program_emit_m T M) {t : Nat} (k_t : kd t = 47) {x : Int} (h_x : (-2147483648) ≤ x ∧ x ≤ 2147483647) {y : Int} (h_y : (-2147483648) ≤ y ∧ y ≤ 2147483647) (p0 : M 413 2 = ((t : Nat) : Int)) (p1 : MP M G) (q : ∀ (r : Int) (M' : jm), CI M' → FR W_c_Program_emit_m T M' → (-2147483648) ≤ r ∧ r ≤ 2147483647 → (MP M' G) → Q (some (.int (Int32.ofInt r))) M') : jc A 1 228 [.ref (t), .int (Int32.ofInt (x)), .int (Int32.ofInt (y))] M Q := by
  refine jc_of (m := xm_228) rfl (Nat.le_of_ble_eq_true rfl) rfl ?_
  obtain ⟨v1, e1⟩ : ∃ z_, M 413 2 = z_ := ⟨_, rfl⟩
  have b1 : 0 ≤ v1 ∧ v1 ≤ 597 := by rw [← e1]; exact (CI.r hC_M (show kd 413 = 44 from rfl) (by decide) 2)
  refine jr.aload_n rfl rfl ?_
  obtain ⟨v2, e2⟩ : ∃ z_, M t 2 = z_ := ⟨_, rfl⟩
  have b2 : 0 ≤ v2 ∧ v2 ≤ 932 := by rw [← e2]; exact (CI.r hC_M k_t (by decide) 2)
  refine jr.getf (i := 2) (x := v2) (v := .int (Int32.ofInt (v2))) rfl rfl (Nat.lt_trans (kx_47 k_t).1 (by decide)) (kx_47 k_t).2 (by decide) rfl rfl e2 rfl ?_
  refine jr.sipush rfl (by decide) ?_
  refine jr.icmp_ge rfl rfl (by omega) (by omega) (fun h7 => ?_) (fun h7 => ?_)
  · refine jr.aload_n rfl rfl ?_
    refine jr.getf (i := 2) (x := v2) (v := .int (Int32.ofInt (v2))) rfl rfl (Nat.lt_trans (kx_47 k_t).1 (by decide)) (kx_47 k_t).2 (by decide) rfl rfl e2 rfl ?_
    refine jr.iconst rfl ?_
    refine jr.isub rfl ?_
    exact jr.ireturn rfl rfl rfl (q _ _ hC_M ht_M (by omega) p1)
  · refine jr.aload_n rfl rfl ?_
    have k3 := kf_47_0 k_t
    refine jr.getf (i := 0) (v := .ref (t + 1)) rfl rfl (Nat.lt_trans (kx_47 k_t).1 (by decide)) (kx_47 k_t).2 (by decide) rfl rfl rfl (jval_ref rfl k3.1) ?_
    refine jr.aload_n rfl rfl ?_
    refine jr.getf (i := 2) (x := v2) (v := .int (Int32.ofInt (v2))) rfl rfl (Nat.lt_trans (kx_47 k_t).1 (by decide)) (kx_47 k_t).2 (by decide) rfl rfl e2 rfl ?_
    refine jr.iload_n rfl rfl ?_
    refine jr.iast (i := v2) (x := x) rfl (Nat.lt_trans (kx_51 k3.2).1 (by decide)) (kx_51 k3.2).2 (by decide) (by omega) (by omega) ?_
    refine jr.aload_n rfl rfl ?_
    have k4 := kf_47_1 k_t
    refine jr.getf (i := 1) (v := .ref (t + 2)) rfl rfl (Nat.lt_trans (kx_47 k_t).1 (by decide)) (kx_47 k_t).2 (by decide) rfl rfl rfl (jval_ref rfl k4.1) ?_
    refine jr.aload_n rfl rfl ?_
    refine jr.getf (i := 2) (x := v2) (v := .int (Int32.ofInt (v2))) rfl rfl (Nat.lt_trans (kx_47 k_t).1 (by decide)) (kx_47 k_t).2 (by decide) rfl rfl ((ju_c _ _ (kd_ne (by rw [k_t, k3.2]; decide))).trans e2) rfl ?_
    refine jr.iload_n rfl rfl ?_
    refine jr.iast (i := v2) (x := y) rfl (Nat.lt_trans (kx_48 k4.2).1 (by decide)) (kx_48 k4.2).2 (by decide) (by omega) (by omega) ?_
    refine jr.aload_n rfl rfl ?_
    refine jr.dup rfl rfl ?_
    refine jr.getf (i := 2) (x := v2) (v := .int (Int32.ofInt (v2))) rfl rfl (Nat.lt_trans (kx_47 k_t).1 (by decide)) (kx_47 k_t).2 (by decide) rfl rfl ((ju_c _ _ (kd_ne (by rw [k_t, k4.2]; decide))).trans ((ju_c _ _ (kd_ne (by rw [k_t, k3.2]; decide))).trans e2)) rfl ?_
    refine jr.iconst rfl ?_
    refine jr.iadd rfl ?_
    refine jr.putf (i := 2) (x := (v2 + 1)) rfl rfl (Nat.lt_trans (kx_47 k_t).1 (by decide)) (kx_47 k_t).2 (by decide) rfl rfl rfl rfl rfl ?_
    refine jr.aload_n rfl rfl ?_
    refine jr.getf (i := 2) (x := (v2 + 1)) (v := .int (Int32.ofInt (v2 + 1))) rfl rfl (Nat.lt_trans (kx_47 k_t).1 (by decide)) (kx_47 k_t).2 (by decide) rfl rfl (ju_same _ _ _ _) rfl ?_
    refine jr.iconst rfl ?_
    refine jr.isub rfl ?_
    exact jr.ireturn rfl rfl rfl (q _ _ (CI.u (CI.u (CI.u hC_M (i := v2) k3.2 (show (-2147483648 : Int) ≤ _ ∧ _ ≤ (2147483647 : Int) from by omega) rfl) (i := v2) k4.2 (show (-2147483648 : Int) ≤ _ ∧ _ ≤ (2147483647 : Int) from by omega) rfl) (i := 2) k_t (show (0 : Int) ≤ _ ∧ _ ≤ (932 : Int) from by omega) rfl) (FR.o (FR.o (FR.o ht_M k3.2 rfl) k4.2 rfl) k_t rfl) (by omega) (MP.w (MP.w (MP.w p1 hC_M e1 ⟨by omega, by omega⟩) (CI.u hC_M (i := v2) k3.2 (show (-2147483648 : Int) ≤ _ ∧ _ ≤ (2147483647 : Int) from by omega) rfl) ((ju_c _ _ (kd_ne (by rw [(show kd 413 = 44 from rfl), k3.2]; decide))).trans e1) ⟨by omega, by omega⟩) (CI.u (CI.u hC_M (i := v2) k3.2 (show (-2147483648 : Int) ≤ _ ∧ _ ≤ (2147483647 : Int) from by omega) rfl) (i := v2) k4.2 (show (-2147483648 : Int) ≤ _ ∧ _ ≤ (2147483647 : Int) from by omega) rfl) ((ju_c _ _ (kd_ne (by rw [(show kd 413 = 44 from rfl), k4.2]; decide))).trans ((ju_c _ _ (kd_ne (by rw [(show kd 413 = 44 from rfl), k3.2]; decide))).trans e1)) ⟨by omega, by omega⟩))
noncomputable def W_c_Parser_refuse : List (Nat × Nat) := [(44, 0), (44, 1)]
