/-! ===== the class's methods ===== -/
noncomputable def W_c_Program_clear_m : List (Nat × Nat) := [(47, 2), (47, 3), (47, 4)]
theorem c_Program_clear_m {A : Nat → Option (Nat × (Nat → Int32))} {Q : Option Value → jm → Prop} {G : Nat → Int → Int} {T : jm} {M : jm} (hC_M : CI M) (ht_M : FR W_c_Program_clear_m T M) {t : Nat} (k_t : kd t = 47) (p0 : M 413 2 = ((t : Nat) : Int)) (p1 : MP M G) (q : ∀ (M' : jm), CI M' → FR W_c_Program_clear_m T M' → (MP M' G) → Q none M') : jc A 1 227 [.ref (t)] M Q := by
  refine jc_of (m := xm_227) rfl (Nat.le_of_ble_eq_true rfl) rfl ?_
  obtain ⟨v1, e1⟩ : ∃ z_, M 413 2 = z_ := ⟨_, rfl⟩
  have b1 : 0 ≤ v1 ∧ v1 ≤ 597 := by rw [← e1]; exact (CI.r hC_M (show kd 413 = 44 from rfl) (by decide) 2)
  refine jr.aload_n rfl rfl ?_
  refine jr.iconst rfl ?_
  refine jr.putf (i := 2) (x := 0) rfl rfl (Nat.lt_trans (kx_47 k_t).1 (by decide)) (kx_47 k_t).2 (by decide) rfl rfl rfl rfl rfl ?_
  refine jr.aload_n rfl rfl ?_
  refine jr.iconst rfl ?_
  refine jr.putf (i := 3) (x := 0) rfl rfl (Nat.lt_trans (kx_47 k_t).1 (by decide)) (kx_47 k_t).2 (by decide) rfl rfl rfl rfl rfl ?_
  refine jr.aload_n rfl rfl ?_
  refine jr.iconst rfl ?_
  refine jr.putf (i := 4) (x := 0) rfl rfl (Nat.lt_trans (kx_47 k_t).1 (by decide)) (kx_47 k_t).2 (by decide) rfl rfl rfl rfl rfl ?_
  exact jr.vreturn rfl rfl (q _ (CI.u (CI.u (CI.u hC_M (i := 2) k_t (show (0 : Int) ≤ _ ∧ _ ≤ (932 : Int) from by omega) rfl) (i := 3) k_t (show (0 : Int) ≤ _ ∧ _ ≤ (16 : Int) from by omega) rfl) (i := 4) k_t (show (-2147483648 : Int) ≤ _ ∧ _ ≤ (2147483647 : Int) from by omega) rfl) (FR.o (FR.o (FR.o ht_M k_t rfl) k_t rfl) k_t rfl)  (MP.w (MP.w (MP.w p1 hC_M e1 ⟨by omega, by omega⟩) (CI.u hC_M (i := 2) k_t (show (0 : Int) ≤ _ ∧ _ ≤ (932 : Int) from by omega) rfl) ((ju_c _ _ (kd_ne (by rw [(show kd 413 = 44 from rfl), k_t]; decide))).trans e1) ⟨by omega, by omega⟩) (CI.u (CI.u hC_M (i := 2) k_t (show (0 : Int) ≤ _ ∧ _ ≤ (932 : Int) from by omega) rfl) (i := 3) k_t (show (0 : Int) ≤ _ ∧ _ ≤ (16 : Int) from by omega) rfl) ((ju_i _ _ (zne (by decide))).trans ((ju_c _ _ (kd_ne (by rw [(show kd 413 = 44 from rfl), k_t]; decide))).trans e1)) ⟨by omega, by omega⟩))
noncomputable def W_c_Program_land_m : List (Nat × Nat) := [(48, 1000)]
theorem c_Program_land_m {A : Nat → Option (Nat × (Nat → Int32))} {Q : Option Value → jm → Prop} {G : Nat → Int → Int} {T : jm} {M : jm} (hC_M : CI M) (ht_M : FR W_c_Program_land_m T M) {t : Nat} (k_t : kd t = 47) {x : Int} (h_x : (-2147483648) ≤ x ∧ x ≤ 2147483647) (p0 : M 413 2 = ((t : Nat) : Int)) (p1 : MP M G) (q : ∀ (M' : jm), CI M' → FR W_c_Program_land_m T M' → (MP M' G) → Q none M') : jc A 1 229 [.ref (t), .int (Int32.ofInt (x))] M Q := by
  refine jc_of (m := xm_229) rfl (Nat.le_of_ble_eq_true rfl) rfl ?_
  obtain ⟨v1, e1⟩ : ∃ z_, M 413 2 = z_ := ⟨_, rfl⟩
  have b1 : 0 ≤ v1 ∧ v1 ≤ 597 := by rw [← e1]; exact (CI.r hC_M (show kd 413 = 44 from rfl) (by decide) 2)
  refine jr.iload_n rfl rfl ?_
  refine jr.if_lt rfl rfl (by first | (refine rgb (by assumption) ?_; exact rfl) | omega) (fun h1 => ?_) (fun h1 => ?_)
  · exact jr.vreturn rfl rfl (q _ hC_M ht_M  p1)
  · refine jr.iload_n rfl rfl ?_
    refine jr.aload_n rfl rfl ?_
    obtain ⟨v2, e2⟩ : ∃ z_, M t 2 = z_ := ⟨_, rfl⟩
    have b2 : 0 ≤ v2 ∧ v2 ≤ 932 := by rw [← e2]; exact (CI.r hC_M k_t (by decide) 2)
    refine jr.getf (i := 2) (x := v2) (v := .int (Int32.ofInt (v2))) rfl rfl (Nat.lt_trans (kx_47 k_t).1 (by decide)) (kx_47 k_t).2 (by decide) rfl rfl e2 rfl ?_
    refine jr.icmp_ge rfl rfl (by first | (refine rgb (by assumption) ?_; exact rfl) | omega) (by first | (refine rgb (by assumption) ?_; exact rfl) | omega) (fun h9 => ?_) (fun h9 => ?_)
    · exact jr.vreturn rfl rfl (q _ hC_M ht_M  p1)
    · refine jr.aload_n rfl rfl ?_
      have k3 := kf_47_1 k_t
      refine jr.getf (i := 1) (v := .ref (t + 2)) rfl rfl (Nat.lt_trans (kx_47 k_t).1 (by decide)) (kx_47 k_t).2 (by decide) rfl rfl rfl (jval_ref rfl k3.1) ?_
      refine jr.iload_n rfl rfl ?_
      refine jr.aload_n rfl rfl ?_
      refine jr.getf (i := 2) (x := v2) (v := .int (Int32.ofInt (v2))) rfl rfl (Nat.lt_trans (kx_47 k_t).1 (by decide)) (kx_47 k_t).2 (by decide) rfl rfl e2 rfl ?_
      refine jr.iast (i := x) (x := v2) rfl (Nat.lt_trans (kx_48 k3.2).1 (by decide)) (kx_48 k3.2).2 (by decide) (by omega) (by omega) ?_
      exact jr.vreturn rfl rfl (q _ (CI.u hC_M (i := x) k3.2 (show (-2147483648 : Int) ≤ _ ∧ _ ≤ (2147483647 : Int) from by omega) rfl) (FR.o ht_M k3.2 rfl)  (MP.w p1 hC_M e1 ⟨by omega, by omega⟩))
noncomputable def W_c_Program_emit_m : List (Nat × Nat) := [(47, 2), (48, 1000), (51, 1000)]
theorem c_Program_emit_m {A : Nat → Option (Nat × (Nat → Int32))} {Q : Option Value → jm → Prop} {G : Nat → Int → Int} {T : jm} {M : jm} (hC_M : CI M) (ht_M : FR W_c_Program_emit_m T M) {t : Nat} (k_t : kd t = 47) {x : Int} (h_x : (-2147483648) ≤ x ∧ x ≤ 2147483647) {y : Int} (h_y : (-2147483648) ≤ y ∧ y ≤ 2147483647) (p0 : M 413 2 = ((t : Nat) : Int)) (p1 : MP M G) (q : ∀ (r : Int) (M' : jm), CI M' → FR W_c_Program_emit_m T M' → (-2147483648) ≤ r ∧ r ≤ 2147483647 → (MP M' G) → Q (some (.int (Int32.ofInt r))) M') : jc A 1 228 [.ref (t), .int (Int32.ofInt (x)), .int (Int32.ofInt (y))] M Q := by
  refine jc_of (m := xm_228) rfl (Nat.le_of_ble_eq_true rfl) rfl ?_
  obtain ⟨v1, e1⟩ : ∃ z_, M 413 2 = z_ := ⟨_, rfl⟩
  have b1 : 0 ≤ v1 ∧ v1 ≤ 597 := by rw [← e1]; exact (CI.r hC_M (show kd 413 = 44 from rfl) (by decide) 2)
  refine jr.aload_n rfl rfl ?_
  obtain ⟨v2, e2⟩ : ∃ z_, M t 2 = z_ := ⟨_, rfl⟩
  have b2 : 0 ≤ v2 ∧ v2 ≤ 932 := by rw [← e2]; exact (CI.r hC_M k_t (by decide) 2)
  refine jr.getf (i := 2) (x := v2) (v := .int (Int32.ofInt (v2))) rfl rfl (Nat.lt_trans (kx_47 k_t).1 (by decide)) (kx_47 k_t).2 (by decide) rfl rfl e2 rfl ?_
  refine jr.sipush rfl (by decide) ?_
  refine jr.icmp_ge rfl rfl (by first | (refine rgb (by assumption) ?_; exact rfl) | omega) (rgl rfl) (fun h7 => ?_) (fun h7 => ?_)
  · refine jr.aload_n rfl rfl ?_
    refine jr.getf (i := 2) (x := v2) (v := .int (Int32.ofInt (v2))) rfl rfl (Nat.lt_trans (kx_47 k_t).1 (by decide)) (kx_47 k_t).2 (by decide) rfl rfl e2 rfl ?_
    refine jr.iconst rfl ?_
    refine jr.isub rfl ?_
    exact jr.ireturn rfl rfl rfl (q _ _ hC_M ht_M (by omega) p1)
  · refine jr.aload_n rfl rfl ?_
    have k3 := kf_47_0 k_t
    refine jr.getf (i := 0) (v := .ref (t + 1)) rfl rfl (Nat.lt_trans (kx_47 k_t).1 (by decide)) (kx_47 k_t).2 (by decide) rfl rfl rfl (jval_ref rfl k3.1) ?_
    refine jr.aload_n rfl rfl ?_
    refine jr.getf (i := 2) (x := v2) (v := .int (Int32.ofInt (v2))) rfl rfl (Nat.lt_trans (kx_47 k_t).1 (by decide)) (kx_47 k_t).2 (by decide) rfl rfl e2 rfl ?_
    refine jr.iload_n rfl rfl ?_
    refine jr.iast (i := v2) (x := x) rfl (Nat.lt_trans (kx_51 k3.2).1 (by decide)) (kx_51 k3.2).2 (by decide) (by omega) (by omega) ?_
    refine jr.aload_n rfl rfl ?_
    have k4 := kf_47_1 k_t
    refine jr.getf (i := 1) (v := .ref (t + 2)) rfl rfl (Nat.lt_trans (kx_47 k_t).1 (by decide)) (kx_47 k_t).2 (by decide) rfl rfl rfl (jval_ref rfl k4.1) ?_
    refine jr.aload_n rfl rfl ?_
    refine jr.getf (i := 2) (x := v2) (v := .int (Int32.ofInt (v2))) rfl rfl (Nat.lt_trans (kx_47 k_t).1 (by decide)) (kx_47 k_t).2 (by decide) rfl rfl ((ju_c _ _ (kd_ne (by rw [k_t, k3.2]; decide))).trans e2) rfl ?_
    refine jr.iload_n rfl rfl ?_
    refine jr.iast (i := v2) (x := y) rfl (Nat.lt_trans (kx_48 k4.2).1 (by decide)) (kx_48 k4.2).2 (by decide) (by omega) (by omega) ?_
    refine jr.aload_n rfl rfl ?_
    refine jr.dup rfl rfl ?_
    refine jr.getf (i := 2) (x := v2) (v := .int (Int32.ofInt (v2))) rfl rfl (Nat.lt_trans (kx_47 k_t).1 (by decide)) (kx_47 k_t).2 (by decide) rfl rfl ((ju_c _ _ (kd_ne (by rw [k_t, k4.2]; decide))).trans ((ju_c _ _ (kd_ne (by rw [k_t, k3.2]; decide))).trans e2)) rfl ?_
    refine jr.iconst rfl ?_
    refine jr.iadd rfl ?_
    refine jr.putf (i := 2) (x := (v2 + 1)) rfl rfl (Nat.lt_trans (kx_47 k_t).1 (by decide)) (kx_47 k_t).2 (by decide) rfl rfl rfl rfl rfl ?_
    refine jr.aload_n rfl rfl ?_
    refine jr.getf (i := 2) (x := (v2 + 1)) (v := .int (Int32.ofInt (v2 + 1))) rfl rfl (Nat.lt_trans (kx_47 k_t).1 (by decide)) (kx_47 k_t).2 (by decide) rfl rfl (ju_same _ _ _ _) rfl ?_
    refine jr.iconst rfl ?_
    refine jr.isub rfl ?_
    exact jr.ireturn rfl rfl rfl (q _ _ (CI.u (CI.u (CI.u hC_M (i := v2) k3.2 (show (-2147483648 : Int) ≤ _ ∧ _ ≤ (2147483647 : Int) from by omega) rfl) (i := v2) k4.2 (show (-2147483648 : Int) ≤ _ ∧ _ ≤ (2147483647 : Int) from by omega) rfl) (i := 2) k_t (show (0 : Int) ≤ _ ∧ _ ≤ (932 : Int) from by omega) rfl) (FR.o (FR.o (FR.o ht_M k3.2 rfl) k4.2 rfl) k_t rfl) (by omega) (MP.w (MP.w (MP.w p1 hC_M e1 ⟨by omega, by omega⟩) (CI.u hC_M (i := v2) k3.2 (show (-2147483648 : Int) ≤ _ ∧ _ ≤ (2147483647 : Int) from by omega) rfl) ((ju_c _ _ (kd_ne (by rw [(show kd 413 = 44 from rfl), k3.2]; decide))).trans e1) ⟨by omega, by omega⟩) (CI.u (CI.u hC_M (i := v2) k3.2 (show (-2147483648 : Int) ≤ _ ∧ _ ≤ (2147483647 : Int) from by omega) rfl) (i := v2) k4.2 (show (-2147483648 : Int) ≤ _ ∧ _ ≤ (2147483647 : Int) from by omega) rfl) ((ju_c _ _ (kd_ne (by rw [(show kd 413 = 44 from rfl), k4.2]; decide))).trans ((ju_c _ _ (kd_ne (by rw [(show kd 413 = 44 from rfl), k3.2]; decide))).trans e1)) ⟨by omega, by omega⟩))
noncomputable def W_c_Parser_refuse : List (Nat × Nat) := [(44, 0), (44, 1)]
theorem c_Parser_refuse {A : Nat → Option (Nat × (Nat → Int32))} [HA A] {Q : Option Value → jm → Prop} {T : jm} {M : jm} (hC_M : CI M) (ht_M : FR W_c_Parser_refuse T M) (q : ∀ (M' : jm), CI M' → FR W_c_Parser_refuse T M' → (M' 413 0 ≠ 0) → Q none M') : jc A 2 224 [.ref (413)] M Q := by
  refine jc_of (m := xm_224) rfl (Nat.le_of_ble_eq_true rfl) rfl ?_
  refine jr.aload_n rfl rfl ?_
  refine jr.aload_n rfl rfl ?_
  obtain ⟨v1, e1⟩ : ∃ z_, M 413 6 = z_ := ⟨_, rfl⟩
  have b1 : (-2147483648) ≤ v1 ∧ v1 ≤ 2147483647 := by rw [← e1]; exact (CI.r hC_M (show kd 413 = 44 from rfl) (by decide) 6)
  refine jr.getf (i := 6) (x := v1) (v := .int (Int32.ofInt (v1))) rfl rfl (nlt rfl) rfl (nlt rfl) rfl rfl e1 rfl ?_
  refine jr.iconst rfl ?_
  refine jr.icmp_ne rfl rfl (by first | (refine rgb (by assumption) ?_; exact rfl) | omega) (rgl rfl) (fun h6 => ?_) (fun h6 => ?_)
  · refine jr.iconst rfl ?_
    refine jr_v rfl rfl (Or.inl rfl) rfl rfl (nlt rfl) rfl ⟨rfl, Nat.le_of_ble_eq_true rfl, Nat.le_of_ble_eq_true rfl⟩ rfl (jc.deep (c_Parser_fail hC_M (FR.rfl _ M) (by omega) (fun M2 hC_M2 hf_M2 w2_0 => ?_)) (Nat.le_of_ble_eq_true rfl))
    have ht_M2 : FR W_c_Parser_refuse T M2 := FR.t ht_M hf_M2 (kw_sub rfl)
    obtain ⟨v3, e3⟩ : ∃ z_, M2 413 0 = z_ := ⟨_, rfl⟩
    have b3 : (-2147483648) ≤ v3 ∧ v3 ≤ 2147483647 := by rw [← e3]; exact (CI.r hC_M2 (show kd 413 = 44 from rfl) (by decide) 0)
    exact jr.vreturn rfl rfl (q _ hC_M2 ht_M2  (by have hq0 : M2 413 0 = v3 := e3; omega))
  · refine jr.iconst rfl ?_
    refine jr.goto rfl rfl ?_
    refine jr_v rfl rfl (Or.inl rfl) rfl rfl (nlt rfl) rfl ⟨rfl, Nat.le_of_ble_eq_true rfl, Nat.le_of_ble_eq_true rfl⟩ rfl (jc.deep (c_Parser_fail hC_M (FR.rfl _ M) (by omega) (fun M4 hC_M4 hf_M4 w4_0 => ?_)) (Nat.le_of_ble_eq_true rfl))
    have ht_M4 : FR W_c_Parser_refuse T M4 := FR.t ht_M hf_M4 (kw_sub rfl)
    obtain ⟨v5, e5⟩ : ∃ z_, M4 413 0 = z_ := ⟨_, rfl⟩
    have b5 : (-2147483648) ≤ v5 ∧ v5 ≤ 2147483647 := by rw [← e5]; exact (CI.r hC_M4 (show kd 413 = 44 from rfl) (by decide) 0)
    exact jr.vreturn rfl rfl (q _ hC_M4 ht_M4  (by have hq0 : M4 413 0 = v5 := e5; omega))
noncomputable def W_c_Parser_countNode : List (Nat × Nat) := [(44, 0), (44, 1), (47, 4)]
theorem c_Parser_countNode {A : Nat → Option (Nat × (Nat → Int32))} [HA A] {Q : Option Value → jm → Prop} {G : Nat → Int → Int} {T : jm} {M : jm} (hC_M : CI M) (ht_M : FR W_c_Parser_countNode T M) (p0 : MP M G) (q : ∀ (M' : jm), CI M' → FR W_c_Parser_countNode T M' → (MP M' G) → Q none M') : jc A 2 223 [.ref (413)] M Q := by
  refine jc_of (m := xm_223) rfl (Nat.le_of_ble_eq_true rfl) rfl ?_
  refine jr.aload_n rfl rfl ?_
  obtain ⟨v1, e1⟩ : ∃ z_, M 413 2 = z_ := ⟨_, rfl⟩
  have b1 : 0 ≤ v1 ∧ v1 ≤ 597 := by rw [← e1]; exact (CI.r hC_M (show kd 413 = 44 from rfl) (by decide) 2)
  have k2 : kd (v1).toNat = 47 := ((congrArg (fun z : Int => kd z.toNat) (show M 413 2 = v1 from e1)).symm.trans (CI.x hC_M (show kd 413 = 44 from rfl) 2 rfl (by decide)))
  refine jr.getf (i := 2) (x := v1) (v := .ref (v1.toNat)) rfl rfl (nlt rfl) rfl (nlt rfl) rfl rfl e1 rfl ?_
  obtain ⟨v3, e3⟩ : ∃ z_, M ((v1.toNat)) 4 = z_ := ⟨_, rfl⟩
  have b3 : (-2147483648) ≤ v3 ∧ v3 ≤ 2147483647 := by rw [← e3]; exact (CI.r hC_M k2 (by decide) 4)
  refine jr.getf (i := 4) (x := v3) (v := .int (Int32.ofInt (v3))) rfl rfl (Nat.lt_trans (kx_47 k2).1 (by decide)) (kx_47 k2).2 (by decide) rfl rfl e3 rfl ?_
  refine jr.sipush rfl (by decide) ?_
  refine jr.icmp_lt rfl rfl (by first | (refine rgb (by assumption) ?_; exact rfl) | omega) (rgl rfl) (fun h10 => ?_) (fun h10 => ?_)
  · refine jr.aload_n rfl rfl ?_
    have k4 : kd (v1).toNat = 47 := ((congrArg (fun z : Int => kd z.toNat) (show M 413 2 = v1 from e1)).symm.trans (CI.x hC_M (show kd 413 = 44 from rfl) 2 rfl (by decide)))
    refine jr.getf (i := 2) (x := v1) (v := .ref (v1.toNat)) rfl rfl (nlt rfl) rfl (nlt rfl) rfl rfl e1 rfl ?_
    refine jr.dup rfl rfl ?_
    refine jr.getf (i := 4) (x := v3) (v := .int (Int32.ofInt (v3))) rfl rfl (Nat.lt_trans (kx_47 k4).1 (by decide)) (kx_47 k4).2 (by decide) rfl rfl e3 rfl ?_
    refine jr.iconst rfl ?_
    refine jr.iadd rfl ?_
    refine jr.putf (i := 4) (x := (v3 + 1)) rfl rfl (Nat.lt_trans (kx_47 k4).1 (by decide)) (kx_47 k4).2 (by decide) rfl rfl rfl rfl rfl ?_
    exact jr.vreturn rfl rfl (q _ (CI.u hC_M (i := 4) k4 (show (-2147483648 : Int) ≤ _ ∧ _ ≤ (2147483647 : Int) from by omega) rfl) (FR.o ht_M k4 rfl)  (MP.w p0 hC_M e1 ⟨by omega, by omega⟩))
  · refine jr.aload_n rfl rfl ?_
    refine jr.iconst rfl ?_
    refine jr_v rfl rfl (Or.inl rfl) rfl rfl (nlt rfl) rfl ⟨rfl, Nat.le_of_ble_eq_true rfl, Nat.le_of_ble_eq_true rfl⟩ rfl (jc.deep (c_Parser_fail hC_M (FR.rfl _ M) (by omega) (fun M5 hC_M5 hf_M5 w5_0 => ?_)) (Nat.le_of_ble_eq_true rfl))
    have ht_M5 : FR W_c_Parser_countNode T M5 := FR.t ht_M hf_M5 (kw_sub rfl)
    obtain ⟨v6, e6⟩ : ∃ z_, M5 413 0 = z_ := ⟨_, rfl⟩
    have b6 : (-2147483648) ≤ v6 ∧ v6 ≤ 2147483647 := by rw [← e6]; exact (CI.r hC_M5 (show kd 413 = 44 from rfl) (by decide) 0)
    exact jr.vreturn rfl rfl (q _ hC_M5 ht_M5  (MP.fr p0 hC_M hf_M5 rfl))
noncomputable def W_c_Parser_expect : List (Nat × Nat) := [(44, 0), (44, 1), (44, 6), (44, 7), (44, 8), (44, 9), (44, 10), (44, 11)]
theorem c_Parser_expect {A : Nat → Option (Nat × (Nat → Int32))} [HA A] {Q : Option Value → jm → Prop} {T : jm} {M : jm} (hC_M : CI M) (ht_M : FR W_c_Parser_expect T M) {x : Int} (h_x : 0 ≤ x ∧ x ≤ 65535) (p0 : 1 ≤ M 413 3 ∧ M 413 3 ≤ 1) (q : ∀ (M' : jm), CI M' → FR W_c_Parser_expect T M' → Q none M') : jc A 7 220 [.ref (413), .int (Int32.ofInt (x))] M Q := by
  refine jc_of (m := xm_220) rfl (Nat.le_of_ble_eq_true rfl) rfl ?_
  obtain ⟨v1, e1⟩ : ∃ z_, M 413 3 = z_ := ⟨_, rfl⟩
  have b1 : 1 ≤ v1 ∧ v1 ≤ 419 := by rw [← e1]; exact (CI.r hC_M (show kd 413 = 44 from rfl) (by decide) 3)
  have b2 : 1 ≤ v1 ∧ v1 ≤ 1 := by rw [← e1]; exact p0
  refine jr.aload_n rfl rfl ?_
  refine jr.iload_n rfl rfl ?_
  refine jr_v rfl rfl (Or.inl rfl) rfl rfl (nlt rfl) rfl ⟨rfl, Nat.le_of_ble_eq_true rfl, Nat.le_of_ble_eq_true rfl⟩ rfl (jc.deep (c_Parser_isSign hC_M (by omega) (fun r3 z3  => ?_)) (Nat.le_of_ble_eq_true rfl))
  refine jr.if_ne rfl rfl (by first | (refine rgb (by assumption) ?_; exact rfl) | omega) (fun h5 => ?_) (fun h5 => ?_)
  · have sx5 : (1 : Int) ≤ r3 := by omega
    clear h5
    refine jr.aload_n rfl rfl ?_
    refine jr_v rfl rfl (Or.inl rfl) rfl rfl (nlt rfl) rfl ⟨rfl, Nat.le_of_ble_eq_true rfl, Nat.le_of_ble_eq_true rfl⟩ rfl (jc.deep (c_Parser_advance hC_M (FR.rfl _ M)  (by have hq0 : M 413 3 = v1 := e1; omega) (fun M4 hC_M4 hf_M4  => ?_)) (Nat.le_of_ble_eq_true rfl))
    have ht_M4 : FR W_c_Parser_expect T M4 := FR.t ht_M hf_M4 (kw_sub rfl)
    exact jr.vreturn rfl rfl (q _ hC_M4 ht_M4  )
  · refine jr.aload_n rfl rfl ?_
    refine jr_v rfl rfl (Or.inl rfl) rfl rfl (nlt rfl) rfl ⟨rfl, Nat.le_of_ble_eq_true rfl, Nat.le_of_ble_eq_true rfl⟩ rfl (jc.deep (c_Parser_refuse hC_M (FR.rfl _ M)  (fun M5 hC_M5 hf_M5 w5_0 => ?_)) (Nat.le_of_ble_eq_true rfl))
    have ht_M5 : FR W_c_Parser_expect T M5 := FR.t ht_M hf_M5 (kw_sub rfl)
    obtain ⟨v6, e6⟩ : ∃ z_, M5 413 0 = z_ := ⟨_, rfl⟩
    have b6 : (-2147483648) ≤ v6 ∧ v6 ≤ 2147483647 := by rw [← e6]; exact (CI.r hC_M5 (show kd 413 = 44 from rfl) (by decide) 0)
    refine jr.aload_n rfl rfl ?_
    have e8 : M5 413 3 = v1 := (hf_M5.g (show kd 413 = 44 from rfl) rfl).trans e1
    refine jr_v rfl rfl (Or.inl rfl) rfl rfl (nlt rfl) rfl ⟨rfl, Nat.le_of_ble_eq_true rfl, Nat.le_of_ble_eq_true rfl⟩ rfl (jc.deep (c_Parser_advance hC_M5 (FR.rfl _ M5)  (by have hq0 : M5 413 3 = v1 := e8; omega) (fun M7 hC_M7 hf_M7  => ?_)) (Nat.le_of_ble_eq_true rfl))
    have ht_M7 : FR W_c_Parser_expect T M7 := FR.t ht_M5 hf_M7 (kw_sub rfl)
    exact jr.vreturn rfl rfl (q _ hC_M7 ht_M7  )
noncomputable def W_c_Parser_expectName : List (Nat × Nat) := [(44, 0), (44, 1), (44, 6), (44, 7), (44, 8), (44, 9), (44, 10), (44, 11)]
theorem c_Parser_expectName {A : Nat → Option (Nat × (Nat → Int32))} [HA A] {Q : Option Value → jm → Prop} {T : jm} {M : jm} (hC_M : CI M) (ht_M : FR W_c_Parser_expectName T M) (p0 : 1 ≤ M 413 3 ∧ M 413 3 ≤ 1) (q : ∀ (M' : jm), CI M' → FR W_c_Parser_expectName T M' → Q none M') : jc A 7 221 [.ref (413)] M Q := by
  refine jc_of (m := xm_221) rfl (Nat.le_of_ble_eq_true rfl) rfl ?_
  obtain ⟨v1, e1⟩ : ∃ z_, M 413 3 = z_ := ⟨_, rfl⟩
  have b1 : 1 ≤ v1 ∧ v1 ≤ 419 := by rw [← e1]; exact (CI.r hC_M (show kd 413 = 44 from rfl) (by decide) 3)
  have b2 : 1 ≤ v1 ∧ v1 ≤ 1 := by rw [← e1]; exact p0
  refine jr.aload_n rfl rfl ?_
  refine jr_v rfl rfl (Or.inl rfl) rfl rfl (nlt rfl) rfl ⟨rfl, Nat.le_of_ble_eq_true rfl, Nat.le_of_ble_eq_true rfl⟩ rfl (jc.deep (c_Parser_isName hC_M  (fun r3 z3  => ?_)) (Nat.le_of_ble_eq_true rfl))
  refine jr.if_ne rfl rfl (by first | (refine rgb (by assumption) ?_; exact rfl) | omega) (fun h4 => ?_) (fun h4 => ?_)
  · have sx4 : (1 : Int) ≤ r3 := by omega
    clear h4
    refine jr.aload_n rfl rfl ?_
    refine jr_v rfl rfl (Or.inl rfl) rfl rfl (nlt rfl) rfl ⟨rfl, Nat.le_of_ble_eq_true rfl, Nat.le_of_ble_eq_true rfl⟩ rfl (jc.deep (c_Parser_advance hC_M (FR.rfl _ M)  (by have hq0 : M 413 3 = v1 := e1; omega) (fun M4 hC_M4 hf_M4  => ?_)) (Nat.le_of_ble_eq_true rfl))
    have ht_M4 : FR W_c_Parser_expectName T M4 := FR.t ht_M hf_M4 (kw_sub rfl)
    exact jr.vreturn rfl rfl (q _ hC_M4 ht_M4  )
  · refine jr.aload_n rfl rfl ?_
    refine jr_v rfl rfl (Or.inl rfl) rfl rfl (nlt rfl) rfl ⟨rfl, Nat.le_of_ble_eq_true rfl, Nat.le_of_ble_eq_true rfl⟩ rfl (jc.deep (c_Parser_refuse hC_M (FR.rfl _ M)  (fun M5 hC_M5 hf_M5 w5_0 => ?_)) (Nat.le_of_ble_eq_true rfl))
    have ht_M5 : FR W_c_Parser_expectName T M5 := FR.t ht_M hf_M5 (kw_sub rfl)
    obtain ⟨v6, e6⟩ : ∃ z_, M5 413 0 = z_ := ⟨_, rfl⟩
    have b6 : (-2147483648) ≤ v6 ∧ v6 ≤ 2147483647 := by rw [← e6]; exact (CI.r hC_M5 (show kd 413 = 44 from rfl) (by decide) 0)
    refine jr.aload_n rfl rfl ?_
    have e8 : M5 413 3 = v1 := (hf_M5.g (show kd 413 = 44 from rfl) rfl).trans e1
    refine jr_v rfl rfl (Or.inl rfl) rfl rfl (nlt rfl) rfl ⟨rfl, Nat.le_of_ble_eq_true rfl, Nat.le_of_ble_eq_true rfl⟩ rfl (jc.deep (c_Parser_advance hC_M5 (FR.rfl _ M5)  (by have hq0 : M5 413 3 = v1 := e8; omega) (fun M7 hC_M7 hf_M7  => ?_)) (Nat.le_of_ble_eq_true rfl))
    have ht_M7 : FR W_c_Parser_expectName T M7 := FR.t ht_M5 hf_M7 (kw_sub rfl)
    exact jr.vreturn rfl rfl (q _ hC_M7 ht_M7  )
noncomputable def W_c_Parser_open : List (Nat × Nat) := [(44, 0), (44, 1), (44, 6), (44, 7), (44, 8), (44, 9), (44, 10), (44, 11)]
theorem c_Parser_open {A : Nat → Option (Nat × (Nat → Int32))} [HA A] {Q : Option Value → jm → Prop} {T : jm} {M : jm} (hC_M : CI M) (ht_M : FR W_c_Parser_open T M) {x : Int} (h_x : 0 ≤ x ∧ x ≤ 65535) {y : Int} (h_y : 0 ≤ y ∧ y ≤ 13) (p0 : 1 ≤ M 413 3 ∧ M 413 3 ≤ 1) (q : ∀ (M' : jm), CI M' → FR W_c_Parser_open T M' → (M' 413 0 ≠ 0 ∨ y ≤ 11) → Q none M') : jc A 7 222 [.ref (413), .int (Int32.ofInt (x)), .int (Int32.ofInt (y))] M Q := by
  refine jc_of (m := xm_222) rfl (Nat.le_of_ble_eq_true rfl) rfl ?_
  obtain ⟨v1, e1⟩ : ∃ z_, M 413 3 = z_ := ⟨_, rfl⟩
  have b1 : 1 ≤ v1 ∧ v1 ≤ 419 := by rw [← e1]; exact (CI.r hC_M (show kd 413 = 44 from rfl) (by decide) 3)
  have b2 : 1 ≤ v1 ∧ v1 ≤ 1 := by rw [← e1]; exact p0
  refine jr.aload_n rfl rfl ?_
  refine jr.iload_n rfl rfl ?_
  refine jr_v rfl rfl (Or.inl rfl) rfl rfl (nlt rfl) rfl ⟨rfl, Nat.le_of_ble_eq_true rfl, Nat.le_of_ble_eq_true rfl⟩ rfl (jc.deep (c_Parser_isSign hC_M (by omega) (fun r3 z3  => ?_)) (Nat.le_of_ble_eq_true rfl))
  refine jr.if_ne rfl rfl (by first | (refine rgb (by assumption) ?_; exact rfl) | omega) (fun h5 => ?_) (fun h5 => ?_)
  · have sx5 : (1 : Int) ≤ r3 := by omega
    clear h5
    refine jr.iload_n rfl rfl ?_
    refine jr.bipush rfl (jbp _ (nlt rfl)) ?_
    refine jr.icmp_lt rfl rfl (by first | (refine rgb (by assumption) ?_; exact rfl) | omega) (rgl rfl) (fun h18 => ?_) (fun h18 => ?_)
    · refine jr.aload_n rfl rfl ?_
      refine jr_v rfl rfl (Or.inl rfl) rfl rfl (nlt rfl) rfl ⟨rfl, Nat.le_of_ble_eq_true rfl, Nat.le_of_ble_eq_true rfl⟩ rfl (jc.deep (c_Parser_advance hC_M (FR.rfl _ M)  (by have hq0 : M 413 3 = v1 := e1; omega) (fun M4 hC_M4 hf_M4  => ?_)) (Nat.le_of_ble_eq_true rfl))
      have ht_M4 : FR W_c_Parser_open T M4 := FR.t ht_M hf_M4 (kw_sub rfl)
      obtain ⟨v5, e5⟩ : ∃ z_, M 413 0 = z_ := ⟨_, rfl⟩
      have b5 : (-2147483648) ≤ v5 ∧ v5 ≤ 2147483647 := by rw [← e5]; exact (CI.r hC_M (show kd 413 = 44 from rfl) (by decide) 0)
      have e6 : M4 413 0 = v5 := (hf_M4.g (show kd 413 = 44 from rfl) rfl).trans e5
      exact jr.vreturn rfl rfl (q _ hC_M4 ht_M4  (by have hq0 : M4 413 0 = v5 := e6; omega))
    · refine jr.aload_n rfl rfl ?_
      refine jr.iconst rfl ?_
      refine jr_v rfl rfl (Or.inl rfl) rfl rfl (nlt rfl) rfl ⟨rfl, Nat.le_of_ble_eq_true rfl, Nat.le_of_ble_eq_true rfl⟩ rfl (jc.deep (c_Parser_fail hC_M (FR.rfl _ M) (by omega) (fun M7 hC_M7 hf_M7 w7_0 => ?_)) (Nat.le_of_ble_eq_true rfl))
      have ht_M7 : FR W_c_Parser_open T M7 := FR.t ht_M hf_M7 (kw_sub rfl)
      obtain ⟨v8, e8⟩ : ∃ z_, M7 413 0 = z_ := ⟨_, rfl⟩
      have b8 : (-2147483648) ≤ v8 ∧ v8 ≤ 2147483647 := by rw [← e8]; exact (CI.r hC_M7 (show kd 413 = 44 from rfl) (by decide) 0)
      refine jr.aload_n rfl rfl ?_
      have e10 : M7 413 3 = v1 := (hf_M7.g (show kd 413 = 44 from rfl) rfl).trans e1
      refine jr_v rfl rfl (Or.inl rfl) rfl rfl (nlt rfl) rfl ⟨rfl, Nat.le_of_ble_eq_true rfl, Nat.le_of_ble_eq_true rfl⟩ rfl (jc.deep (c_Parser_advance hC_M7 (FR.rfl _ M7)  (by have hq0 : M7 413 3 = v1 := e10; omega) (fun M9 hC_M9 hf_M9  => ?_)) (Nat.le_of_ble_eq_true rfl))
      have ht_M9 : FR W_c_Parser_open T M9 := FR.t ht_M7 hf_M9 (kw_sub rfl)
      have e11 : M9 413 0 = v8 := (hf_M9.g (show kd 413 = 44 from rfl) rfl).trans e8
      exact jr.vreturn rfl rfl (q _ hC_M9 ht_M9  (by have hq0 : M9 413 0 = v8 := e11; omega))
  · refine jr.aload_n rfl rfl ?_
    refine jr_v rfl rfl (Or.inl rfl) rfl rfl (nlt rfl) rfl ⟨rfl, Nat.le_of_ble_eq_true rfl, Nat.le_of_ble_eq_true rfl⟩ rfl (jc.deep (c_Parser_refuse hC_M (FR.rfl _ M)  (fun M12 hC_M12 hf_M12 w12_0 => ?_)) (Nat.le_of_ble_eq_true rfl))
    have ht_M12 : FR W_c_Parser_open T M12 := FR.t ht_M hf_M12 (kw_sub rfl)
    obtain ⟨v13, e13⟩ : ∃ z_, M12 413 0 = z_ := ⟨_, rfl⟩
    have b13 : (-2147483648) ≤ v13 ∧ v13 ≤ 2147483647 := by rw [← e13]; exact (CI.r hC_M12 (show kd 413 = 44 from rfl) (by decide) 0)
    refine jr.goto rfl rfl ?_
    refine jr.aload_n rfl rfl ?_
    have e15 : M12 413 3 = v1 := (hf_M12.g (show kd 413 = 44 from rfl) rfl).trans e1
    refine jr_v rfl rfl (Or.inl rfl) rfl rfl (nlt rfl) rfl ⟨rfl, Nat.le_of_ble_eq_true rfl, Nat.le_of_ble_eq_true rfl⟩ rfl (jc.deep (c_Parser_advance hC_M12 (FR.rfl _ M12)  (by have hq0 : M12 413 3 = v1 := e15; omega) (fun M14 hC_M14 hf_M14  => ?_)) (Nat.le_of_ble_eq_true rfl))
    have ht_M14 : FR W_c_Parser_open T M14 := FR.t ht_M12 hf_M14 (kw_sub rfl)
    have e16 : M14 413 0 = v13 := (hf_M14.g (show kd 413 = 44 from rfl) rfl).trans e13
    exact jr.vreturn rfl rfl (q _ hC_M14 ht_M14  (by have hq0 : M14 413 0 = v13 := e16; omega))
noncomputable def W_c_Parser_kindField : List (Nat × Nat) := [(44, 0), (44, 1), (44, 6), (44, 7), (44, 8), (44, 9), (44, 10), (44, 11), (47, 2), (47, 4), (48, 1000), (51, 1000)]
theorem c_Parser_kindField {A : Nat → Option (Nat × (Nat → Int32))} [HA A] {Q : Option Value → jm → Prop} {G : Nat → Int → Int} {T : jm} {M : jm} (hC_M : CI M) (ht_M : FR W_c_Parser_kindField T M) (p0 : 1 ≤ M 413 3 ∧ M 413 3 ≤ 1) (p1 : MP M G) (q : ∀ (M' : jm), CI M' → FR W_c_Parser_kindField T M' → (MP M' G) → Q none M') : jc A 7 206 [.ref (413)] M Q := by
  refine jc_of (m := xm_206) rfl (Nat.le_of_ble_eq_true rfl) rfl ?_
  obtain ⟨v1, e1⟩ : ∃ z_, M 413 3 = z_ := ⟨_, rfl⟩
  have b1 : 1 ≤ v1 ∧ v1 ≤ 419 := by rw [← e1]; exact (CI.r hC_M (show kd 413 = 44 from rfl) (by decide) 3)
  have b2 : 1 ≤ v1 ∧ v1 ≤ 1 := by rw [← e1]; exact p0
  refine jr.aload_n rfl rfl ?_
  obtain ⟨v3, e3⟩ : ∃ z_, M 413 10 = z_ := ⟨_, rfl⟩
  have b3 : (-2147483648) ≤ v3 ∧ v3 ≤ 2147483647 := by rw [← e3]; exact (CI.r hC_M (show kd 413 = 44 from rfl) (by decide) 10)
  refine jr.getf (i := 10) (x := v3) (v := .int (Int32.ofInt (v3))) rfl rfl (nlt rfl) rfl (nlt rfl) rfl rfl e3 rfl ?_
  refine jr.bipush rfl (jbp _ (nlt rfl)) ?_
  refine jr.isub rfl ?_
  refine jr.iw (j_w (v3 - 31)) (j_w_eq _) ?_
  have b4 : -2147483648 ≤ j_w (v3 - 31) ∧ j_w (v3 - 31) ≤ 2147483647 := jb_any _
  generalize j_w (v3 - 31) = v4 at b4 ⊢
  refine jr.istore_n (ls' := [_, _]) rfl (nlt rfl) rfl ?_
  refine jr.aload_n rfl rfl ?_
  refine jr_v rfl rfl (Or.inl rfl) rfl rfl (nlt rfl) rfl ⟨rfl, Nat.le_of_ble_eq_true rfl, Nat.le_of_ble_eq_true rfl⟩ rfl (jc.deep (c_Parser_countNode hC_M (FR.rfl _ M)  p1 (fun M5 hC_M5 hf_M5 w5_0 => ?_)) (Nat.le_of_ble_eq_true rfl))
  have ht_M5 : FR W_c_Parser_kindField T M5 := FR.t ht_M hf_M5 (kw_sub rfl)
  refine jr.aload_n rfl rfl ?_
  have e7 : M5 413 3 = v1 := (hf_M5.g (show kd 413 = 44 from rfl) rfl).trans e1
  refine jr_v rfl rfl (Or.inl rfl) rfl rfl (nlt rfl) rfl ⟨rfl, Nat.le_of_ble_eq_true rfl, Nat.le_of_ble_eq_true rfl⟩ rfl (jc.deep (c_Parser_advance hC_M5 (FR.rfl _ M5)  (by have hq0 : M5 413 3 = v1 := e7; omega) (fun M6 hC_M6 hf_M6  => ?_)) (Nat.le_of_ble_eq_true rfl))
  have ht_M6 : FR W_c_Parser_kindField T M6 := FR.t ht_M5 hf_M6 (kw_sub rfl)
  refine jr.aload_n rfl rfl ?_
  refine jr.bipush rfl (jbp _ (nlt rfl)) ?_
  refine jr_v rfl rfl (Or.inl rfl) rfl rfl (nlt rfl) rfl ⟨rfl, Nat.le_of_ble_eq_true rfl, Nat.le_of_ble_eq_true rfl⟩ rfl (jc.deep (c_Parser_isSign hC_M6 (by omega) (fun r8 z8  => ?_)) (Nat.le_of_ble_eq_true rfl))
  refine jr.if_ne rfl rfl (by first | (refine rgb (by assumption) ?_; exact rfl) | omega) (fun h22 => ?_) (fun h22 => ?_)
  · have sx22 : (1 : Int) ≤ r8 := by omega
    clear h22
    refine jr.aload_n rfl rfl ?_
    have e10 : M6 413 3 = v1 := (hf_M6.g (show kd 413 = 44 from rfl) rfl).trans e7
    refine jr_v rfl rfl (Or.inl rfl) rfl rfl (nlt rfl) rfl ⟨rfl, Nat.le_of_ble_eq_true rfl, Nat.le_of_ble_eq_true rfl⟩ rfl (jc.deep (c_Parser_advance hC_M6 (FR.rfl _ M6)  (by have hq0 : M6 413 3 = v1 := e10; omega) (fun M9 hC_M9 hf_M9  => ?_)) (Nat.le_of_ble_eq_true rfl))
    have ht_M9 : FR W_c_Parser_kindField T M9 := FR.t ht_M6 hf_M9 (kw_sub rfl)
    refine jr.aload_n rfl rfl ?_
    obtain ⟨v11, e11⟩ : ∃ z_, M9 413 6 = z_ := ⟨_, rfl⟩
    have b11 : (-2147483648) ≤ v11 ∧ v11 ≤ 2147483647 := by rw [← e11]; exact (CI.r hC_M9 (show kd 413 = 44 from rfl) (by decide) 6)
    refine jr.getf (i := 6) (x := v11) (v := .int (Int32.ofInt (v11))) rfl rfl (nlt rfl) rfl (nlt rfl) rfl rfl e11 rfl ?_
    refine jr.iconst rfl ?_
    refine jr.icmp_eq rfl rfl (by first | (refine rgb (by assumption) ?_; exact rfl) | omega) (rgl rfl) (fun h38 => ?_) (fun h38 => ?_)
    · refine jr.aload_n rfl rfl ?_
      refine jr.iload_n rfl rfl ?_
      refine jr_s rfl rfl (Or.inl rfl) ⟨Nat.le_of_ble_eq_true rfl, Nat.le_of_ble_eq_true rfl⟩ rfl rfl (jc.deep (c_Parser_fieldWords hC_M9 (by omega) (fun r12 z12  => ?_)) (Nat.le_of_ble_eq_true rfl))
      have e14 : M9 413 3 = v1 := (hf_M9.g (show kd 413 = 44 from rfl) rfl).trans e10
      refine jr_v rfl rfl (Or.inl rfl) rfl rfl (nlt rfl) rfl ⟨rfl, Nat.le_of_ble_eq_true rfl, Nat.le_of_ble_eq_true rfl⟩ rfl (jc.deep (c_Parser_wordIn hC_M9 z12 (by have hq0 : M9 413 3 = v1 := e14; omega) (fun r13 z13  => ?_)) (Nat.le_of_ble_eq_true rfl))
      refine jr.istore_n (ls' := [_, _, _]) rfl (nlt rfl) rfl ?_
      refine jr.iload_n rfl rfl ?_
      refine jr.iconst rfl ?_
      refine jr.icmp_ne rfl rfl (by first | (refine rgb (by assumption) ?_; exact rfl) | omega) (rgl rfl) (fun h57 => ?_) (fun h57 => ?_)
      · have sx57 : (0 : Int) ≤ r13 := by omega
        clear h57
        refine jr.aload_n rfl rfl ?_
        obtain ⟨v15, e15⟩ : ∃ z_, M 413 2 = z_ := ⟨_, rfl⟩
        have b15 : 0 ≤ v15 ∧ v15 ≤ 597 := by rw [← e15]; exact (CI.r hC_M (show kd 413 = 44 from rfl) (by decide) 2)
        have e16 : M5 413 2 = v15 := (hf_M5.g (show kd 413 = 44 from rfl) rfl).trans e15
        have e17 : M6 413 2 = v15 := (hf_M6.g (show kd 413 = 44 from rfl) rfl).trans e16
        have e18 : M9 413 2 = v15 := (hf_M9.g (show kd 413 = 44 from rfl) rfl).trans e17
        have k19 : kd (v15).toNat = 47 := ((congrArg (fun z : Int => kd z.toNat) (show M9 413 2 = v15 from e18)).symm.trans (CI.x hC_M9 (show kd 413 = 44 from rfl) 2 rfl (by decide)))
        refine jr.getf (i := 2) (x := v15) (v := .ref (v15.toNat)) rfl rfl (nlt rfl) rfl (nlt rfl) rfl rfl e18 rfl ?_
        refine jr.bipush rfl (jbp _ (nlt rfl)) ?_
        refine jr.iload_n rfl rfl ?_
        refine jr.bipush rfl (jbp _ (nlt rfl)) ?_
        refine jr.imul rfl ?_
        refine jr.iw (j_w (v4 * 16)) (j_w_eq _) ?_
        have b20 : -2147483648 ≤ j_w (v4 * 16) ∧ j_w (v4 * 16) ≤ 2147483647 := jb_any _
        generalize j_w (v4 * 16) = v20 at b20 ⊢
        refine jr.iload_n rfl rfl ?_
        refine jr.iadd rfl ?_
        refine jr.iw (j_w (v20 + r13)) (j_w_eq _) ?_
        have b21 : -2147483648 ≤ j_w (v20 + r13) ∧ j_w (v20 + r13) ≤ 2147483647 := jb_any _
        generalize j_w (v20 + r13) = v21 at b21 ⊢
        refine jr_v rfl rfl (Or.inl rfl) rfl rfl (Nat.lt_trans (kx_47 k19).1 (by decide)) (kx_47 k19).2 ⟨rfl, Nat.le_of_ble_eq_true rfl, Nat.le_of_ble_eq_true rfl⟩ rfl (jc.deep (c_Program_emit_m hC_M9 (FR.rfl _ M9) k19 (by omega) (by omega) (by have hq0 : M9 413 2 = v15 := e18; omega) (MP.fr (MP.fr w5_0 hC_M5 hf_M6 rfl) hC_M6 hf_M9 rfl) (fun r22 M22 hC_M22 hf_M22 z22 w22_0 => ?_)) (Nat.le_of_ble_eq_true rfl))
        have ht_M22 : FR W_c_Parser_kindField T M22 := FR.t ht_M9 hf_M22 (kw_sub rfl)
        refine jr.pop rfl rfl ?_
        refine jr.aload_n rfl rfl ?_
        have e24 : M22 413 3 = v1 := (hf_M22.g (show kd 413 = 44 from rfl) rfl).trans e14
        refine jr_v rfl rfl (Or.inl rfl) rfl rfl (nlt rfl) rfl ⟨rfl, Nat.le_of_ble_eq_true rfl, Nat.le_of_ble_eq_true rfl⟩ rfl (jc.deep (c_Parser_advance hC_M22 (FR.rfl _ M22)  (by have hq0 : M22 413 3 = v1 := e24; omega) (fun M23 hC_M23 hf_M23  => ?_)) (Nat.le_of_ble_eq_true rfl))
        have ht_M23 : FR W_c_Parser_kindField T M23 := FR.t ht_M22 hf_M23 (kw_sub rfl)
        exact jr.vreturn rfl rfl (q _ hC_M23 ht_M23  (MP.fr w22_0 hC_M22 hf_M23 rfl))
      · refine jr.aload_n rfl rfl ?_
        refine jr.iconst rfl ?_
        refine jr_v rfl rfl (Or.inl rfl) rfl rfl (nlt rfl) rfl ⟨rfl, Nat.le_of_ble_eq_true rfl, Nat.le_of_ble_eq_true rfl⟩ rfl (jc.deep (c_Parser_fail hC_M9 (FR.rfl _ M9) (by omega) (fun M25 hC_M25 hf_M25 w25_0 => ?_)) (Nat.le_of_ble_eq_true rfl))
        have ht_M25 : FR W_c_Parser_kindField T M25 := FR.t ht_M9 hf_M25 (kw_sub rfl)
        obtain ⟨v26, e26⟩ : ∃ z_, M25 413 0 = z_ := ⟨_, rfl⟩
        have b26 : (-2147483648) ≤ v26 ∧ v26 ≤ 2147483647 := by rw [← e26]; exact (CI.r hC_M25 (show kd 413 = 44 from rfl) (by decide) 0)
        refine jr.aload_n rfl rfl ?_
        obtain ⟨v27, e27⟩ : ∃ z_, M 413 2 = z_ := ⟨_, rfl⟩
        have b27 : 0 ≤ v27 ∧ v27 ≤ 597 := by rw [← e27]; exact (CI.r hC_M (show kd 413 = 44 from rfl) (by decide) 2)
        have e28 : M5 413 2 = v27 := (hf_M5.g (show kd 413 = 44 from rfl) rfl).trans e27
        have e29 : M6 413 2 = v27 := (hf_M6.g (show kd 413 = 44 from rfl) rfl).trans e28
        have e30 : M9 413 2 = v27 := (hf_M9.g (show kd 413 = 44 from rfl) rfl).trans e29
        have e31 : M25 413 2 = v27 := (hf_M25.g (show kd 413 = 44 from rfl) rfl).trans e30
        have k32 : kd (v27).toNat = 47 := ((congrArg (fun z : Int => kd z.toNat) (show M25 413 2 = v27 from e31)).symm.trans (CI.x hC_M25 (show kd 413 = 44 from rfl) 2 rfl (by decide)))
        refine jr.getf (i := 2) (x := v27) (v := .ref (v27.toNat)) rfl rfl (nlt rfl) rfl (nlt rfl) rfl rfl e31 rfl ?_
        refine jr.bipush rfl (jbp _ (nlt rfl)) ?_
        refine jr.iload_n rfl rfl ?_
        refine jr.bipush rfl (jbp _ (nlt rfl)) ?_
        refine jr.imul rfl ?_
        refine jr.iw (j_w (v4 * 16)) (j_w_eq _) ?_
        have b33 : -2147483648 ≤ j_w (v4 * 16) ∧ j_w (v4 * 16) ≤ 2147483647 := jb_any _
        generalize j_w (v4 * 16) = v33 at b33 ⊢
        refine jr.iload_n rfl rfl ?_
        refine jr.iadd rfl ?_
        refine jr.iw (j_w (v33 + r13)) (j_w_eq _) ?_
        have b34 : -2147483648 ≤ j_w (v33 + r13) ∧ j_w (v33 + r13) ≤ 2147483647 := jb_any _
        generalize j_w (v33 + r13) = v34 at b34 ⊢
        refine jr_v rfl rfl (Or.inl rfl) rfl rfl (Nat.lt_trans (kx_47 k32).1 (by decide)) (kx_47 k32).2 ⟨rfl, Nat.le_of_ble_eq_true rfl, Nat.le_of_ble_eq_true rfl⟩ rfl (jc.deep (c_Program_emit_m hC_M25 (FR.rfl _ M25) k32 (by omega) (by omega) (by have hq0 : M25 413 2 = v27 := e31; omega) (MP.fr (MP.fr (MP.fr w5_0 hC_M5 hf_M6 rfl) hC_M6 hf_M9 rfl) hC_M9 hf_M25 rfl) (fun r35 M35 hC_M35 hf_M35 z35 w35_0 => ?_)) (Nat.le_of_ble_eq_true rfl))
        have ht_M35 : FR W_c_Parser_kindField T M35 := FR.t ht_M25 hf_M35 (kw_sub rfl)
        refine jr.pop rfl rfl ?_
        refine jr.aload_n rfl rfl ?_
        have e37 : M25 413 3 = v1 := (hf_M25.g (show kd 413 = 44 from rfl) rfl).trans e14
        have e38 : M35 413 3 = v1 := (hf_M35.g (show kd 413 = 44 from rfl) rfl).trans e37
        refine jr_v rfl rfl (Or.inl rfl) rfl rfl (nlt rfl) rfl ⟨rfl, Nat.le_of_ble_eq_true rfl, Nat.le_of_ble_eq_true rfl⟩ rfl (jc.deep (c_Parser_advance hC_M35 (FR.rfl _ M35)  (by have hq0 : M35 413 3 = v1 := e38; omega) (fun M36 hC_M36 hf_M36  => ?_)) (Nat.le_of_ble_eq_true rfl))
        have ht_M36 : FR W_c_Parser_kindField T M36 := FR.t ht_M35 hf_M36 (kw_sub rfl)
        exact jr.vreturn rfl rfl (q _ hC_M36 ht_M36  (MP.fr w35_0 hC_M35 hf_M36 rfl))
    · refine jr.aload_n rfl rfl ?_
      refine jr_v rfl rfl (Or.inl rfl) rfl rfl (nlt rfl) rfl ⟨rfl, Nat.le_of_ble_eq_true rfl, Nat.le_of_ble_eq_true rfl⟩ rfl (jc.deep (c_Parser_refuse hC_M9 (FR.rfl _ M9)  (fun M39 hC_M39 hf_M39 w39_0 => ?_)) (Nat.le_of_ble_eq_true rfl))
      have ht_M39 : FR W_c_Parser_kindField T M39 := FR.t ht_M9 hf_M39 (kw_sub rfl)
      obtain ⟨v40, e40⟩ : ∃ z_, M39 413 0 = z_ := ⟨_, rfl⟩
      have b40 : (-2147483648) ≤ v40 ∧ v40 ≤ 2147483647 := by rw [← e40]; exact (CI.r hC_M39 (show kd 413 = 44 from rfl) (by decide) 0)
      exact jr.vreturn rfl rfl (q _ hC_M39 ht_M39  (MP.fr (MP.fr (MP.fr w5_0 hC_M5 hf_M6 rfl) hC_M6 hf_M9 rfl) hC_M9 hf_M39 rfl))
  · refine jr.aload_n rfl rfl ?_
    refine jr_v rfl rfl (Or.inl rfl) rfl rfl (nlt rfl) rfl ⟨rfl, Nat.le_of_ble_eq_true rfl, Nat.le_of_ble_eq_true rfl⟩ rfl (jc.deep (c_Parser_refuse hC_M6 (FR.rfl _ M6)  (fun M41 hC_M41 hf_M41 w41_0 => ?_)) (Nat.le_of_ble_eq_true rfl))
    have ht_M41 : FR W_c_Parser_kindField T M41 := FR.t ht_M6 hf_M41 (kw_sub rfl)
    obtain ⟨v42, e42⟩ : ∃ z_, M41 413 0 = z_ := ⟨_, rfl⟩
    have b42 : (-2147483648) ≤ v42 ∧ v42 ≤ 2147483647 := by rw [← e42]; exact (CI.r hC_M41 (show kd 413 = 44 from rfl) (by decide) 0)
    refine jr.aload_n rfl rfl ?_
    have e44 : M6 413 3 = v1 := (hf_M6.g (show kd 413 = 44 from rfl) rfl).trans e7
    have e45 : M41 413 3 = v1 := (hf_M41.g (show kd 413 = 44 from rfl) rfl).trans e44
    refine jr_v rfl rfl (Or.inl rfl) rfl rfl (nlt rfl) rfl ⟨rfl, Nat.le_of_ble_eq_true rfl, Nat.le_of_ble_eq_true rfl⟩ rfl (jc.deep (c_Parser_advance hC_M41 (FR.rfl _ M41)  (by have hq0 : M41 413 3 = v1 := e45; omega) (fun M43 hC_M43 hf_M43  => ?_)) (Nat.le_of_ble_eq_true rfl))
    have ht_M43 : FR W_c_Parser_kindField T M43 := FR.t ht_M41 hf_M43 (kw_sub rfl)
    refine jr.aload_n rfl rfl ?_
    obtain ⟨v46, e46⟩ : ∃ z_, M43 413 6 = z_ := ⟨_, rfl⟩
    have b46 : (-2147483648) ≤ v46 ∧ v46 ≤ 2147483647 := by rw [← e46]; exact (CI.r hC_M43 (show kd 413 = 44 from rfl) (by decide) 6)
    refine jr.getf (i := 6) (x := v46) (v := .int (Int32.ofInt (v46))) rfl rfl (nlt rfl) rfl (nlt rfl) rfl rfl e46 rfl ?_
    refine jr.iconst rfl ?_
    refine jr.icmp_eq rfl rfl (by first | (refine rgb (by assumption) ?_; exact rfl) | omega) (rgl rfl) (fun h38 => ?_) (fun h38 => ?_)
    · refine jr.aload_n rfl rfl ?_
      refine jr.iload_n rfl rfl ?_
      refine jr_s rfl rfl (Or.inl rfl) ⟨Nat.le_of_ble_eq_true rfl, Nat.le_of_ble_eq_true rfl⟩ rfl rfl (jc.deep (c_Parser_fieldWords hC_M43 (by omega) (fun r47 z47  => ?_)) (Nat.le_of_ble_eq_true rfl))
      have e49 : M43 413 3 = v1 := (hf_M43.g (show kd 413 = 44 from rfl) rfl).trans e45
      refine jr_v rfl rfl (Or.inl rfl) rfl rfl (nlt rfl) rfl ⟨rfl, Nat.le_of_ble_eq_true rfl, Nat.le_of_ble_eq_true rfl⟩ rfl (jc.deep (c_Parser_wordIn hC_M43 z47 (by have hq0 : M43 413 3 = v1 := e49; omega) (fun r48 z48  => ?_)) (Nat.le_of_ble_eq_true rfl))
      refine jr.istore_n (ls' := [_, _, _]) rfl (nlt rfl) rfl ?_
      refine jr.iload_n rfl rfl ?_
      refine jr.iconst rfl ?_
      refine jr.icmp_ne rfl rfl (by first | (refine rgb (by assumption) ?_; exact rfl) | omega) (rgl rfl) (fun h57 => ?_) (fun h57 => ?_)
      · have sx57 : (0 : Int) ≤ r48 := by omega
        clear h57
        refine jr.aload_n rfl rfl ?_
        obtain ⟨v50, e50⟩ : ∃ z_, M 413 2 = z_ := ⟨_, rfl⟩
        have b50 : 0 ≤ v50 ∧ v50 ≤ 597 := by rw [← e50]; exact (CI.r hC_M (show kd 413 = 44 from rfl) (by decide) 2)
        have e51 : M5 413 2 = v50 := (hf_M5.g (show kd 413 = 44 from rfl) rfl).trans e50
        have e52 : M6 413 2 = v50 := (hf_M6.g (show kd 413 = 44 from rfl) rfl).trans e51
        have e53 : M41 413 2 = v50 := (hf_M41.g (show kd 413 = 44 from rfl) rfl).trans e52
        have e54 : M43 413 2 = v50 := (hf_M43.g (show kd 413 = 44 from rfl) rfl).trans e53
        have k55 : kd (v50).toNat = 47 := ((congrArg (fun z : Int => kd z.toNat) (show M43 413 2 = v50 from e54)).symm.trans (CI.x hC_M43 (show kd 413 = 44 from rfl) 2 rfl (by decide)))
        refine jr.getf (i := 2) (x := v50) (v := .ref (v50.toNat)) rfl rfl (nlt rfl) rfl (nlt rfl) rfl rfl e54 rfl ?_
        refine jr.bipush rfl (jbp _ (nlt rfl)) ?_
        refine jr.iload_n rfl rfl ?_
        refine jr.bipush rfl (jbp _ (nlt rfl)) ?_
        refine jr.imul rfl ?_
        refine jr.iw (j_w (v4 * 16)) (j_w_eq _) ?_
        have b56 : -2147483648 ≤ j_w (v4 * 16) ∧ j_w (v4 * 16) ≤ 2147483647 := jb_any _
        generalize j_w (v4 * 16) = v56 at b56 ⊢
        refine jr.iload_n rfl rfl ?_
        refine jr.iadd rfl ?_
        refine jr.iw (j_w (v56 + r48)) (j_w_eq _) ?_
        have b57 : -2147483648 ≤ j_w (v56 + r48) ∧ j_w (v56 + r48) ≤ 2147483647 := jb_any _
        generalize j_w (v56 + r48) = v57 at b57 ⊢
        refine jr_v rfl rfl (Or.inl rfl) rfl rfl (Nat.lt_trans (kx_47 k55).1 (by decide)) (kx_47 k55).2 ⟨rfl, Nat.le_of_ble_eq_true rfl, Nat.le_of_ble_eq_true rfl⟩ rfl (jc.deep (c_Program_emit_m hC_M43 (FR.rfl _ M43) k55 (by omega) (by omega) (by have hq0 : M43 413 2 = v50 := e54; omega) (MP.fr (MP.fr (MP.fr w5_0 hC_M5 hf_M6 rfl) hC_M6 hf_M41 rfl) hC_M41 hf_M43 rfl) (fun r58 M58 hC_M58 hf_M58 z58 w58_0 => ?_)) (Nat.le_of_ble_eq_true rfl))
        have ht_M58 : FR W_c_Parser_kindField T M58 := FR.t ht_M43 hf_M58 (kw_sub rfl)
        refine jr.pop rfl rfl ?_
        refine jr.aload_n rfl rfl ?_
        have e60 : M58 413 3 = v1 := (hf_M58.g (show kd 413 = 44 from rfl) rfl).trans e49
        refine jr_v rfl rfl (Or.inl rfl) rfl rfl (nlt rfl) rfl ⟨rfl, Nat.le_of_ble_eq_true rfl, Nat.le_of_ble_eq_true rfl⟩ rfl (jc.deep (c_Parser_advance hC_M58 (FR.rfl _ M58)  (by have hq0 : M58 413 3 = v1 := e60; omega) (fun M59 hC_M59 hf_M59  => ?_)) (Nat.le_of_ble_eq_true rfl))
        have ht_M59 : FR W_c_Parser_kindField T M59 := FR.t ht_M58 hf_M59 (kw_sub rfl)
        exact jr.vreturn rfl rfl (q _ hC_M59 ht_M59  (MP.fr w58_0 hC_M58 hf_M59 rfl))
      · refine jr.aload_n rfl rfl ?_
        refine jr.iconst rfl ?_
        refine jr_v rfl rfl (Or.inl rfl) rfl rfl (nlt rfl) rfl ⟨rfl, Nat.le_of_ble_eq_true rfl, Nat.le_of_ble_eq_true rfl⟩ rfl (jc.deep (c_Parser_fail hC_M43 (FR.rfl _ M43) (by omega) (fun M61 hC_M61 hf_M61 w61_0 => ?_)) (Nat.le_of_ble_eq_true rfl))
        have ht_M61 : FR W_c_Parser_kindField T M61 := FR.t ht_M43 hf_M61 (kw_sub rfl)
        obtain ⟨v62, e62⟩ : ∃ z_, M61 413 0 = z_ := ⟨_, rfl⟩
        have b62 : (-2147483648) ≤ v62 ∧ v62 ≤ 2147483647 := by rw [← e62]; exact (CI.r hC_M61 (show kd 413 = 44 from rfl) (by decide) 0)
        refine jr.aload_n rfl rfl ?_
        obtain ⟨v63, e63⟩ : ∃ z_, M 413 2 = z_ := ⟨_, rfl⟩
        have b63 : 0 ≤ v63 ∧ v63 ≤ 597 := by rw [← e63]; exact (CI.r hC_M (show kd 413 = 44 from rfl) (by decide) 2)
        have e64 : M5 413 2 = v63 := (hf_M5.g (show kd 413 = 44 from rfl) rfl).trans e63
        have e65 : M6 413 2 = v63 := (hf_M6.g (show kd 413 = 44 from rfl) rfl).trans e64
        have e66 : M41 413 2 = v63 := (hf_M41.g (show kd 413 = 44 from rfl) rfl).trans e65
        have e67 : M43 413 2 = v63 := (hf_M43.g (show kd 413 = 44 from rfl) rfl).trans e66
        have e68 : M61 413 2 = v63 := (hf_M61.g (show kd 413 = 44 from rfl) rfl).trans e67
        have k69 : kd (v63).toNat = 47 := ((congrArg (fun z : Int => kd z.toNat) (show M61 413 2 = v63 from e68)).symm.trans (CI.x hC_M61 (show kd 413 = 44 from rfl) 2 rfl (by decide)))
        refine jr.getf (i := 2) (x := v63) (v := .ref (v63.toNat)) rfl rfl (nlt rfl) rfl (nlt rfl) rfl rfl e68 rfl ?_
        refine jr.bipush rfl (jbp _ (nlt rfl)) ?_
        refine jr.iload_n rfl rfl ?_
        refine jr.bipush rfl (jbp _ (nlt rfl)) ?_
        refine jr.imul rfl ?_
        refine jr.iw (j_w (v4 * 16)) (j_w_eq _) ?_
        have b70 : -2147483648 ≤ j_w (v4 * 16) ∧ j_w (v4 * 16) ≤ 2147483647 := jb_any _
        generalize j_w (v4 * 16) = v70 at b70 ⊢
        refine jr.iload_n rfl rfl ?_
        refine jr.iadd rfl ?_
        refine jr.iw (j_w (v70 + r48)) (j_w_eq _) ?_
        have b71 : -2147483648 ≤ j_w (v70 + r48) ∧ j_w (v70 + r48) ≤ 2147483647 := jb_any _
        generalize j_w (v70 + r48) = v71 at b71 ⊢
        refine jr_v rfl rfl (Or.inl rfl) rfl rfl (Nat.lt_trans (kx_47 k69).1 (by decide)) (kx_47 k69).2 ⟨rfl, Nat.le_of_ble_eq_true rfl, Nat.le_of_ble_eq_true rfl⟩ rfl (jc.deep (c_Program_emit_m hC_M61 (FR.rfl _ M61) k69 (by omega) (by omega) (by have hq0 : M61 413 2 = v63 := e68; omega) (MP.fr (MP.fr (MP.fr (MP.fr w5_0 hC_M5 hf_M6 rfl) hC_M6 hf_M41 rfl) hC_M41 hf_M43 rfl) hC_M43 hf_M61 rfl) (fun r72 M72 hC_M72 hf_M72 z72 w72_0 => ?_)) (Nat.le_of_ble_eq_true rfl))
        have ht_M72 : FR W_c_Parser_kindField T M72 := FR.t ht_M61 hf_M72 (kw_sub rfl)
        refine jr.pop rfl rfl ?_
        refine jr.aload_n rfl rfl ?_
        have e74 : M61 413 3 = v1 := (hf_M61.g (show kd 413 = 44 from rfl) rfl).trans e49
        have e75 : M72 413 3 = v1 := (hf_M72.g (show kd 413 = 44 from rfl) rfl).trans e74
        refine jr_v rfl rfl (Or.inl rfl) rfl rfl (nlt rfl) rfl ⟨rfl, Nat.le_of_ble_eq_true rfl, Nat.le_of_ble_eq_true rfl⟩ rfl (jc.deep (c_Parser_advance hC_M72 (FR.rfl _ M72)  (by have hq0 : M72 413 3 = v1 := e75; omega) (fun M73 hC_M73 hf_M73  => ?_)) (Nat.le_of_ble_eq_true rfl))
        have ht_M73 : FR W_c_Parser_kindField T M73 := FR.t ht_M72 hf_M73 (kw_sub rfl)
        exact jr.vreturn rfl rfl (q _ hC_M73 ht_M73  (MP.fr w72_0 hC_M72 hf_M73 rfl))
    · refine jr.aload_n rfl rfl ?_
      refine jr_v rfl rfl (Or.inl rfl) rfl rfl (nlt rfl) rfl ⟨rfl, Nat.le_of_ble_eq_true rfl, Nat.le_of_ble_eq_true rfl⟩ rfl (jc.deep (c_Parser_refuse hC_M43 (FR.rfl _ M43)  (fun M76 hC_M76 hf_M76 w76_0 => ?_)) (Nat.le_of_ble_eq_true rfl))
      have ht_M76 : FR W_c_Parser_kindField T M76 := FR.t ht_M43 hf_M76 (kw_sub rfl)
      obtain ⟨v77, e77⟩ : ∃ z_, M76 413 0 = z_ := ⟨_, rfl⟩
      have b77 : (-2147483648) ≤ v77 ∧ v77 ≤ 2147483647 := by rw [← e77]; exact (CI.r hC_M76 (show kd 413 = 44 from rfl) (by decide) 0)
      exact jr.vreturn rfl rfl (q _ hC_M76 ht_M76  (MP.fr (MP.fr (MP.fr (MP.fr w5_0 hC_M5 hf_M6 rfl) hC_M6 hf_M41 rfl) hC_M41 hf_M43 rfl) hC_M43 hf_M76 rfl))
noncomputable def W_par : List (Nat × Nat) := [(44, 0), (44, 1), (44, 6), (44, 7), (44, 8), (44, 9), (44, 10), (44, 11), (47, 2), (47, 4), (48, 1000), (51, 1000)]
noncomputable def PX_ask (A : Nat → Option (Nat × (Nat → Int32))) [HA A] (n : Nat) : Prop := ∀ {Q : Option Value → jm → Prop} {G : Nat → Int → Int} {T : jm} {M : jm} (hC_M : CI M) (ht_M : FR W_par T M) {x : Int} (h_x : 0 ≤ x ∧ x ≤ 12) (p0 : 1 ≤ M 413 3 ∧ M 413 3 ≤ 1) (p1 : MP M G) (p2 : 20 * (13 - x) + 1 ≤ (n : Int)) (q : ∀ (M' : jm), CI M' → FR W_par T M' → (MP M' G) → Q none M'), jc A (n + 60) 207 [.ref (413), .int (Int32.ofInt (x))] M Q
noncomputable def PX_one (A : Nat → Option (Nat × (Nat → Int32))) [HA A] (n : Nat) : Prop := ∀ {Q : Option Value → jm → Prop} {G : Nat → Int → Int} {T : jm} {M : jm} (hC_M : CI M) (ht_M : FR W_par T M) {x : Int} (h_x : 0 ≤ x ∧ x ≤ 13) {F : Int} (g_F : M 413 0 = F) (p0 : 1 ≤ M 413 3 ∧ M 413 3 ≤ 1) (p1 : x ≤ 12 ∨ M 413 0 ≠ 0) (p2 : MP M G) (p3 : 20 * (13 - x) + 2 ≤ (n : Int)) (q : ∀ (M' : jm), CI M' → FR W_par T M' → (MP M' G) → (F = 0 ∨ M' 413 0 ≠ 0) → Q none M'), jc A (n + 60) 205 [.ref (413), .int (Int32.ofInt (x))] M Q
noncomputable def PX_exp (A : Nat → Option (Nat × (Nat → Int32))) [HA A] (n : Nat) : Prop := ∀ {Q : Option Value → jm → Prop} {G : Nat → Int → Int} {T : jm} {M : jm} (hC_M : CI M) (ht_M : FR W_par T M) {x : Int} (h_x : 0 ≤ x ∧ x ≤ 5) {y : Int} (h_y : 0 ≤ y ∧ y ≤ 13) {F : Int} (g_F : M 413 0 = F) (p0 : 1 ≤ M 413 3 ∧ M 413 3 ≤ 1) (p1 : y ≤ 12 ∨ M 413 0 ≠ 0) (p2 : MP M G) (p3 : 20 * (13 - y) + (8 - x) ≤ (n : Int)) (q : ∀ (M' : jm), CI M' → FR W_par T M' → (MP M' G) → (F = 0 ∨ M' 413 0 ≠ 0) → Q none M'), jc A (n + 60) 203 [.ref (413), .int (Int32.ofInt (x)), .int (Int32.ofInt (y))] M Q
noncomputable def PX_exps (A : Nat → Option (Nat × (Nat → Int32))) [HA A] (n : Nat) : Prop := ∀ {Q : Option Value → jm → Prop} {G : Nat → Int → Int} {T : jm} {M : jm} (hC_M : CI M) (ht_M : FR W_par T M) {x : Int} (h_x : 0 ≤ x ∧ x ≤ 5) {y : Int} (h_y : 0 ≤ y ∧ y ≤ 13) (p0 : 1 ≤ M 413 3 ∧ M 413 3 ≤ 1) (p1 : y ≤ 12 ∨ M 413 0 ≠ 0) (p2 : MP M G) (p3 : 20 * (13 - y) + 9 ≤ (n : Int)) (q : ∀ (M' : jm), CI M' → FR W_par T M' → (MP M' G) → Q none M'), jc A (n + 60) 202 [.ref (413), .int (Int32.ofInt (x)), .int (Int32.ofInt (y))] M Q
noncomputable def PX_block (A : Nat → Option (Nat × (Nat → Int32))) [HA A] (n : Nat) : Prop := ∀ {Q : Option Value → jm → Prop} {G : Nat → Int → Int} {T : jm} {M : jm} (hC_M : CI M) (ht_M : FR W_par T M) {x : Int} (h_x : 0 ≤ x ∧ x ≤ 12) {y : Int} (h_y : 0 ≤ y ∧ y ≤ 1) (p0 : 1 ≤ M 413 3 ∧ M 413 3 ≤ 1) (p1 : MP M G) (p2 : 20 * (13 - x) + 10 ≤ (n : Int)) (q : ∀ (M' : jm), CI M' → FR W_par T M' → (MP M' G) → Q none M'), jc A (n + 60) 198 [.ref (413), .int (Int32.ofInt (x)), .int (Int32.ofInt (y))] M Q
noncomputable def PX_choice (A : Nat → Option (Nat × (Nat → Int32))) [HA A] (n : Nat) : Prop := ∀ {Q : Option Value → jm → Prop} {G : Nat → Int → Int} {T : jm} {M : jm} (hC_M : CI M) (ht_M : FR W_par T M) {x : Int} (h_x : 0 ≤ x ∧ x ≤ 12) {y : Int} (h_y : 0 ≤ y ∧ y ≤ 1) (p0 : 1 ≤ M 413 3 ∧ M 413 3 ≤ 1) (p1 : MP M G) (p2 : 20 * (13 - x) + 11 ≤ (n : Int)) (q : ∀ (M' : jm), CI M' → FR W_par T M' → (MP M' G) → Q none M'), jc A (n + 60) 200 [.ref (413), .int (Int32.ofInt (x)), .int (Int32.ofInt (y))] M Q
noncomputable def PX_deed (A : Nat → Option (Nat × (Nat → Int32))) [HA A] (n : Nat) : Prop := ∀ {Q : Option Value → jm → Prop} {G : Nat → Int → Int} {T : jm} {M : jm} (hC_M : CI M) (ht_M : FR W_par T M) {x : Int} (h_x : 0 ≤ x ∧ x ≤ 12) {y : Int} (h_y : 0 ≤ y ∧ y ≤ 1) (p0 : 1 ≤ M 413 3 ∧ M 413 3 ≤ 1) (p1 : MP M G) (p2 : 20 * (13 - x) + 12 ≤ (n : Int)) (q : ∀ (M' : jm), CI M' → FR W_par T M' → (MP M' G) → Q none M'), jc A (n + 60) 199 [.ref (413), .int (Int32.ofInt (x)), .int (Int32.ofInt (y))] M Q
noncomputable def PX (A : Nat → Option (Nat × (Nat → Int32))) [HA A] (n : Nat) : Prop := PX_ask A n ∧ PX_one A n ∧ PX_exp A n ∧ PX_exps A n ∧ PX_block A n ∧ PX_choice A n ∧ PX_deed A n
theorem c_Parser_askingWord {A : Nat → Option (Nat × (Nat → Int32))} [HA A] {n : Nat} (ihP : PX A n) : PX_ask A (n + 1) := by
  intro Q G T M hC_M ht_M x h_x  p0 p1 p2 q
  refine jc_of (m := xm_207) rfl (Nat.le_of_ble_eq_true rfl) rfl ?_
  obtain ⟨v1, e1⟩ : ∃ z_, M 413 3 = z_ := ⟨_, rfl⟩
  have b1 : 1 ≤ v1 ∧ v1 ≤ 419 := by rw [← e1]; exact (CI.r hC_M (show kd 413 = 44 from rfl) (by decide) 3)
  have b2 : 1 ≤ v1 ∧ v1 ≤ 1 := by rw [← e1]; exact p0
  refine jr.aload_n rfl rfl ?_
  obtain ⟨v3, e3⟩ : ∃ z_, M 413 6 = z_ := ⟨_, rfl⟩
  have b3 : (-2147483648) ≤ v3 ∧ v3 ≤ 2147483647 := by rw [← e3]; exact (CI.r hC_M (show kd 413 = 44 from rfl) (by decide) 6)
  refine jr.getf (i := 6) (x := v3) (v := .int (Int32.ofInt (v3))) rfl rfl (nlt rfl) rfl (nlt rfl) rfl rfl e3 rfl ?_
  refine jr.iconst rfl ?_
  refine jr.icmp_ne rfl rfl (by first | (refine rgb (by assumption) ?_; exact rfl) | omega) (rgl rfl) (fun h5 => ?_) (fun h5 => ?_)
  · refine jr.iconst rfl ?_
    refine jr.istore_n (ls' := [_, _, _]) rfl (nlt rfl) rfl ?_
    refine jr.iload_n rfl rfl ?_
    refine jr.bipush rfl (jbp _ (nlt rfl)) ?_
    refine jr.icmp_eq rfl rfl (by first | exact rgl rfl | omega) (rgl rfl) (fun h => absurd h (by decide)) (fun _ => ?_)
    refine jr.iload_n rfl rfl ?_
    refine jr.bipush rfl (jbp _ (nlt rfl)) ?_
    refine jr.icmp_lt rfl rfl (by first | exact rgl rfl | omega) (rgl rfl) (fun _ => ?_) (fun h => absurd (by decide) h)
    refine jr.aload_n rfl rfl ?_
    refine jr_v rfl rfl (Or.inl rfl) rfl rfl (nlt rfl) rfl ⟨rfl, Nat.le_of_ble_eq_true rfl, Nat.le_of_ble_eq_true rfl⟩ rfl (jc.deep (c_Parser_refuse hC_M (FR.rfl _ M)  (fun M4 hC_M4 hf_M4 w4_0 => ?_)) (by omega))
    have ht_M4 : FR W_par T M4 := FR.t ht_M hf_M4 (kw_sub rfl)
    obtain ⟨v5, e5⟩ : ∃ z_, M4 413 0 = z_ := ⟨_, rfl⟩
    have b5 : (-2147483648) ≤ v5 ∧ v5 ≤ 2147483647 := by rw [← e5]; exact (CI.r hC_M4 (show kd 413 = 44 from rfl) (by decide) 0)
    exact jr.vreturn rfl rfl (q _ hC_M4 ht_M4  (MP.fr p1 hC_M hf_M4 rfl))
  · refine jr.aload_n rfl rfl ?_
    obtain ⟨v6, e6⟩ : ∃ z_, M 413 10 = z_ := ⟨_, rfl⟩
    have b6 : (-2147483648) ≤ v6 ∧ v6 ≤ 2147483647 := by rw [← e6]; exact (CI.r hC_M (show kd 413 = 44 from rfl) (by decide) 10)
    refine jr.getf (i := 10) (x := v6) (v := .int (Int32.ofInt (v6))) rfl rfl (nlt rfl) rfl (nlt rfl) rfl rfl e6 rfl ?_
    refine jr.goto rfl rfl ?_
    refine jr.istore_n (ls' := [_, _, _]) rfl (nlt rfl) rfl ?_
    refine jr.iload_n rfl rfl ?_
    refine jr.bipush rfl (jbp _ (nlt rfl)) ?_
    refine jr.icmp_eq rfl rfl (by first | (refine rgb (by assumption) ?_; exact rfl) | omega) (rgl rfl) (fun h20 => ?_) (fun h20 => ?_)
    · refine jr.aload_n rfl rfl ?_
      refine jr_v rfl rfl (Or.inl rfl) rfl rfl (nlt rfl) rfl ⟨rfl, Nat.le_of_ble_eq_true rfl, Nat.le_of_ble_eq_true rfl⟩ rfl (jc.deep (c_Parser_countNode hC_M (FR.rfl _ M)  p1 (fun M7 hC_M7 hf_M7 w7_0 => ?_)) (by omega))
      have ht_M7 : FR W_par T M7 := FR.t ht_M hf_M7 (kw_sub rfl)
      refine jr.aload_n rfl rfl ?_
      have e9 : M7 413 3 = v1 := (hf_M7.g (show kd 413 = 44 from rfl) rfl).trans e1
      refine jr_v rfl rfl (Or.inl rfl) rfl rfl (nlt rfl) rfl ⟨rfl, Nat.le_of_ble_eq_true rfl, Nat.le_of_ble_eq_true rfl⟩ rfl (jc.deep (c_Parser_advance hC_M7 (FR.rfl _ M7)  (by have hq0 : M7 413 3 = v1 := e9; omega) (fun M8 hC_M8 hf_M8  => ?_)) (by omega))
      have ht_M8 : FR W_par T M8 := FR.t ht_M7 hf_M8 (kw_sub rfl)
      refine jr.iload_n rfl rfl ?_
      refine jr.bipush rfl (jbp _ (nlt rfl)) ?_
      refine jr.icmp_ne rfl rfl (by first | (refine rgb (by assumption) ?_; exact rfl) | omega) (rgl rfl) (fun h51 => ?_) (fun h51 => ?_)
      · refine jr.iload_n rfl rfl ?_
        refine jr.bipush rfl (jbp _ (nlt rfl)) ?_
        refine jr.icmp_le rfl rfl (by first | (refine rgb (by assumption) ?_; exact rfl) | omega) (rgl rfl) (fun h116 => ?_) (fun h116 => ?_)
        · refine jr.aload_n rfl rfl ?_
          obtain ⟨v10, e10⟩ : ∃ z_, M 413 2 = z_ := ⟨_, rfl⟩
          have b10 : 0 ≤ v10 ∧ v10 ≤ 597 := by rw [← e10]; exact (CI.r hC_M (show kd 413 = 44 from rfl) (by decide) 2)
          have e11 : M7 413 2 = v10 := (hf_M7.g (show kd 413 = 44 from rfl) rfl).trans e10
          have e12 : M8 413 2 = v10 := (hf_M8.g (show kd 413 = 44 from rfl) rfl).trans e11
          have k13 : kd (v10).toNat = 47 := ((congrArg (fun z : Int => kd z.toNat) (show M8 413 2 = v10 from e12)).symm.trans (CI.x hC_M8 (show kd 413 = 44 from rfl) 2 rfl (by decide)))
          refine jr.getf (i := 2) (x := v10) (v := .ref (v10.toNat)) rfl rfl (nlt rfl) rfl (nlt rfl) rfl rfl e12 rfl ?_
          refine jr.iload_n rfl rfl ?_
          refine jr.bipush rfl (jbp _ (nlt rfl)) ?_
          refine jr.icmp_ne rfl rfl (by first | (refine rgb (by assumption) ?_; exact rfl) | omega) (rgl rfl) (fun h163 => ?_) (fun h163 => ?_)
          · exact absurd h163 (by omega)
          · refine jr.bipush rfl (jbp _ (nlt rfl)) ?_
            refine jr.goto rfl rfl ?_
            refine jr.iconst rfl ?_
            refine jr_v rfl rfl (Or.inl rfl) rfl rfl (Nat.lt_trans (kx_47 k13).1 (by decide)) (kx_47 k13).2 ⟨rfl, Nat.le_of_ble_eq_true rfl, Nat.le_of_ble_eq_true rfl⟩ rfl (jc.deep (c_Program_emit_m hC_M8 (FR.rfl _ M8) k13 (by omega) (by omega) (by have hq0 : M8 413 2 = v10 := e12; omega) (MP.fr w7_0 hC_M7 hf_M8 rfl) (fun r14 M14 hC_M14 hf_M14 z14 w14_0 => ?_)) (by omega))
            have ht_M14 : FR W_par T M14 := FR.t ht_M8 hf_M14 (kw_sub rfl)
            refine jr.pop rfl rfl ?_
            exact jr.vreturn rfl rfl (q _ hC_M14 ht_M14  w14_0)
        · exact absurd (by omega) h116
      · exact absurd (by omega) h51
    · refine jr.iload_n rfl rfl ?_
      refine jr.bipush rfl (jbp _ (nlt rfl)) ?_
      refine jr.icmp_lt rfl rfl (by first | (refine rgb (by assumption) ?_; exact rfl) | omega) (rgl rfl) (fun h26 => ?_) (fun h26 => ?_)
      · refine jr.aload_n rfl rfl ?_
        refine jr_v rfl rfl (Or.inl rfl) rfl rfl (nlt rfl) rfl ⟨rfl, Nat.le_of_ble_eq_true rfl, Nat.le_of_ble_eq_true rfl⟩ rfl (jc.deep (c_Parser_refuse hC_M (FR.rfl _ M)  (fun M15 hC_M15 hf_M15 w15_0 => ?_)) (by omega))
        have ht_M15 : FR W_par T M15 := FR.t ht_M hf_M15 (kw_sub rfl)
        obtain ⟨v16, e16⟩ : ∃ z_, M15 413 0 = z_ := ⟨_, rfl⟩
        have b16 : (-2147483648) ≤ v16 ∧ v16 ≤ 2147483647 := by rw [← e16]; exact (CI.r hC_M15 (show kd 413 = 44 from rfl) (by decide) 0)
        exact jr.vreturn rfl rfl (q _ hC_M15 ht_M15  (MP.fr p1 hC_M hf_M15 rfl))
      · refine jr.iload_n rfl rfl ?_
        refine jr.bipush rfl (jbp _ (nlt rfl)) ?_
        refine jr.icmp_le rfl rfl (by first | (refine rgb (by assumption) ?_; exact rfl) | omega) (rgl rfl) (fun h32 => ?_) (fun h32 => ?_)
        · refine jr.aload_n rfl rfl ?_
          refine jr_v rfl rfl (Or.inl rfl) rfl rfl (nlt rfl) rfl ⟨rfl, Nat.le_of_ble_eq_true rfl, Nat.le_of_ble_eq_true rfl⟩ rfl (jc.deep (c_Parser_countNode hC_M (FR.rfl _ M)  p1 (fun M17 hC_M17 hf_M17 w17_0 => ?_)) (by omega))
          have ht_M17 : FR W_par T M17 := FR.t ht_M hf_M17 (kw_sub rfl)
          refine jr.aload_n rfl rfl ?_
          have e19 : M17 413 3 = v1 := (hf_M17.g (show kd 413 = 44 from rfl) rfl).trans e1
          refine jr_v rfl rfl (Or.inl rfl) rfl rfl (nlt rfl) rfl ⟨rfl, Nat.le_of_ble_eq_true rfl, Nat.le_of_ble_eq_true rfl⟩ rfl (jc.deep (c_Parser_advance hC_M17 (FR.rfl _ M17)  (by have hq0 : M17 413 3 = v1 := e19; omega) (fun M18 hC_M18 hf_M18  => ?_)) (by omega))
          have ht_M18 : FR W_par T M18 := FR.t ht_M17 hf_M18 (kw_sub rfl)
          refine jr.iload_n rfl rfl ?_
          refine jr.bipush rfl (jbp _ (nlt rfl)) ?_
          refine jr.icmp_ne rfl rfl (by first | (refine rgb (by assumption) ?_; exact rfl) | omega) (rgl rfl) (fun h51 => ?_) (fun h51 => ?_)
          · refine jr.iload_n rfl rfl ?_
            refine jr.bipush rfl (jbp _ (nlt rfl)) ?_
            refine jr.icmp_le rfl rfl (by first | (refine rgb (by assumption) ?_; exact rfl) | omega) (rgl rfl) (fun h116 => ?_) (fun h116 => ?_)
            · refine jr.aload_n rfl rfl ?_
              obtain ⟨v20, e20⟩ : ∃ z_, M 413 2 = z_ := ⟨_, rfl⟩
              have b20 : 0 ≤ v20 ∧ v20 ≤ 597 := by rw [← e20]; exact (CI.r hC_M (show kd 413 = 44 from rfl) (by decide) 2)
              have e21 : M17 413 2 = v20 := (hf_M17.g (show kd 413 = 44 from rfl) rfl).trans e20
              have e22 : M18 413 2 = v20 := (hf_M18.g (show kd 413 = 44 from rfl) rfl).trans e21
              have k23 : kd (v20).toNat = 47 := ((congrArg (fun z : Int => kd z.toNat) (show M18 413 2 = v20 from e22)).symm.trans (CI.x hC_M18 (show kd 413 = 44 from rfl) 2 rfl (by decide)))
              refine jr.getf (i := 2) (x := v20) (v := .ref (v20.toNat)) rfl rfl (nlt rfl) rfl (nlt rfl) rfl rfl e22 rfl ?_
              refine jr.iload_n rfl rfl ?_
              refine jr.bipush rfl (jbp _ (nlt rfl)) ?_
              refine jr.icmp_ne rfl rfl (by first | (refine rgb (by assumption) ?_; exact rfl) | omega) (rgl rfl) (fun h163 => ?_) (fun h163 => ?_)
              · refine jr.iload_n rfl rfl ?_
                refine jr.iconst rfl ?_
                refine jr_v rfl rfl (Or.inl rfl) rfl rfl (Nat.lt_trans (kx_47 k23).1 (by decide)) (kx_47 k23).2 ⟨rfl, Nat.le_of_ble_eq_true rfl, Nat.le_of_ble_eq_true rfl⟩ rfl (jc.deep (c_Program_emit_m hC_M18 (FR.rfl _ M18) k23 (by omega) (by omega) (by have hq0 : M18 413 2 = v20 := e22; omega) (MP.fr w17_0 hC_M17 hf_M18 rfl) (fun r24 M24 hC_M24 hf_M24 z24 w24_0 => ?_)) (by omega))
                have ht_M24 : FR W_par T M24 := FR.t ht_M18 hf_M24 (kw_sub rfl)
                refine jr.pop rfl rfl ?_
                exact jr.vreturn rfl rfl (q _ hC_M24 ht_M24  w24_0)
              · exact absurd (by omega) h163
            · refine jr.aload_n rfl rfl ?_
              refine jr.bipush rfl (jbp _ (nlt rfl)) ?_
              refine jr.iload_n rfl rfl ?_
              have e26 : M18 413 3 = v1 := (hf_M18.g (show kd 413 = 44 from rfl) rfl).trans e19
              refine jr_v rfl rfl (Or.inl rfl) rfl rfl (nlt rfl) rfl ⟨rfl, Nat.le_of_ble_eq_true rfl, Nat.le_of_ble_eq_true rfl⟩ rfl (jc.deep (c_Parser_open hC_M18 (FR.rfl _ M18) (by omega) (by omega) (by have hq0 : M18 413 3 = v1 := e26; omega) (fun M25 hC_M25 hf_M25 w25_0 => ?_)) (by omega))
              have ht_M25 : FR W_par T M25 := FR.t ht_M18 hf_M25 (kw_sub rfl)
              obtain ⟨v27, e27⟩ : ∃ z_, M25 413 0 = z_ := ⟨_, rfl⟩
              have b27 : (-2147483648) ≤ v27 ∧ v27 ≤ 2147483647 := by rw [← e27]; exact (CI.r hC_M25 (show kd 413 = 44 from rfl) (by decide) 0)
              refine jr.aload_n rfl rfl ?_
              refine jr.iload_n rfl rfl ?_
              refine jr_s rfl rfl (Or.inl rfl) ⟨Nat.le_of_ble_eq_true rfl, Nat.le_of_ble_eq_true rfl⟩ rfl rfl (jc.deep (c_Parser_expsOf hC_M25 (by omega) (fun r28 z28  => ?_)) (by omega))
              refine jr.iload_n rfl rfl ?_
              refine jr.iconst rfl ?_
              refine jr.iadd rfl ?_
              have e30 : M25 413 3 = v1 := (hf_M25.g (show kd 413 = 44 from rfl) rfl).trans e26
              refine jr_v rfl rfl (Or.inl rfl) rfl rfl (nlt rfl) rfl ⟨rfl, Nat.le_of_ble_eq_true rfl, Nat.le_of_ble_eq_true rfl⟩ rfl (jc.deep (ihP.2.2.2.1 hC_M25 (FR.rfl _ M25) (by omega) (by omega) (by have hq0 : M25 413 3 = v1 := e30; omega) (by have hq0 : M25 413 0 = v27 := e27; omega) (MP.fr (MP.fr w17_0 hC_M17 hf_M18 rfl) hC_M18 hf_M25 rfl) (by omega) (fun M29 hC_M29 hf_M29 w29_0 => ?_)) (by omega))
              have ht_M29 : FR W_par T M29 := FR.t ht_M25 hf_M29 (kw_sub rfl)
              refine jr.aload_n rfl rfl ?_
              obtain ⟨v31, e31⟩ : ∃ z_, M 413 2 = z_ := ⟨_, rfl⟩
              have b31 : 0 ≤ v31 ∧ v31 ≤ 597 := by rw [← e31]; exact (CI.r hC_M (show kd 413 = 44 from rfl) (by decide) 2)
              have e32 : M17 413 2 = v31 := (hf_M17.g (show kd 413 = 44 from rfl) rfl).trans e31
              have e33 : M18 413 2 = v31 := (hf_M18.g (show kd 413 = 44 from rfl) rfl).trans e32
              have e34 : M25 413 2 = v31 := (hf_M25.g (show kd 413 = 44 from rfl) rfl).trans e33
              have e35 : M29 413 2 = v31 := (hf_M29.g (show kd 413 = 44 from rfl) rfl).trans e34
              have k36 : kd (v31).toNat = 47 := ((congrArg (fun z : Int => kd z.toNat) (show M29 413 2 = v31 from e35)).symm.trans (CI.x hC_M29 (show kd 413 = 44 from rfl) 2 rfl (by decide)))
              refine jr.getf (i := 2) (x := v31) (v := .ref (v31.toNat)) rfl rfl (nlt rfl) rfl (nlt rfl) rfl rfl e35 rfl ?_
              refine jr.iload_n rfl rfl ?_
              refine jr.iconst rfl ?_
              refine jr_v rfl rfl (Or.inl rfl) rfl rfl (Nat.lt_trans (kx_47 k36).1 (by decide)) (kx_47 k36).2 ⟨rfl, Nat.le_of_ble_eq_true rfl, Nat.le_of_ble_eq_true rfl⟩ rfl (jc.deep (c_Program_emit_m hC_M29 (FR.rfl _ M29) k36 (by omega) (by omega) (by have hq0 : M29 413 2 = v31 := e35; omega) w29_0 (fun r37 M37 hC_M37 hf_M37 z37 w37_0 => ?_)) (by omega))
              have ht_M37 : FR W_par T M37 := FR.t ht_M29 hf_M37 (kw_sub rfl)
              refine jr.pop rfl rfl ?_
              refine jr.aload_n rfl rfl ?_
              refine jr.bipush rfl (jbp _ (nlt rfl)) ?_
              have e39 : M29 413 3 = v1 := (hf_M29.g (show kd 413 = 44 from rfl) rfl).trans e30
              have e40 : M37 413 3 = v1 := (hf_M37.g (show kd 413 = 44 from rfl) rfl).trans e39
              refine jr_v rfl rfl (Or.inl rfl) rfl rfl (nlt rfl) rfl ⟨rfl, Nat.le_of_ble_eq_true rfl, Nat.le_of_ble_eq_true rfl⟩ rfl (jc.deep (c_Parser_expect hC_M37 (FR.rfl _ M37) (by omega) (by have hq0 : M37 413 3 = v1 := e40; omega) (fun M38 hC_M38 hf_M38  => ?_)) (by omega))
              have ht_M38 : FR W_par T M38 := FR.t ht_M37 hf_M38 (kw_sub rfl)
              refine jr.goto rfl rfl ?_
              exact jr.vreturn rfl rfl (q _ hC_M38 ht_M38  (MP.fr w37_0 hC_M37 hf_M38 rfl))
          · refine jr.aload_n rfl rfl ?_
            refine jr.bipush rfl (jbp _ (nlt rfl)) ?_
            refine jr.iload_n rfl rfl ?_
            have e42 : M18 413 3 = v1 := (hf_M18.g (show kd 413 = 44 from rfl) rfl).trans e19
            refine jr_v rfl rfl (Or.inl rfl) rfl rfl (nlt rfl) rfl ⟨rfl, Nat.le_of_ble_eq_true rfl, Nat.le_of_ble_eq_true rfl⟩ rfl (jc.deep (c_Parser_open hC_M18 (FR.rfl _ M18) (by omega) (by omega) (by have hq0 : M18 413 3 = v1 := e42; omega) (fun M41 hC_M41 hf_M41 w41_0 => ?_)) (by omega))
            have ht_M41 : FR W_par T M41 := FR.t ht_M18 hf_M41 (kw_sub rfl)
            obtain ⟨v43, e43⟩ : ∃ z_, M41 413 0 = z_ := ⟨_, rfl⟩
            have b43 : (-2147483648) ≤ v43 ∧ v43 ≤ 2147483647 := by rw [← e43]; exact (CI.r hC_M41 (show kd 413 = 44 from rfl) (by decide) 0)
            refine jr.aload_n rfl rfl ?_
            obtain ⟨v44, e44⟩ : ∃ z_, M41 413 6 = z_ := ⟨_, rfl⟩
            have b44 : (-2147483648) ≤ v44 ∧ v44 ≤ 2147483647 := by rw [← e44]; exact (CI.r hC_M41 (show kd 413 = 44 from rfl) (by decide) 6)
            refine jr.getf (i := 6) (x := v44) (v := .int (Int32.ofInt (v44))) rfl rfl (nlt rfl) rfl (nlt rfl) rfl rfl e44 rfl ?_
            refine jr.iconst rfl ?_
            refine jr.icmp_ne rfl rfl (by first | (refine rgb (by assumption) ?_; exact rfl) | omega) (rgl rfl) (fun h66 => ?_) (fun h66 => ?_)
            · refine jr.iconst rfl ?_
              refine jr.istore_n (ls' := [_, _, _, _]) rfl (nlt rfl) rfl ?_
              refine jr.iload_n rfl rfl ?_
              refine jr.if_ge rfl rfl (by first | exact rgl rfl | omega) (fun h => absurd h (by decide)) (fun _ => ?_)
              refine jr.aload_n rfl rfl ?_
              refine jr_v rfl rfl (Or.inl rfl) rfl rfl (nlt rfl) rfl ⟨rfl, Nat.le_of_ble_eq_true rfl, Nat.le_of_ble_eq_true rfl⟩ rfl (jc.deep (c_Parser_refuse hC_M41 (FR.rfl _ M41)  (fun M45 hC_M45 hf_M45 w45_0 => ?_)) (by omega))
              have ht_M45 : FR W_par T M45 := FR.t ht_M41 hf_M45 (kw_sub rfl)
              obtain ⟨v46, e46⟩ : ∃ z_, M45 413 0 = z_ := ⟨_, rfl⟩
              have b46 : (-2147483648) ≤ v46 ∧ v46 ≤ 2147483647 := by rw [← e46]; exact (CI.r hC_M45 (show kd 413 = 44 from rfl) (by decide) 0)
              refine jr.aload_n rfl rfl ?_
              have e48 : M41 413 3 = v1 := (hf_M41.g (show kd 413 = 44 from rfl) rfl).trans e42
              have e49 : M45 413 3 = v1 := (hf_M45.g (show kd 413 = 44 from rfl) rfl).trans e48
              refine jr_v rfl rfl (Or.inl rfl) rfl rfl (nlt rfl) rfl ⟨rfl, Nat.le_of_ble_eq_true rfl, Nat.le_of_ble_eq_true rfl⟩ rfl (jc.deep (c_Parser_advance hC_M45 (FR.rfl _ M45)  (by have hq0 : M45 413 3 = v1 := e49; omega) (fun M47 hC_M47 hf_M47  => ?_)) (by omega))
              have ht_M47 : FR W_par T M47 := FR.t ht_M45 hf_M47 (kw_sub rfl)
              refine jr.aload_n rfl rfl ?_
              obtain ⟨v50, e50⟩ : ∃ z_, M 413 2 = z_ := ⟨_, rfl⟩
              have b50 : 0 ≤ v50 ∧ v50 ≤ 597 := by rw [← e50]; exact (CI.r hC_M (show kd 413 = 44 from rfl) (by decide) 2)
              have e51 : M17 413 2 = v50 := (hf_M17.g (show kd 413 = 44 from rfl) rfl).trans e50
              have e52 : M18 413 2 = v50 := (hf_M18.g (show kd 413 = 44 from rfl) rfl).trans e51
              have e53 : M41 413 2 = v50 := (hf_M41.g (show kd 413 = 44 from rfl) rfl).trans e52
              have e54 : M45 413 2 = v50 := (hf_M45.g (show kd 413 = 44 from rfl) rfl).trans e53
              have e55 : M47 413 2 = v50 := (hf_M47.g (show kd 413 = 44 from rfl) rfl).trans e54
              have k56 : kd (v50).toNat = 47 := ((congrArg (fun z : Int => kd z.toNat) (show M47 413 2 = v50 from e55)).symm.trans (CI.x hC_M47 (show kd 413 = 44 from rfl) 2 rfl (by decide)))
              refine jr.getf (i := 2) (x := v50) (v := .ref (v50.toNat)) rfl rfl (nlt rfl) rfl (nlt rfl) rfl rfl e55 rfl ?_
              refine jr.bipush rfl (jbp _ (nlt rfl)) ?_
              refine jr.iload_n rfl rfl ?_
              refine jr_v rfl rfl (Or.inl rfl) rfl rfl (Nat.lt_trans (kx_47 k56).1 (by decide)) (kx_47 k56).2 ⟨rfl, Nat.le_of_ble_eq_true rfl, Nat.le_of_ble_eq_true rfl⟩ rfl (jc.deep (c_Program_emit_m hC_M47 (FR.rfl _ M47) k56 (by omega) (by omega) (by have hq0 : M47 413 2 = v50 := e55; omega) (MP.fr (MP.fr (MP.fr (MP.fr w17_0 hC_M17 hf_M18 rfl) hC_M18 hf_M41 rfl) hC_M41 hf_M45 rfl) hC_M45 hf_M47 rfl) (fun r57 M57 hC_M57 hf_M57 z57 w57_0 => ?_)) (by omega))
              have ht_M57 : FR W_par T M57 := FR.t ht_M47 hf_M57 (kw_sub rfl)
              refine jr.pop rfl rfl ?_
              refine jr.aload_n rfl rfl ?_
              refine jr.bipush rfl (jbp _ (nlt rfl)) ?_
              have e59 : M47 413 3 = v1 := (hf_M47.g (show kd 413 = 44 from rfl) rfl).trans e49
              have e60 : M57 413 3 = v1 := (hf_M57.g (show kd 413 = 44 from rfl) rfl).trans e59
              refine jr_v rfl rfl (Or.inl rfl) rfl rfl (nlt rfl) rfl ⟨rfl, Nat.le_of_ble_eq_true rfl, Nat.le_of_ble_eq_true rfl⟩ rfl (jc.deep (c_Parser_expect hC_M57 (FR.rfl _ M57) (by omega) (by have hq0 : M57 413 3 = v1 := e60; omega) (fun M58 hC_M58 hf_M58  => ?_)) (by omega))
              have ht_M58 : FR W_par T M58 := FR.t ht_M57 hf_M58 (kw_sub rfl)
              refine jr.goto rfl rfl ?_
              exact jr.vreturn rfl rfl (q _ hC_M58 ht_M58  (MP.fr w57_0 hC_M57 hf_M58 rfl))
            · refine jr.aload_n rfl rfl ?_
              obtain ⟨v61, e61⟩ : ∃ z_, M41 413 10 = z_ := ⟨_, rfl⟩
              have b61 : (-2147483648) ≤ v61 ∧ v61 ≤ 2147483647 := by rw [← e61]; exact (CI.r hC_M41 (show kd 413 = 44 from rfl) (by decide) 10)
              refine jr.getf (i := 10) (x := v61) (v := .int (Int32.ofInt (v61))) rfl rfl (nlt rfl) rfl (nlt rfl) rfl rfl e61 rfl ?_
              refine jr.bipush rfl (jbp _ (nlt rfl)) ?_
              refine jr.isub rfl ?_
              refine jr.iw (j_w (v61 - 31)) (j_w_eq _) ?_
              have b62 : -2147483648 ≤ j_w (v61 - 31) ∧ j_w (v61 - 31) ≤ 2147483647 := jb_any _
              generalize j_w (v61 - 31) = v62 at b62 ⊢
              refine jr.goto rfl rfl ?_
              refine jr.istore_n (ls' := [_, _, _, _]) rfl (nlt rfl) rfl ?_
              refine jr.iload_n rfl rfl ?_
              refine jr.if_ge rfl rfl (by first | (refine rgb (by assumption) ?_; exact rfl) | omega) (fun h82 => ?_) (fun h82 => ?_)
              · refine jr.aload_n rfl rfl ?_
                have e64 : M41 413 3 = v1 := (hf_M41.g (show kd 413 = 44 from rfl) rfl).trans e42
                refine jr_v rfl rfl (Or.inl rfl) rfl rfl (nlt rfl) rfl ⟨rfl, Nat.le_of_ble_eq_true rfl, Nat.le_of_ble_eq_true rfl⟩ rfl (jc.deep (c_Parser_advance hC_M41 (FR.rfl _ M41)  (by have hq0 : M41 413 3 = v1 := e64; omega) (fun M63 hC_M63 hf_M63  => ?_)) (by omega))
                have ht_M63 : FR W_par T M63 := FR.t ht_M41 hf_M63 (kw_sub rfl)
                refine jr.aload_n rfl rfl ?_
                obtain ⟨v65, e65⟩ : ∃ z_, M 413 2 = z_ := ⟨_, rfl⟩
                have b65 : 0 ≤ v65 ∧ v65 ≤ 597 := by rw [← e65]; exact (CI.r hC_M (show kd 413 = 44 from rfl) (by decide) 2)
                have e66 : M17 413 2 = v65 := (hf_M17.g (show kd 413 = 44 from rfl) rfl).trans e65
                have e67 : M18 413 2 = v65 := (hf_M18.g (show kd 413 = 44 from rfl) rfl).trans e66
                have e68 : M41 413 2 = v65 := (hf_M41.g (show kd 413 = 44 from rfl) rfl).trans e67
                have e69 : M63 413 2 = v65 := (hf_M63.g (show kd 413 = 44 from rfl) rfl).trans e68
                have k70 : kd (v65).toNat = 47 := ((congrArg (fun z : Int => kd z.toNat) (show M63 413 2 = v65 from e69)).symm.trans (CI.x hC_M63 (show kd 413 = 44 from rfl) 2 rfl (by decide)))
                refine jr.getf (i := 2) (x := v65) (v := .ref (v65.toNat)) rfl rfl (nlt rfl) rfl (nlt rfl) rfl rfl e69 rfl ?_
                refine jr.bipush rfl (jbp _ (nlt rfl)) ?_
                refine jr.iload_n rfl rfl ?_
                refine jr_v rfl rfl (Or.inl rfl) rfl rfl (Nat.lt_trans (kx_47 k70).1 (by decide)) (kx_47 k70).2 ⟨rfl, Nat.le_of_ble_eq_true rfl, Nat.le_of_ble_eq_true rfl⟩ rfl (jc.deep (c_Program_emit_m hC_M63 (FR.rfl _ M63) k70 (by omega) (by omega) (by have hq0 : M63 413 2 = v65 := e69; omega) (MP.fr (MP.fr (MP.fr w17_0 hC_M17 hf_M18 rfl) hC_M18 hf_M41 rfl) hC_M41 hf_M63 rfl) (fun r71 M71 hC_M71 hf_M71 z71 w71_0 => ?_)) (by omega))
                have ht_M71 : FR W_par T M71 := FR.t ht_M63 hf_M71 (kw_sub rfl)
                refine jr.pop rfl rfl ?_
                refine jr.aload_n rfl rfl ?_
                refine jr.bipush rfl (jbp _ (nlt rfl)) ?_
                have e73 : M63 413 3 = v1 := (hf_M63.g (show kd 413 = 44 from rfl) rfl).trans e64
                have e74 : M71 413 3 = v1 := (hf_M71.g (show kd 413 = 44 from rfl) rfl).trans e73
                refine jr_v rfl rfl (Or.inl rfl) rfl rfl (nlt rfl) rfl ⟨rfl, Nat.le_of_ble_eq_true rfl, Nat.le_of_ble_eq_true rfl⟩ rfl (jc.deep (c_Parser_expect hC_M71 (FR.rfl _ M71) (by omega) (by have hq0 : M71 413 3 = v1 := e74; omega) (fun M72 hC_M72 hf_M72  => ?_)) (by omega))
                have ht_M72 : FR W_par T M72 := FR.t ht_M71 hf_M72 (kw_sub rfl)
                refine jr.goto rfl rfl ?_
                exact jr.vreturn rfl rfl (q _ hC_M72 ht_M72  (MP.fr w71_0 hC_M71 hf_M72 rfl))
              · refine jr.aload_n rfl rfl ?_
                refine jr_v rfl rfl (Or.inl rfl) rfl rfl (nlt rfl) rfl ⟨rfl, Nat.le_of_ble_eq_true rfl, Nat.le_of_ble_eq_true rfl⟩ rfl (jc.deep (c_Parser_refuse hC_M41 (FR.rfl _ M41)  (fun M75 hC_M75 hf_M75 w75_0 => ?_)) (by omega))
                have ht_M75 : FR W_par T M75 := FR.t ht_M41 hf_M75 (kw_sub rfl)
                obtain ⟨v76, e76⟩ : ∃ z_, M75 413 0 = z_ := ⟨_, rfl⟩
                have b76 : (-2147483648) ≤ v76 ∧ v76 ≤ 2147483647 := by rw [← e76]; exact (CI.r hC_M75 (show kd 413 = 44 from rfl) (by decide) 0)
                refine jr.aload_n rfl rfl ?_
                have e78 : M41 413 3 = v1 := (hf_M41.g (show kd 413 = 44 from rfl) rfl).trans e42
                have e79 : M75 413 3 = v1 := (hf_M75.g (show kd 413 = 44 from rfl) rfl).trans e78
                refine jr_v rfl rfl (Or.inl rfl) rfl rfl (nlt rfl) rfl ⟨rfl, Nat.le_of_ble_eq_true rfl, Nat.le_of_ble_eq_true rfl⟩ rfl (jc.deep (c_Parser_advance hC_M75 (FR.rfl _ M75)  (by have hq0 : M75 413 3 = v1 := e79; omega) (fun M77 hC_M77 hf_M77  => ?_)) (by omega))
                have ht_M77 : FR W_par T M77 := FR.t ht_M75 hf_M77 (kw_sub rfl)
                refine jr.aload_n rfl rfl ?_
                obtain ⟨v80, e80⟩ : ∃ z_, M 413 2 = z_ := ⟨_, rfl⟩
                have b80 : 0 ≤ v80 ∧ v80 ≤ 597 := by rw [← e80]; exact (CI.r hC_M (show kd 413 = 44 from rfl) (by decide) 2)
                have e81 : M17 413 2 = v80 := (hf_M17.g (show kd 413 = 44 from rfl) rfl).trans e80
                have e82 : M18 413 2 = v80 := (hf_M18.g (show kd 413 = 44 from rfl) rfl).trans e81
                have e83 : M41 413 2 = v80 := (hf_M41.g (show kd 413 = 44 from rfl) rfl).trans e82
                have e84 : M75 413 2 = v80 := (hf_M75.g (show kd 413 = 44 from rfl) rfl).trans e83
                have e85 : M77 413 2 = v80 := (hf_M77.g (show kd 413 = 44 from rfl) rfl).trans e84
                have k86 : kd (v80).toNat = 47 := ((congrArg (fun z : Int => kd z.toNat) (show M77 413 2 = v80 from e85)).symm.trans (CI.x hC_M77 (show kd 413 = 44 from rfl) 2 rfl (by decide)))
                refine jr.getf (i := 2) (x := v80) (v := .ref (v80.toNat)) rfl rfl (nlt rfl) rfl (nlt rfl) rfl rfl e85 rfl ?_
                refine jr.bipush rfl (jbp _ (nlt rfl)) ?_
                refine jr.iload_n rfl rfl ?_
                refine jr_v rfl rfl (Or.inl rfl) rfl rfl (Nat.lt_trans (kx_47 k86).1 (by decide)) (kx_47 k86).2 ⟨rfl, Nat.le_of_ble_eq_true rfl, Nat.le_of_ble_eq_true rfl⟩ rfl (jc.deep (c_Program_emit_m hC_M77 (FR.rfl _ M77) k86 (by omega) (by omega) (by have hq0 : M77 413 2 = v80 := e85; omega) (MP.fr (MP.fr (MP.fr (MP.fr w17_0 hC_M17 hf_M18 rfl) hC_M18 hf_M41 rfl) hC_M41 hf_M75 rfl) hC_M75 hf_M77 rfl) (fun r87 M87 hC_M87 hf_M87 z87 w87_0 => ?_)) (by omega))
                have ht_M87 : FR W_par T M87 := FR.t ht_M77 hf_M87 (kw_sub rfl)
                refine jr.pop rfl rfl ?_
                refine jr.aload_n rfl rfl ?_
                refine jr.bipush rfl (jbp _ (nlt rfl)) ?_
                have e89 : M77 413 3 = v1 := (hf_M77.g (show kd 413 = 44 from rfl) rfl).trans e79
                have e90 : M87 413 3 = v1 := (hf_M87.g (show kd 413 = 44 from rfl) rfl).trans e89
                refine jr_v rfl rfl (Or.inl rfl) rfl rfl (nlt rfl) rfl ⟨rfl, Nat.le_of_ble_eq_true rfl, Nat.le_of_ble_eq_true rfl⟩ rfl (jc.deep (c_Parser_expect hC_M87 (FR.rfl _ M87) (by omega) (by have hq0 : M87 413 3 = v1 := e90; omega) (fun M88 hC_M88 hf_M88  => ?_)) (by omega))
                have ht_M88 : FR W_par T M88 := FR.t ht_M87 hf_M88 (kw_sub rfl)
                refine jr.goto rfl rfl ?_
                exact jr.vreturn rfl rfl (q _ hC_M88 ht_M88  (MP.fr w87_0 hC_M87 hf_M88 rfl))
        · refine jr.aload_n rfl rfl ?_
          refine jr_v rfl rfl (Or.inl rfl) rfl rfl (nlt rfl) rfl ⟨rfl, Nat.le_of_ble_eq_true rfl, Nat.le_of_ble_eq_true rfl⟩ rfl (jc.deep (c_Parser_refuse hC_M (FR.rfl _ M)  (fun M91 hC_M91 hf_M91 w91_0 => ?_)) (by omega))
          have ht_M91 : FR W_par T M91 := FR.t ht_M hf_M91 (kw_sub rfl)
          obtain ⟨v92, e92⟩ : ∃ z_, M91 413 0 = z_ := ⟨_, rfl⟩
          have b92 : (-2147483648) ≤ v92 ∧ v92 ≤ 2147483647 := by rw [← e92]; exact (CI.r hC_M91 (show kd 413 = 44 from rfl) (by decide) 0)
          exact jr.vreturn rfl rfl (q _ hC_M91 ht_M91  (MP.fr p1 hC_M hf_M91 rfl))
theorem c_Parser_one {A : Nat → Option (Nat × (Nat → Int32))} [HA A] {n : Nat} (ihP : PX A n) : PX_one A (n + 1) := by
  intro Q G T M hC_M ht_M x h_x F g_F p0 p1 p2 p3 q
  refine jc_of (m := xm_205) rfl (Nat.le_of_ble_eq_true rfl) rfl ?_
  have b_F : (-2147483648) ≤ F ∧ F ≤ 2147483647 := by rw [← g_F]; exact (CI.r hC_M (show kd 413 = 44 from rfl) (by decide) 0)
  obtain ⟨v1, e1⟩ : ∃ z_, M 413 3 = z_ := ⟨_, rfl⟩
  have b1 : 1 ≤ v1 ∧ v1 ≤ 419 := by rw [← e1]; exact (CI.r hC_M (show kd 413 = 44 from rfl) (by decide) 3)
  have b2 : 1 ≤ v1 ∧ v1 ≤ 1 := by rw [← e1]; exact p0
  have e3 : M 413 0 = F := g_F
  refine jr.aload_n rfl rfl ?_
  refine jr.getf (i := 0) (x := F) (v := .int (Int32.ofInt (F))) rfl rfl (nlt rfl) rfl (nlt rfl) rfl rfl g_F rfl ?_
  refine jr.if_eq rfl rfl (by first | (refine rgb (by assumption) ?_; exact rfl) | omega) (fun h4 => ?_) (fun h4 => ?_)
  · refine jr.aload_n rfl rfl ?_
    refine jr.bipush rfl (jbp _ (nlt rfl)) ?_
    refine jr_v rfl rfl (Or.inl rfl) rfl rfl (nlt rfl) rfl ⟨rfl, Nat.le_of_ble_eq_true rfl, Nat.le_of_ble_eq_true rfl⟩ rfl (jc.deep (c_Parser_isSign hC_M (by omega) (fun r4 z4  => ?_)) (by omega))
    refine jr.if_ne rfl rfl (by first | (refine rgb (by assumption) ?_; exact rfl) | omega) (fun h14 => ?_) (fun h14 => ?_)
    · refine jr.aload_n rfl rfl ?_
      obtain ⟨v5, e5⟩ : ∃ z_, M 413 11 = z_ := ⟨_, rfl⟩
      have b5 : 0 ≤ v5 ∧ v5 ≤ 255 := by rw [← e5]; exact (CI.r hC_M (show kd 413 = 44 from rfl) (by decide) 11)
      refine jr.getf (i := 11) (x := v5) (v := .int (Int32.ofInt (v5))) rfl rfl (nlt rfl) rfl (nlt rfl) rfl rfl e5 rfl ?_
      refine jr.bipush rfl (jbp _ (nlt rfl)) ?_
      refine jr.icmp_ne rfl rfl (by first | (refine rgb (by assumption) ?_; exact rfl) | omega) (rgl rfl) (fun h32 => ?_) (fun h32 => ?_)
      · refine jr.sipush rfl (by decide) ?_
        refine jr.istore_n (ls' := [_, _, _]) rfl (nlt rfl) rfl ?_
        refine jr.aload_n rfl rfl ?_
        refine jr_v rfl rfl (Or.inl rfl) rfl rfl (nlt rfl) rfl ⟨rfl, Nat.le_of_ble_eq_true rfl, Nat.le_of_ble_eq_true rfl⟩ rfl (jc.deep (c_Parser_countNode hC_M (FR.rfl _ M)  p2 (fun M6 hC_M6 hf_M6 w6_0 => ?_)) (by omega))
        have ht_M6 : FR W_par T M6 := FR.t ht_M hf_M6 (kw_sub rfl)
        refine jr.aload_n rfl rfl ?_
        refine jr.aload_n rfl rfl ?_
        have e7 : M6 413 11 = v5 := (hf_M6.g (show kd 413 = 44 from rfl) rfl).trans e5
        refine jr.getf (i := 11) (x := v5) (v := .int (Int32.ofInt (v5))) rfl rfl (nlt rfl) rfl (nlt rfl) rfl rfl e7 rfl ?_
        refine jr.iload_n rfl rfl ?_
        have e9 : M6 413 3 = v1 := (hf_M6.g (show kd 413 = 44 from rfl) rfl).trans e1
        refine jr_v rfl rfl (Or.inl rfl) rfl rfl (nlt rfl) rfl ⟨rfl, Nat.le_of_ble_eq_true rfl, Nat.le_of_ble_eq_true rfl⟩ rfl (jc.deep (c_Parser_open hC_M6 (FR.rfl _ M6) (by omega) (by omega) (by have hq0 : M6 413 3 = v1 := e9; omega) (fun M8 hC_M8 hf_M8 w8_0 => ?_)) (by omega))
        have ht_M8 : FR W_par T M8 := FR.t ht_M6 hf_M8 (kw_sub rfl)
        obtain ⟨v10, e10⟩ : ∃ z_, M8 413 0 = z_ := ⟨_, rfl⟩
        have b10 : (-2147483648) ≤ v10 ∧ v10 ≤ 2147483647 := by rw [← e10]; exact (CI.r hC_M8 (show kd 413 = 44 from rfl) (by decide) 0)
        refine jr.aload_n rfl rfl ?_
        refine jr.iload_n rfl rfl ?_
        refine jr.iconst rfl ?_
        refine jr.iadd rfl ?_
        have e12 : M8 413 3 = v1 := (hf_M8.g (show kd 413 = 44 from rfl) rfl).trans e9
        refine jr_v rfl rfl (Or.inl rfl) rfl rfl (nlt rfl) rfl ⟨rfl, Nat.le_of_ble_eq_true rfl, Nat.le_of_ble_eq_true rfl⟩ rfl (jc.deep (ihP.2.1 hC_M8 (FR.rfl _ M8) (by omega) e10 (by have hq0 : M8 413 3 = v1 := e12; omega) (by have hq0 : M8 413 0 = v10 := e10; omega) (MP.fr w6_0 hC_M6 hf_M8 rfl) (by omega) (fun M11 hC_M11 hf_M11 w11_0 w11_1 => ?_)) (by omega))
        have ht_M11 : FR W_par T M11 := FR.t ht_M8 hf_M11 (kw_sub rfl)
        obtain ⟨v13, e13⟩ : ∃ z_, M11 413 0 = z_ := ⟨_, rfl⟩
        have b13 : (-2147483648) ≤ v13 ∧ v13 ≤ 2147483647 := by rw [← e13]; exact (CI.r hC_M11 (show kd 413 = 44 from rfl) (by decide) 0)
        refine jr.aload_n rfl rfl ?_
        obtain ⟨v14, e14⟩ : ∃ z_, M 413 2 = z_ := ⟨_, rfl⟩
        have b14 : 0 ≤ v14 ∧ v14 ≤ 597 := by rw [← e14]; exact (CI.r hC_M (show kd 413 = 44 from rfl) (by decide) 2)
        have e15 : M6 413 2 = v14 := (hf_M6.g (show kd 413 = 44 from rfl) rfl).trans e14
        have e16 : M8 413 2 = v14 := (hf_M8.g (show kd 413 = 44 from rfl) rfl).trans e15
        have e17 : M11 413 2 = v14 := (hf_M11.g (show kd 413 = 44 from rfl) rfl).trans e16
        have k18 : kd (v14).toNat = 47 := ((congrArg (fun z : Int => kd z.toNat) (show M11 413 2 = v14 from e17)).symm.trans (CI.x hC_M11 (show kd 413 = 44 from rfl) 2 rfl (by decide)))
        refine jr.getf (i := 2) (x := v14) (v := .ref (v14.toNat)) rfl rfl (nlt rfl) rfl (nlt rfl) rfl rfl e17 rfl ?_
        refine jr.iload_n rfl rfl ?_
        refine jr.iconst rfl ?_
        refine jr_v rfl rfl (Or.inl rfl) rfl rfl (Nat.lt_trans (kx_47 k18).1 (by decide)) (kx_47 k18).2 ⟨rfl, Nat.le_of_ble_eq_true rfl, Nat.le_of_ble_eq_true rfl⟩ rfl (jc.deep (c_Program_emit_m hC_M11 (FR.rfl _ M11) k18 (by omega) (by omega) (by have hq0 : M11 413 2 = v14 := e17; omega) w11_0 (fun r19 M19 hC_M19 hf_M19 z19 w19_0 => ?_)) (by omega))
        have ht_M19 : FR W_par T M19 := FR.t ht_M11 hf_M19 (kw_sub rfl)
        refine jr.pop rfl rfl ?_
        refine jr.goto rfl rfl ?_
        have e20 : M19 413 0 = v13 := (hf_M19.g (show kd 413 = 44 from rfl) rfl).trans e13
        exact jr.vreturn rfl rfl (q _ hC_M19 ht_M19  w19_0 (by have hq0 : M19 413 0 = v13 := e20; omega))
      · refine jr.sipush rfl (by decide) ?_
        refine jr.goto rfl rfl ?_
        refine jr.istore_n (ls' := [_, _, _]) rfl (nlt rfl) rfl ?_
        refine jr.aload_n rfl rfl ?_
        refine jr_v rfl rfl (Or.inl rfl) rfl rfl (nlt rfl) rfl ⟨rfl, Nat.le_of_ble_eq_true rfl, Nat.le_of_ble_eq_true rfl⟩ rfl (jc.deep (c_Parser_countNode hC_M (FR.rfl _ M)  p2 (fun M21 hC_M21 hf_M21 w21_0 => ?_)) (by omega))
        have ht_M21 : FR W_par T M21 := FR.t ht_M hf_M21 (kw_sub rfl)
        refine jr.aload_n rfl rfl ?_
        refine jr.aload_n rfl rfl ?_
        have e22 : M21 413 11 = v5 := (hf_M21.g (show kd 413 = 44 from rfl) rfl).trans e5
        refine jr.getf (i := 11) (x := v5) (v := .int (Int32.ofInt (v5))) rfl rfl (nlt rfl) rfl (nlt rfl) rfl rfl e22 rfl ?_
        refine jr.iload_n rfl rfl ?_
        have e24 : M21 413 3 = v1 := (hf_M21.g (show kd 413 = 44 from rfl) rfl).trans e1
        refine jr_v rfl rfl (Or.inl rfl) rfl rfl (nlt rfl) rfl ⟨rfl, Nat.le_of_ble_eq_true rfl, Nat.le_of_ble_eq_true rfl⟩ rfl (jc.deep (c_Parser_open hC_M21 (FR.rfl _ M21) (by omega) (by omega) (by have hq0 : M21 413 3 = v1 := e24; omega) (fun M23 hC_M23 hf_M23 w23_0 => ?_)) (by omega))
        have ht_M23 : FR W_par T M23 := FR.t ht_M21 hf_M23 (kw_sub rfl)
        obtain ⟨v25, e25⟩ : ∃ z_, M23 413 0 = z_ := ⟨_, rfl⟩
        have b25 : (-2147483648) ≤ v25 ∧ v25 ≤ 2147483647 := by rw [← e25]; exact (CI.r hC_M23 (show kd 413 = 44 from rfl) (by decide) 0)
        refine jr.aload_n rfl rfl ?_
        refine jr.iload_n rfl rfl ?_
        refine jr.iconst rfl ?_
        refine jr.iadd rfl ?_
        have e27 : M23 413 3 = v1 := (hf_M23.g (show kd 413 = 44 from rfl) rfl).trans e24
        refine jr_v rfl rfl (Or.inl rfl) rfl rfl (nlt rfl) rfl ⟨rfl, Nat.le_of_ble_eq_true rfl, Nat.le_of_ble_eq_true rfl⟩ rfl (jc.deep (ihP.2.1 hC_M23 (FR.rfl _ M23) (by omega) e25 (by have hq0 : M23 413 3 = v1 := e27; omega) (by have hq0 : M23 413 0 = v25 := e25; omega) (MP.fr w21_0 hC_M21 hf_M23 rfl) (by omega) (fun M26 hC_M26 hf_M26 w26_0 w26_1 => ?_)) (by omega))
        have ht_M26 : FR W_par T M26 := FR.t ht_M23 hf_M26 (kw_sub rfl)
        obtain ⟨v28, e28⟩ : ∃ z_, M26 413 0 = z_ := ⟨_, rfl⟩
        have b28 : (-2147483648) ≤ v28 ∧ v28 ≤ 2147483647 := by rw [← e28]; exact (CI.r hC_M26 (show kd 413 = 44 from rfl) (by decide) 0)
        refine jr.aload_n rfl rfl ?_
        obtain ⟨v29, e29⟩ : ∃ z_, M 413 2 = z_ := ⟨_, rfl⟩
        have b29 : 0 ≤ v29 ∧ v29 ≤ 597 := by rw [← e29]; exact (CI.r hC_M (show kd 413 = 44 from rfl) (by decide) 2)
        have e30 : M21 413 2 = v29 := (hf_M21.g (show kd 413 = 44 from rfl) rfl).trans e29
        have e31 : M23 413 2 = v29 := (hf_M23.g (show kd 413 = 44 from rfl) rfl).trans e30
        have e32 : M26 413 2 = v29 := (hf_M26.g (show kd 413 = 44 from rfl) rfl).trans e31
        have k33 : kd (v29).toNat = 47 := ((congrArg (fun z : Int => kd z.toNat) (show M26 413 2 = v29 from e32)).symm.trans (CI.x hC_M26 (show kd 413 = 44 from rfl) 2 rfl (by decide)))
        refine jr.getf (i := 2) (x := v29) (v := .ref (v29.toNat)) rfl rfl (nlt rfl) rfl (nlt rfl) rfl rfl e32 rfl ?_
        refine jr.iload_n rfl rfl ?_
        refine jr.iconst rfl ?_
        refine jr_v rfl rfl (Or.inl rfl) rfl rfl (Nat.lt_trans (kx_47 k33).1 (by decide)) (kx_47 k33).2 ⟨rfl, Nat.le_of_ble_eq_true rfl, Nat.le_of_ble_eq_true rfl⟩ rfl (jc.deep (c_Program_emit_m hC_M26 (FR.rfl _ M26) k33 (by omega) (by omega) (by have hq0 : M26 413 2 = v29 := e32; omega) w26_0 (fun r34 M34 hC_M34 hf_M34 z34 w34_0 => ?_)) (by omega))
        have ht_M34 : FR W_par T M34 := FR.t ht_M26 hf_M34 (kw_sub rfl)
        refine jr.pop rfl rfl ?_
        refine jr.goto rfl rfl ?_
        have e35 : M34 413 0 = v28 := (hf_M34.g (show kd 413 = 44 from rfl) rfl).trans e28
        exact jr.vreturn rfl rfl (q _ hC_M34 ht_M34  w34_0 (by have hq0 : M34 413 0 = v28 := e35; omega))
    · refine jr.aload_n rfl rfl ?_
      refine jr.bipush rfl (jbp _ (nlt rfl)) ?_
      refine jr_v rfl rfl (Or.inl rfl) rfl rfl (nlt rfl) rfl ⟨rfl, Nat.le_of_ble_eq_true rfl, Nat.le_of_ble_eq_true rfl⟩ rfl (jc.deep (c_Parser_isSign hC_M (by omega) (fun r36 z36  => ?_)) (by omega))
      refine jr.if_eq rfl rfl (by first | (refine rgb (by assumption) ?_; exact rfl) | omega) (fun h23 => ?_) (fun h23 => ?_)
      · refine jr.aload_n rfl rfl ?_
        refine jr.bipush rfl (jbp _ (nlt rfl)) ?_
        refine jr_v rfl rfl (Or.inl rfl) rfl rfl (nlt rfl) rfl ⟨rfl, Nat.le_of_ble_eq_true rfl, Nat.le_of_ble_eq_true rfl⟩ rfl (jc.deep (c_Parser_isSign hC_M (by omega) (fun r37 z37  => ?_)) (by omega))
        refine jr.if_eq rfl rfl (by first | (refine rgb (by assumption) ?_; exact rfl) | omega) (fun h84 => ?_) (fun h84 => ?_)
        · refine jr.aload_n rfl rfl ?_
          obtain ⟨v38, e38⟩ : ∃ z_, M 413 6 = z_ := ⟨_, rfl⟩
          have b38 : (-2147483648) ≤ v38 ∧ v38 ≤ 2147483647 := by rw [← e38]; exact (CI.r hC_M (show kd 413 = 44 from rfl) (by decide) 6)
          refine jr.getf (i := 6) (x := v38) (v := .int (Int32.ofInt (v38))) rfl rfl (nlt rfl) rfl (nlt rfl) rfl rfl e38 rfl ?_
          refine jr.iconst rfl ?_
          refine jr.icmp_ne rfl rfl (by first | (refine rgb (by assumption) ?_; exact rfl) | omega) (rgl rfl) (fun h116 => ?_) (fun h116 => ?_)
          · refine jr.aload_n rfl rfl ?_
            refine jr.getf (i := 6) (x := v38) (v := .int (Int32.ofInt (v38))) rfl rfl (nlt rfl) rfl (nlt rfl) rfl rfl e38 rfl ?_
            refine jr.iconst rfl ?_
            refine jr.icmp_ne rfl rfl (by first | (refine rgb (by assumption) ?_; exact rfl) | omega) (rgl rfl) (fun h167 => ?_) (fun h167 => ?_)
            · refine jr.aload_n rfl rfl ?_
              refine jr.iload_n rfl rfl ?_
              refine jr_v rfl rfl (Or.inl rfl) rfl rfl (nlt rfl) rfl ⟨rfl, Nat.le_of_ble_eq_true rfl, Nat.le_of_ble_eq_true rfl⟩ rfl (jc.deep (ihP.1 hC_M (FR.rfl _ M) (by omega) (by have hq0 : M 413 3 = v1 := e1; omega) p2 (by omega) (fun M39 hC_M39 hf_M39 w39_0 => ?_)) (by omega))
              have ht_M39 : FR W_par T M39 := FR.t ht_M hf_M39 (kw_sub rfl)
              obtain ⟨v40, e40⟩ : ∃ z_, M39 413 0 = z_ := ⟨_, rfl⟩
              have b40 : (-2147483648) ≤ v40 ∧ v40 ≤ 2147483647 := by rw [← e40]; exact (CI.r hC_M39 (show kd 413 = 44 from rfl) (by decide) 0)
              exact jr.vreturn rfl rfl (q _ hC_M39 ht_M39  w39_0 (by have hq0 : M39 413 0 = v40 := e40; omega))
            · refine jr.aload_n rfl rfl ?_
              obtain ⟨v41, e41⟩ : ∃ z_, M 413 10 = z_ := ⟨_, rfl⟩
              have b41 : (-2147483648) ≤ v41 ∧ v41 ≤ 2147483647 := by rw [← e41]; exact (CI.r hC_M (show kd 413 = 44 from rfl) (by decide) 10)
              refine jr.getf (i := 10) (x := v41) (v := .int (Int32.ofInt (v41))) rfl rfl (nlt rfl) rfl (nlt rfl) rfl rfl e41 rfl ?_
              refine jr.bipush rfl (jbp _ (nlt rfl)) ?_
              refine jr.icmp_lt rfl rfl (by first | (refine rgb (by assumption) ?_; exact rfl) | omega) (rgl rfl) (fun h176 => ?_) (fun h176 => ?_)
              · refine jr.aload_n rfl rfl ?_
                refine jr.iload_n rfl rfl ?_
                refine jr_v rfl rfl (Or.inl rfl) rfl rfl (nlt rfl) rfl ⟨rfl, Nat.le_of_ble_eq_true rfl, Nat.le_of_ble_eq_true rfl⟩ rfl (jc.deep (ihP.1 hC_M (FR.rfl _ M) (by omega) (by have hq0 : M 413 3 = v1 := e1; omega) p2 (by omega) (fun M42 hC_M42 hf_M42 w42_0 => ?_)) (by omega))
                have ht_M42 : FR W_par T M42 := FR.t ht_M hf_M42 (kw_sub rfl)
                obtain ⟨v43, e43⟩ : ∃ z_, M42 413 0 = z_ := ⟨_, rfl⟩
                have b43 : (-2147483648) ≤ v43 ∧ v43 ≤ 2147483647 := by rw [← e43]; exact (CI.r hC_M42 (show kd 413 = 44 from rfl) (by decide) 0)
                exact jr.vreturn rfl rfl (q _ hC_M42 ht_M42  w42_0 (by have hq0 : M42 413 0 = v43 := e43; omega))
              · refine jr.aload_n rfl rfl ?_
                refine jr_v rfl rfl (Or.inl rfl) rfl rfl (nlt rfl) rfl ⟨rfl, Nat.le_of_ble_eq_true rfl, Nat.le_of_ble_eq_true rfl⟩ rfl (jc.deep (c_Parser_kindField hC_M (FR.rfl _ M)  (by have hq0 : M 413 3 = v1 := e1; omega) p2 (fun M44 hC_M44 hf_M44 w44_0 => ?_)) (by omega))
                have ht_M44 : FR W_par T M44 := FR.t ht_M hf_M44 (kw_sub rfl)
                refine jr.goto rfl rfl ?_
                obtain ⟨v45, e45⟩ : ∃ z_, M44 413 0 = z_ := ⟨_, rfl⟩
                have b45 : (-2147483648) ≤ v45 ∧ v45 ≤ 2147483647 := by rw [← e45]; exact (CI.r hC_M44 (show kd 413 = 44 from rfl) (by decide) 0)
                exact jr.vreturn rfl rfl (q _ hC_M44 ht_M44  w44_0 (by have hq0 : M44 413 0 = v45 := e45; omega))
          · refine jr.aload_n rfl rfl ?_
            refine jr_v rfl rfl (Or.inl rfl) rfl rfl (nlt rfl) rfl ⟨rfl, Nat.le_of_ble_eq_true rfl, Nat.le_of_ble_eq_true rfl⟩ rfl (jc.deep (c_Parser_countNode hC_M (FR.rfl _ M)  p2 (fun M46 hC_M46 hf_M46 w46_0 => ?_)) (by omega))
            have ht_M46 : FR W_par T M46 := FR.t ht_M hf_M46 (kw_sub rfl)
            refine jr.aload_n rfl rfl ?_
            obtain ⟨v47, e47⟩ : ∃ z_, M 413 9 = z_ := ⟨_, rfl⟩
            have b47 : (-9223372036854775808) ≤ v47 ∧ v47 ≤ 9223372036854775807 := by rw [← e47]; exact (CI.r hC_M (show kd 413 = 44 from rfl) (by decide) 9)
            have e48 : M46 413 9 = v47 := (hf_M46.g (show kd 413 = 44 from rfl) rfl).trans e47
            refine jr.getf (i := 9) (x := v47) (v := .long (Int64.ofInt (v47))) rfl rfl (nlt rfl) rfl (nlt rfl) rfl rfl e48 rfl ?_
            refine jr.ldc2 (x := 4294967295) rfl rfl (by decide) ?_
            refine jr.lcmp_le rfl rfl rfl (by omega) (by omega) (fun h130 => ?_) (fun h130 => ?_)
            · refine jr.aload_n rfl rfl ?_
              obtain ⟨v49, e49⟩ : ∃ z_, M 413 2 = z_ := ⟨_, rfl⟩
              have b49 : 0 ≤ v49 ∧ v49 ≤ 597 := by rw [← e49]; exact (CI.r hC_M (show kd 413 = 44 from rfl) (by decide) 2)
              have e50 : M46 413 2 = v49 := (hf_M46.g (show kd 413 = 44 from rfl) rfl).trans e49
              have k51 : kd (v49).toNat = 47 := ((congrArg (fun z : Int => kd z.toNat) (show M46 413 2 = v49 from e50)).symm.trans (CI.x hC_M46 (show kd 413 = 44 from rfl) 2 rfl (by decide)))
              refine jr.getf (i := 2) (x := v49) (v := .ref (v49.toNat)) rfl rfl (nlt rfl) rfl (nlt rfl) rfl rfl e50 rfl ?_
              refine jr.bipush rfl (jbp _ (nlt rfl)) ?_
              refine jr.aload_n rfl rfl ?_
              refine jr.getf (i := 9) (x := v47) (v := .long (Int64.ofInt (v47))) rfl rfl (nlt rfl) rfl (nlt rfl) rfl rfl e48 rfl ?_
              refine jr.l2i rfl ?_
              refine jr.iw (j_w v47) (j_w_eq _) ?_
              have b52 : -2147483648 ≤ j_w v47 ∧ j_w v47 ≤ 2147483647 := jb_any _
              generalize j_w v47 = v52 at b52 ⊢
              refine jr_v rfl rfl (Or.inl rfl) rfl rfl (Nat.lt_trans (kx_47 k51).1 (by decide)) (kx_47 k51).2 ⟨rfl, Nat.le_of_ble_eq_true rfl, Nat.le_of_ble_eq_true rfl⟩ rfl (jc.deep (c_Program_emit_m hC_M46 (FR.rfl _ M46) k51 (by omega) (by omega) (by have hq0 : M46 413 2 = v49 := e50; omega) w46_0 (fun r53 M53 hC_M53 hf_M53 z53 w53_0 => ?_)) (by omega))
              have ht_M53 : FR W_par T M53 := FR.t ht_M46 hf_M53 (kw_sub rfl)
              refine jr.pop rfl rfl ?_
              refine jr.aload_n rfl rfl ?_
              have e55 : M46 413 3 = v1 := (hf_M46.g (show kd 413 = 44 from rfl) rfl).trans e1
              have e56 : M53 413 3 = v1 := (hf_M53.g (show kd 413 = 44 from rfl) rfl).trans e55
              refine jr_v rfl rfl (Or.inl rfl) rfl rfl (nlt rfl) rfl ⟨rfl, Nat.le_of_ble_eq_true rfl, Nat.le_of_ble_eq_true rfl⟩ rfl (jc.deep (c_Parser_advance hC_M53 (FR.rfl _ M53)  (by have hq0 : M53 413 3 = v1 := e56; omega) (fun M54 hC_M54 hf_M54  => ?_)) (by omega))
              have ht_M54 : FR W_par T M54 := FR.t ht_M53 hf_M54 (kw_sub rfl)
              refine jr.goto rfl rfl ?_
              obtain ⟨v57, e57⟩ : ∃ z_, M46 413 0 = z_ := ⟨_, rfl⟩
              have b57 : (-2147483648) ≤ v57 ∧ v57 ≤ 2147483647 := by rw [← e57]; exact (CI.r hC_M46 (show kd 413 = 44 from rfl) (by decide) 0)
              have e58 : M53 413 0 = v57 := (hf_M53.g (show kd 413 = 44 from rfl) rfl).trans e57
              have e59 : M54 413 0 = v57 := (hf_M54.g (show kd 413 = 44 from rfl) rfl).trans e58
              exact jr.vreturn rfl rfl (q _ hC_M54 ht_M54  (MP.fr w53_0 hC_M53 hf_M54 rfl) (by have hq0 : M54 413 0 = v57 := e59; omega))
            · refine jr.aload_n rfl rfl ?_
              refine jr.bipush rfl (jbp _ (nlt rfl)) ?_
              refine jr_v rfl rfl (Or.inl rfl) rfl rfl (nlt rfl) rfl ⟨rfl, Nat.le_of_ble_eq_true rfl, Nat.le_of_ble_eq_true rfl⟩ rfl (jc.deep (c_Parser_fail hC_M46 (FR.rfl _ M46) (by omega) (fun M60 hC_M60 hf_M60 w60_0 => ?_)) (by omega))
              have ht_M60 : FR W_par T M60 := FR.t ht_M46 hf_M60 (kw_sub rfl)
              obtain ⟨v61, e61⟩ : ∃ z_, M60 413 0 = z_ := ⟨_, rfl⟩
              have b61 : (-2147483648) ≤ v61 ∧ v61 ≤ 2147483647 := by rw [← e61]; exact (CI.r hC_M60 (show kd 413 = 44 from rfl) (by decide) 0)
              refine jr.aload_n rfl rfl ?_
              obtain ⟨v62, e62⟩ : ∃ z_, M 413 2 = z_ := ⟨_, rfl⟩
              have b62 : 0 ≤ v62 ∧ v62 ≤ 597 := by rw [← e62]; exact (CI.r hC_M (show kd 413 = 44 from rfl) (by decide) 2)
              have e63 : M46 413 2 = v62 := (hf_M46.g (show kd 413 = 44 from rfl) rfl).trans e62
              have e64 : M60 413 2 = v62 := (hf_M60.g (show kd 413 = 44 from rfl) rfl).trans e63
              have k65 : kd (v62).toNat = 47 := ((congrArg (fun z : Int => kd z.toNat) (show M60 413 2 = v62 from e64)).symm.trans (CI.x hC_M60 (show kd 413 = 44 from rfl) 2 rfl (by decide)))
              refine jr.getf (i := 2) (x := v62) (v := .ref (v62.toNat)) rfl rfl (nlt rfl) rfl (nlt rfl) rfl rfl e64 rfl ?_
              refine jr.bipush rfl (jbp _ (nlt rfl)) ?_
              refine jr.aload_n rfl rfl ?_
              have e66 : M60 413 9 = v47 := (hf_M60.g (show kd 413 = 44 from rfl) rfl).trans e48
              refine jr.getf (i := 9) (x := v47) (v := .long (Int64.ofInt (v47))) rfl rfl (nlt rfl) rfl (nlt rfl) rfl rfl e66 rfl ?_
              refine jr.l2i rfl ?_
              refine jr.iw (j_w v47) (j_w_eq _) ?_
              have b67 : -2147483648 ≤ j_w v47 ∧ j_w v47 ≤ 2147483647 := jb_any _
              generalize j_w v47 = v67 at b67 ⊢
              refine jr_v rfl rfl (Or.inl rfl) rfl rfl (Nat.lt_trans (kx_47 k65).1 (by decide)) (kx_47 k65).2 ⟨rfl, Nat.le_of_ble_eq_true rfl, Nat.le_of_ble_eq_true rfl⟩ rfl (jc.deep (c_Program_emit_m hC_M60 (FR.rfl _ M60) k65 (by omega) (by omega) (by have hq0 : M60 413 2 = v62 := e64; omega) (MP.fr w46_0 hC_M46 hf_M60 rfl) (fun r68 M68 hC_M68 hf_M68 z68 w68_0 => ?_)) (by omega))
              have ht_M68 : FR W_par T M68 := FR.t ht_M60 hf_M68 (kw_sub rfl)
              refine jr.pop rfl rfl ?_
              refine jr.aload_n rfl rfl ?_
              have e70 : M46 413 3 = v1 := (hf_M46.g (show kd 413 = 44 from rfl) rfl).trans e1
              have e71 : M60 413 3 = v1 := (hf_M60.g (show kd 413 = 44 from rfl) rfl).trans e70
              have e72 : M68 413 3 = v1 := (hf_M68.g (show kd 413 = 44 from rfl) rfl).trans e71
              refine jr_v rfl rfl (Or.inl rfl) rfl rfl (nlt rfl) rfl ⟨rfl, Nat.le_of_ble_eq_true rfl, Nat.le_of_ble_eq_true rfl⟩ rfl (jc.deep (c_Parser_advance hC_M68 (FR.rfl _ M68)  (by have hq0 : M68 413 3 = v1 := e72; omega) (fun M69 hC_M69 hf_M69  => ?_)) (by omega))
              have ht_M69 : FR W_par T M69 := FR.t ht_M68 hf_M69 (kw_sub rfl)
              refine jr.goto rfl rfl ?_
              have e73 : M68 413 0 = v61 := (hf_M68.g (show kd 413 = 44 from rfl) rfl).trans e61
              have e74 : M69 413 0 = v61 := (hf_M69.g (show kd 413 = 44 from rfl) rfl).trans e73
              exact jr.vreturn rfl rfl (q _ hC_M69 ht_M69  (MP.fr w68_0 hC_M68 hf_M69 rfl) (by have hq0 : M69 413 0 = v61 := e74; omega))
        · refine jr.aload_n rfl rfl ?_
          refine jr.bipush rfl (jbp _ (nlt rfl)) ?_
          refine jr.iload_n rfl rfl ?_
          refine jr_v rfl rfl (Or.inl rfl) rfl rfl (nlt rfl) rfl ⟨rfl, Nat.le_of_ble_eq_true rfl, Nat.le_of_ble_eq_true rfl⟩ rfl (jc.deep (c_Parser_open hC_M (FR.rfl _ M) (by omega) (by omega) (by have hq0 : M 413 3 = v1 := e1; omega) (fun M75 hC_M75 hf_M75 w75_0 => ?_)) (by omega))
          have ht_M75 : FR W_par T M75 := FR.t ht_M hf_M75 (kw_sub rfl)
          obtain ⟨v76, e76⟩ : ∃ z_, M75 413 0 = z_ := ⟨_, rfl⟩
          have b76 : (-2147483648) ≤ v76 ∧ v76 ≤ 2147483647 := by rw [← e76]; exact (CI.r hC_M75 (show kd 413 = 44 from rfl) (by decide) 0)
          refine jr.aload_n rfl rfl ?_
          refine jr.iconst rfl ?_
          refine jr.iload_n rfl rfl ?_
          refine jr.iconst rfl ?_
          refine jr.iadd rfl ?_
          have e78 : M75 413 3 = v1 := (hf_M75.g (show kd 413 = 44 from rfl) rfl).trans e1
          refine jr_v rfl rfl (Or.inl rfl) rfl rfl (nlt rfl) rfl ⟨rfl, Nat.le_of_ble_eq_true rfl, Nat.le_of_ble_eq_true rfl⟩ rfl (jc.deep (ihP.2.2.1 hC_M75 (FR.rfl _ M75) (by omega) (by omega) e76 (by have hq0 : M75 413 3 = v1 := e78; omega) (by have hq0 : M75 413 0 = v76 := e76; omega) (MP.fr p2 hC_M hf_M75 rfl) (by omega) (fun M77 hC_M77 hf_M77 w77_0 w77_1 => ?_)) (by omega))
          have ht_M77 : FR W_par T M77 := FR.t ht_M75 hf_M77 (kw_sub rfl)
          obtain ⟨v79, e79⟩ : ∃ z_, M77 413 0 = z_ := ⟨_, rfl⟩
          have b79 : (-2147483648) ≤ v79 ∧ v79 ≤ 2147483647 := by rw [← e79]; exact (CI.r hC_M77 (show kd 413 = 44 from rfl) (by decide) 0)
          refine jr.aload_n rfl rfl ?_
          refine jr.bipush rfl (jbp _ (nlt rfl)) ?_
          have e81 : M77 413 3 = v1 := (hf_M77.g (show kd 413 = 44 from rfl) rfl).trans e78
          refine jr_v rfl rfl (Or.inl rfl) rfl rfl (nlt rfl) rfl ⟨rfl, Nat.le_of_ble_eq_true rfl, Nat.le_of_ble_eq_true rfl⟩ rfl (jc.deep (c_Parser_expect hC_M77 (FR.rfl _ M77) (by omega) (by have hq0 : M77 413 3 = v1 := e81; omega) (fun M80 hC_M80 hf_M80  => ?_)) (by omega))
          have ht_M80 : FR W_par T M80 := FR.t ht_M77 hf_M80 (kw_sub rfl)
          refine jr.goto rfl rfl ?_
          obtain ⟨v82, e82⟩ : ∃ z_, M80 413 0 = z_ := ⟨_, rfl⟩
          have b82 : (-2147483648) ≤ v82 ∧ v82 ≤ 2147483647 := by rw [← e82]; exact (CI.r hC_M80 (show kd 413 = 44 from rfl) (by decide) 0)
          exact jr.vreturn rfl rfl (q _ hC_M80 ht_M80  (MP.fr w77_0 hC_M77 hf_M80 rfl) (by have hq0 : M80 413 0 = v82 := e82; omega))
      · refine jr.aload_n rfl rfl ?_
        obtain ⟨v83, e83⟩ : ∃ z_, M 413 11 = z_ := ⟨_, rfl⟩
        have b83 : 0 ≤ v83 ∧ v83 ≤ 255 := by rw [← e83]; exact (CI.r hC_M (show kd 413 = 44 from rfl) (by decide) 11)
        refine jr.getf (i := 11) (x := v83) (v := .int (Int32.ofInt (v83))) rfl rfl (nlt rfl) rfl (nlt rfl) rfl rfl e83 rfl ?_
        refine jr.bipush rfl (jbp _ (nlt rfl)) ?_
        refine jr.icmp_ne rfl rfl (by first | (refine rgb (by assumption) ?_; exact rfl) | omega) (rgl rfl) (fun h32 => ?_) (fun h32 => ?_)
        · refine jr.sipush rfl (by decide) ?_
          refine jr.istore_n (ls' := [_, _, _]) rfl (nlt rfl) rfl ?_
          refine jr.aload_n rfl rfl ?_
          refine jr_v rfl rfl (Or.inl rfl) rfl rfl (nlt rfl) rfl ⟨rfl, Nat.le_of_ble_eq_true rfl, Nat.le_of_ble_eq_true rfl⟩ rfl (jc.deep (c_Parser_countNode hC_M (FR.rfl _ M)  p2 (fun M84 hC_M84 hf_M84 w84_0 => ?_)) (by omega))
          have ht_M84 : FR W_par T M84 := FR.t ht_M hf_M84 (kw_sub rfl)
          refine jr.aload_n rfl rfl ?_
          refine jr.aload_n rfl rfl ?_
          have e85 : M84 413 11 = v83 := (hf_M84.g (show kd 413 = 44 from rfl) rfl).trans e83
          refine jr.getf (i := 11) (x := v83) (v := .int (Int32.ofInt (v83))) rfl rfl (nlt rfl) rfl (nlt rfl) rfl rfl e85 rfl ?_
          refine jr.iload_n rfl rfl ?_
          have e87 : M84 413 3 = v1 := (hf_M84.g (show kd 413 = 44 from rfl) rfl).trans e1
          refine jr_v rfl rfl (Or.inl rfl) rfl rfl (nlt rfl) rfl ⟨rfl, Nat.le_of_ble_eq_true rfl, Nat.le_of_ble_eq_true rfl⟩ rfl (jc.deep (c_Parser_open hC_M84 (FR.rfl _ M84) (by omega) (by omega) (by have hq0 : M84 413 3 = v1 := e87; omega) (fun M86 hC_M86 hf_M86 w86_0 => ?_)) (by omega))
          have ht_M86 : FR W_par T M86 := FR.t ht_M84 hf_M86 (kw_sub rfl)
          obtain ⟨v88, e88⟩ : ∃ z_, M86 413 0 = z_ := ⟨_, rfl⟩
          have b88 : (-2147483648) ≤ v88 ∧ v88 ≤ 2147483647 := by rw [← e88]; exact (CI.r hC_M86 (show kd 413 = 44 from rfl) (by decide) 0)
          refine jr.aload_n rfl rfl ?_
          refine jr.iload_n rfl rfl ?_
          refine jr.iconst rfl ?_
          refine jr.iadd rfl ?_
          have e90 : M86 413 3 = v1 := (hf_M86.g (show kd 413 = 44 from rfl) rfl).trans e87
          refine jr_v rfl rfl (Or.inl rfl) rfl rfl (nlt rfl) rfl ⟨rfl, Nat.le_of_ble_eq_true rfl, Nat.le_of_ble_eq_true rfl⟩ rfl (jc.deep (ihP.2.1 hC_M86 (FR.rfl _ M86) (by omega) e88 (by have hq0 : M86 413 3 = v1 := e90; omega) (by have hq0 : M86 413 0 = v88 := e88; omega) (MP.fr w84_0 hC_M84 hf_M86 rfl) (by omega) (fun M89 hC_M89 hf_M89 w89_0 w89_1 => ?_)) (by omega))
          have ht_M89 : FR W_par T M89 := FR.t ht_M86 hf_M89 (kw_sub rfl)
          obtain ⟨v91, e91⟩ : ∃ z_, M89 413 0 = z_ := ⟨_, rfl⟩
          have b91 : (-2147483648) ≤ v91 ∧ v91 ≤ 2147483647 := by rw [← e91]; exact (CI.r hC_M89 (show kd 413 = 44 from rfl) (by decide) 0)
          refine jr.aload_n rfl rfl ?_
          obtain ⟨v92, e92⟩ : ∃ z_, M 413 2 = z_ := ⟨_, rfl⟩
          have b92 : 0 ≤ v92 ∧ v92 ≤ 597 := by rw [← e92]; exact (CI.r hC_M (show kd 413 = 44 from rfl) (by decide) 2)
          have e93 : M84 413 2 = v92 := (hf_M84.g (show kd 413 = 44 from rfl) rfl).trans e92
          have e94 : M86 413 2 = v92 := (hf_M86.g (show kd 413 = 44 from rfl) rfl).trans e93
          have e95 : M89 413 2 = v92 := (hf_M89.g (show kd 413 = 44 from rfl) rfl).trans e94
          have k96 : kd (v92).toNat = 47 := ((congrArg (fun z : Int => kd z.toNat) (show M89 413 2 = v92 from e95)).symm.trans (CI.x hC_M89 (show kd 413 = 44 from rfl) 2 rfl (by decide)))
          refine jr.getf (i := 2) (x := v92) (v := .ref (v92.toNat)) rfl rfl (nlt rfl) rfl (nlt rfl) rfl rfl e95 rfl ?_
          refine jr.iload_n rfl rfl ?_
          refine jr.iconst rfl ?_
          refine jr_v rfl rfl (Or.inl rfl) rfl rfl (Nat.lt_trans (kx_47 k96).1 (by decide)) (kx_47 k96).2 ⟨rfl, Nat.le_of_ble_eq_true rfl, Nat.le_of_ble_eq_true rfl⟩ rfl (jc.deep (c_Program_emit_m hC_M89 (FR.rfl _ M89) k96 (by omega) (by omega) (by have hq0 : M89 413 2 = v92 := e95; omega) w89_0 (fun r97 M97 hC_M97 hf_M97 z97 w97_0 => ?_)) (by omega))
          have ht_M97 : FR W_par T M97 := FR.t ht_M89 hf_M97 (kw_sub rfl)
          refine jr.pop rfl rfl ?_
          refine jr.goto rfl rfl ?_
          have e98 : M97 413 0 = v91 := (hf_M97.g (show kd 413 = 44 from rfl) rfl).trans e91
          exact jr.vreturn rfl rfl (q _ hC_M97 ht_M97  w97_0 (by have hq0 : M97 413 0 = v91 := e98; omega))
        · refine jr.sipush rfl (by decide) ?_
          refine jr.goto rfl rfl ?_
          refine jr.istore_n (ls' := [_, _, _]) rfl (nlt rfl) rfl ?_
          refine jr.aload_n rfl rfl ?_
          refine jr_v rfl rfl (Or.inl rfl) rfl rfl (nlt rfl) rfl ⟨rfl, Nat.le_of_ble_eq_true rfl, Nat.le_of_ble_eq_true rfl⟩ rfl (jc.deep (c_Parser_countNode hC_M (FR.rfl _ M)  p2 (fun M99 hC_M99 hf_M99 w99_0 => ?_)) (by omega))
          have ht_M99 : FR W_par T M99 := FR.t ht_M hf_M99 (kw_sub rfl)
          refine jr.aload_n rfl rfl ?_
          refine jr.aload_n rfl rfl ?_
          have e100 : M99 413 11 = v83 := (hf_M99.g (show kd 413 = 44 from rfl) rfl).trans e83
          refine jr.getf (i := 11) (x := v83) (v := .int (Int32.ofInt (v83))) rfl rfl (nlt rfl) rfl (nlt rfl) rfl rfl e100 rfl ?_
          refine jr.iload_n rfl rfl ?_
          have e102 : M99 413 3 = v1 := (hf_M99.g (show kd 413 = 44 from rfl) rfl).trans e1
          refine jr_v rfl rfl (Or.inl rfl) rfl rfl (nlt rfl) rfl ⟨rfl, Nat.le_of_ble_eq_true rfl, Nat.le_of_ble_eq_true rfl⟩ rfl (jc.deep (c_Parser_open hC_M99 (FR.rfl _ M99) (by omega) (by omega) (by have hq0 : M99 413 3 = v1 := e102; omega) (fun M101 hC_M101 hf_M101 w101_0 => ?_)) (by omega))
          have ht_M101 : FR W_par T M101 := FR.t ht_M99 hf_M101 (kw_sub rfl)
          obtain ⟨v103, e103⟩ : ∃ z_, M101 413 0 = z_ := ⟨_, rfl⟩
          have b103 : (-2147483648) ≤ v103 ∧ v103 ≤ 2147483647 := by rw [← e103]; exact (CI.r hC_M101 (show kd 413 = 44 from rfl) (by decide) 0)
          refine jr.aload_n rfl rfl ?_
          refine jr.iload_n rfl rfl ?_
          refine jr.iconst rfl ?_
          refine jr.iadd rfl ?_
          have e105 : M101 413 3 = v1 := (hf_M101.g (show kd 413 = 44 from rfl) rfl).trans e102
          refine jr_v rfl rfl (Or.inl rfl) rfl rfl (nlt rfl) rfl ⟨rfl, Nat.le_of_ble_eq_true rfl, Nat.le_of_ble_eq_true rfl⟩ rfl (jc.deep (ihP.2.1 hC_M101 (FR.rfl _ M101) (by omega) e103 (by have hq0 : M101 413 3 = v1 := e105; omega) (by have hq0 : M101 413 0 = v103 := e103; omega) (MP.fr w99_0 hC_M99 hf_M101 rfl) (by omega) (fun M104 hC_M104 hf_M104 w104_0 w104_1 => ?_)) (by omega))
          have ht_M104 : FR W_par T M104 := FR.t ht_M101 hf_M104 (kw_sub rfl)
          obtain ⟨v106, e106⟩ : ∃ z_, M104 413 0 = z_ := ⟨_, rfl⟩
          have b106 : (-2147483648) ≤ v106 ∧ v106 ≤ 2147483647 := by rw [← e106]; exact (CI.r hC_M104 (show kd 413 = 44 from rfl) (by decide) 0)
          refine jr.aload_n rfl rfl ?_
          obtain ⟨v107, e107⟩ : ∃ z_, M 413 2 = z_ := ⟨_, rfl⟩
          have b107 : 0 ≤ v107 ∧ v107 ≤ 597 := by rw [← e107]; exact (CI.r hC_M (show kd 413 = 44 from rfl) (by decide) 2)
          have e108 : M99 413 2 = v107 := (hf_M99.g (show kd 413 = 44 from rfl) rfl).trans e107
          have e109 : M101 413 2 = v107 := (hf_M101.g (show kd 413 = 44 from rfl) rfl).trans e108
          have e110 : M104 413 2 = v107 := (hf_M104.g (show kd 413 = 44 from rfl) rfl).trans e109
          have k111 : kd (v107).toNat = 47 := ((congrArg (fun z : Int => kd z.toNat) (show M104 413 2 = v107 from e110)).symm.trans (CI.x hC_M104 (show kd 413 = 44 from rfl) 2 rfl (by decide)))
          refine jr.getf (i := 2) (x := v107) (v := .ref (v107.toNat)) rfl rfl (nlt rfl) rfl (nlt rfl) rfl rfl e110 rfl ?_
          refine jr.iload_n rfl rfl ?_
          refine jr.iconst rfl ?_
          refine jr_v rfl rfl (Or.inl rfl) rfl rfl (Nat.lt_trans (kx_47 k111).1 (by decide)) (kx_47 k111).2 ⟨rfl, Nat.le_of_ble_eq_true rfl, Nat.le_of_ble_eq_true rfl⟩ rfl (jc.deep (c_Program_emit_m hC_M104 (FR.rfl _ M104) k111 (by omega) (by omega) (by have hq0 : M104 413 2 = v107 := e110; omega) w104_0 (fun r112 M112 hC_M112 hf_M112 z112 w112_0 => ?_)) (by omega))
          have ht_M112 : FR W_par T M112 := FR.t ht_M104 hf_M112 (kw_sub rfl)
          refine jr.pop rfl rfl ?_
          refine jr.goto rfl rfl ?_
          have e113 : M112 413 0 = v106 := (hf_M112.g (show kd 413 = 44 from rfl) rfl).trans e106
          exact jr.vreturn rfl rfl (q _ hC_M112 ht_M112  w112_0 (by have hq0 : M112 413 0 = v106 := e113; omega))
  · exact jr.vreturn rfl rfl (q _ hC_M ht_M  p2 (by have hq0 : M 413 0 = F := g_F; omega))
theorem c_Parser_exp_L21 {A : Nat → Option (Nat × (Nat → Int32))} [HA A] {Q : Option Value → jm → Prop} {G : Nat → Int → Int} {T : jm} {n : Nat} (ihP : PX A n) {F : Int} {x : Int} {y : Int} (q : ∀ (M' : jm), CI M' → FR W_par T M' → (MP M' G) → (F = 0 ∨ M' 413 0 ≠ 0) → Q none M') : ∀ (nM : Nat) (M : jm) (i : Int), CI M → FR W_par T M → 0 ≤ x ∧ x ≤ 4 → 0 ≤ y ∧ y ≤ 13 → 0 ≤ i ∧ i ≤ 1601 → (1 ≤ M 413 3 ∧ M 413 3 ≤ 1) → (y ≤ 12 ∨ M 413 0 ≠ 0) → (F = 0 ∨ M 413 0 ≠ 0) → (MP M G) → (20 * (13 - y) + (8 - x) ≤ ((n + 1 : Nat) : Int)) → 1601 - i ≤ nM → jr A (n + 60) xm_203 21 [(1, .int (Int32.ofInt (x))), (2, .int (Int32.ofInt (y))), (3, .int (Int32.ofInt (i))), (0, .ref (413))] [] M Q := by
  intro nM
  induction nM using Nat.strongRecOn with
  | ind nM ih =>
    intro M i hC_M ht_M h_x h_y h_i hy0 hy1 hy2 hy3 hy4 hm
    obtain ⟨v1, e1⟩ : ∃ z_, M 413 3 = z_ := ⟨_, rfl⟩
    have b1 : 1 ≤ v1 ∧ v1 ≤ 419 := by rw [← e1]; exact (CI.r hC_M (show kd 413 = 44 from rfl) (by decide) 3)
    have b2 : 1 ≤ v1 ∧ v1 ≤ 1 := by rw [← e1]; exact hy0
    obtain ⟨v3, e3⟩ : ∃ z_, M 413 0 = z_ := ⟨_, rfl⟩
    have b3 : (-2147483648) ≤ v3 ∧ v3 ≤ 2147483647 := by rw [← e3]; exact (CI.r hC_M (show kd 413 = 44 from rfl) (by decide) 0)
    refine jr.iload_n rfl rfl ?_
    refine jr.aload_n rfl rfl ?_
    obtain ⟨v4, e4⟩ : ∃ z_, M 413 4 = z_ := ⟨_, rfl⟩
    have b4 : 0 ≤ v4 ∧ v4 ≤ 1600 := by rw [← e4]; exact (CI.r hC_M (show kd 413 = 44 from rfl) (by decide) 4)
    refine jr.getf (i := 4) (x := v4) (v := .int (Int32.ofInt (v4))) rfl rfl (nlt rfl) rfl (nlt rfl) rfl rfl e4 rfl ?_
    refine jr.icmp_gt rfl rfl (by first | (refine rgb (by assumption) ?_; exact rfl) | omega) (by first | (refine rgb (by assumption) ?_; exact rfl) | omega) (fun h26 => ?_) (fun h26 => ?_)
    · exact jr.vreturn rfl rfl (q _ hC_M ht_M  hy3 (by have hq0 : M 413 0 = v3 := e3; omega))
    · refine jr.aload_n rfl rfl ?_
      refine jr.getf (i := 0) (x := v3) (v := .int (Int32.ofInt (v3))) rfl rfl (nlt rfl) rfl (nlt rfl) rfl rfl e3 rfl ?_
      refine jr.if_ne rfl rfl (by first | (refine rgb (by assumption) ?_; exact rfl) | omega) (fun h33 => ?_) (fun h33 => ?_)
      · exact jr.vreturn rfl rfl (q _ hC_M ht_M  hy3 (by have hq0 : M 413 0 = v3 := e3; omega))
      · refine jr.aload_n rfl rfl ?_
        refine jr_v rfl rfl (Or.inl rfl) rfl rfl (nlt rfl) rfl ⟨rfl, Nat.le_of_ble_eq_true rfl, Nat.le_of_ble_eq_true rfl⟩ rfl (jc.deep (c_Parser_rankOfSign hC_M  (fun r5 z5  => ?_)) (by omega))
        refine jr.iload_n rfl rfl ?_
        refine jr.icmp_ne rfl rfl (by first | (refine rgb (by assumption) ?_; exact rfl) | omega) (by first | (refine rgb (by assumption) ?_; exact rfl) | omega) (fun h41 => ?_) (fun h41 => ?_)
        · exact jr.vreturn rfl rfl (q _ hC_M ht_M  hy3 (by have hq0 : M 413 0 = v3 := e3; omega))
        · refine jr.aload_n rfl rfl ?_
          obtain ⟨v6, e6⟩ : ∃ z_, M 413 11 = z_ := ⟨_, rfl⟩
          have b6 : 0 ≤ v6 ∧ v6 ≤ 255 := by rw [← e6]; exact (CI.r hC_M (show kd 413 = 44 from rfl) (by decide) 11)
          refine jr.getf (i := 11) (x := v6) (v := .int (Int32.ofInt (v6))) rfl rfl (nlt rfl) rfl (nlt rfl) rfl rfl e6 rfl ?_
          refine jr.istore rfl (nlt rfl) rfl ?_
          refine jr.aload_n rfl rfl ?_
          refine jr_v rfl rfl (Or.inl rfl) rfl rfl (nlt rfl) rfl ⟨rfl, Nat.le_of_ble_eq_true rfl, Nat.le_of_ble_eq_true rfl⟩ rfl (jc.deep (c_Parser_countNode hC_M (FR.rfl _ M)  hy3 (fun M7 hC_M7 hf_M7 w7_0 => ?_)) (by omega))
          have ht_M7 : FR W_par T M7 := FR.t ht_M hf_M7 (kw_sub rfl)
          refine jr.aload_n rfl rfl ?_
          have e9 : M7 413 3 = v1 := (hf_M7.g (show kd 413 = 44 from rfl) rfl).trans e1
          refine jr_v rfl rfl (Or.inl rfl) rfl rfl (nlt rfl) rfl ⟨rfl, Nat.le_of_ble_eq_true rfl, Nat.le_of_ble_eq_true rfl⟩ rfl (jc.deep (c_Parser_advance hC_M7 (FR.rfl _ M7)  (by have hq0 : M7 413 3 = v1 := e9; omega) (fun M8 hC_M8 hf_M8  => ?_)) (by omega))
          have ht_M8 : FR W_par T M8 := FR.t ht_M7 hf_M8 (kw_sub rfl)
          refine jr.iconst rfl ?_
          refine jr.istore rfl (nlt rfl) rfl ?_
          refine jr.iload_n rfl rfl ?_
          refine jr.iconst rfl ?_
          refine jr.icmp_gt rfl rfl (by first | (refine rgb (by assumption) ?_; exact rfl) | omega) (rgl rfl) (fun h63 => ?_) (fun h63 => ?_)
          · refine jr.aload_n rfl rfl ?_
            refine jr.iload_n rfl rfl ?_
            refine jr.iconst rfl ?_
            refine jr.iadd rfl ?_
            refine jr.iload_n rfl rfl ?_
            obtain ⟨v11, e11⟩ : ∃ z_, M7 413 0 = z_ := ⟨_, rfl⟩
            have b11 : (-2147483648) ≤ v11 ∧ v11 ≤ 2147483647 := by rw [← e11]; exact (CI.r hC_M7 (show kd 413 = 44 from rfl) (by decide) 0)
            have e12 : M8 413 0 = v11 := (hf_M8.g (show kd 413 = 44 from rfl) rfl).trans e11
            have e13 : M8 413 3 = v1 := (hf_M8.g (show kd 413 = 44 from rfl) rfl).trans e9
            refine jr_v rfl rfl (Or.inl rfl) rfl rfl (nlt rfl) rfl ⟨rfl, Nat.le_of_ble_eq_true rfl, Nat.le_of_ble_eq_true rfl⟩ rfl (jc.deep (ihP.2.2.1 hC_M8 (FR.rfl _ M8) (by omega) (by omega) e12 (by have hq0 : M8 413 3 = v1 := e13; omega) (by have hq0 : M8 413 0 = v11 := e12; omega) (MP.fr w7_0 hC_M7 hf_M8 rfl) (by omega) (fun M10 hC_M10 hf_M10 w10_0 w10_1 => ?_)) (by omega))
            have ht_M10 : FR W_par T M10 := FR.t ht_M8 hf_M10 (kw_sub rfl)
            obtain ⟨v14, e14⟩ : ∃ z_, M10 413 0 = z_ := ⟨_, rfl⟩
            have b14 : (-2147483648) ≤ v14 ∧ v14 ≤ 2147483647 := by rw [← e14]; exact (CI.r hC_M10 (show kd 413 = 44 from rfl) (by decide) 0)
            refine jr.aload_n rfl rfl ?_
            obtain ⟨v15, e15⟩ : ∃ z_, M 413 2 = z_ := ⟨_, rfl⟩
            have b15 : 0 ≤ v15 ∧ v15 ≤ 597 := by rw [← e15]; exact (CI.r hC_M (show kd 413 = 44 from rfl) (by decide) 2)
            have e16 : M7 413 2 = v15 := (hf_M7.g (show kd 413 = 44 from rfl) rfl).trans e15
            have e17 : M8 413 2 = v15 := (hf_M8.g (show kd 413 = 44 from rfl) rfl).trans e16
            have e18 : M10 413 2 = v15 := (hf_M10.g (show kd 413 = 44 from rfl) rfl).trans e17
            have k19 : kd (v15).toNat = 47 := ((congrArg (fun z : Int => kd z.toNat) (show M10 413 2 = v15 from e18)).symm.trans (CI.x hC_M10 (show kd 413 = 44 from rfl) 2 rfl (by decide)))
            refine jr.getf (i := 2) (x := v15) (v := .ref (v15.toNat)) rfl rfl (nlt rfl) rfl (nlt rfl) rfl rfl e18 rfl ?_
            refine jr.iload_n rfl rfl ?_
            refine jr.iconst rfl ?_
            refine jr.icmp_gt rfl rfl (by first | (refine rgb (by assumption) ?_; exact rfl) | omega) (rgl rfl) (fun h103 => ?_) (fun h103 => ?_)
            · refine jr.sipush rfl (by decide) ?_
              refine jr.iload rfl rfl ?_
              refine jr.iadd rfl ?_
              refine jr.iconst rfl ?_
              refine jr_v rfl rfl (Or.inl rfl) rfl rfl (Nat.lt_trans (kx_47 k19).1 (by decide)) (kx_47 k19).2 ⟨rfl, Nat.le_of_ble_eq_true rfl, Nat.le_of_ble_eq_true rfl⟩ rfl (jc.deep (c_Program_emit_m hC_M10 (FR.rfl _ M10) k19 (by omega) (by omega) (by have hq0 : M10 413 2 = v15 := e18; omega) w10_0 (fun r20 M20 hC_M20 hf_M20 z20 w20_0 => ?_)) (by omega))
              have ht_M20 : FR W_par T M20 := FR.t ht_M10 hf_M20 (kw_sub rfl)
              refine jr.pop rfl rfl ?_
              refine jr.aload_n rfl rfl ?_
              have e21 : M20 413 2 = v15 := (hf_M20.g (show kd 413 = 44 from rfl) rfl).trans e18
              have k22 : kd (v15).toNat = 47 := ((congrArg (fun z : Int => kd z.toNat) (show M20 413 2 = v15 from e21)).symm.trans (CI.x hC_M20 (show kd 413 = 44 from rfl) 2 rfl (by decide)))
              refine jr.getf (i := 2) (x := v15) (v := .ref (v15.toNat)) rfl rfl (nlt rfl) rfl (nlt rfl) rfl rfl e21 rfl ?_
              refine jr.iload rfl rfl ?_
              refine jr_v rfl rfl (Or.inl rfl) rfl rfl (Nat.lt_trans (kx_47 k22).1 (by decide)) (kx_47 k22).2 ⟨rfl, Nat.le_of_ble_eq_true rfl, Nat.le_of_ble_eq_true rfl⟩ rfl (jc.deep (c_Program_land_m hC_M20 (FR.rfl _ M20) k22 (by omega) (by have hq0 : M20 413 2 = v15 := e21; omega) w20_0 (fun M23 hC_M23 hf_M23 w23_0 => ?_)) (by omega))
              have ht_M23 : FR W_par T M23 := FR.t ht_M20 hf_M23 (kw_sub rfl)
              refine jr.iload_n rfl rfl ?_
              refine jr.iconst rfl ?_
              refine jr.icmp_ne rfl rfl (by first | (refine rgb (by assumption) ?_; exact rfl) | omega) (rgl rfl) (fun h134 => ?_) (fun h134 => ?_)
              · have sx134 : (3 : Int) ≤ x := by omega
                clear h134
                refine jr.iinc rfl rfl (nlt rfl) rfl ?_
                refine jr.goto rfl rfl ?_
                have e24 : M10 413 3 = v1 := (hf_M10.g (show kd 413 = 44 from rfl) rfl).trans e13
                have e25 : M20 413 3 = v1 := (hf_M20.g (show kd 413 = 44 from rfl) rfl).trans e24
                have e26 : M23 413 3 = v1 := (hf_M23.g (show kd 413 = 44 from rfl) rfl).trans e25
                have e27 : M20 413 0 = v14 := (hf_M20.g (show kd 413 = 44 from rfl) rfl).trans e14
                have e28 : M23 413 0 = v14 := (hf_M23.g (show kd 413 = 44 from rfl) rfl).trans e27
                refine jr.pick [3, 4, 0, 5] rfl rfl ?_
                exact ih (nM - 1) (by omega) M23 (i + 1) hC_M23 ht_M23 (by omega) (by omega) (by omega) (by have hq0 : M23 413 3 = v1 := e26; omega) (by have hq0 : M23 413 0 = v14 := e28; omega) (by have hq0 : M23 413 0 = v14 := e28; omega) w23_0 (by omega) (by omega)
              · have e29 : M20 413 0 = v14 := (hf_M20.g (show kd 413 = 44 from rfl) rfl).trans e14
                have e30 : M23 413 0 = v14 := (hf_M23.g (show kd 413 = 44 from rfl) rfl).trans e29
                exact jr.vreturn rfl rfl (q _ hC_M23 ht_M23  w23_0 (by have hq0 : M23 413 0 = v14 := e30; omega))
            · exact absurd (by omega) h103
          · refine jr.aload_n rfl rfl ?_
            obtain ⟨v31, e31⟩ : ∃ z_, M 413 2 = z_ := ⟨_, rfl⟩
            have b31 : 0 ≤ v31 ∧ v31 ≤ 597 := by rw [← e31]; exact (CI.r hC_M (show kd 413 = 44 from rfl) (by decide) 2)
            have e32 : M7 413 2 = v31 := (hf_M7.g (show kd 413 = 44 from rfl) rfl).trans e31
            have e33 : M8 413 2 = v31 := (hf_M8.g (show kd 413 = 44 from rfl) rfl).trans e32
            have k34 : kd (v31).toNat = 47 := ((congrArg (fun z : Int => kd z.toNat) (show M8 413 2 = v31 from e33)).symm.trans (CI.x hC_M8 (show kd 413 = 44 from rfl) 2 rfl (by decide)))
            refine jr.getf (i := 2) (x := v31) (v := .ref (v31.toNat)) rfl rfl (nlt rfl) rfl (nlt rfl) rfl rfl e33 rfl ?_
            refine jr.iload_n rfl rfl ?_
            refine jr.if_ne rfl rfl (by first | (refine rgb (by assumption) ?_; exact rfl) | omega) (fun h71 => ?_) (fun h71 => ?_)
            · have sx71 : (1 : Int) ≤ x := by omega
              clear h71
              refine jr.sipush rfl (by decide) ?_
              refine jr.iconst rfl ?_
              refine jr_v rfl rfl (Or.inl rfl) rfl rfl (Nat.lt_trans (kx_47 k34).1 (by decide)) (kx_47 k34).2 ⟨rfl, Nat.le_of_ble_eq_true rfl, Nat.le_of_ble_eq_true rfl⟩ rfl (jc.deep (c_Program_emit_m hC_M8 (FR.rfl _ M8) k34 (by omega) (by omega) (by have hq0 : M8 413 2 = v31 := e33; omega) (MP.fr w7_0 hC_M7 hf_M8 rfl) (fun r35 M35 hC_M35 hf_M35 z35 w35_0 => ?_)) (by omega))
              have ht_M35 : FR W_par T M35 := FR.t ht_M8 hf_M35 (kw_sub rfl)
              refine jr.istore rfl (nlt rfl) rfl ?_
              refine jr.aload_n rfl rfl ?_
              refine jr.iload_n rfl rfl ?_
              refine jr.iconst rfl ?_
              refine jr.iadd rfl ?_
              refine jr.iload_n rfl rfl ?_
              obtain ⟨v37, e37⟩ : ∃ z_, M7 413 0 = z_ := ⟨_, rfl⟩
              have b37 : (-2147483648) ≤ v37 ∧ v37 ≤ 2147483647 := by rw [← e37]; exact (CI.r hC_M7 (show kd 413 = 44 from rfl) (by decide) 0)
              have e38 : M8 413 0 = v37 := (hf_M8.g (show kd 413 = 44 from rfl) rfl).trans e37
              have e39 : M35 413 0 = v37 := (hf_M35.g (show kd 413 = 44 from rfl) rfl).trans e38
              have e40 : M8 413 3 = v1 := (hf_M8.g (show kd 413 = 44 from rfl) rfl).trans e9
              have e41 : M35 413 3 = v1 := (hf_M35.g (show kd 413 = 44 from rfl) rfl).trans e40
              refine jr_v rfl rfl (Or.inl rfl) rfl rfl (nlt rfl) rfl ⟨rfl, Nat.le_of_ble_eq_true rfl, Nat.le_of_ble_eq_true rfl⟩ rfl (jc.deep (ihP.2.2.1 hC_M35 (FR.rfl _ M35) (by omega) (by omega) e39 (by have hq0 : M35 413 3 = v1 := e41; omega) (by have hq0 : M35 413 0 = v37 := e39; omega) w35_0 (by omega) (fun M36 hC_M36 hf_M36 w36_0 w36_1 => ?_)) (by omega))
              have ht_M36 : FR W_par T M36 := FR.t ht_M35 hf_M36 (kw_sub rfl)
              obtain ⟨v42, e42⟩ : ∃ z_, M36 413 0 = z_ := ⟨_, rfl⟩
              have b42 : (-2147483648) ≤ v42 ∧ v42 ≤ 2147483647 := by rw [← e42]; exact (CI.r hC_M36 (show kd 413 = 44 from rfl) (by decide) 0)
              refine jr.aload_n rfl rfl ?_
              have e43 : M35 413 2 = v31 := (hf_M35.g (show kd 413 = 44 from rfl) rfl).trans e33
              have e44 : M36 413 2 = v31 := (hf_M36.g (show kd 413 = 44 from rfl) rfl).trans e43
              have k45 : kd (v31).toNat = 47 := ((congrArg (fun z : Int => kd z.toNat) (show M36 413 2 = v31 from e44)).symm.trans (CI.x hC_M36 (show kd 413 = 44 from rfl) 2 rfl (by decide)))
              refine jr.getf (i := 2) (x := v31) (v := .ref (v31.toNat)) rfl rfl (nlt rfl) rfl (nlt rfl) rfl rfl e44 rfl ?_
              refine jr.iload_n rfl rfl ?_
              refine jr.iconst rfl ?_
              refine jr.icmp_gt rfl rfl (by first | (refine rgb (by assumption) ?_; exact rfl) | omega) (rgl rfl) (fun h103 => ?_) (fun h103 => ?_)
              · exact absurd h103 (by omega)
              · refine jr.sipush rfl (by decide) ?_
                refine jr.goto rfl rfl ?_
                refine jr.iconst rfl ?_
                refine jr_v rfl rfl (Or.inl rfl) rfl rfl (Nat.lt_trans (kx_47 k45).1 (by decide)) (kx_47 k45).2 ⟨rfl, Nat.le_of_ble_eq_true rfl, Nat.le_of_ble_eq_true rfl⟩ rfl (jc.deep (c_Program_emit_m hC_M36 (FR.rfl _ M36) k45 (by omega) (by omega) (by have hq0 : M36 413 2 = v31 := e44; omega) w36_0 (fun r46 M46 hC_M46 hf_M46 z46 w46_0 => ?_)) (by omega))
                have ht_M46 : FR W_par T M46 := FR.t ht_M36 hf_M46 (kw_sub rfl)
                refine jr.pop rfl rfl ?_
                refine jr.aload_n rfl rfl ?_
                have e47 : M46 413 2 = v31 := (hf_M46.g (show kd 413 = 44 from rfl) rfl).trans e44
                have k48 : kd (v31).toNat = 47 := ((congrArg (fun z : Int => kd z.toNat) (show M46 413 2 = v31 from e47)).symm.trans (CI.x hC_M46 (show kd 413 = 44 from rfl) 2 rfl (by decide)))
                refine jr.getf (i := 2) (x := v31) (v := .ref (v31.toNat)) rfl rfl (nlt rfl) rfl (nlt rfl) rfl rfl e47 rfl ?_
                refine jr.iload rfl rfl ?_
                refine jr_v rfl rfl (Or.inl rfl) rfl rfl (Nat.lt_trans (kx_47 k48).1 (by decide)) (kx_47 k48).2 ⟨rfl, Nat.le_of_ble_eq_true rfl, Nat.le_of_ble_eq_true rfl⟩ rfl (jc.deep (c_Program_land_m hC_M46 (FR.rfl _ M46) k48 (by omega) (by have hq0 : M46 413 2 = v31 := e47; omega) w46_0 (fun M49 hC_M49 hf_M49 w49_0 => ?_)) (by omega))
                have ht_M49 : FR W_par T M49 := FR.t ht_M46 hf_M49 (kw_sub rfl)
                refine jr.iload_n rfl rfl ?_
                refine jr.iconst rfl ?_
                refine jr.icmp_ne rfl rfl (by first | (refine rgb (by assumption) ?_; exact rfl) | omega) (rgl rfl) (fun h134 => ?_) (fun h134 => ?_)
                · refine jr.iinc rfl rfl (nlt rfl) rfl ?_
                  refine jr.goto rfl rfl ?_
                  have e50 : M36 413 3 = v1 := (hf_M36.g (show kd 413 = 44 from rfl) rfl).trans e41
                  have e51 : M46 413 3 = v1 := (hf_M46.g (show kd 413 = 44 from rfl) rfl).trans e50
                  have e52 : M49 413 3 = v1 := (hf_M49.g (show kd 413 = 44 from rfl) rfl).trans e51
                  have e53 : M46 413 0 = v42 := (hf_M46.g (show kd 413 = 44 from rfl) rfl).trans e42
                  have e54 : M49 413 0 = v42 := (hf_M49.g (show kd 413 = 44 from rfl) rfl).trans e53
                  refine jr.pick [3, 4, 0, 5] rfl rfl ?_
                  exact ih (nM - 1) (by omega) M49 (i + 1) hC_M49 ht_M49 (by omega) (by omega) (by omega) (by have hq0 : M49 413 3 = v1 := e52; omega) (by have hq0 : M49 413 0 = v42 := e54; omega) (by have hq0 : M49 413 0 = v42 := e54; omega) w49_0 (by omega) (by omega)
                · exact absurd (by omega) h134
            · refine jr.sipush rfl (by decide) ?_
              refine jr.goto rfl rfl ?_
              refine jr.iconst rfl ?_
              refine jr_v rfl rfl (Or.inl rfl) rfl rfl (Nat.lt_trans (kx_47 k34).1 (by decide)) (kx_47 k34).2 ⟨rfl, Nat.le_of_ble_eq_true rfl, Nat.le_of_ble_eq_true rfl⟩ rfl (jc.deep (c_Program_emit_m hC_M8 (FR.rfl _ M8) k34 (by omega) (by omega) (by have hq0 : M8 413 2 = v31 := e33; omega) (MP.fr w7_0 hC_M7 hf_M8 rfl) (fun r55 M55 hC_M55 hf_M55 z55 w55_0 => ?_)) (by omega))
              have ht_M55 : FR W_par T M55 := FR.t ht_M8 hf_M55 (kw_sub rfl)
              refine jr.istore rfl (nlt rfl) rfl ?_
              refine jr.aload_n rfl rfl ?_
              refine jr.iload_n rfl rfl ?_
              refine jr.iconst rfl ?_
              refine jr.iadd rfl ?_
              refine jr.iload_n rfl rfl ?_
              obtain ⟨v57, e57⟩ : ∃ z_, M7 413 0 = z_ := ⟨_, rfl⟩
              have b57 : (-2147483648) ≤ v57 ∧ v57 ≤ 2147483647 := by rw [← e57]; exact (CI.r hC_M7 (show kd 413 = 44 from rfl) (by decide) 0)
              have e58 : M8 413 0 = v57 := (hf_M8.g (show kd 413 = 44 from rfl) rfl).trans e57
              have e59 : M55 413 0 = v57 := (hf_M55.g (show kd 413 = 44 from rfl) rfl).trans e58
              have e60 : M8 413 3 = v1 := (hf_M8.g (show kd 413 = 44 from rfl) rfl).trans e9
              have e61 : M55 413 3 = v1 := (hf_M55.g (show kd 413 = 44 from rfl) rfl).trans e60
              refine jr_v rfl rfl (Or.inl rfl) rfl rfl (nlt rfl) rfl ⟨rfl, Nat.le_of_ble_eq_true rfl, Nat.le_of_ble_eq_true rfl⟩ rfl (jc.deep (ihP.2.2.1 hC_M55 (FR.rfl _ M55) (by omega) (by omega) e59 (by have hq0 : M55 413 3 = v1 := e61; omega) (by have hq0 : M55 413 0 = v57 := e59; omega) w55_0 (by omega) (fun M56 hC_M56 hf_M56 w56_0 w56_1 => ?_)) (by omega))
              have ht_M56 : FR W_par T M56 := FR.t ht_M55 hf_M56 (kw_sub rfl)
              obtain ⟨v62, e62⟩ : ∃ z_, M56 413 0 = z_ := ⟨_, rfl⟩
              have b62 : (-2147483648) ≤ v62 ∧ v62 ≤ 2147483647 := by rw [← e62]; exact (CI.r hC_M56 (show kd 413 = 44 from rfl) (by decide) 0)
              refine jr.aload_n rfl rfl ?_
              have e63 : M55 413 2 = v31 := (hf_M55.g (show kd 413 = 44 from rfl) rfl).trans e33
              have e64 : M56 413 2 = v31 := (hf_M56.g (show kd 413 = 44 from rfl) rfl).trans e63
              have k65 : kd (v31).toNat = 47 := ((congrArg (fun z : Int => kd z.toNat) (show M56 413 2 = v31 from e64)).symm.trans (CI.x hC_M56 (show kd 413 = 44 from rfl) 2 rfl (by decide)))
              refine jr.getf (i := 2) (x := v31) (v := .ref (v31.toNat)) rfl rfl (nlt rfl) rfl (nlt rfl) rfl rfl e64 rfl ?_
              refine jr.iload_n rfl rfl ?_
              refine jr.iconst rfl ?_
              refine jr.icmp_gt rfl rfl (by first | (refine rgb (by assumption) ?_; exact rfl) | omega) (rgl rfl) (fun h103 => ?_) (fun h103 => ?_)
              · exact absurd h103 (by omega)
              · refine jr.sipush rfl (by decide) ?_
                refine jr.goto rfl rfl ?_
                refine jr.iconst rfl ?_
                refine jr_v rfl rfl (Or.inl rfl) rfl rfl (Nat.lt_trans (kx_47 k65).1 (by decide)) (kx_47 k65).2 ⟨rfl, Nat.le_of_ble_eq_true rfl, Nat.le_of_ble_eq_true rfl⟩ rfl (jc.deep (c_Program_emit_m hC_M56 (FR.rfl _ M56) k65 (by omega) (by omega) (by have hq0 : M56 413 2 = v31 := e64; omega) w56_0 (fun r66 M66 hC_M66 hf_M66 z66 w66_0 => ?_)) (by omega))
                have ht_M66 : FR W_par T M66 := FR.t ht_M56 hf_M66 (kw_sub rfl)
                refine jr.pop rfl rfl ?_
                refine jr.aload_n rfl rfl ?_
                have e67 : M66 413 2 = v31 := (hf_M66.g (show kd 413 = 44 from rfl) rfl).trans e64
                have k68 : kd (v31).toNat = 47 := ((congrArg (fun z : Int => kd z.toNat) (show M66 413 2 = v31 from e67)).symm.trans (CI.x hC_M66 (show kd 413 = 44 from rfl) 2 rfl (by decide)))
                refine jr.getf (i := 2) (x := v31) (v := .ref (v31.toNat)) rfl rfl (nlt rfl) rfl (nlt rfl) rfl rfl e67 rfl ?_
                refine jr.iload rfl rfl ?_
                refine jr_v rfl rfl (Or.inl rfl) rfl rfl (Nat.lt_trans (kx_47 k68).1 (by decide)) (kx_47 k68).2 ⟨rfl, Nat.le_of_ble_eq_true rfl, Nat.le_of_ble_eq_true rfl⟩ rfl (jc.deep (c_Program_land_m hC_M66 (FR.rfl _ M66) k68 (by omega) (by have hq0 : M66 413 2 = v31 := e67; omega) w66_0 (fun M69 hC_M69 hf_M69 w69_0 => ?_)) (by omega))
                have ht_M69 : FR W_par T M69 := FR.t ht_M66 hf_M69 (kw_sub rfl)
                refine jr.iload_n rfl rfl ?_
                refine jr.iconst rfl ?_
                refine jr.icmp_ne rfl rfl (by first | (refine rgb (by assumption) ?_; exact rfl) | omega) (rgl rfl) (fun h134 => ?_) (fun h134 => ?_)
                · refine jr.iinc rfl rfl (nlt rfl) rfl ?_
                  refine jr.goto rfl rfl ?_
                  have e70 : M56 413 3 = v1 := (hf_M56.g (show kd 413 = 44 from rfl) rfl).trans e61
                  have e71 : M66 413 3 = v1 := (hf_M66.g (show kd 413 = 44 from rfl) rfl).trans e70
                  have e72 : M69 413 3 = v1 := (hf_M69.g (show kd 413 = 44 from rfl) rfl).trans e71
                  have e73 : M66 413 0 = v62 := (hf_M66.g (show kd 413 = 44 from rfl) rfl).trans e62
                  have e74 : M69 413 0 = v62 := (hf_M69.g (show kd 413 = 44 from rfl) rfl).trans e73
                  refine jr.pick [3, 4, 0, 5] rfl rfl ?_
                  exact ih (nM - 1) (by omega) M69 (i + 1) hC_M69 ht_M69 (by omega) (by omega) (by omega) (by have hq0 : M69 413 3 = v1 := e72; omega) (by have hq0 : M69 413 0 = v62 := e74; omega) (by have hq0 : M69 413 0 = v62 := e74; omega) w69_0 (by omega) (by omega)
                · exact absurd (by omega) h134
theorem c_Parser_exp {A : Nat → Option (Nat × (Nat → Int32))} [HA A] {n : Nat} (ihP : PX A n) : PX_exp A (n + 1) := by
  intro Q G T M hC_M ht_M x h_x y h_y F g_F p0 p1 p2 p3 q
  refine jc_of (m := xm_203) rfl (Nat.le_of_ble_eq_true rfl) rfl ?_
  have b_F : (-2147483648) ≤ F ∧ F ≤ 2147483647 := by rw [← g_F]; exact (CI.r hC_M (show kd 413 = 44 from rfl) (by decide) 0)
  obtain ⟨v1, e1⟩ : ∃ z_, M 413 3 = z_ := ⟨_, rfl⟩
  have b1 : 1 ≤ v1 ∧ v1 ≤ 419 := by rw [← e1]; exact (CI.r hC_M (show kd 413 = 44 from rfl) (by decide) 3)
  have b2 : 1 ≤ v1 ∧ v1 ≤ 1 := by rw [← e1]; exact p0
  have e3 : M 413 0 = F := g_F
  refine jr.iload_n rfl rfl ?_
  refine jr.iconst rfl ?_
  refine jr.icmp_le rfl rfl (by first | (refine rgb (by assumption) ?_; exact rfl) | omega) (rgl rfl) (fun h2 => ?_) (fun h2 => ?_)
  · refine jr.aload_n rfl rfl ?_
    refine jr.iload_n rfl rfl ?_
    refine jr.iconst rfl ?_
    refine jr.iadd rfl ?_
    refine jr.iload_n rfl rfl ?_
    refine jr_v rfl rfl (Or.inl rfl) rfl rfl (nlt rfl) rfl ⟨rfl, Nat.le_of_ble_eq_true rfl, Nat.le_of_ble_eq_true rfl⟩ rfl (jc.deep (ihP.2.2.1 hC_M (FR.rfl _ M) (by omega) (by omega) g_F (by have hq0 : M 413 3 = v1 := e1; omega) (by have hq0 : M 413 0 = F := g_F; omega) p2 (by omega) (fun M4 hC_M4 hf_M4 w4_0 w4_1 => ?_)) (by omega))
    have ht_M4 : FR W_par T M4 := FR.t ht_M hf_M4 (kw_sub rfl)
    obtain ⟨v5, e5⟩ : ∃ z_, M4 413 0 = z_ := ⟨_, rfl⟩
    have b5 : (-2147483648) ≤ v5 ∧ v5 ≤ 2147483647 := by rw [← e5]; exact (CI.r hC_M4 (show kd 413 = 44 from rfl) (by decide) 0)
    refine jr.iconst rfl ?_
    refine jr.istore_n (ls' := [_, _, _, _]) rfl (nlt rfl) rfl ?_
    have e6 : M4 413 3 = v1 := (hf_M4.g (show kd 413 = 44 from rfl) rfl).trans e1
    refine jr.pick (ls := [_, _, _, _]) [2, 3, 0, 1] rfl rfl ?_
    exact c_Parser_exp_L21 ihP  q 1601 M4 0 hC_M4 ht_M4 (by omega) (by omega) (by omega) (by have hq0 : M4 413 3 = v1 := e6; omega) (by have hq0 : M4 413 0 = v5 := e5; omega) (by have hq0 : M4 413 0 = v5 := e5; omega) w4_0 (by omega) (by omega)
  · refine jr.aload_n rfl rfl ?_
    refine jr.iload_n rfl rfl ?_
    refine jr_v rfl rfl (Or.inl rfl) rfl rfl (nlt rfl) rfl ⟨rfl, Nat.le_of_ble_eq_true rfl, Nat.le_of_ble_eq_true rfl⟩ rfl (jc.deep (ihP.2.1 hC_M (FR.rfl _ M) (by omega) g_F (by have hq0 : M 413 3 = v1 := e1; omega) (by have hq0 : M 413 0 = F := g_F; omega) p2 (by omega) (fun M7 hC_M7 hf_M7 w7_0 w7_1 => ?_)) (by omega))
    have ht_M7 : FR W_par T M7 := FR.t ht_M hf_M7 (kw_sub rfl)
    obtain ⟨v8, e8⟩ : ∃ z_, M7 413 0 = z_ := ⟨_, rfl⟩
    have b8 : (-2147483648) ≤ v8 ∧ v8 ≤ 2147483647 := by rw [← e8]; exact (CI.r hC_M7 (show kd 413 = 44 from rfl) (by decide) 0)
    exact jr.vreturn rfl rfl (q _ hC_M7 ht_M7  w7_0 (by have hq0 : M7 413 0 = v8 := e8; omega))
theorem c_Parser_exps_L2 {A : Nat → Option (Nat × (Nat → Int32))} [HA A] {Q : Option Value → jm → Prop} {G : Nat → Int → Int} {T : jm} {n : Nat} (ihP : PX A n) {x : Int} {y : Int} (q : ∀ (M' : jm), CI M' → FR W_par T M' → (MP M' G) → Q none M') : ∀ (nM : Nat) (M : jm) (i : Int), CI M → FR W_par T M → 0 ≤ x ∧ x ≤ 5 → 0 ≤ y ∧ y ≤ 13 → 0 ≤ i ∧ i ≤ 5 → (1 ≤ M 413 3 ∧ M 413 3 ≤ 1) → (y ≤ 12 ∨ M 413 0 ≠ 0) → (MP M G) → (20 * (13 - y) + 9 ≤ ((n + 1 : Nat) : Int)) → 5 - i ≤ nM → jr A (n + 60) xm_202 2 [(1, .int (Int32.ofInt (x))), (2, .int (Int32.ofInt (y))), (3, .int (Int32.ofInt (i))), (0, .ref (413))] [] M Q := by
  intro nM
  induction nM using Nat.strongRecOn with
  | ind nM ih =>
    intro M i hC_M ht_M h_x h_y h_i hy0 hy1 hy2 hy3 hm
    obtain ⟨v1, e1⟩ : ∃ z_, M 413 3 = z_ := ⟨_, rfl⟩
    have b1 : 1 ≤ v1 ∧ v1 ≤ 419 := by rw [← e1]; exact (CI.r hC_M (show kd 413 = 44 from rfl) (by decide) 3)
    have b2 : 1 ≤ v1 ∧ v1 ≤ 1 := by rw [← e1]; exact hy0
    obtain ⟨v3, e3⟩ : ∃ z_, M 413 0 = z_ := ⟨_, rfl⟩
    have b3 : (-2147483648) ≤ v3 ∧ v3 ≤ 2147483647 := by rw [← e3]; exact (CI.r hC_M (show kd 413 = 44 from rfl) (by decide) 0)
    refine jr.iload_n rfl rfl ?_
    refine jr.iload_n rfl rfl ?_
    refine jr.icmp_ge rfl rfl (by first | (refine rgb (by assumption) ?_; exact rfl) | omega) (by first | (refine rgb (by assumption) ?_; exact rfl) | omega) (fun h4 => ?_) (fun h4 => ?_)
    · exact jr.vreturn rfl rfl (q _ hC_M ht_M  hy2)
    · refine jr.aload_n rfl rfl ?_
      refine jr.getf (i := 0) (x := v3) (v := .int (Int32.ofInt (v3))) rfl rfl (nlt rfl) rfl (nlt rfl) rfl rfl e3 rfl ?_
      refine jr.if_ne rfl rfl (by first | (refine rgb (by assumption) ?_; exact rfl) | omega) (fun h11 => ?_) (fun h11 => ?_)
      · exact jr.vreturn rfl rfl (q _ hC_M ht_M  hy2)
      · refine jr.iload_n rfl rfl ?_
        refine jr.if_le rfl rfl (by first | (refine rgb (by assumption) ?_; exact rfl) | omega) (fun h15 => ?_) (fun h15 => ?_)
        · refine jr.aload_n rfl rfl ?_
          refine jr.iconst rfl ?_
          refine jr.iload_n rfl rfl ?_
          refine jr_v rfl rfl (Or.inl rfl) rfl rfl (nlt rfl) rfl ⟨rfl, Nat.le_of_ble_eq_true rfl, Nat.le_of_ble_eq_true rfl⟩ rfl (jc.deep (ihP.2.2.1 hC_M (FR.rfl _ M) (by omega) (by omega) e3 (by have hq0 : M 413 3 = v1 := e1; omega) (by have hq0 : M 413 0 = v3 := e3; omega) hy2 (by omega) (fun M4 hC_M4 hf_M4 w4_0 w4_1 => ?_)) (by omega))
          have ht_M4 : FR W_par T M4 := FR.t ht_M hf_M4 (kw_sub rfl)
          obtain ⟨v5, e5⟩ : ∃ z_, M4 413 0 = z_ := ⟨_, rfl⟩
          have b5 : (-2147483648) ≤ v5 ∧ v5 ≤ 2147483647 := by rw [← e5]; exact (CI.r hC_M4 (show kd 413 = 44 from rfl) (by decide) 0)
          refine jr.iinc rfl rfl (nlt rfl) rfl ?_
          refine jr.goto rfl rfl ?_
          have e6 : M4 413 3 = v1 := (hf_M4.g (show kd 413 = 44 from rfl) rfl).trans e1
          refine jr.pick [1, 2, 0, 3] rfl rfl ?_
          exact ih (nM - 1) (by omega) M4 (i + 1) hC_M4 ht_M4 (by omega) (by omega) (by omega) (by have hq0 : M4 413 3 = v1 := e6; omega) (by have hq0 : M4 413 0 = v5 := e5; omega) w4_0 (by omega) (by omega)
        · refine jr.aload_n rfl rfl ?_
          refine jr.bipush rfl (by decide) ?_
          refine jr_v rfl rfl (Or.inl rfl) rfl rfl (nlt rfl) rfl ⟨rfl, Nat.le_of_ble_eq_true rfl, Nat.le_of_ble_eq_true rfl⟩ rfl (jc.deep (c_Parser_expect hC_M (FR.rfl _ M) (by omega) (by have hq0 : M 413 3 = v1 := e1; omega) (fun M7 hC_M7 hf_M7  => ?_)) (by omega))
          have ht_M7 : FR W_par T M7 := FR.t ht_M hf_M7 (kw_sub rfl)
          refine jr.aload_n rfl rfl ?_
          refine jr.iconst rfl ?_
          refine jr.iload_n rfl rfl ?_
          obtain ⟨v9, e9⟩ : ∃ z_, M7 413 0 = z_ := ⟨_, rfl⟩
          have b9 : (-2147483648) ≤ v9 ∧ v9 ≤ 2147483647 := by rw [← e9]; exact (CI.r hC_M7 (show kd 413 = 44 from rfl) (by decide) 0)
          have e10 : M7 413 3 = v1 := (hf_M7.g (show kd 413 = 44 from rfl) rfl).trans e1
          refine jr_v rfl rfl (Or.inl rfl) rfl rfl (nlt rfl) rfl ⟨rfl, Nat.le_of_ble_eq_true rfl, Nat.le_of_ble_eq_true rfl⟩ rfl (jc.deep (ihP.2.2.1 hC_M7 (FR.rfl _ M7) (by omega) (by omega) e9 (by have hq0 : M7 413 3 = v1 := e10; omega) (by have hq0 : M7 413 0 = v9 := e9; omega) (MP.fr hy2 hC_M hf_M7 rfl) (by omega) (fun M8 hC_M8 hf_M8 w8_0 w8_1 => ?_)) (by omega))
          have ht_M8 : FR W_par T M8 := FR.t ht_M7 hf_M8 (kw_sub rfl)
          obtain ⟨v11, e11⟩ : ∃ z_, M8 413 0 = z_ := ⟨_, rfl⟩
          have b11 : (-2147483648) ≤ v11 ∧ v11 ≤ 2147483647 := by rw [← e11]; exact (CI.r hC_M8 (show kd 413 = 44 from rfl) (by decide) 0)
          refine jr.iinc rfl rfl (nlt rfl) rfl ?_
          refine jr.goto rfl rfl ?_
          have e12 : M8 413 3 = v1 := (hf_M8.g (show kd 413 = 44 from rfl) rfl).trans e10
          refine jr.pick [1, 2, 0, 3] rfl rfl ?_
          exact ih (nM - 1) (by omega) M8 (i + 1) hC_M8 ht_M8 (by omega) (by omega) (by omega) (by have hq0 : M8 413 3 = v1 := e12; omega) (by have hq0 : M8 413 0 = v11 := e11; omega) w8_0 (by omega) (by omega)
theorem c_Parser_exps {A : Nat → Option (Nat × (Nat → Int32))} [HA A] {n : Nat} (ihP : PX A n) : PX_exps A (n + 1) := by
  intro Q G T M hC_M ht_M x h_x y h_y  p0 p1 p2 p3 q
  refine jc_of (m := xm_202) rfl (Nat.le_of_ble_eq_true rfl) rfl ?_
  obtain ⟨v1, e1⟩ : ∃ z_, M 413 3 = z_ := ⟨_, rfl⟩
  have b1 : 1 ≤ v1 ∧ v1 ≤ 419 := by rw [← e1]; exact (CI.r hC_M (show kd 413 = 44 from rfl) (by decide) 3)
  have b2 : 1 ≤ v1 ∧ v1 ≤ 1 := by rw [← e1]; exact p0
  obtain ⟨v3, e3⟩ : ∃ z_, M 413 0 = z_ := ⟨_, rfl⟩
  have b3 : (-2147483648) ≤ v3 ∧ v3 ≤ 2147483647 := by rw [← e3]; exact (CI.r hC_M (show kd 413 = 44 from rfl) (by decide) 0)
  refine jr.iconst rfl ?_
  refine jr.istore_n (ls' := [_, _, _, _]) rfl (nlt rfl) rfl ?_
  refine jr.pick (ls := [_, _, _, _]) [2, 3, 0, 1] rfl rfl ?_
  exact c_Parser_exps_L2 ihP  q 5 M 0 hC_M ht_M (by omega) (by omega) (by omega) (by have hq0 : M 413 3 = v1 := e1; omega) (by have hq0 : M 413 0 = v3 := e3; omega) p2 (by omega) (by omega)
theorem c_Parser_block_L9 {A : Nat → Option (Nat × (Nat → Int32))} [HA A] {Q : Option Value → jm → Prop} {G : Nat → Int → Int} {T : jm} {n : Nat} (ihP : PX A n) {x : Int} {y : Int} (q : ∀ (M' : jm), CI M' → FR W_par T M' → (MP M' G) → Q none M') : ∀ (nM : Nat) (M : jm) (i : Int), CI M → FR W_par T M → 0 ≤ x ∧ x ≤ 12 → 0 ≤ y ∧ y ≤ 1 → 0 ≤ i ∧ i ≤ 1601 → (1 ≤ M 413 3 ∧ M 413 3 ≤ 1) → (x ≤ 11 ∨ M 413 0 ≠ 0) → (MP M G) → (20 * (13 - x) + 10 ≤ ((n + 1 : Nat) : Int)) → 1601 - i ≤ nM → jr A (n + 60) xm_198 9 [(1, .int (Int32.ofInt (x))), (2, .int (Int32.ofInt (y))), (3, .int (Int32.ofInt (i))), (0, .ref (413))] [] M Q := by
  intro nM
  induction nM using Nat.strongRecOn with
  | ind nM ih =>
    intro M i hC_M ht_M h_x h_y h_i hy0 hy1 hy2 hy3 hm
    obtain ⟨v1, e1⟩ : ∃ z_, M 413 3 = z_ := ⟨_, rfl⟩
    have b1 : 1 ≤ v1 ∧ v1 ≤ 419 := by rw [← e1]; exact (CI.r hC_M (show kd 413 = 44 from rfl) (by decide) 3)
    have b2 : 1 ≤ v1 ∧ v1 ≤ 1 := by rw [← e1]; exact hy0
    obtain ⟨v3, e3⟩ : ∃ z_, M 413 0 = z_ := ⟨_, rfl⟩
    have b3 : (-2147483648) ≤ v3 ∧ v3 ≤ 2147483647 := by rw [← e3]; exact (CI.r hC_M (show kd 413 = 44 from rfl) (by decide) 0)
    refine jr.iload_n rfl rfl ?_
    refine jr.aload_n rfl rfl ?_
    obtain ⟨v4, e4⟩ : ∃ z_, M 413 4 = z_ := ⟨_, rfl⟩
    have b4 : 0 ≤ v4 ∧ v4 ≤ 1600 := by rw [← e4]; exact (CI.r hC_M (show kd 413 = 44 from rfl) (by decide) 4)
    refine jr.getf (i := 4) (x := v4) (v := .int (Int32.ofInt (v4))) rfl rfl (nlt rfl) rfl (nlt rfl) rfl rfl e4 rfl ?_
    refine jr.icmp_gt rfl rfl (by first | (refine rgb (by assumption) ?_; exact rfl) | omega) (by first | (refine rgb (by assumption) ?_; exact rfl) | omega) (fun h14 => ?_) (fun h14 => ?_)
    · refine jr.aload_n rfl rfl ?_
      refine jr.bipush rfl (by decide) ?_
      refine jr_v rfl rfl (Or.inl rfl) rfl rfl (nlt rfl) rfl ⟨rfl, Nat.le_of_ble_eq_true rfl, Nat.le_of_ble_eq_true rfl⟩ rfl (jc.deep (c_Parser_expect hC_M (FR.rfl _ M) (by omega) (by have hq0 : M 413 3 = v1 := e1; omega) (fun M5 hC_M5 hf_M5  => ?_)) (by omega))
      have ht_M5 : FR W_par T M5 := FR.t ht_M hf_M5 (kw_sub rfl)
      exact jr.vreturn rfl rfl (q _ hC_M5 ht_M5  (MP.fr hy2 hC_M hf_M5 rfl))
    · refine jr.aload_n rfl rfl ?_
      refine jr.getf (i := 0) (x := v3) (v := .int (Int32.ofInt (v3))) rfl rfl (nlt rfl) rfl (nlt rfl) rfl rfl e3 rfl ?_
      refine jr.if_ne rfl rfl (by first | (refine rgb (by assumption) ?_; exact rfl) | omega) (fun h21 => ?_) (fun h21 => ?_)
      · refine jr.aload_n rfl rfl ?_
        refine jr.bipush rfl (by decide) ?_
        refine jr_v rfl rfl (Or.inl rfl) rfl rfl (nlt rfl) rfl ⟨rfl, Nat.le_of_ble_eq_true rfl, Nat.le_of_ble_eq_true rfl⟩ rfl (jc.deep (c_Parser_expect hC_M (FR.rfl _ M) (by omega) (by have hq0 : M 413 3 = v1 := e1; omega) (fun M6 hC_M6 hf_M6  => ?_)) (by omega))
        have ht_M6 : FR W_par T M6 := FR.t ht_M hf_M6 (kw_sub rfl)
        exact jr.vreturn rfl rfl (q _ hC_M6 ht_M6  (MP.fr hy2 hC_M hf_M6 rfl))
      · refine jr.aload_n rfl rfl ?_
        refine jr.bipush rfl (by decide) ?_
        refine jr_v rfl rfl (Or.inl rfl) rfl rfl (nlt rfl) rfl ⟨rfl, Nat.le_of_ble_eq_true rfl, Nat.le_of_ble_eq_true rfl⟩ rfl (jc.deep (c_Parser_isSign hC_M (by omega) (fun r7 z7  => ?_)) (by omega))
        refine jr.if_ne rfl rfl (by first | (refine rgb (by assumption) ?_; exact rfl) | omega) (fun h30 => ?_) (fun h30 => ?_)
        · have sx30 : (1 : Int) ≤ r7 := by omega
          clear h30
          refine jr.aload_n rfl rfl ?_
          refine jr.bipush rfl (by decide) ?_
          refine jr_v rfl rfl (Or.inl rfl) rfl rfl (nlt rfl) rfl ⟨rfl, Nat.le_of_ble_eq_true rfl, Nat.le_of_ble_eq_true rfl⟩ rfl (jc.deep (c_Parser_expect hC_M (FR.rfl _ M) (by omega) (by have hq0 : M 413 3 = v1 := e1; omega) (fun M8 hC_M8 hf_M8  => ?_)) (by omega))
          have ht_M8 : FR W_par T M8 := FR.t ht_M hf_M8 (kw_sub rfl)
          exact jr.vreturn rfl rfl (q _ hC_M8 ht_M8  (MP.fr hy2 hC_M hf_M8 rfl))
        · refine jr.aload_n rfl rfl ?_
          refine jr.iload_n rfl rfl ?_
          refine jr.iconst rfl ?_
          refine jr.iadd rfl ?_
          refine jr.iload_n rfl rfl ?_
          refine jr_v rfl rfl (Or.inl rfl) rfl rfl (nlt rfl) rfl ⟨rfl, Nat.le_of_ble_eq_true rfl, Nat.le_of_ble_eq_true rfl⟩ rfl (jc.deep (ihP.2.2.2.2.2.2 hC_M (FR.rfl _ M) (by omega) (by omega) (by have hq0 : M 413 3 = v1 := e1; omega) hy2 (by omega) (fun M9 hC_M9 hf_M9 w9_0 => ?_)) (by omega))
          have ht_M9 : FR W_par T M9 := FR.t ht_M hf_M9 (kw_sub rfl)
          refine jr.iinc rfl rfl (nlt rfl) rfl ?_
          refine jr.goto rfl rfl ?_
          have e10 : M9 413 3 = v1 := (hf_M9.g (show kd 413 = 44 from rfl) rfl).trans e1
          obtain ⟨v11, e11⟩ : ∃ z_, M9 413 0 = z_ := ⟨_, rfl⟩
          have b11 : (-2147483648) ≤ v11 ∧ v11 ≤ 2147483647 := by rw [← e11]; exact (CI.r hC_M9 (show kd 413 = 44 from rfl) (by decide) 0)
          refine jr.pick [1, 2, 0, 3] rfl rfl ?_
          exact ih (nM - 1) (by omega) M9 (i + 1) hC_M9 ht_M9 (by omega) (by omega) (by omega) (by have hq0 : M9 413 3 = v1 := e10; omega) (by have hq0 : M9 413 0 = v11 := e11; omega) w9_0 (by omega) (by omega)
theorem c_Parser_block {A : Nat → Option (Nat × (Nat → Int32))} [HA A] {n : Nat} (ihP : PX A n) : PX_block A (n + 1) := by
  intro Q G T M hC_M ht_M x h_x y h_y  p0 p1 p2 q
  refine jc_of (m := xm_198) rfl (Nat.le_of_ble_eq_true rfl) rfl ?_
  obtain ⟨v1, e1⟩ : ∃ z_, M 413 3 = z_ := ⟨_, rfl⟩
  have b1 : 1 ≤ v1 ∧ v1 ≤ 419 := by rw [← e1]; exact (CI.r hC_M (show kd 413 = 44 from rfl) (by decide) 3)
  have b2 : 1 ≤ v1 ∧ v1 ≤ 1 := by rw [← e1]; exact p0
  refine jr.aload_n rfl rfl ?_
  refine jr.bipush rfl (jbp _ (nlt rfl)) ?_
  refine jr.iload_n rfl rfl ?_
  refine jr_v rfl rfl (Or.inl rfl) rfl rfl (nlt rfl) rfl ⟨rfl, Nat.le_of_ble_eq_true rfl, Nat.le_of_ble_eq_true rfl⟩ rfl (jc.deep (c_Parser_open hC_M (FR.rfl _ M) (by omega) (by omega) (by have hq0 : M 413 3 = v1 := e1; omega) (fun M3 hC_M3 hf_M3 w3_0 => ?_)) (by omega))
  have ht_M3 : FR W_par T M3 := FR.t ht_M hf_M3 (kw_sub rfl)
  obtain ⟨v4, e4⟩ : ∃ z_, M3 413 0 = z_ := ⟨_, rfl⟩
  have b4 : (-2147483648) ≤ v4 ∧ v4 ≤ 2147483647 := by rw [← e4]; exact (CI.r hC_M3 (show kd 413 = 44 from rfl) (by decide) 0)
  refine jr.iconst rfl ?_
  refine jr.istore_n (ls' := [_, _, _, _]) rfl (nlt rfl) rfl ?_
  have e5 : M3 413 3 = v1 := (hf_M3.g (show kd 413 = 44 from rfl) rfl).trans e1
  refine jr.pick (ls := [_, _, _, _]) [2, 3, 0, 1] rfl rfl ?_
  exact c_Parser_block_L9 ihP  q 1601 M3 0 hC_M3 ht_M3 (by omega) (by omega) (by omega) (by have hq0 : M3 413 3 = v1 := e5; omega) (by have hq0 : M3 413 0 = v4 := e4; omega) (MP.fr p1 hC_M hf_M3 rfl) (by omega) (by omega)
theorem c_Parser_choice {A : Nat → Option (Nat × (Nat → Int32))} [HA A] {n : Nat} (ihP : PX A n) : PX_choice A (n + 1) := by
  intro Q G T M hC_M ht_M x h_x y h_y  p0 p1 p2 q
  refine jc_of (m := xm_200) rfl (Nat.le_of_ble_eq_true rfl) rfl ?_
  obtain ⟨v1, e1⟩ : ∃ z_, M 413 3 = z_ := ⟨_, rfl⟩
  have b1 : 1 ≤ v1 ∧ v1 ≤ 419 := by rw [← e1]; exact (CI.r hC_M (show kd 413 = 44 from rfl) (by decide) 3)
  have b2 : 1 ≤ v1 ∧ v1 ≤ 1 := by rw [← e1]; exact p0
  refine jr.aload_n rfl rfl ?_
  refine jr.iconst rfl ?_
  refine jr.iload_n rfl rfl ?_
  obtain ⟨v4, e4⟩ : ∃ z_, M 413 0 = z_ := ⟨_, rfl⟩
  have b4 : (-2147483648) ≤ v4 ∧ v4 ≤ 2147483647 := by rw [← e4]; exact (CI.r hC_M (show kd 413 = 44 from rfl) (by decide) 0)
  refine jr_v rfl rfl (Or.inl rfl) rfl rfl (nlt rfl) rfl ⟨rfl, Nat.le_of_ble_eq_true rfl, Nat.le_of_ble_eq_true rfl⟩ rfl (jc.deep (ihP.2.2.1 hC_M (FR.rfl _ M) (by omega) (by omega) e4 (by have hq0 : M 413 3 = v1 := e1; omega) (by have hq0 : M 413 0 = v4 := e4; omega) p1 (by omega) (fun M3 hC_M3 hf_M3 w3_0 w3_1 => ?_)) (by omega))
  have ht_M3 : FR W_par T M3 := FR.t ht_M hf_M3 (kw_sub rfl)
  obtain ⟨v5, e5⟩ : ∃ z_, M3 413 0 = z_ := ⟨_, rfl⟩
  have b5 : (-2147483648) ≤ v5 ∧ v5 ≤ 2147483647 := by rw [← e5]; exact (CI.r hC_M3 (show kd 413 = 44 from rfl) (by decide) 0)
  refine jr.aload_n rfl rfl ?_
  obtain ⟨v6, e6⟩ : ∃ z_, M 413 2 = z_ := ⟨_, rfl⟩
  have b6 : 0 ≤ v6 ∧ v6 ≤ 597 := by rw [← e6]; exact (CI.r hC_M (show kd 413 = 44 from rfl) (by decide) 2)
  have e7 : M3 413 2 = v6 := (hf_M3.g (show kd 413 = 44 from rfl) rfl).trans e6
  have k8 : kd (v6).toNat = 47 := ((congrArg (fun z : Int => kd z.toNat) (show M3 413 2 = v6 from e7)).symm.trans (CI.x hC_M3 (show kd 413 = 44 from rfl) 2 rfl (by decide)))
  refine jr.getf (i := 2) (x := v6) (v := .ref (v6.toNat)) rfl rfl (nlt rfl) rfl (nlt rfl) rfl rfl e7 rfl ?_
  refine jr.iconst rfl ?_
  refine jr.iconst rfl ?_
  refine jr_v rfl rfl (Or.inl rfl) rfl rfl (Nat.lt_trans (kx_47 k8).1 (by decide)) (kx_47 k8).2 ⟨rfl, Nat.le_of_ble_eq_true rfl, Nat.le_of_ble_eq_true rfl⟩ rfl (jc.deep (c_Program_emit_m hC_M3 (FR.rfl _ M3) k8 (by omega) (by omega) (by have hq0 : M3 413 2 = v6 := e7; omega) w3_0 (fun r9 M9 hC_M9 hf_M9 z9 w9_0 => ?_)) (by omega))
  have ht_M9 : FR W_par T M9 := FR.t ht_M3 hf_M9 (kw_sub rfl)
  refine jr.istore_n (ls' := [_, _, _, _]) rfl (nlt rfl) rfl ?_
  refine jr.aload_n rfl rfl ?_
  refine jr.iload_n rfl rfl ?_
  refine jr.iload_n rfl rfl ?_
  have e11 : M3 413 3 = v1 := (hf_M3.g (show kd 413 = 44 from rfl) rfl).trans e1
  have e12 : M9 413 3 = v1 := (hf_M9.g (show kd 413 = 44 from rfl) rfl).trans e11
  refine jr_v rfl rfl (Or.inl rfl) rfl rfl (nlt rfl) rfl ⟨rfl, Nat.le_of_ble_eq_true rfl, Nat.le_of_ble_eq_true rfl⟩ rfl (jc.deep (ihP.2.2.2.2.1 hC_M9 (FR.rfl _ M9) (by omega) (by omega) (by have hq0 : M9 413 3 = v1 := e12; omega) w9_0 (by omega) (fun M10 hC_M10 hf_M10 w10_0 => ?_)) (by omega))
  have ht_M10 : FR W_par T M10 := FR.t ht_M9 hf_M10 (kw_sub rfl)
  refine jr.aload_n rfl rfl ?_
  obtain ⟨v13, e13⟩ : ∃ z_, M10 413 0 = z_ := ⟨_, rfl⟩
  have b13 : (-2147483648) ≤ v13 ∧ v13 ≤ 2147483647 := by rw [← e13]; exact (CI.r hC_M10 (show kd 413 = 44 from rfl) (by decide) 0)
  refine jr.getf (i := 0) (x := v13) (v := .int (Int32.ofInt (v13))) rfl rfl (nlt rfl) rfl (nlt rfl) rfl rfl e13 rfl ?_
  refine jr.if_ne rfl rfl (by first | (refine rgb (by assumption) ?_; exact rfl) | omega) (fun h26 => ?_) (fun h26 => ?_)
  · refine jr.aload_n rfl rfl ?_
    have e14 : M9 413 2 = v6 := (hf_M9.g (show kd 413 = 44 from rfl) rfl).trans e7
    have e15 : M10 413 2 = v6 := (hf_M10.g (show kd 413 = 44 from rfl) rfl).trans e14
    have k16 : kd (v6).toNat = 47 := ((congrArg (fun z : Int => kd z.toNat) (show M10 413 2 = v6 from e15)).symm.trans (CI.x hC_M10 (show kd 413 = 44 from rfl) 2 rfl (by decide)))
    refine jr.getf (i := 2) (x := v6) (v := .ref (v6.toNat)) rfl rfl (nlt rfl) rfl (nlt rfl) rfl rfl e15 rfl ?_
    refine jr.iload_n rfl rfl ?_
    refine jr_v rfl rfl (Or.inl rfl) rfl rfl (Nat.lt_trans (kx_47 k16).1 (by decide)) (kx_47 k16).2 ⟨rfl, Nat.le_of_ble_eq_true rfl, Nat.le_of_ble_eq_true rfl⟩ rfl (jc.deep (c_Program_land_m hC_M10 (FR.rfl _ M10) k16 (by omega) (by have hq0 : M10 413 2 = v6 := e15; omega) w10_0 (fun M17 hC_M17 hf_M17 w17_0 => ?_)) (by omega))
    have ht_M17 : FR W_par T M17 := FR.t ht_M10 hf_M17 (kw_sub rfl)
    exact jr.vreturn rfl rfl (q _ hC_M17 ht_M17  w17_0)
  · refine jr.aload_n rfl rfl ?_
    refine jr.iconst rfl ?_
    refine jr_v rfl rfl (Or.inl rfl) rfl rfl (nlt rfl) rfl ⟨rfl, Nat.le_of_ble_eq_true rfl, Nat.le_of_ble_eq_true rfl⟩ rfl (jc.deep (c_Parser_isWord hC_M10 (by omega) (fun r18 z18  => ?_)) (by omega))
    refine jr.if_eq rfl rfl (by first | (refine rgb (by assumption) ?_; exact rfl) | omega) (fun h34 => ?_) (fun h34 => ?_)
    · refine jr.aload_n rfl rfl ?_
      have e19 : M9 413 2 = v6 := (hf_M9.g (show kd 413 = 44 from rfl) rfl).trans e7
      have e20 : M10 413 2 = v6 := (hf_M10.g (show kd 413 = 44 from rfl) rfl).trans e19
      have k21 : kd (v6).toNat = 47 := ((congrArg (fun z : Int => kd z.toNat) (show M10 413 2 = v6 from e20)).symm.trans (CI.x hC_M10 (show kd 413 = 44 from rfl) 2 rfl (by decide)))
      refine jr.getf (i := 2) (x := v6) (v := .ref (v6.toNat)) rfl rfl (nlt rfl) rfl (nlt rfl) rfl rfl e20 rfl ?_
      refine jr.iload_n rfl rfl ?_
      refine jr_v rfl rfl (Or.inl rfl) rfl rfl (Nat.lt_trans (kx_47 k21).1 (by decide)) (kx_47 k21).2 ⟨rfl, Nat.le_of_ble_eq_true rfl, Nat.le_of_ble_eq_true rfl⟩ rfl (jc.deep (c_Program_land_m hC_M10 (FR.rfl _ M10) k21 (by omega) (by have hq0 : M10 413 2 = v6 := e20; omega) w10_0 (fun M22 hC_M22 hf_M22 w22_0 => ?_)) (by omega))
      have ht_M22 : FR W_par T M22 := FR.t ht_M10 hf_M22 (kw_sub rfl)
      exact jr.vreturn rfl rfl (q _ hC_M22 ht_M22  w22_0)
    · have sx34 : (1 : Int) ≤ r18 := by omega
      clear h34
      refine jr.aload_n rfl rfl ?_
      have e23 : M9 413 2 = v6 := (hf_M9.g (show kd 413 = 44 from rfl) rfl).trans e7
      have e24 : M10 413 2 = v6 := (hf_M10.g (show kd 413 = 44 from rfl) rfl).trans e23
      have k25 : kd (v6).toNat = 47 := ((congrArg (fun z : Int => kd z.toNat) (show M10 413 2 = v6 from e24)).symm.trans (CI.x hC_M10 (show kd 413 = 44 from rfl) 2 rfl (by decide)))
      refine jr.getf (i := 2) (x := v6) (v := .ref (v6.toNat)) rfl rfl (nlt rfl) rfl (nlt rfl) rfl rfl e24 rfl ?_
      refine jr.bipush rfl (jbp _ (nlt rfl)) ?_
      refine jr.iconst rfl ?_
      refine jr_v rfl rfl (Or.inl rfl) rfl rfl (Nat.lt_trans (kx_47 k25).1 (by decide)) (kx_47 k25).2 ⟨rfl, Nat.le_of_ble_eq_true rfl, Nat.le_of_ble_eq_true rfl⟩ rfl (jc.deep (c_Program_emit_m hC_M10 (FR.rfl _ M10) k25 (by omega) (by omega) (by have hq0 : M10 413 2 = v6 := e24; omega) w10_0 (fun r26 M26 hC_M26 hf_M26 z26 w26_0 => ?_)) (by omega))
      have ht_M26 : FR W_par T M26 := FR.t ht_M10 hf_M26 (kw_sub rfl)
      refine jr.istore (ls' := [_, _, _, _, _]) rfl (nlt rfl) rfl ?_
      refine jr.aload_n rfl rfl ?_
      have e27 : M26 413 2 = v6 := (hf_M26.g (show kd 413 = 44 from rfl) rfl).trans e24
      have k28 : kd (v6).toNat = 47 := ((congrArg (fun z : Int => kd z.toNat) (show M26 413 2 = v6 from e27)).symm.trans (CI.x hC_M26 (show kd 413 = 44 from rfl) 2 rfl (by decide)))
      refine jr.getf (i := 2) (x := v6) (v := .ref (v6.toNat)) rfl rfl (nlt rfl) rfl (nlt rfl) rfl rfl e27 rfl ?_
      refine jr.iload_n rfl rfl ?_
      refine jr_v rfl rfl (Or.inl rfl) rfl rfl (Nat.lt_trans (kx_47 k28).1 (by decide)) (kx_47 k28).2 ⟨rfl, Nat.le_of_ble_eq_true rfl, Nat.le_of_ble_eq_true rfl⟩ rfl (jc.deep (c_Program_land_m hC_M26 (FR.rfl _ M26) k28 (by omega) (by have hq0 : M26 413 2 = v6 := e27; omega) w26_0 (fun M29 hC_M29 hf_M29 w29_0 => ?_)) (by omega))
      have ht_M29 : FR W_par T M29 := FR.t ht_M26 hf_M29 (kw_sub rfl)
      refine jr.aload_n rfl rfl ?_
      have e31 : M10 413 3 = v1 := (hf_M10.g (show kd 413 = 44 from rfl) rfl).trans e12
      have e32 : M26 413 3 = v1 := (hf_M26.g (show kd 413 = 44 from rfl) rfl).trans e31
      have e33 : M29 413 3 = v1 := (hf_M29.g (show kd 413 = 44 from rfl) rfl).trans e32
      refine jr_v rfl rfl (Or.inl rfl) rfl rfl (nlt rfl) rfl ⟨rfl, Nat.le_of_ble_eq_true rfl, Nat.le_of_ble_eq_true rfl⟩ rfl (jc.deep (c_Parser_advance hC_M29 (FR.rfl _ M29)  (by have hq0 : M29 413 3 = v1 := e33; omega) (fun M30 hC_M30 hf_M30  => ?_)) (by omega))
      have ht_M30 : FR W_par T M30 := FR.t ht_M29 hf_M30 (kw_sub rfl)
      refine jr.aload_n rfl rfl ?_
      refine jr.iload_n rfl rfl ?_
      refine jr.iload_n rfl rfl ?_
      have e35 : M30 413 3 = v1 := (hf_M30.g (show kd 413 = 44 from rfl) rfl).trans e33
      refine jr_v rfl rfl (Or.inl rfl) rfl rfl (nlt rfl) rfl ⟨rfl, Nat.le_of_ble_eq_true rfl, Nat.le_of_ble_eq_true rfl⟩ rfl (jc.deep (ihP.2.2.2.2.1 hC_M30 (FR.rfl _ M30) (by omega) (by omega) (by have hq0 : M30 413 3 = v1 := e35; omega) (MP.fr w29_0 hC_M29 hf_M30 rfl) (by omega) (fun M34 hC_M34 hf_M34 w34_0 => ?_)) (by omega))
      have ht_M34 : FR W_par T M34 := FR.t ht_M30 hf_M34 (kw_sub rfl)
      refine jr.aload_n rfl rfl ?_
      have e36 : M29 413 2 = v6 := (hf_M29.g (show kd 413 = 44 from rfl) rfl).trans e27
      have e37 : M30 413 2 = v6 := (hf_M30.g (show kd 413 = 44 from rfl) rfl).trans e36
      have e38 : M34 413 2 = v6 := (hf_M34.g (show kd 413 = 44 from rfl) rfl).trans e37
      have k39 : kd (v6).toNat = 47 := ((congrArg (fun z : Int => kd z.toNat) (show M34 413 2 = v6 from e38)).symm.trans (CI.x hC_M34 (show kd 413 = 44 from rfl) 2 rfl (by decide)))
      refine jr.getf (i := 2) (x := v6) (v := .ref (v6.toNat)) rfl rfl (nlt rfl) rfl (nlt rfl) rfl rfl e38 rfl ?_
      refine jr.iload rfl rfl ?_
      refine jr_v rfl rfl (Or.inl rfl) rfl rfl (Nat.lt_trans (kx_47 k39).1 (by decide)) (kx_47 k39).2 ⟨rfl, Nat.le_of_ble_eq_true rfl, Nat.le_of_ble_eq_true rfl⟩ rfl (jc.deep (c_Program_land_m hC_M34 (FR.rfl _ M34) k39 (by omega) (by have hq0 : M34 413 2 = v6 := e38; omega) w34_0 (fun M40 hC_M40 hf_M40 w40_0 => ?_)) (by omega))
      have ht_M40 : FR W_par T M40 := FR.t ht_M34 hf_M40 (kw_sub rfl)
      refine jr.goto rfl rfl ?_
      exact jr.vreturn rfl rfl (q _ hC_M40 ht_M40  w40_0)
theorem c_Parser_deed {A : Nat → Option (Nat × (Nat → Int32))} [HA A] {n : Nat} (ihP : PX A n) : PX_deed A (n + 1) := by
  intro Q G T M hC_M ht_M x h_x y h_y  p0 p1 p2 q
  refine jc_of (m := xm_199) rfl (Nat.le_of_ble_eq_true rfl) rfl ?_
  obtain ⟨v1, e1⟩ : ∃ z_, M 413 3 = z_ := ⟨_, rfl⟩
  have b1 : 1 ≤ v1 ∧ v1 ≤ 419 := by rw [← e1]; exact (CI.r hC_M (show kd 413 = 44 from rfl) (by decide) 3)
  have b2 : 1 ≤ v1 ∧ v1 ≤ 1 := by rw [← e1]; exact p0
  refine jr.aload_n rfl rfl ?_
  obtain ⟨v3, e3⟩ : ∃ z_, M 413 6 = z_ := ⟨_, rfl⟩
  have b3 : (-2147483648) ≤ v3 ∧ v3 ≤ 2147483647 := by rw [← e3]; exact (CI.r hC_M (show kd 413 = 44 from rfl) (by decide) 6)
  refine jr.getf (i := 6) (x := v3) (v := .int (Int32.ofInt (v3))) rfl rfl (nlt rfl) rfl (nlt rfl) rfl rfl e3 rfl ?_
  refine jr.iconst rfl ?_
  refine jr.icmp_ne rfl rfl (by first | (refine rgb (by assumption) ?_; exact rfl) | omega) (rgl rfl) (fun h5 => ?_) (fun h5 => ?_)
  · refine jr.iconst rfl ?_
    refine jr.istore_n (ls' := [_, _, _, _]) rfl (nlt rfl) rfl ?_
    refine jr.iload_n rfl rfl ?_
    refine jr.iconst rfl ?_
    refine jr.icmp_lt rfl rfl (by first | exact rgl rfl | omega) (rgl rfl) (fun _ => ?_) (fun h => absurd (by decide) h)
    refine jr.aload_n rfl rfl ?_
    refine jr_v rfl rfl (Or.inl rfl) rfl rfl (nlt rfl) rfl ⟨rfl, Nat.le_of_ble_eq_true rfl, Nat.le_of_ble_eq_true rfl⟩ rfl (jc.deep (c_Parser_refuse hC_M (FR.rfl _ M)  (fun M4 hC_M4 hf_M4 w4_0 => ?_)) (by omega))
    have ht_M4 : FR W_par T M4 := FR.t ht_M hf_M4 (kw_sub rfl)
    obtain ⟨v5, e5⟩ : ∃ z_, M4 413 0 = z_ := ⟨_, rfl⟩
    have b5 : (-2147483648) ≤ v5 ∧ v5 ≤ 2147483647 := by rw [← e5]; exact (CI.r hC_M4 (show kd 413 = 44 from rfl) (by decide) 0)
    exact jr.vreturn rfl rfl (q _ hC_M4 ht_M4  (MP.fr p1 hC_M hf_M4 rfl))
  · refine jr.aload_n rfl rfl ?_
    obtain ⟨v6, e6⟩ : ∃ z_, M 413 10 = z_ := ⟨_, rfl⟩
    have b6 : (-2147483648) ≤ v6 ∧ v6 ≤ 2147483647 := by rw [← e6]; exact (CI.r hC_M (show kd 413 = 44 from rfl) (by decide) 10)
    refine jr.getf (i := 10) (x := v6) (v := .int (Int32.ofInt (v6))) rfl rfl (nlt rfl) rfl (nlt rfl) rfl rfl e6 rfl ?_
    refine jr.goto rfl rfl ?_
    refine jr.istore_n (ls' := [_, _, _, _]) rfl (nlt rfl) rfl ?_
    refine jr.iload_n rfl rfl ?_
    refine jr.iconst rfl ?_
    refine jr.icmp_lt rfl rfl (by first | (refine rgb (by assumption) ?_; exact rfl) | omega) (rgl rfl) (fun h19 => ?_) (fun h19 => ?_)
    · refine jr.aload_n rfl rfl ?_
      refine jr_v rfl rfl (Or.inl rfl) rfl rfl (nlt rfl) rfl ⟨rfl, Nat.le_of_ble_eq_true rfl, Nat.le_of_ble_eq_true rfl⟩ rfl (jc.deep (c_Parser_refuse hC_M (FR.rfl _ M)  (fun M7 hC_M7 hf_M7 w7_0 => ?_)) (by omega))
      have ht_M7 : FR W_par T M7 := FR.t ht_M hf_M7 (kw_sub rfl)
      obtain ⟨v8, e8⟩ : ∃ z_, M7 413 0 = z_ := ⟨_, rfl⟩
      have b8 : (-2147483648) ≤ v8 ∧ v8 ≤ 2147483647 := by rw [← e8]; exact (CI.r hC_M7 (show kd 413 = 44 from rfl) (by decide) 0)
      exact jr.vreturn rfl rfl (q _ hC_M7 ht_M7  (MP.fr p1 hC_M hf_M7 rfl))
    · refine jr.iload_n rfl rfl ?_
      refine jr.bipush rfl (jbp _ (nlt rfl)) ?_
      refine jr.icmp_gt rfl rfl (by first | (refine rgb (by assumption) ?_; exact rfl) | omega) (rgl rfl) (fun h25 => ?_) (fun h25 => ?_)
      · refine jr.aload_n rfl rfl ?_
        refine jr_v rfl rfl (Or.inl rfl) rfl rfl (nlt rfl) rfl ⟨rfl, Nat.le_of_ble_eq_true rfl, Nat.le_of_ble_eq_true rfl⟩ rfl (jc.deep (c_Parser_refuse hC_M (FR.rfl _ M)  (fun M9 hC_M9 hf_M9 w9_0 => ?_)) (by omega))
        have ht_M9 : FR W_par T M9 := FR.t ht_M hf_M9 (kw_sub rfl)
        obtain ⟨v10, e10⟩ : ∃ z_, M9 413 0 = z_ := ⟨_, rfl⟩
        have b10 : (-2147483648) ≤ v10 ∧ v10 ≤ 2147483647 := by rw [← e10]; exact (CI.r hC_M9 (show kd 413 = 44 from rfl) (by decide) 0)
        exact jr.vreturn rfl rfl (q _ hC_M9 ht_M9  (MP.fr p1 hC_M hf_M9 rfl))
      · refine jr.iload_n rfl rfl ?_
        refine jr.if_eq rfl rfl (by first | (refine rgb (by assumption) ?_; exact rfl) | omega) (fun h29 => ?_) (fun h29 => ?_)
        · refine jr.aload_n rfl rfl ?_
          refine jr_v rfl rfl (Or.inl rfl) rfl rfl (nlt rfl) rfl ⟨rfl, Nat.le_of_ble_eq_true rfl, Nat.le_of_ble_eq_true rfl⟩ rfl (jc.deep (c_Parser_countNode hC_M (FR.rfl _ M)  p1 (fun M11 hC_M11 hf_M11 w11_0 => ?_)) (by omega))
          have ht_M11 : FR W_par T M11 := FR.t ht_M hf_M11 (kw_sub rfl)
          refine jr.aload_n rfl rfl ?_
          obtain ⟨v12, e12⟩ : ∃ z_, M 413 2 = z_ := ⟨_, rfl⟩
          have b12 : 0 ≤ v12 ∧ v12 ≤ 597 := by rw [← e12]; exact (CI.r hC_M (show kd 413 = 44 from rfl) (by decide) 2)
          have e13 : M11 413 2 = v12 := (hf_M11.g (show kd 413 = 44 from rfl) rfl).trans e12
          have k14 : kd (v12).toNat = 47 := ((congrArg (fun z : Int => kd z.toNat) (show M11 413 2 = v12 from e13)).symm.trans (CI.x hC_M11 (show kd 413 = 44 from rfl) 2 rfl (by decide)))
          refine jr.getf (i := 2) (x := v12) (v := .ref (v12.toNat)) rfl rfl (nlt rfl) rfl (nlt rfl) rfl rfl e13 rfl ?_
          refine jr.bipush rfl (jbp _ (nlt rfl)) ?_
          refine jr.iconst rfl ?_
          refine jr_v rfl rfl (Or.inl rfl) rfl rfl (Nat.lt_trans (kx_47 k14).1 (by decide)) (kx_47 k14).2 ⟨rfl, Nat.le_of_ble_eq_true rfl, Nat.le_of_ble_eq_true rfl⟩ rfl (jc.deep (c_Program_emit_m hC_M11 (FR.rfl _ M11) k14 (by omega) (by omega) (by have hq0 : M11 413 2 = v12 := e13; omega) w11_0 (fun r15 M15 hC_M15 hf_M15 z15 w15_0 => ?_)) (by omega))
          have ht_M15 : FR W_par T M15 := FR.t ht_M11 hf_M15 (kw_sub rfl)
          refine jr.pop rfl rfl ?_
          refine jr.aload_n rfl rfl ?_
          have e17 : M11 413 3 = v1 := (hf_M11.g (show kd 413 = 44 from rfl) rfl).trans e1
          have e18 : M15 413 3 = v1 := (hf_M15.g (show kd 413 = 44 from rfl) rfl).trans e17
          refine jr_v rfl rfl (Or.inl rfl) rfl rfl (nlt rfl) rfl ⟨rfl, Nat.le_of_ble_eq_true rfl, Nat.le_of_ble_eq_true rfl⟩ rfl (jc.deep (c_Parser_advance hC_M15 (FR.rfl _ M15)  (by have hq0 : M15 413 3 = v1 := e18; omega) (fun M16 hC_M16 hf_M16  => ?_)) (by omega))
          have ht_M16 : FR W_par T M16 := FR.t ht_M15 hf_M16 (kw_sub rfl)
          refine jr.iload_n rfl rfl ?_
          refine jr.iconst rfl ?_
          refine jr.icmp_ne rfl rfl (by first | (refine rgb (by assumption) ?_; exact rfl) | omega) (rgl rfl) (fun h69 => ?_) (fun h69 => ?_)
          · have sx69 : (4 : Int) ≤ v6 := by omega
            clear h69
            refine jr.iconst rfl ?_
            refine jr.istore (ls' := [_, _, _, _, _]) rfl (nlt rfl) rfl ?_
            refine jr.iload_n rfl rfl ?_
            refine jr.bipush rfl (jbp _ (nlt rfl)) ?_
            refine jr.icmp_eq rfl rfl (by first | (refine rgb (by assumption) ?_; exact rfl) | omega) (rgl rfl) (fun h85 => ?_) (fun h85 => ?_)
            · refine jr.aload_n rfl rfl ?_
              obtain ⟨v19, e19⟩ : ∃ z_, M16 413 7 = z_ := ⟨_, rfl⟩
              have b19 : 0 ≤ v19 ∧ v19 ≤ 1600 := by rw [← e19]; exact (CI.r hC_M16 (show kd 413 = 44 from rfl) (by decide) 7)
              refine jr.getf (i := 7) (x := v19) (v := .int (Int32.ofInt (v19))) rfl rfl (nlt rfl) rfl (nlt rfl) rfl rfl e19 rfl ?_
              refine jr.istore (ls' := [_, _, _, _, _]) rfl (nlt rfl) rfl ?_
              refine jr.aload_n rfl rfl ?_
              have e21 : M16 413 3 = v1 := (hf_M16.g (show kd 413 = 44 from rfl) rfl).trans e18
              refine jr_v rfl rfl (Or.inl rfl) rfl rfl (nlt rfl) rfl ⟨rfl, Nat.le_of_ble_eq_true rfl, Nat.le_of_ble_eq_true rfl⟩ rfl (jc.deep (c_Parser_expectName hC_M16 (FR.rfl _ M16)  (by have hq0 : M16 413 3 = v1 := e21; omega) (fun M20 hC_M20 hf_M20  => ?_)) (by omega))
              have ht_M20 : FR W_par T M20 := FR.t ht_M16 hf_M20 (kw_sub rfl)
              refine jr.aload_n rfl rfl ?_
              refine jr.iload_n rfl rfl ?_
              refine jr_s rfl rfl (Or.inl rfl) ⟨Nat.le_of_ble_eq_true rfl, Nat.le_of_ble_eq_true rfl⟩ rfl rfl (jc.deep (c_Parser_expsOf hC_M20 (by omega) (fun r22 z22  => ?_)) (by omega))
              refine jr.iload_n rfl rfl ?_
              have e24 : M20 413 3 = v1 := (hf_M20.g (show kd 413 = 44 from rfl) rfl).trans e21
              obtain ⟨v25, e25⟩ : ∃ z_, M20 413 0 = z_ := ⟨_, rfl⟩
              have b25 : (-2147483648) ≤ v25 ∧ v25 ≤ 2147483647 := by rw [← e25]; exact (CI.r hC_M20 (show kd 413 = 44 from rfl) (by decide) 0)
              refine jr_v rfl rfl (Or.inl rfl) rfl rfl (nlt rfl) rfl ⟨rfl, Nat.le_of_ble_eq_true rfl, Nat.le_of_ble_eq_true rfl⟩ rfl (jc.deep (ihP.2.2.2.1 hC_M20 (FR.rfl _ M20) (by omega) (by omega) (by have hq0 : M20 413 3 = v1 := e24; omega) (by have hq0 : M20 413 0 = v25 := e25; omega) (MP.fr (MP.fr w15_0 hC_M15 hf_M16 rfl) hC_M16 hf_M20 rfl) (by omega) (fun M23 hC_M23 hf_M23 w23_0 => ?_)) (by omega))
              have ht_M23 : FR W_par T M23 := FR.t ht_M20 hf_M23 (kw_sub rfl)
              refine jr.aload_n rfl rfl ?_
              have e26 : M15 413 2 = v12 := (hf_M15.g (show kd 413 = 44 from rfl) rfl).trans e13
              have e27 : M16 413 2 = v12 := (hf_M16.g (show kd 413 = 44 from rfl) rfl).trans e26
              have e28 : M20 413 2 = v12 := (hf_M20.g (show kd 413 = 44 from rfl) rfl).trans e27
              have e29 : M23 413 2 = v12 := (hf_M23.g (show kd 413 = 44 from rfl) rfl).trans e28
              have k30 : kd (v12).toNat = 47 := ((congrArg (fun z : Int => kd z.toNat) (show M23 413 2 = v12 from e29)).symm.trans (CI.x hC_M23 (show kd 413 = 44 from rfl) 2 rfl (by decide)))
              refine jr.getf (i := 2) (x := v12) (v := .ref (v12.toNat)) rfl rfl (nlt rfl) rfl (nlt rfl) rfl rfl e29 rfl ?_
              refine jr.iload_n rfl rfl ?_
              refine jr.iload rfl rfl ?_
              refine jr_v rfl rfl (Or.inl rfl) rfl rfl (Nat.lt_trans (kx_47 k30).1 (by decide)) (kx_47 k30).2 ⟨rfl, Nat.le_of_ble_eq_true rfl, Nat.le_of_ble_eq_true rfl⟩ rfl (jc.deep (c_Program_emit_m hC_M23 (FR.rfl _ M23) k30 (by omega) (by omega) (by have hq0 : M23 413 2 = v12 := e29; omega) w23_0 (fun r31 M31 hC_M31 hf_M31 z31 w31_0 => ?_)) (by omega))
              have ht_M31 : FR W_par T M31 := FR.t ht_M23 hf_M31 (kw_sub rfl)
              refine jr.pop rfl rfl ?_
              refine jr.aload_n rfl rfl ?_
              refine jr.bipush rfl (jbp _ (nlt rfl)) ?_
              have e33 : M23 413 3 = v1 := (hf_M23.g (show kd 413 = 44 from rfl) rfl).trans e24
              have e34 : M31 413 3 = v1 := (hf_M31.g (show kd 413 = 44 from rfl) rfl).trans e33
              refine jr_v rfl rfl (Or.inl rfl) rfl rfl (nlt rfl) rfl ⟨rfl, Nat.le_of_ble_eq_true rfl, Nat.le_of_ble_eq_true rfl⟩ rfl (jc.deep (c_Parser_expect hC_M31 (FR.rfl _ M31) (by omega) (by have hq0 : M31 413 3 = v1 := e34; omega) (fun M32 hC_M32 hf_M32  => ?_)) (by omega))
              have ht_M32 : FR W_par T M32 := FR.t ht_M31 hf_M32 (kw_sub rfl)
              exact jr.vreturn rfl rfl (q _ hC_M32 ht_M32  (MP.fr w31_0 hC_M31 hf_M32 rfl))
            · refine jr.iload_n rfl rfl ?_
              refine jr.bipush rfl (jbp _ (nlt rfl)) ?_
              refine jr.icmp_ne rfl rfl (by first | (refine rgb (by assumption) ?_; exact rfl) | omega) (rgl rfl) (fun h91 => ?_) (fun h91 => ?_)
              · refine jr.aload_n rfl rfl ?_
                refine jr.iload_n rfl rfl ?_
                refine jr_s rfl rfl (Or.inl rfl) ⟨Nat.le_of_ble_eq_true rfl, Nat.le_of_ble_eq_true rfl⟩ rfl rfl (jc.deep (c_Parser_expsOf hC_M16 (by omega) (fun r35 z35  => ?_)) (by omega))
                refine jr.iload_n rfl rfl ?_
                have e37 : M16 413 3 = v1 := (hf_M16.g (show kd 413 = 44 from rfl) rfl).trans e18
                obtain ⟨v38, e38⟩ : ∃ z_, M11 413 0 = z_ := ⟨_, rfl⟩
                have b38 : (-2147483648) ≤ v38 ∧ v38 ≤ 2147483647 := by rw [← e38]; exact (CI.r hC_M11 (show kd 413 = 44 from rfl) (by decide) 0)
                have e39 : M15 413 0 = v38 := (hf_M15.g (show kd 413 = 44 from rfl) rfl).trans e38
                have e40 : M16 413 0 = v38 := (hf_M16.g (show kd 413 = 44 from rfl) rfl).trans e39
                refine jr_v rfl rfl (Or.inl rfl) rfl rfl (nlt rfl) rfl ⟨rfl, Nat.le_of_ble_eq_true rfl, Nat.le_of_ble_eq_true rfl⟩ rfl (jc.deep (ihP.2.2.2.1 hC_M16 (FR.rfl _ M16) (by omega) (by omega) (by have hq0 : M16 413 3 = v1 := e37; omega) (by have hq0 : M16 413 0 = v38 := e40; omega) (MP.fr w15_0 hC_M15 hf_M16 rfl) (by omega) (fun M36 hC_M36 hf_M36 w36_0 => ?_)) (by omega))
                have ht_M36 : FR W_par T M36 := FR.t ht_M16 hf_M36 (kw_sub rfl)
                refine jr.aload_n rfl rfl ?_
                have e41 : M15 413 2 = v12 := (hf_M15.g (show kd 413 = 44 from rfl) rfl).trans e13
                have e42 : M16 413 2 = v12 := (hf_M16.g (show kd 413 = 44 from rfl) rfl).trans e41
                have e43 : M36 413 2 = v12 := (hf_M36.g (show kd 413 = 44 from rfl) rfl).trans e42
                have k44 : kd (v12).toNat = 47 := ((congrArg (fun z : Int => kd z.toNat) (show M36 413 2 = v12 from e43)).symm.trans (CI.x hC_M36 (show kd 413 = 44 from rfl) 2 rfl (by decide)))
                refine jr.getf (i := 2) (x := v12) (v := .ref (v12.toNat)) rfl rfl (nlt rfl) rfl (nlt rfl) rfl rfl e43 rfl ?_
                refine jr.iload_n rfl rfl ?_
                refine jr.iload rfl rfl ?_
                refine jr_v rfl rfl (Or.inl rfl) rfl rfl (Nat.lt_trans (kx_47 k44).1 (by decide)) (kx_47 k44).2 ⟨rfl, Nat.le_of_ble_eq_true rfl, Nat.le_of_ble_eq_true rfl⟩ rfl (jc.deep (c_Program_emit_m hC_M36 (FR.rfl _ M36) k44 (by omega) (by omega) (by have hq0 : M36 413 2 = v12 := e43; omega) w36_0 (fun r45 M45 hC_M45 hf_M45 z45 w45_0 => ?_)) (by omega))
                have ht_M45 : FR W_par T M45 := FR.t ht_M36 hf_M45 (kw_sub rfl)
                refine jr.pop rfl rfl ?_
                refine jr.aload_n rfl rfl ?_
                refine jr.bipush rfl (jbp _ (nlt rfl)) ?_
                have e47 : M36 413 3 = v1 := (hf_M36.g (show kd 413 = 44 from rfl) rfl).trans e37
                have e48 : M45 413 3 = v1 := (hf_M45.g (show kd 413 = 44 from rfl) rfl).trans e47
                refine jr_v rfl rfl (Or.inl rfl) rfl rfl (nlt rfl) rfl ⟨rfl, Nat.le_of_ble_eq_true rfl, Nat.le_of_ble_eq_true rfl⟩ rfl (jc.deep (c_Parser_expect hC_M45 (FR.rfl _ M45) (by omega) (by have hq0 : M45 413 3 = v1 := e48; omega) (fun M46 hC_M46 hf_M46  => ?_)) (by omega))
                have ht_M46 : FR W_par T M46 := FR.t ht_M45 hf_M46 (kw_sub rfl)
                exact jr.vreturn rfl rfl (q _ hC_M46 ht_M46  (MP.fr w45_0 hC_M45 hf_M46 rfl))
              · refine jr.aload_n rfl rfl ?_
                obtain ⟨v49, e49⟩ : ∃ z_, M16 413 7 = z_ := ⟨_, rfl⟩
                have b49 : 0 ≤ v49 ∧ v49 ≤ 1600 := by rw [← e49]; exact (CI.r hC_M16 (show kd 413 = 44 from rfl) (by decide) 7)
                refine jr.getf (i := 7) (x := v49) (v := .int (Int32.ofInt (v49))) rfl rfl (nlt rfl) rfl (nlt rfl) rfl rfl e49 rfl ?_
                refine jr.istore (ls' := [_, _, _, _, _]) rfl (nlt rfl) rfl ?_
                refine jr.aload_n rfl rfl ?_
                have e51 : M16 413 3 = v1 := (hf_M16.g (show kd 413 = 44 from rfl) rfl).trans e18
                refine jr_v rfl rfl (Or.inl rfl) rfl rfl (nlt rfl) rfl ⟨rfl, Nat.le_of_ble_eq_true rfl, Nat.le_of_ble_eq_true rfl⟩ rfl (jc.deep (c_Parser_expectName hC_M16 (FR.rfl _ M16)  (by have hq0 : M16 413 3 = v1 := e51; omega) (fun M50 hC_M50 hf_M50  => ?_)) (by omega))
                have ht_M50 : FR W_par T M50 := FR.t ht_M16 hf_M50 (kw_sub rfl)
                refine jr.aload_n rfl rfl ?_
                refine jr.iload_n rfl rfl ?_
                refine jr_s rfl rfl (Or.inl rfl) ⟨Nat.le_of_ble_eq_true rfl, Nat.le_of_ble_eq_true rfl⟩ rfl rfl (jc.deep (c_Parser_expsOf hC_M50 (by omega) (fun r52 z52  => ?_)) (by omega))
                refine jr.iload_n rfl rfl ?_
                have e54 : M50 413 3 = v1 := (hf_M50.g (show kd 413 = 44 from rfl) rfl).trans e51
                obtain ⟨v55, e55⟩ : ∃ z_, M50 413 0 = z_ := ⟨_, rfl⟩
                have b55 : (-2147483648) ≤ v55 ∧ v55 ≤ 2147483647 := by rw [← e55]; exact (CI.r hC_M50 (show kd 413 = 44 from rfl) (by decide) 0)
                refine jr_v rfl rfl (Or.inl rfl) rfl rfl (nlt rfl) rfl ⟨rfl, Nat.le_of_ble_eq_true rfl, Nat.le_of_ble_eq_true rfl⟩ rfl (jc.deep (ihP.2.2.2.1 hC_M50 (FR.rfl _ M50) (by omega) (by omega) (by have hq0 : M50 413 3 = v1 := e54; omega) (by have hq0 : M50 413 0 = v55 := e55; omega) (MP.fr (MP.fr w15_0 hC_M15 hf_M16 rfl) hC_M16 hf_M50 rfl) (by omega) (fun M53 hC_M53 hf_M53 w53_0 => ?_)) (by omega))
                have ht_M53 : FR W_par T M53 := FR.t ht_M50 hf_M53 (kw_sub rfl)
                refine jr.aload_n rfl rfl ?_
                have e56 : M15 413 2 = v12 := (hf_M15.g (show kd 413 = 44 from rfl) rfl).trans e13
                have e57 : M16 413 2 = v12 := (hf_M16.g (show kd 413 = 44 from rfl) rfl).trans e56
                have e58 : M50 413 2 = v12 := (hf_M50.g (show kd 413 = 44 from rfl) rfl).trans e57
                have e59 : M53 413 2 = v12 := (hf_M53.g (show kd 413 = 44 from rfl) rfl).trans e58
                have k60 : kd (v12).toNat = 47 := ((congrArg (fun z : Int => kd z.toNat) (show M53 413 2 = v12 from e59)).symm.trans (CI.x hC_M53 (show kd 413 = 44 from rfl) 2 rfl (by decide)))
                refine jr.getf (i := 2) (x := v12) (v := .ref (v12.toNat)) rfl rfl (nlt rfl) rfl (nlt rfl) rfl rfl e59 rfl ?_
                refine jr.iload_n rfl rfl ?_
                refine jr.iload rfl rfl ?_
                refine jr_v rfl rfl (Or.inl rfl) rfl rfl (Nat.lt_trans (kx_47 k60).1 (by decide)) (kx_47 k60).2 ⟨rfl, Nat.le_of_ble_eq_true rfl, Nat.le_of_ble_eq_true rfl⟩ rfl (jc.deep (c_Program_emit_m hC_M53 (FR.rfl _ M53) k60 (by omega) (by omega) (by have hq0 : M53 413 2 = v12 := e59; omega) w53_0 (fun r61 M61 hC_M61 hf_M61 z61 w61_0 => ?_)) (by omega))
                have ht_M61 : FR W_par T M61 := FR.t ht_M53 hf_M61 (kw_sub rfl)
                refine jr.pop rfl rfl ?_
                refine jr.aload_n rfl rfl ?_
                refine jr.bipush rfl (jbp _ (nlt rfl)) ?_
                have e63 : M53 413 3 = v1 := (hf_M53.g (show kd 413 = 44 from rfl) rfl).trans e54
                have e64 : M61 413 3 = v1 := (hf_M61.g (show kd 413 = 44 from rfl) rfl).trans e63
                refine jr_v rfl rfl (Or.inl rfl) rfl rfl (nlt rfl) rfl ⟨rfl, Nat.le_of_ble_eq_true rfl, Nat.le_of_ble_eq_true rfl⟩ rfl (jc.deep (c_Parser_expect hC_M61 (FR.rfl _ M61) (by omega) (by have hq0 : M61 413 3 = v1 := e64; omega) (fun M62 hC_M62 hf_M62  => ?_)) (by omega))
                have ht_M62 : FR W_par T M62 := FR.t ht_M61 hf_M62 (kw_sub rfl)
                exact jr.vreturn rfl rfl (q _ hC_M62 ht_M62  (MP.fr w61_0 hC_M61 hf_M62 rfl))
          · refine jr.aload_n rfl rfl ?_
            refine jr.iload_n rfl rfl ?_
            refine jr.iload_n rfl rfl ?_
            have e66 : M16 413 3 = v1 := (hf_M16.g (show kd 413 = 44 from rfl) rfl).trans e18
            refine jr_v rfl rfl (Or.inl rfl) rfl rfl (nlt rfl) rfl ⟨rfl, Nat.le_of_ble_eq_true rfl, Nat.le_of_ble_eq_true rfl⟩ rfl (jc.deep (ihP.2.2.2.2.2.1 hC_M16 (FR.rfl _ M16) (by omega) (by omega) (by have hq0 : M16 413 3 = v1 := e66; omega) (MP.fr w15_0 hC_M15 hf_M16 rfl) (by omega) (fun M65 hC_M65 hf_M65 w65_0 => ?_)) (by omega))
            have ht_M65 : FR W_par T M65 := FR.t ht_M16 hf_M65 (kw_sub rfl)
            exact jr.vreturn rfl rfl (q _ hC_M65 ht_M65  w65_0)
        · have sx29 : (1 : Int) ≤ y := by omega
          clear h29
          refine jr.iload_n rfl rfl ?_
          refine jr.iconst rfl ?_
          refine jr.icmp_lt rfl rfl (by first | (refine rgb (by assumption) ?_; exact rfl) | omega) (rgl rfl) (fun h34 => ?_) (fun h34 => ?_)
          · refine jr.aload_n rfl rfl ?_
            refine jr_v rfl rfl (Or.inl rfl) rfl rfl (nlt rfl) rfl ⟨rfl, Nat.le_of_ble_eq_true rfl, Nat.le_of_ble_eq_true rfl⟩ rfl (jc.deep (c_Parser_countNode hC_M (FR.rfl _ M)  p1 (fun M67 hC_M67 hf_M67 w67_0 => ?_)) (by omega))
            have ht_M67 : FR W_par T M67 := FR.t ht_M hf_M67 (kw_sub rfl)
            refine jr.aload_n rfl rfl ?_
            obtain ⟨v68, e68⟩ : ∃ z_, M 413 2 = z_ := ⟨_, rfl⟩
            have b68 : 0 ≤ v68 ∧ v68 ≤ 597 := by rw [← e68]; exact (CI.r hC_M (show kd 413 = 44 from rfl) (by decide) 2)
            have e69 : M67 413 2 = v68 := (hf_M67.g (show kd 413 = 44 from rfl) rfl).trans e68
            have k70 : kd (v68).toNat = 47 := ((congrArg (fun z : Int => kd z.toNat) (show M67 413 2 = v68 from e69)).symm.trans (CI.x hC_M67 (show kd 413 = 44 from rfl) 2 rfl (by decide)))
            refine jr.getf (i := 2) (x := v68) (v := .ref (v68.toNat)) rfl rfl (nlt rfl) rfl (nlt rfl) rfl rfl e69 rfl ?_
            refine jr.bipush rfl (jbp _ (nlt rfl)) ?_
            refine jr.iconst rfl ?_
            refine jr_v rfl rfl (Or.inl rfl) rfl rfl (Nat.lt_trans (kx_47 k70).1 (by decide)) (kx_47 k70).2 ⟨rfl, Nat.le_of_ble_eq_true rfl, Nat.le_of_ble_eq_true rfl⟩ rfl (jc.deep (c_Program_emit_m hC_M67 (FR.rfl _ M67) k70 (by omega) (by omega) (by have hq0 : M67 413 2 = v68 := e69; omega) w67_0 (fun r71 M71 hC_M71 hf_M71 z71 w71_0 => ?_)) (by omega))
            have ht_M71 : FR W_par T M71 := FR.t ht_M67 hf_M71 (kw_sub rfl)
            refine jr.pop rfl rfl ?_
            refine jr.aload_n rfl rfl ?_
            have e73 : M67 413 3 = v1 := (hf_M67.g (show kd 413 = 44 from rfl) rfl).trans e1
            have e74 : M71 413 3 = v1 := (hf_M71.g (show kd 413 = 44 from rfl) rfl).trans e73
            refine jr_v rfl rfl (Or.inl rfl) rfl rfl (nlt rfl) rfl ⟨rfl, Nat.le_of_ble_eq_true rfl, Nat.le_of_ble_eq_true rfl⟩ rfl (jc.deep (c_Parser_advance hC_M71 (FR.rfl _ M71)  (by have hq0 : M71 413 3 = v1 := e74; omega) (fun M72 hC_M72 hf_M72  => ?_)) (by omega))
            have ht_M72 : FR W_par T M72 := FR.t ht_M71 hf_M72 (kw_sub rfl)
            refine jr.iload_n rfl rfl ?_
            refine jr.iconst rfl ?_
            refine jr.icmp_ne rfl rfl (by first | (refine rgb (by assumption) ?_; exact rfl) | omega) (rgl rfl) (fun h69 => ?_) (fun h69 => ?_)
            · exact absurd h69 (by omega)
            · refine jr.aload_n rfl rfl ?_
              refine jr.iload_n rfl rfl ?_
              refine jr.iload_n rfl rfl ?_
              have e76 : M72 413 3 = v1 := (hf_M72.g (show kd 413 = 44 from rfl) rfl).trans e74
              refine jr_v rfl rfl (Or.inl rfl) rfl rfl (nlt rfl) rfl ⟨rfl, Nat.le_of_ble_eq_true rfl, Nat.le_of_ble_eq_true rfl⟩ rfl (jc.deep (ihP.2.2.2.2.2.1 hC_M72 (FR.rfl _ M72) (by omega) (by omega) (by have hq0 : M72 413 3 = v1 := e76; omega) (MP.fr w71_0 hC_M71 hf_M72 rfl) (by omega) (fun M75 hC_M75 hf_M75 w75_0 => ?_)) (by omega))
              have ht_M75 : FR W_par T M75 := FR.t ht_M72 hf_M75 (kw_sub rfl)
              exact jr.vreturn rfl rfl (q _ hC_M75 ht_M75  w75_0)
          · refine jr.iload_n rfl rfl ?_
            refine jr.bipush rfl (jbp _ (nlt rfl)) ?_
            refine jr.icmp_gt rfl rfl (by first | (refine rgb (by assumption) ?_; exact rfl) | omega) (rgl rfl) (fun h40 => ?_) (fun h40 => ?_)
            · refine jr.aload_n rfl rfl ?_
              refine jr_v rfl rfl (Or.inl rfl) rfl rfl (nlt rfl) rfl ⟨rfl, Nat.le_of_ble_eq_true rfl, Nat.le_of_ble_eq_true rfl⟩ rfl (jc.deep (c_Parser_countNode hC_M (FR.rfl _ M)  p1 (fun M77 hC_M77 hf_M77 w77_0 => ?_)) (by omega))
              have ht_M77 : FR W_par T M77 := FR.t ht_M hf_M77 (kw_sub rfl)
              refine jr.aload_n rfl rfl ?_
              obtain ⟨v78, e78⟩ : ∃ z_, M 413 2 = z_ := ⟨_, rfl⟩
              have b78 : 0 ≤ v78 ∧ v78 ≤ 597 := by rw [← e78]; exact (CI.r hC_M (show kd 413 = 44 from rfl) (by decide) 2)
              have e79 : M77 413 2 = v78 := (hf_M77.g (show kd 413 = 44 from rfl) rfl).trans e78
              have k80 : kd (v78).toNat = 47 := ((congrArg (fun z : Int => kd z.toNat) (show M77 413 2 = v78 from e79)).symm.trans (CI.x hC_M77 (show kd 413 = 44 from rfl) 2 rfl (by decide)))
              refine jr.getf (i := 2) (x := v78) (v := .ref (v78.toNat)) rfl rfl (nlt rfl) rfl (nlt rfl) rfl rfl e79 rfl ?_
              refine jr.bipush rfl (jbp _ (nlt rfl)) ?_
              refine jr.iconst rfl ?_
              refine jr_v rfl rfl (Or.inl rfl) rfl rfl (Nat.lt_trans (kx_47 k80).1 (by decide)) (kx_47 k80).2 ⟨rfl, Nat.le_of_ble_eq_true rfl, Nat.le_of_ble_eq_true rfl⟩ rfl (jc.deep (c_Program_emit_m hC_M77 (FR.rfl _ M77) k80 (by omega) (by omega) (by have hq0 : M77 413 2 = v78 := e79; omega) w77_0 (fun r81 M81 hC_M81 hf_M81 z81 w81_0 => ?_)) (by omega))
              have ht_M81 : FR W_par T M81 := FR.t ht_M77 hf_M81 (kw_sub rfl)
              refine jr.pop rfl rfl ?_
              refine jr.aload_n rfl rfl ?_
              have e83 : M77 413 3 = v1 := (hf_M77.g (show kd 413 = 44 from rfl) rfl).trans e1
              have e84 : M81 413 3 = v1 := (hf_M81.g (show kd 413 = 44 from rfl) rfl).trans e83
              refine jr_v rfl rfl (Or.inl rfl) rfl rfl (nlt rfl) rfl ⟨rfl, Nat.le_of_ble_eq_true rfl, Nat.le_of_ble_eq_true rfl⟩ rfl (jc.deep (c_Parser_advance hC_M81 (FR.rfl _ M81)  (by have hq0 : M81 413 3 = v1 := e84; omega) (fun M82 hC_M82 hf_M82  => ?_)) (by omega))
              have ht_M82 : FR W_par T M82 := FR.t ht_M81 hf_M82 (kw_sub rfl)
              refine jr.iload_n rfl rfl ?_
              refine jr.iconst rfl ?_
              refine jr.icmp_ne rfl rfl (by first | (refine rgb (by assumption) ?_; exact rfl) | omega) (rgl rfl) (fun h69 => ?_) (fun h69 => ?_)
              · refine jr.iconst rfl ?_
                refine jr.istore (ls' := [_, _, _, _, _]) rfl (nlt rfl) rfl ?_
                refine jr.iload_n rfl rfl ?_
                refine jr.bipush rfl (jbp _ (nlt rfl)) ?_
                refine jr.icmp_eq rfl rfl (by first | (refine rgb (by assumption) ?_; exact rfl) | omega) (rgl rfl) (fun h85 => ?_) (fun h85 => ?_)
                · exact absurd h85 (by omega)
                · refine jr.iload_n rfl rfl ?_
                  refine jr.bipush rfl (jbp _ (nlt rfl)) ?_
                  refine jr.icmp_ne rfl rfl (by first | (refine rgb (by assumption) ?_; exact rfl) | omega) (rgl rfl) (fun h91 => ?_) (fun h91 => ?_)
                  · refine jr.aload_n rfl rfl ?_
                    refine jr.iload_n rfl rfl ?_
                    refine jr_s rfl rfl (Or.inl rfl) ⟨Nat.le_of_ble_eq_true rfl, Nat.le_of_ble_eq_true rfl⟩ rfl rfl (jc.deep (c_Parser_expsOf hC_M82 (by omega) (fun r85 z85  => ?_)) (by omega))
                    refine jr.iload_n rfl rfl ?_
                    have e87 : M82 413 3 = v1 := (hf_M82.g (show kd 413 = 44 from rfl) rfl).trans e84
                    obtain ⟨v88, e88⟩ : ∃ z_, M77 413 0 = z_ := ⟨_, rfl⟩
                    have b88 : (-2147483648) ≤ v88 ∧ v88 ≤ 2147483647 := by rw [← e88]; exact (CI.r hC_M77 (show kd 413 = 44 from rfl) (by decide) 0)
                    have e89 : M81 413 0 = v88 := (hf_M81.g (show kd 413 = 44 from rfl) rfl).trans e88
                    have e90 : M82 413 0 = v88 := (hf_M82.g (show kd 413 = 44 from rfl) rfl).trans e89
                    refine jr_v rfl rfl (Or.inl rfl) rfl rfl (nlt rfl) rfl ⟨rfl, Nat.le_of_ble_eq_true rfl, Nat.le_of_ble_eq_true rfl⟩ rfl (jc.deep (ihP.2.2.2.1 hC_M82 (FR.rfl _ M82) (by omega) (by omega) (by have hq0 : M82 413 3 = v1 := e87; omega) (by have hq0 : M82 413 0 = v88 := e90; omega) (MP.fr w81_0 hC_M81 hf_M82 rfl) (by omega) (fun M86 hC_M86 hf_M86 w86_0 => ?_)) (by omega))
                    have ht_M86 : FR W_par T M86 := FR.t ht_M82 hf_M86 (kw_sub rfl)
                    refine jr.aload_n rfl rfl ?_
                    have e91 : M81 413 2 = v78 := (hf_M81.g (show kd 413 = 44 from rfl) rfl).trans e79
                    have e92 : M82 413 2 = v78 := (hf_M82.g (show kd 413 = 44 from rfl) rfl).trans e91
                    have e93 : M86 413 2 = v78 := (hf_M86.g (show kd 413 = 44 from rfl) rfl).trans e92
                    have k94 : kd (v78).toNat = 47 := ((congrArg (fun z : Int => kd z.toNat) (show M86 413 2 = v78 from e93)).symm.trans (CI.x hC_M86 (show kd 413 = 44 from rfl) 2 rfl (by decide)))
                    refine jr.getf (i := 2) (x := v78) (v := .ref (v78.toNat)) rfl rfl (nlt rfl) rfl (nlt rfl) rfl rfl e93 rfl ?_
                    refine jr.iload_n rfl rfl ?_
                    refine jr.iload rfl rfl ?_
                    refine jr_v rfl rfl (Or.inl rfl) rfl rfl (Nat.lt_trans (kx_47 k94).1 (by decide)) (kx_47 k94).2 ⟨rfl, Nat.le_of_ble_eq_true rfl, Nat.le_of_ble_eq_true rfl⟩ rfl (jc.deep (c_Program_emit_m hC_M86 (FR.rfl _ M86) k94 (by omega) (by omega) (by have hq0 : M86 413 2 = v78 := e93; omega) w86_0 (fun r95 M95 hC_M95 hf_M95 z95 w95_0 => ?_)) (by omega))
                    have ht_M95 : FR W_par T M95 := FR.t ht_M86 hf_M95 (kw_sub rfl)
                    refine jr.pop rfl rfl ?_
                    refine jr.aload_n rfl rfl ?_
                    refine jr.bipush rfl (jbp _ (nlt rfl)) ?_
                    have e97 : M86 413 3 = v1 := (hf_M86.g (show kd 413 = 44 from rfl) rfl).trans e87
                    have e98 : M95 413 3 = v1 := (hf_M95.g (show kd 413 = 44 from rfl) rfl).trans e97
                    refine jr_v rfl rfl (Or.inl rfl) rfl rfl (nlt rfl) rfl ⟨rfl, Nat.le_of_ble_eq_true rfl, Nat.le_of_ble_eq_true rfl⟩ rfl (jc.deep (c_Parser_expect hC_M95 (FR.rfl _ M95) (by omega) (by have hq0 : M95 413 3 = v1 := e98; omega) (fun M96 hC_M96 hf_M96  => ?_)) (by omega))
                    have ht_M96 : FR W_par T M96 := FR.t ht_M95 hf_M96 (kw_sub rfl)
                    exact jr.vreturn rfl rfl (q _ hC_M96 ht_M96  (MP.fr w95_0 hC_M95 hf_M96 rfl))
                  · exact absurd (by omega) h91
              · exact absurd (by omega) h69
            · refine jr.aload_n rfl rfl ?_
              refine jr_v rfl rfl (Or.inl rfl) rfl rfl (nlt rfl) rfl ⟨rfl, Nat.le_of_ble_eq_true rfl, Nat.le_of_ble_eq_true rfl⟩ rfl (jc.deep (c_Parser_refuse hC_M (FR.rfl _ M)  (fun M99 hC_M99 hf_M99 w99_0 => ?_)) (by omega))
              have ht_M99 : FR W_par T M99 := FR.t ht_M hf_M99 (kw_sub rfl)
              obtain ⟨v100, e100⟩ : ∃ z_, M99 413 0 = z_ := ⟨_, rfl⟩
              have b100 : (-2147483648) ≤ v100 ∧ v100 ≤ 2147483647 := by rw [← e100]; exact (CI.r hC_M99 (show kd 413 = 44 from rfl) (by decide) 0)
              exact jr.vreturn rfl rfl (q _ hC_M99 ht_M99  (MP.fr p1 hC_M hf_M99 rfl))
theorem PX_all {A : Nat → Option (Nat × (Nat → Int32))} [HA A] (n : Nat) : PX A n := by
  induction n with
  | zero => exact ⟨by unfold PX_ask; intros; exfalso; omega, by unfold PX_one; intros; exfalso; omega, by unfold PX_exp; intros; exfalso; omega, by unfold PX_exps; intros; exfalso; omega, by unfold PX_block; intros; exfalso; omega, by unfold PX_choice; intros; exfalso; omega, by unfold PX_deed; intros; exfalso; omega⟩
  | succ n ih => exact ⟨c_Parser_askingWord ih, c_Parser_one ih, c_Parser_exp ih, c_Parser_exps ih, c_Parser_block ih, c_Parser_choice ih, c_Parser_deed ih⟩
