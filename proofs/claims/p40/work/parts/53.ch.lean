/-! ===== the class's methods ===== -/
noncomputable def W_c_Machine_enter : List (Nat × Nat) := [(14, 0), (14, 1), (14, 2), (22, 4), (22, 7), (22, 16), (22, 17), (24, 1000), (27, 5), (27, 6), (28, 1000), (29, 1000), (30, 1000), (31, 1000), (32, 1000)]
theorem c_Machine_enter {A : Nat → Option (Nat × (Nat → Int32))} {Q : Option Value → jm → Prop} {L : Int} {T : jm} {M : jm} (hC_M : CI M) (ht_M : FR W_c_Machine_enter T M) {x : Int} (h_x : 0 ≤ x ∧ x ≤ 15) {y : Int} (h_y : 0 ≤ y ∧ y ≤ 1) {F : Int} (g_F : M 421 4 = F) {Z : Int} (g_Z : M 421 7 = Z) (p0 : LC M L) (q : ∀ (r : Int) (M' : jm), CI M' → FR W_c_Machine_enter T M' → 0 ≤ r ∧ r ≤ 1 → (LC M' L) → ((r = 1 ∧ M' 421 7 = Z + 1 ∧ M' 421 4 = F) ∨ (r = 0 ∧ Z = 8 ∧ M' 421 7 = 8)) → Q (some (.int (Int32.ofInt r))) M') : jc A 2 145 [.ref (421), .int (Int32.ofInt (x)), .int (Int32.ofInt (y))] M Q := by
  refine jc_of (m := xm_145) rfl (Nat.le_of_ble_eq_true rfl) rfl ?_
  have b_F : 0 ≤ F ∧ F ≤ 1 := by rw [← g_F]; exact (CI.r hC_M (show kd 421 = 22 from rfl) (by decide) 4)
  have b_Z : 0 ≤ Z ∧ Z ≤ 8 := by rw [← g_Z]; exact (CI.r hC_M (show kd 421 = 22 from rfl) (by decide) 7)
  refine jr.aload_n rfl rfl ?_
  refine jr.getf (i := 7) (x := Z) (v := .int (Int32.ofInt (Z))) rfl rfl (nlt rfl) rfl (nlt rfl) rfl rfl g_Z rfl ?_
  refine jr.bipush rfl (jbp _ (nlt rfl)) ?_
  refine jr.icmp_lt rfl rfl (by first | (refine rgb (by assumption) ?_; exact rfl) | omega) (rgl rfl) (fun h6 => ?_) (fun h6 => ?_)
  · refine jr.aload_n rfl rfl ?_
    refine jr.getf (i := 6) (v := .ref 434) rfl rfl (nlt rfl) rfl (nlt rfl) rfl rfl rfl rfl ?_
    refine jr.aload_n rfl rfl ?_
    refine jr.getf (i := 7) (x := Z) (v := .int (Int32.ofInt (Z))) rfl rfl (nlt rfl) rfl (nlt rfl) rfl rfl g_Z rfl ?_
    have k1 := kxe_23 (a := 434) rfl (i := Z) (by omega) (by omega)
    refine jr.aald (c := (xe 434 Z)) rfl (by decide) rfl (by decide) (by decide) rfl (by decide) (by omega) (by omega) k1.1 ?_
    refine jr.astore_n (ls' := [_, _, _, _]) rfl (nlt rfl) rfl ?_
    refine jr.aload_n rfl rfl ?_
    refine jr.iload_n rfl rfl ?_
    refine jr.putf (i := 0) (x := x) rfl rfl (Nat.lt_trans (kx_14 k1.2).1 (by decide)) (kx_14 k1.2).2 (by decide) rfl rfl rfl rfl rfl ?_
    refine jr.aload_n rfl rfl ?_
    refine jr.aload_n rfl rfl ?_
    obtain ⟨v2, e2⟩ : ∃ z_, M 421 16 = z_ := ⟨_, rfl⟩
    have b2 : (-2147483648) ≤ v2 ∧ v2 ≤ 2147483647 := by rw [← e2]; exact (CI.r hC_M (show kd 421 = 22 from rfl) (by decide) 16)
    refine jr.getf (i := 16) (x := v2) (v := .int (Int32.ofInt (v2))) rfl rfl (nlt rfl) rfl (nlt rfl) rfl rfl ((ju_i _ _ (zne (by decide))).trans e2) rfl ?_
    refine jr.putf (i := 1) (x := v2) rfl rfl (Nat.lt_trans (kx_14 k1.2).1 (by decide)) (kx_14 k1.2).2 (by decide) rfl rfl rfl rfl rfl ?_
    refine jr.aload_n rfl rfl ?_
    refine jr.iload_n rfl rfl ?_
    refine jr.putf (i := 2) (x := y) rfl rfl (Nat.lt_trans (kx_14 k1.2).1 (by decide)) (kx_14 k1.2).2 (by decide) rfl rfl rfl (j_zr (by omega)) (j_fz (by omega)) ?_
    refine jr.aload_n rfl rfl ?_
    have k3 := kf_14_3 k1.2
    refine jr.getf (i := 3) (v := .ref ((xe 434 Z) + 1)) rfl rfl (Nat.lt_trans (kx_14 k1.2).1 (by decide)) (kx_14 k1.2).2 (by decide) rfl rfl rfl (jval_ref rfl k3.1) ?_
    refine jr.aload_n rfl rfl ?_
    refine jr.getf (i := 1) (v := .ref 423) rfl rfl (nlt rfl) rfl (nlt rfl) rfl rfl rfl rfl ?_
    refine jr_v rfl rfl (Or.inl rfl) rfl rfl (Nat.lt_trans (kx_27 k3.2).1 (by decide)) (kx_27 k3.2).2 ⟨rfl, Nat.le_of_ble_eq_true rfl, Nat.le_of_ble_eq_true rfl⟩ rfl (jc.deep (c_Memory_becomeLike (CI.u (CI.u (CI.u hC_M (i := 0) k1.2 (show (0 : Int) ≤ _ ∧ _ ≤ (15 : Int) from by omega) rfl) (i := 1) k1.2 (show (-2147483648 : Int) ≤ _ ∧ _ ≤ (2147483647 : Int) from by omega) rfl) (i := 2) k1.2 (show (0 : Int) ≤ _ ∧ _ ≤ (1 : Int) from by omega) rfl) (FR.rfl _ ((ju (ju (ju M ((xe 434 Z)) 0 x) ((xe 434 Z)) 1 v2) ((xe 434 Z)) 2 y))) k3.2 (show kd 423 = 27 from rfl) (LC.n (LC.n (LC.n p0 k1.2 (by decide)) k1.2 (by decide)) k1.2 (by decide)) (fun M4 hC_M4 hf_M4 w4_0 => ?_)) (Nat.le_of_ble_eq_true rfl))
    have ht_M4 : FR W_c_Machine_enter T M4 := FR.t (FR.o (FR.o (FR.o ht_M k1.2 rfl) k1.2 rfl) k1.2 rfl) hf_M4 (kw_sub rfl)
    refine jr.aload_n rfl rfl ?_
    refine jr.dup rfl rfl ?_
    have e5 : M4 421 7 = Z := (hf_M4.g (show kd 421 = 22 from rfl) rfl).trans ((ju_i _ _ (zne (by decide))).trans ((ju_i _ _ (zne (by decide))).trans ((ju_i _ _ (zne (by decide))).trans g_Z)))
    refine jr.getf (i := 7) (x := Z) (v := .int (Int32.ofInt (Z))) rfl rfl (nlt rfl) rfl (nlt rfl) rfl rfl e5 rfl ?_
    refine jr.iconst rfl ?_
    refine jr.iadd rfl ?_
    refine jr.putf (i := 7) (x := (Z + 1)) rfl rfl (nlt rfl) rfl (nlt rfl) rfl rfl rfl rfl rfl ?_
    refine jr.aload_n rfl rfl ?_
    refine jr.aload_n rfl rfl ?_
    obtain ⟨v6, e6⟩ : ∃ z_, M 421 2 = z_ := ⟨_, rfl⟩
    have b6 : 0 ≤ v6 ∧ v6 ≤ 597 := by rw [← e6]; exact (CI.r hC_M (show kd 421 = 22 from rfl) (by decide) 2)
    have e7 : M4 421 2 = v6 := (hf_M4.g (show kd 421 = 22 from rfl) rfl).trans ((ju_c _ _ (kd_ne (by rw [(show kd 421 = 22 from rfl), k1.2]; decide))).trans ((ju_i _ _ (zne (by decide))).trans ((ju_i _ _ (zne (by decide))).trans e6)))
    have k8 : kd (v6).toNat = 47 := ((congrArg (fun z : Int => kd z.toNat) (show (ju M4 421 7 (Z + 1)) 421 2 = v6 from ((ju_i _ _ (zne (by decide))).trans e7))).symm.trans (CI.x (CI.u hC_M4 (i := 7) (show kd 421 = 22 from rfl) (show (0 : Int) ≤ _ ∧ _ ≤ (8 : Int) from by omega) rfl) (show kd 421 = 22 from rfl) 2 rfl (by decide)))
    refine jr.getf (i := 2) (x := v6) (v := .ref (v6.toNat)) rfl rfl (nlt rfl) rfl (nlt rfl) rfl rfl ((ju_i _ _ (zne (by decide))).trans e7) rfl ?_
    have k9 := kf_47_5 k8
    refine jr.getf (i := 5) (v := .ref ((v6.toNat) + 3)) rfl rfl (Nat.lt_trans (kx_47 k8).1 (by decide)) (kx_47 k8).2 (by decide) rfl rfl rfl (jval_ref rfl k9.1) ?_
    refine jr.iload_n rfl rfl ?_
    obtain ⟨v10, e10⟩ : ∃ z_, M (((v6.toNat) + 3)) x = z_ := ⟨_, rfl⟩
    have b10 : (-2147483648) ≤ v10 ∧ v10 ≤ 2147483647 := by rw [← e10]; exact (CI.r hC_M k9.2 (by decide) x)
    have e11 : M4 (((v6.toNat) + 3)) x = v10 := (hf_M4.g k9.2 rfl).trans ((ju_c _ _ (kd_ne (by rw [k9.2, k1.2]; decide))).trans ((ju_c _ _ (kd_ne (by rw [k9.2, k1.2]; decide))).trans ((ju_c _ _ (kd_ne (by rw [k9.2, k1.2]; decide))).trans e10)))
    refine jr.iald (i := x) (x := v10) rfl (Nat.lt_trans (kx_50 k9.2).1 (by decide)) (kx_50 k9.2).2 (by decide) (by omega) (by omega) ((ju_c _ _ (kd_ne (by rw [k9.2, (show kd 421 = 22 from rfl)]; decide))).trans e11) ?_
    refine jr.putf (i := 16) (x := v10) rfl rfl (nlt rfl) rfl (nlt rfl) rfl rfl rfl rfl rfl ?_
    refine jr.aload_n rfl rfl ?_
    refine jr.iconst rfl ?_
    refine jr.putf (i := 17) (x := 0) rfl rfl (nlt rfl) rfl (nlt rfl) rfl rfl rfl rfl rfl ?_
    refine jr.iconst rfl ?_
    have e12 : M4 421 4 = F := (hf_M4.g (show kd 421 = 22 from rfl) rfl).trans ((ju_i _ _ (zne (by decide))).trans ((ju_i _ _ (zne (by decide))).trans ((ju_i _ _ (zne (by decide))).trans g_F)))
    exact jr.ireturn rfl rfl rfl (q _ _ (CI.u (CI.u (CI.u hC_M4 (i := 7) (show kd 421 = 22 from rfl) (show (0 : Int) ≤ _ ∧ _ ≤ (8 : Int) from by omega) rfl) (i := 16) (show kd 421 = 22 from rfl) (show (-2147483648 : Int) ≤ _ ∧ _ ≤ (2147483647 : Int) from by omega) rfl) (i := 17) (show kd 421 = 22 from rfl) (show (0 : Int) ≤ _ ∧ _ ≤ (1 : Int) from by omega) rfl) (FR.o (FR.o (FR.o ht_M4 (show kd 421 = 22 from rfl) rfl) (show kd 421 = 22 from rfl) rfl) (show kd 421 = 22 from rfl) rfl) (by omega) (LC.n (LC.n (LC.n (LC.le w4_0 (by omega)) (show kd 421 = 22 from rfl) (by decide)) (show kd 421 = 22 from rfl) (by decide)) (show kd 421 = 22 from rfl) (by decide)) (by have hq0 : (ju (ju (ju M4 421 7 (Z + 1)) 421 16 v10) 421 17 0) 421 7 = Z + 1 := ((ju_i _ _ (zne (by decide))).trans ((ju_i _ _ (zne (by decide))).trans (ju_same _ _ _ _))); have hq1 : (ju (ju (ju M4 421 7 (Z + 1)) 421 16 v10) 421 17 0) 421 4 = F := ((ju_i _ _ (zne (by decide))).trans ((ju_i _ _ (zne (by decide))).trans ((ju_i _ _ (zne (by decide))).trans e12))); omega))
  · refine jr.aload_n rfl rfl ?_
    refine jr.bipush rfl (jbp _ (nlt rfl)) ?_
    refine jr_v rfl rfl (Or.inl rfl) rfl rfl (nlt rfl) rfl ⟨rfl, Nat.le_of_ble_eq_true rfl, Nat.le_of_ble_eq_true rfl⟩ rfl (jc.deep (c_Machine_fail hC_M (FR.rfl _ M) (by omega) (fun M13 hC_M13 hf_M13  => ?_)) (Nat.le_of_ble_eq_true rfl))
    have ht_M13 : FR W_c_Machine_enter T M13 := FR.t ht_M hf_M13 (kw_sub rfl)
    refine jr.iconst rfl ?_
    have e14 : M13 421 7 = Z := (hf_M13.g (show kd 421 = 22 from rfl) rfl).trans g_Z
    obtain ⟨v15, e15⟩ : ∃ z_, M13 421 4 = z_ := ⟨_, rfl⟩
    have b15 : 0 ≤ v15 ∧ v15 ≤ 1 := by rw [← e15]; exact (CI.r hC_M13 (show kd 421 = 22 from rfl) (by decide) 4)
    exact jr.ireturn rfl rfl rfl (q _ _ hC_M13 ht_M13 (by omega) (LC.fr (LC.le p0 (by omega)) hf_M13 rfl) (by have hq0 : M13 421 7 = Z := e14; have hq1 : M13 421 4 = v15 := e15; omega))
noncomputable def W_c_Machine_leaveBody : List (Nat × Nat) := [(22, 16), (22, 17), (22, 18), (27, 5), (27, 6), (28, 1000), (29, 1000), (30, 1000), (31, 1000), (32, 1000)]
theorem c_Machine_leaveBody {A : Nat → Option (Nat × (Nat → Int32))} {Q : Option Value → jm → Prop} {L : Int} {T : jm} {M : jm} (hC_M : CI M) (ht_M : FR W_c_Machine_leaveBody T M) {x : Int} (h_x : (-2147483648) ≤ x ∧ x ≤ 2147483647) (p0 : 1 ≤ M 421 7 ∧ M 421 7 ≤ 8) (p1 : LC M L) (q : ∀ (M' : jm), CI M' → FR W_c_Machine_leaveBody T M' → (LC M' L) → Q none M') : jc A 2 146 [.ref (421), .int (Int32.ofInt (x))] M Q := by
  refine jc_of (m := xm_146) rfl (Nat.le_of_ble_eq_true rfl) rfl ?_
  obtain ⟨v1, e1⟩ : ∃ z_, M 421 7 = z_ := ⟨_, rfl⟩
  have b1 : 0 ≤ v1 ∧ v1 ≤ 8 := by rw [← e1]; exact (CI.r hC_M (show kd 421 = 22 from rfl) (by decide) 7)
  have b2 : 1 ≤ v1 ∧ v1 ≤ 8 := by rw [← e1]; exact p0
  refine jr.iload_n rfl rfl ?_
  refine jr.iconst rfl ?_
  refine jr.icmp_ne rfl rfl (by first | (refine rgb (by assumption) ?_; exact rfl) | omega) (rgl rfl) (fun h2 => ?_) (fun h2 => ?_)
  · refine jr.aload_n rfl rfl ?_
    refine jr.iload_n rfl rfl ?_
    refine jr.putf (i := 18) (x := x) rfl rfl (nlt rfl) rfl (nlt rfl) rfl rfl rfl rfl rfl ?_
    refine jr.aload_n rfl rfl ?_
    refine jr.iconst rfl ?_
    refine jr.putf (i := 17) (x := 1) rfl rfl (nlt rfl) rfl (nlt rfl) rfl rfl rfl rfl rfl ?_
    refine jr.aload_n rfl rfl ?_
    refine jr.aload_n rfl rfl ?_
    obtain ⟨v3, e3⟩ : ∃ z_, M 421 2 = z_ := ⟨_, rfl⟩
    have b3 : 0 ≤ v3 ∧ v3 ≤ 597 := by rw [← e3]; exact (CI.r hC_M (show kd 421 = 22 from rfl) (by decide) 2)
    have k4 : kd (v3).toNat = 47 := ((congrArg (fun z : Int => kd z.toNat) (show (ju (ju M 421 18 x) 421 17 1) 421 2 = v3 from ((ju_i _ _ (zne (by decide))).trans ((ju_i _ _ (zne (by decide))).trans e3)))).symm.trans (CI.x (CI.u (CI.u hC_M (i := 18) (show kd 421 = 22 from rfl) (show (-2147483648 : Int) ≤ _ ∧ _ ≤ (2147483647 : Int) from by omega) rfl) (i := 17) (show kd 421 = 22 from rfl) (show (0 : Int) ≤ _ ∧ _ ≤ (1 : Int) from by omega) rfl) (show kd 421 = 22 from rfl) 2 rfl (by decide)))
    refine jr.getf (i := 2) (x := v3) (v := .ref (v3.toNat)) rfl rfl (nlt rfl) rfl (nlt rfl) rfl rfl ((ju_i _ _ (zne (by decide))).trans ((ju_i _ _ (zne (by decide))).trans e3)) rfl ?_
    have k5 := kf_47_6 k4
    refine jr.getf (i := 6) (v := .ref ((v3.toNat) + 4)) rfl rfl (Nat.lt_trans (kx_47 k4).1 (by decide)) (kx_47 k4).2 (by decide) rfl rfl rfl (jval_ref rfl k5.1) ?_
    refine jr.aload_n rfl rfl ?_
    refine jr_v rfl rfl (Or.inl rfl) rfl rfl (nlt rfl) rfl ⟨rfl, Nat.le_of_ble_eq_true rfl, Nat.le_of_ble_eq_true rfl⟩ rfl (jc.deep (c_Machine_chainNow (CI.u (CI.u hC_M (i := 18) (show kd 421 = 22 from rfl) (show (-2147483648 : Int) ≤ _ ∧ _ ≤ (2147483647 : Int) from by omega) rfl) (i := 17) (show kd 421 = 22 from rfl) (show (0 : Int) ≤ _ ∧ _ ≤ (1 : Int) from by omega) rfl)  (by have hq0 : (ju (ju M 421 18 x) 421 17 1) 421 7 = v1 := ((ju_i _ _ (zne (by decide))).trans ((ju_i _ _ (zne (by decide))).trans e1)); omega) (fun r6 z6  => ?_)) (Nat.le_of_ble_eq_true rfl))
    obtain ⟨v7, e7⟩ : ∃ z_, M (((v3.toNat) + 4)) r6 = z_ := ⟨_, rfl⟩
    have b7 : (-2147483648) ≤ v7 ∧ v7 ≤ 2147483647 := by rw [← e7]; exact (CI.r hC_M k5.2 (by decide) r6)
    refine jr.iald (i := r6) (x := v7) rfl (Nat.lt_trans (kx_49 k5.2).1 (by decide)) (kx_49 k5.2).2 (by decide) (by omega) (by omega) ((ju_c _ _ (kd_ne (by rw [k5.2, (show kd 421 = 22 from rfl)]; decide))).trans ((ju_c _ _ (kd_ne (by rw [k5.2, (show kd 421 = 22 from rfl)]; decide))).trans e7)) ?_
    refine jr.putf (i := 16) (x := v7) rfl rfl (nlt rfl) rfl (nlt rfl) rfl rfl rfl rfl rfl ?_
    exact jr.vreturn rfl rfl (q _ (CI.u (CI.u (CI.u hC_M (i := 18) (show kd 421 = 22 from rfl) (show (-2147483648 : Int) ≤ _ ∧ _ ≤ (2147483647 : Int) from by omega) rfl) (i := 17) (show kd 421 = 22 from rfl) (show (0 : Int) ≤ _ ∧ _ ≤ (1 : Int) from by omega) rfl) (i := 16) (show kd 421 = 22 from rfl) (show (-2147483648 : Int) ≤ _ ∧ _ ≤ (2147483647 : Int) from by omega) rfl) (FR.o (FR.o (FR.o ht_M (show kd 421 = 22 from rfl) rfl) (show kd 421 = 22 from rfl) rfl) (show kd 421 = 22 from rfl) rfl)  (LC.n (LC.n (LC.n (LC.le p1 (by omega)) (show kd 421 = 22 from rfl) (by decide)) (show kd 421 = 22 from rfl) (by decide)) (show kd 421 = 22 from rfl) (by decide)))
  · refine jr.aload_n rfl rfl ?_
    refine jr.getf (i := 1) (v := .ref 423) rfl rfl (nlt rfl) rfl (nlt rfl) rfl rfl rfl rfl ?_
    refine jr.aload_n rfl rfl ?_
    refine jr.getf (i := 6) (v := .ref 434) rfl rfl (nlt rfl) rfl (nlt rfl) rfl rfl rfl rfl ?_
    refine jr.aload_n rfl rfl ?_
    refine jr.getf (i := 7) (x := v1) (v := .int (Int32.ofInt (v1))) rfl rfl (nlt rfl) rfl (nlt rfl) rfl rfl e1 rfl ?_
    refine jr.iconst rfl ?_
    refine jr.isub rfl ?_
    have k8 := kxe_23 (a := 434) rfl (i := (v1 - 1)) (by omega) (by omega)
    refine jr.aald (c := (xe 434 (v1 - 1))) rfl (by decide) rfl (by decide) (by decide) rfl (by decide) (by omega) (by omega) k8.1 ?_
    have k9 := kf_14_3 k8.2
    refine jr.getf (i := 3) (v := .ref ((xe 434 (v1 - 1)) + 1)) rfl rfl (Nat.lt_trans (kx_14 k8.2).1 (by decide)) (kx_14 k8.2).2 (by decide) rfl rfl rfl (jval_ref rfl k9.1) ?_
    refine jr_v rfl rfl (Or.inl rfl) rfl rfl (nlt rfl) rfl ⟨rfl, Nat.le_of_ble_eq_true rfl, Nat.le_of_ble_eq_true rfl⟩ rfl (jc.deep (c_Memory_becomeLike hC_M (FR.rfl _ M) (show kd 423 = 27 from rfl) k9.2 p1 (fun M10 hC_M10 hf_M10 w10_0 => ?_)) (Nat.le_of_ble_eq_true rfl))
    have ht_M10 : FR W_c_Machine_leaveBody T M10 := FR.t ht_M hf_M10 (kw_sub rfl)
    refine jr.aload_n rfl rfl ?_
    refine jr.iload_n rfl rfl ?_
    refine jr.putf (i := 18) (x := x) rfl rfl (nlt rfl) rfl (nlt rfl) rfl rfl rfl rfl rfl ?_
    refine jr.aload_n rfl rfl ?_
    refine jr.iconst rfl ?_
    refine jr.putf (i := 17) (x := 1) rfl rfl (nlt rfl) rfl (nlt rfl) rfl rfl rfl rfl rfl ?_
    refine jr.aload_n rfl rfl ?_
    refine jr.aload_n rfl rfl ?_
    obtain ⟨v11, e11⟩ : ∃ z_, M 421 2 = z_ := ⟨_, rfl⟩
    have b11 : 0 ≤ v11 ∧ v11 ≤ 597 := by rw [← e11]; exact (CI.r hC_M (show kd 421 = 22 from rfl) (by decide) 2)
    have e12 : M10 421 2 = v11 := (hf_M10.g (show kd 421 = 22 from rfl) rfl).trans e11
    have k13 : kd (v11).toNat = 47 := ((congrArg (fun z : Int => kd z.toNat) (show (ju (ju M10 421 18 x) 421 17 1) 421 2 = v11 from ((ju_i _ _ (zne (by decide))).trans ((ju_i _ _ (zne (by decide))).trans e12)))).symm.trans (CI.x (CI.u (CI.u hC_M10 (i := 18) (show kd 421 = 22 from rfl) (show (-2147483648 : Int) ≤ _ ∧ _ ≤ (2147483647 : Int) from by omega) rfl) (i := 17) (show kd 421 = 22 from rfl) (show (0 : Int) ≤ _ ∧ _ ≤ (1 : Int) from by omega) rfl) (show kd 421 = 22 from rfl) 2 rfl (by decide)))
    refine jr.getf (i := 2) (x := v11) (v := .ref (v11.toNat)) rfl rfl (nlt rfl) rfl (nlt rfl) rfl rfl ((ju_i _ _ (zne (by decide))).trans ((ju_i _ _ (zne (by decide))).trans e12)) rfl ?_
    have k14 := kf_47_6 k13
    refine jr.getf (i := 6) (v := .ref ((v11.toNat) + 4)) rfl rfl (Nat.lt_trans (kx_47 k13).1 (by decide)) (kx_47 k13).2 (by decide) rfl rfl rfl (jval_ref rfl k14.1) ?_
    refine jr.aload_n rfl rfl ?_
    have e16 : M10 421 7 = v1 := (hf_M10.g (show kd 421 = 22 from rfl) rfl).trans e1
    refine jr_v rfl rfl (Or.inl rfl) rfl rfl (nlt rfl) rfl ⟨rfl, Nat.le_of_ble_eq_true rfl, Nat.le_of_ble_eq_true rfl⟩ rfl (jc.deep (c_Machine_chainNow (CI.u (CI.u hC_M10 (i := 18) (show kd 421 = 22 from rfl) (show (-2147483648 : Int) ≤ _ ∧ _ ≤ (2147483647 : Int) from by omega) rfl) (i := 17) (show kd 421 = 22 from rfl) (show (0 : Int) ≤ _ ∧ _ ≤ (1 : Int) from by omega) rfl)  (by have hq0 : (ju (ju M10 421 18 x) 421 17 1) 421 7 = v1 := ((ju_i _ _ (zne (by decide))).trans ((ju_i _ _ (zne (by decide))).trans e16)); omega) (fun r15 z15  => ?_)) (Nat.le_of_ble_eq_true rfl))
    obtain ⟨v17, e17⟩ : ∃ z_, M (((v11.toNat) + 4)) r15 = z_ := ⟨_, rfl⟩
    have b17 : (-2147483648) ≤ v17 ∧ v17 ≤ 2147483647 := by rw [← e17]; exact (CI.r hC_M k14.2 (by decide) r15)
    have e18 : M10 (((v11.toNat) + 4)) r15 = v17 := (hf_M10.g k14.2 rfl).trans e17
    refine jr.iald (i := r15) (x := v17) rfl (Nat.lt_trans (kx_49 k14.2).1 (by decide)) (kx_49 k14.2).2 (by decide) (by omega) (by omega) ((ju_c _ _ (kd_ne (by rw [k14.2, (show kd 421 = 22 from rfl)]; decide))).trans ((ju_c _ _ (kd_ne (by rw [k14.2, (show kd 421 = 22 from rfl)]; decide))).trans e18)) ?_
    refine jr.putf (i := 16) (x := v17) rfl rfl (nlt rfl) rfl (nlt rfl) rfl rfl rfl rfl rfl ?_
    exact jr.vreturn rfl rfl (q _ (CI.u (CI.u (CI.u hC_M10 (i := 18) (show kd 421 = 22 from rfl) (show (-2147483648 : Int) ≤ _ ∧ _ ≤ (2147483647 : Int) from by omega) rfl) (i := 17) (show kd 421 = 22 from rfl) (show (0 : Int) ≤ _ ∧ _ ≤ (1 : Int) from by omega) rfl) (i := 16) (show kd 421 = 22 from rfl) (show (-2147483648 : Int) ≤ _ ∧ _ ≤ (2147483647 : Int) from by omega) rfl) (FR.o (FR.o (FR.o ht_M10 (show kd 421 = 22 from rfl) rfl) (show kd 421 = 22 from rfl) rfl) (show kd 421 = 22 from rfl) rfl)  (LC.n (LC.n (LC.n (LC.le w10_0 (by omega)) (show kd 421 = 22 from rfl) (by decide)) (show kd 421 = 22 from rfl) (by decide)) (show kd 421 = 22 from rfl) (by decide)))
noncomputable def W_c_Machine_leaveChain : List (Nat × Nat) := [(22, 7), (22, 16), (22, 17), (22, 18), (22, 19), (27, 5), (27, 6), (28, 1000), (29, 1000), (30, 1000), (31, 1000), (32, 1000)]
theorem c_Machine_leaveChain {A : Nat → Option (Nat × (Nat → Int32))} {Q : Option Value → jm → Prop} {L : Int} {T : jm} {M : jm} (hC_M : CI M) (ht_M : FR W_c_Machine_leaveChain T M) (p0 : 1 ≤ M 421 7 ∧ M 421 7 ≤ 8) (p1 : LC M L) (q : ∀ (M' : jm), CI M' → FR W_c_Machine_leaveChain T M' → (LC M' L) → Q none M') : jc A 3 147 [.ref (421)] M Q := by
  refine jc_of (m := xm_147) rfl (Nat.le_of_ble_eq_true rfl) rfl ?_
  obtain ⟨v1, e1⟩ : ∃ z_, M 421 7 = z_ := ⟨_, rfl⟩
  have b1 : 0 ≤ v1 ∧ v1 ≤ 8 := by rw [← e1]; exact (CI.r hC_M (show kd 421 = 22 from rfl) (by decide) 7)
  have b2 : 1 ≤ v1 ∧ v1 ≤ 8 := by rw [← e1]; exact p0
  refine jr.aload_n rfl rfl ?_
  refine jr.dup rfl rfl ?_
  refine jr.getf (i := 7) (x := v1) (v := .int (Int32.ofInt (v1))) rfl rfl (nlt rfl) rfl (nlt rfl) rfl rfl e1 rfl ?_
  refine jr.iconst rfl ?_
  refine jr.isub rfl ?_
  refine jr.putf (i := 7) (x := (v1 - 1)) rfl rfl (nlt rfl) rfl (nlt rfl) rfl rfl rfl rfl rfl ?_
  refine jr.aload_n rfl rfl ?_
  refine jr.iconst rfl ?_
  refine jr.putf (i := 17) (x := 0) rfl rfl (nlt rfl) rfl (nlt rfl) rfl rfl rfl rfl rfl ?_
  refine jr.aload_n rfl rfl ?_
  refine jr.getf (i := 7) (x := (v1 - 1)) (v := .int (Int32.ofInt (v1 - 1))) rfl rfl (nlt rfl) rfl (nlt rfl) rfl rfl ((ju_i _ _ (zne (by decide))).trans (ju_same _ _ _ _)) rfl ?_
  refine jr.if_ne rfl rfl (by first | (refine rgb (by assumption) ?_; exact rfl) | omega) (fun h19 => ?_) (fun h19 => ?_)
  · have sx19 : (1 : Int) ≤ (v1 - 1) := by omega
    clear h19
    refine jr.aload_n rfl rfl ?_
    obtain ⟨v3, e3⟩ : ∃ z_, M 421 18 = z_ := ⟨_, rfl⟩
    have b3 : (-2147483648) ≤ v3 ∧ v3 ≤ 2147483647 := by rw [← e3]; exact (CI.r hC_M (show kd 421 = 22 from rfl) (by decide) 18)
    refine jr.getf (i := 18) (x := v3) (v := .int (Int32.ofInt (v3))) rfl rfl (nlt rfl) rfl (nlt rfl) rfl rfl ((ju_i _ _ (zne (by decide))).trans ((ju_i _ _ (zne (by decide))).trans e3)) rfl ?_
    refine jr.iconst rfl ?_
    refine jr.icmp_ne rfl rfl (by first | (refine rgb (by assumption) ?_; exact rfl) | omega) (rgl rfl) (fun h28 => ?_) (fun h28 => ?_)
    · refine jr.iconst rfl ?_
      refine jr.istore_n (ls' := [_, _]) rfl (nlt rfl) rfl ?_
      refine jr.iload_n rfl rfl ?_
      refine jr.if_eq rfl rfl (by first | exact rgl rfl | omega) (fun _ => ?_) (fun h => absurd (by decide) h)
      refine jr.iload_n rfl rfl ?_
      refine jr.if_ne rfl rfl (by first | exact rgl rfl | omega) (fun h => absurd h (by decide)) (fun _ => ?_)
      refine jr.aload_n rfl rfl ?_
      refine jr.getf (i := 18) (x := v3) (v := .int (Int32.ofInt (v3))) rfl rfl (nlt rfl) rfl (nlt rfl) rfl rfl ((ju_i _ _ (zne (by decide))).trans ((ju_i _ _ (zne (by decide))).trans e3)) rfl ?_
      refine jr.iconst rfl ?_
      refine jr.icmp_ne rfl rfl (by first | (refine rgb (by assumption) ?_; exact rfl) | omega) (rgl rfl) (fun h86 => ?_) (fun h86 => ?_)
      · refine jr.aload_n rfl rfl ?_
        refine jr.aload_n rfl rfl ?_
        refine jr.getf (i := 18) (x := v3) (v := .int (Int32.ofInt (v3))) rfl rfl (nlt rfl) rfl (nlt rfl) rfl rfl ((ju_i _ _ (zne (by decide))).trans ((ju_i _ _ (zne (by decide))).trans e3)) rfl ?_
        refine jr_v rfl rfl (Or.inl rfl) rfl rfl (nlt rfl) rfl ⟨rfl, Nat.le_of_ble_eq_true rfl, Nat.le_of_ble_eq_true rfl⟩ rfl (jc.deep (c_Machine_leaveBody (CI.u (CI.u hC_M (i := 7) (show kd 421 = 22 from rfl) (show (0 : Int) ≤ _ ∧ _ ≤ (8 : Int) from by omega) rfl) (i := 17) (show kd 421 = 22 from rfl) (show (0 : Int) ≤ _ ∧ _ ≤ (1 : Int) from by omega) rfl) (FR.rfl _ ((ju (ju M 421 7 (v1 - 1)) 421 17 0))) (by omega) (by have hq0 : (ju (ju M 421 7 (v1 - 1)) 421 17 0) 421 7 = v1 - 1 := ((ju_i _ _ (zne (by decide))).trans (ju_same _ _ _ _)); omega) (LC.n (LC.n p1 (show kd 421 = 22 from rfl) (by decide)) (show kd 421 = 22 from rfl) (by decide)) (fun M4 hC_M4 hf_M4 w4_0 => ?_)) (Nat.le_of_ble_eq_true rfl))
        have ht_M4 : FR W_c_Machine_leaveChain T M4 := FR.t (FR.o (FR.o ht_M (show kd 421 = 22 from rfl) rfl) (show kd 421 = 22 from rfl) rfl) hf_M4 (kw_sub rfl)
        exact jr.vreturn rfl rfl (q _ hC_M4 ht_M4  (LC.le w4_0 (by omega)))
      · refine jr.aload_n rfl rfl ?_
        refine jr.aload_n rfl rfl ?_
        refine jr.getf (i := 6) (v := .ref 434) rfl rfl (nlt rfl) rfl (nlt rfl) rfl rfl rfl rfl ?_
        refine jr.aload_n rfl rfl ?_
        refine jr.getf (i := 7) (x := (v1 - 1)) (v := .int (Int32.ofInt (v1 - 1))) rfl rfl (nlt rfl) rfl (nlt rfl) rfl rfl ((ju_i _ _ (zne (by decide))).trans (ju_same _ _ _ _)) rfl ?_
        have k5 := kxe_23 (a := 434) rfl (i := (v1 - 1)) (by omega) (by omega)
        refine jr.aald (c := (xe 434 (v1 - 1))) rfl (by decide) rfl (by decide) (by decide) rfl (by decide) (by omega) (by omega) k5.1 ?_
        obtain ⟨v6, e6⟩ : ∃ z_, M ((xe 434 (v1 - 1))) 1 = z_ := ⟨_, rfl⟩
        have b6 : (-2147483648) ≤ v6 ∧ v6 ≤ 2147483647 := by rw [← e6]; exact (CI.r hC_M k5.2 (by decide) 1)
        refine jr.getf (i := 1) (x := v6) (v := .int (Int32.ofInt (v6))) rfl rfl (Nat.lt_trans (kx_14 k5.2).1 (by decide)) (kx_14 k5.2).2 (by decide) rfl rfl ((ju_i _ _ (zne (by decide))).trans ((ju_i _ _ (zne (by decide))).trans e6)) rfl ?_
        refine jr.putf (i := 16) (x := v6) rfl rfl (nlt rfl) rfl (nlt rfl) rfl rfl rfl rfl rfl ?_
        refine jr.goto rfl rfl ?_
        exact jr.vreturn rfl rfl (q _ (CI.u (CI.u (CI.u hC_M (i := 7) (show kd 421 = 22 from rfl) (show (0 : Int) ≤ _ ∧ _ ≤ (8 : Int) from by omega) rfl) (i := 17) (show kd 421 = 22 from rfl) (show (0 : Int) ≤ _ ∧ _ ≤ (1 : Int) from by omega) rfl) (i := 16) (show kd 421 = 22 from rfl) (show (-2147483648 : Int) ≤ _ ∧ _ ≤ (2147483647 : Int) from by omega) rfl) (FR.o (FR.o (FR.o ht_M (show kd 421 = 22 from rfl) rfl) (show kd 421 = 22 from rfl) rfl) (show kd 421 = 22 from rfl) rfl)  (LC.n (LC.n (LC.n (LC.le p1 (by omega)) (show kd 421 = 22 from rfl) (by decide)) (show kd 421 = 22 from rfl) (by decide)) (show kd 421 = 22 from rfl) (by decide)))
    · refine jr.aload_n rfl rfl ?_
      refine jr.getf (i := 6) (v := .ref 434) rfl rfl (nlt rfl) rfl (nlt rfl) rfl rfl rfl rfl ?_
      refine jr.aload_n rfl rfl ?_
      refine jr.getf (i := 7) (x := (v1 - 1)) (v := .int (Int32.ofInt (v1 - 1))) rfl rfl (nlt rfl) rfl (nlt rfl) rfl rfl ((ju_i _ _ (zne (by decide))).trans (ju_same _ _ _ _)) rfl ?_
      have k7 := kxe_23 (a := 434) rfl (i := (v1 - 1)) (by omega) (by omega)
      refine jr.aald (c := (xe 434 (v1 - 1))) rfl (by decide) rfl (by decide) (by decide) rfl (by decide) (by omega) (by omega) k7.1 ?_
      obtain ⟨v8, e8⟩ : ∃ z_, M ((xe 434 (v1 - 1))) 2 = z_ := ⟨_, rfl⟩
      have b8 : 0 ≤ v8 ∧ v8 ≤ 1 := by rw [← e8]; exact (CI.r hC_M k7.2 (by decide) 2)
      refine jr.getf (i := 2) (x := v8) (v := .int (Int32.ofInt (v8))) rfl rfl (Nat.lt_trans (kx_14 k7.2).1 (by decide)) (kx_14 k7.2).2 (by decide) rfl rfl ((ju_i _ _ (zne (by decide))).trans ((ju_i _ _ (zne (by decide))).trans e8)) rfl ?_
      refine jr.if_eq rfl rfl (by first | (refine rgb (by assumption) ?_; exact rfl) | omega) (fun h43 => ?_) (fun h43 => ?_)
      · refine jr.iconst rfl ?_
        refine jr.istore_n (ls' := [_, _]) rfl (nlt rfl) rfl ?_
        refine jr.iload_n rfl rfl ?_
        refine jr.if_eq rfl rfl (by first | exact rgl rfl | omega) (fun _ => ?_) (fun h => absurd (by decide) h)
        refine jr.iload_n rfl rfl ?_
        refine jr.if_ne rfl rfl (by first | exact rgl rfl | omega) (fun h => absurd h (by decide)) (fun _ => ?_)
        refine jr.aload_n rfl rfl ?_
        refine jr.getf (i := 18) (x := v3) (v := .int (Int32.ofInt (v3))) rfl rfl (nlt rfl) rfl (nlt rfl) rfl rfl ((ju_i _ _ (zne (by decide))).trans ((ju_i _ _ (zne (by decide))).trans e3)) rfl ?_
        refine jr.iconst rfl ?_
        refine jr.icmp_ne rfl rfl (by first | (refine rgb (by assumption) ?_; exact rfl) | omega) (rgl rfl) (fun h86 => ?_) (fun h86 => ?_)
        · refine jr.aload_n rfl rfl ?_
          refine jr.aload_n rfl rfl ?_
          refine jr.getf (i := 18) (x := v3) (v := .int (Int32.ofInt (v3))) rfl rfl (nlt rfl) rfl (nlt rfl) rfl rfl ((ju_i _ _ (zne (by decide))).trans ((ju_i _ _ (zne (by decide))).trans e3)) rfl ?_
          refine jr_v rfl rfl (Or.inl rfl) rfl rfl (nlt rfl) rfl ⟨rfl, Nat.le_of_ble_eq_true rfl, Nat.le_of_ble_eq_true rfl⟩ rfl (jc.deep (c_Machine_leaveBody (CI.u (CI.u hC_M (i := 7) (show kd 421 = 22 from rfl) (show (0 : Int) ≤ _ ∧ _ ≤ (8 : Int) from by omega) rfl) (i := 17) (show kd 421 = 22 from rfl) (show (0 : Int) ≤ _ ∧ _ ≤ (1 : Int) from by omega) rfl) (FR.rfl _ ((ju (ju M 421 7 (v1 - 1)) 421 17 0))) (by omega) (by have hq0 : (ju (ju M 421 7 (v1 - 1)) 421 17 0) 421 7 = v1 - 1 := ((ju_i _ _ (zne (by decide))).trans (ju_same _ _ _ _)); omega) (LC.n (LC.n p1 (show kd 421 = 22 from rfl) (by decide)) (show kd 421 = 22 from rfl) (by decide)) (fun M9 hC_M9 hf_M9 w9_0 => ?_)) (Nat.le_of_ble_eq_true rfl))
          have ht_M9 : FR W_c_Machine_leaveChain T M9 := FR.t (FR.o (FR.o ht_M (show kd 421 = 22 from rfl) rfl) (show kd 421 = 22 from rfl) rfl) hf_M9 (kw_sub rfl)
          exact jr.vreturn rfl rfl (q _ hC_M9 ht_M9  (LC.le w9_0 (by omega)))
        · exact absurd (by omega) h86
      · have sx43 : (1 : Int) ≤ v8 := by omega
        clear h43
        refine jr.aload_n rfl rfl ?_
        refine jr.getf (i := 10) (v := .ref 436) rfl rfl (nlt rfl) rfl (nlt rfl) rfl rfl rfl rfl ?_
        refine jr.iconst rfl ?_
        obtain ⟨v10, e10⟩ : ∃ z_, M 436 0 = z_ := ⟨_, rfl⟩
        have b10 : (-2147483648) ≤ v10 ∧ v10 ≤ 2147483647 := by rw [← e10]; exact (CI.r hC_M (show kd 436 = 24 from rfl) (by decide) 0)
        refine jr.iald (i := 0) (x := v10) rfl (nlt rfl) rfl (Nat.le_of_ble_eq_true rfl) (by omega) (by omega) ((ju_c _ _ (by decide)).trans ((ju_c _ _ (by decide)).trans e10)) ?_
        refine jr.bipush rfl (jbp _ (nlt rfl)) ?_
        refine jr.icmp_eq rfl rfl (by first | (refine rgb (by assumption) ?_; exact rfl) | omega) (rgl rfl) (fun h54 => ?_) (fun h54 => ?_)
        · refine jr.iconst rfl ?_
          refine jr.istore_n (ls' := [_, _]) rfl (nlt rfl) rfl ?_
          refine jr.iload_n rfl rfl ?_
          refine jr.if_eq rfl rfl (by first | exact rgl rfl | omega) (fun _ => ?_) (fun h => absurd (by decide) h)
          refine jr.iload_n rfl rfl ?_
          refine jr.if_ne rfl rfl (by first | exact rgl rfl | omega) (fun h => absurd h (by decide)) (fun _ => ?_)
          refine jr.aload_n rfl rfl ?_
          refine jr.getf (i := 18) (x := v3) (v := .int (Int32.ofInt (v3))) rfl rfl (nlt rfl) rfl (nlt rfl) rfl rfl ((ju_i _ _ (zne (by decide))).trans ((ju_i _ _ (zne (by decide))).trans e3)) rfl ?_
          refine jr.iconst rfl ?_
          refine jr.icmp_ne rfl rfl (by first | (refine rgb (by assumption) ?_; exact rfl) | omega) (rgl rfl) (fun h86 => ?_) (fun h86 => ?_)
          · refine jr.aload_n rfl rfl ?_
            refine jr.aload_n rfl rfl ?_
            refine jr.getf (i := 18) (x := v3) (v := .int (Int32.ofInt (v3))) rfl rfl (nlt rfl) rfl (nlt rfl) rfl rfl ((ju_i _ _ (zne (by decide))).trans ((ju_i _ _ (zne (by decide))).trans e3)) rfl ?_
            refine jr_v rfl rfl (Or.inl rfl) rfl rfl (nlt rfl) rfl ⟨rfl, Nat.le_of_ble_eq_true rfl, Nat.le_of_ble_eq_true rfl⟩ rfl (jc.deep (c_Machine_leaveBody (CI.u (CI.u hC_M (i := 7) (show kd 421 = 22 from rfl) (show (0 : Int) ≤ _ ∧ _ ≤ (8 : Int) from by omega) rfl) (i := 17) (show kd 421 = 22 from rfl) (show (0 : Int) ≤ _ ∧ _ ≤ (1 : Int) from by omega) rfl) (FR.rfl _ ((ju (ju M 421 7 (v1 - 1)) 421 17 0))) (by omega) (by have hq0 : (ju (ju M 421 7 (v1 - 1)) 421 17 0) 421 7 = v1 - 1 := ((ju_i _ _ (zne (by decide))).trans (ju_same _ _ _ _)); omega) (LC.n (LC.n p1 (show kd 421 = 22 from rfl) (by decide)) (show kd 421 = 22 from rfl) (by decide)) (fun M11 hC_M11 hf_M11 w11_0 => ?_)) (Nat.le_of_ble_eq_true rfl))
            have ht_M11 : FR W_c_Machine_leaveChain T M11 := FR.t (FR.o (FR.o ht_M (show kd 421 = 22 from rfl) rfl) (show kd 421 = 22 from rfl) rfl) hf_M11 (kw_sub rfl)
            exact jr.vreturn rfl rfl (q _ hC_M11 ht_M11  (LC.le w11_0 (by omega)))
          · exact absurd (by omega) h86
        · refine jr.iconst rfl ?_
          refine jr.goto rfl rfl ?_
          refine jr.istore_n (ls' := [_, _]) rfl (nlt rfl) rfl ?_
          refine jr.iload_n rfl rfl ?_
          refine jr.if_eq rfl rfl (by first | exact rgl rfl | omega) (fun h => absurd h (by decide)) (fun _ => ?_)
          refine jr.aload_n rfl rfl ?_
          refine jr.aload_n rfl rfl ?_
          refine jr.getf (i := 10) (v := .ref 436) rfl rfl (nlt rfl) rfl (nlt rfl) rfl rfl rfl rfl ?_
          refine jr.iconst rfl ?_
          refine jr.iald (i := 0) (x := v10) rfl (nlt rfl) rfl (Nat.le_of_ble_eq_true rfl) (by omega) (by omega) ((ju_c _ _ (by decide)).trans ((ju_c _ _ (by decide)).trans e10)) ?_
          refine jr.putf (i := 19) (x := v10) rfl rfl (nlt rfl) rfl (nlt rfl) rfl rfl rfl rfl rfl ?_
          refine jr.iload_n rfl rfl ?_
          refine jr.if_ne rfl rfl (by first | exact rgl rfl | omega) (fun _ => ?_) (fun h => absurd (by decide) h)
          refine jr.aload_n rfl rfl ?_
          refine jr.aload_n rfl rfl ?_
          refine jr.getf (i := 6) (v := .ref 434) rfl rfl (nlt rfl) rfl (nlt rfl) rfl rfl rfl rfl ?_
          refine jr.aload_n rfl rfl ?_
          refine jr.getf (i := 7) (x := (v1 - 1)) (v := .int (Int32.ofInt (v1 - 1))) rfl rfl (nlt rfl) rfl (nlt rfl) rfl rfl ((ju_i _ _ (zne (by decide))).trans ((ju_i _ _ (zne (by decide))).trans (ju_same _ _ _ _))) rfl ?_
          have k12 := kxe_23 (a := 434) rfl (i := (v1 - 1)) (by omega) (by omega)
          refine jr.aald (c := (xe 434 (v1 - 1))) rfl (by decide) rfl (by decide) (by decide) rfl (by decide) (by omega) (by omega) k12.1 ?_
          obtain ⟨v13, e13⟩ : ∃ z_, M ((xe 434 (v1 - 1))) 1 = z_ := ⟨_, rfl⟩
          have b13 : (-2147483648) ≤ v13 ∧ v13 ≤ 2147483647 := by rw [← e13]; exact (CI.r hC_M k12.2 (by decide) 1)
          refine jr.getf (i := 1) (x := v13) (v := .int (Int32.ofInt (v13))) rfl rfl (Nat.lt_trans (kx_14 k12.2).1 (by decide)) (kx_14 k12.2).2 (by decide) rfl rfl ((ju_i _ _ (zne (by decide))).trans ((ju_i _ _ (zne (by decide))).trans ((ju_i _ _ (zne (by decide))).trans e13))) rfl ?_
          refine jr.putf (i := 16) (x := v13) rfl rfl (nlt rfl) rfl (nlt rfl) rfl rfl rfl rfl rfl ?_
          refine jr.goto rfl rfl ?_
          exact jr.vreturn rfl rfl (q _ (CI.u (CI.u (CI.u (CI.u hC_M (i := 7) (show kd 421 = 22 from rfl) (show (0 : Int) ≤ _ ∧ _ ≤ (8 : Int) from by omega) rfl) (i := 17) (show kd 421 = 22 from rfl) (show (0 : Int) ≤ _ ∧ _ ≤ (1 : Int) from by omega) rfl) (i := 19) (show kd 421 = 22 from rfl) (show (-2147483648 : Int) ≤ _ ∧ _ ≤ (2147483647 : Int) from by omega) rfl) (i := 16) (show kd 421 = 22 from rfl) (show (-2147483648 : Int) ≤ _ ∧ _ ≤ (2147483647 : Int) from by omega) rfl) (FR.o (FR.o (FR.o (FR.o ht_M (show kd 421 = 22 from rfl) rfl) (show kd 421 = 22 from rfl) rfl) (show kd 421 = 22 from rfl) rfl) (show kd 421 = 22 from rfl) rfl)  (LC.n (LC.n (LC.n (LC.n (LC.le p1 (by omega)) (show kd 421 = 22 from rfl) (by decide)) (show kd 421 = 22 from rfl) (by decide)) (show kd 421 = 22 from rfl) (by decide)) (show kd 421 = 22 from rfl) (by decide)))
  · exact jr.vreturn rfl rfl (q _ (CI.u (CI.u hC_M (i := 7) (show kd 421 = 22 from rfl) (show (0 : Int) ≤ _ ∧ _ ≤ (8 : Int) from by omega) rfl) (i := 17) (show kd 421 = 22 from rfl) (show (0 : Int) ≤ _ ∧ _ ≤ (1 : Int) from by omega) rfl) (FR.o (FR.o ht_M (show kd 421 = 22 from rfl) rfl) (show kd 421 = 22 from rfl) rfl)  (LC.n (LC.n (LC.le p1 (by omega)) (show kd 421 = 22 from rfl) (by decide)) (show kd 421 = 22 from rfl) (by decide)))
noncomputable def W_c_Machine_unwind : List (Nat × Nat) := [(22, 3), (22, 4), (22, 7), (22, 9), (22, 16), (22, 17), (22, 18), (22, 19), (24, 1000), (27, 5), (27, 6), (28, 1000), (29, 1000), (30, 1000), (31, 1000), (32, 1000)]
theorem c_Machine_unwind {A : Nat → Option (Nat × (Nat → Int32))} {Q : Option Value → jm → Prop} {L : Int} {T : jm} {M : jm} (hC_M : CI M) (ht_M : FR W_c_Machine_unwind T M) (p0 : 1 ≤ M 421 7 ∧ M 421 7 ≤ 8) (p1 : LC M L) (q : ∀ (M' : jm), CI M' → FR W_c_Machine_unwind T M' → (LC M' L) → (0 ≤ M' 421 4 ∧ M' 421 4 ≤ 0) → Q none M') : jc A 4 149 [.ref (421)] M Q := by
  refine jc_of (m := xm_149) rfl (Nat.le_of_ble_eq_true rfl) rfl ?_
  obtain ⟨v1, e1⟩ : ∃ z_, M 421 7 = z_ := ⟨_, rfl⟩
  have b1 : 0 ≤ v1 ∧ v1 ≤ 8 := by rw [← e1]; exact (CI.r hC_M (show kd 421 = 22 from rfl) (by decide) 7)
  have b2 : 1 ≤ v1 ∧ v1 ≤ 8 := by rw [← e1]; exact p0
  refine jr.aload_n rfl rfl ?_
  refine jr.iconst rfl ?_
  refine jr.putf (i := 4) (x := 0) rfl rfl (nlt rfl) rfl (nlt rfl) rfl rfl rfl rfl rfl ?_
  refine jr.aload_n rfl rfl ?_
  refine jr.iconst rfl ?_
  refine jr.putf (i := 9) (x := 0) rfl rfl (nlt rfl) rfl (nlt rfl) rfl rfl rfl rfl rfl ?_
  refine jr.aload_n rfl rfl ?_
  refine jr.getf (i := 10) (v := .ref 436) rfl rfl (nlt rfl) rfl (nlt rfl) rfl rfl rfl rfl ?_
  refine jr.iconst rfl ?_
  refine jr.aload_n rfl rfl ?_
  refine jr_v rfl rfl (Or.inl rfl) rfl rfl (nlt rfl) rfl ⟨rfl, Nat.le_of_ble_eq_true rfl, Nat.le_of_ble_eq_true rfl⟩ rfl (jc.deep (c_Machine_chainNow (CI.u (CI.u hC_M (i := 4) (show kd 421 = 22 from rfl) (show (0 : Int) ≤ _ ∧ _ ≤ (1 : Int) from by omega) rfl) (i := 9) (show kd 421 = 22 from rfl) (show (0 : Int) ≤ _ ∧ _ ≤ (320 : Int) from by omega) rfl)  (by have hq0 : (ju (ju M 421 4 0) 421 9 0) 421 7 = v1 := ((ju_i _ _ (zne (by decide))).trans ((ju_i _ _ (zne (by decide))).trans e1)); omega) (fun r3 z3  => ?_)) (Nat.le_of_ble_eq_true rfl))
  refine jr.iast (i := 3) (x := r3) rfl (nlt rfl) rfl (Nat.le_of_ble_eq_true rfl) (by omega) (by omega) ?_
  refine jr.aload_n rfl rfl ?_
  obtain ⟨v4, e4⟩ : ∃ z_, M 421 3 = z_ := ⟨_, rfl⟩
  have b4 : (-2147483648) ≤ v4 ∧ v4 ≤ 2147483647 := by rw [← e4]; exact (CI.r hC_M (show kd 421 = 22 from rfl) (by decide) 3)
  refine jr.getf (i := 3) (x := v4) (v := .int (Int32.ofInt (v4))) rfl rfl (nlt rfl) rfl (nlt rfl) rfl rfl ((ju_c _ _ (by decide)).trans ((ju_i _ _ (zne (by decide))).trans ((ju_i _ _ (zne (by decide))).trans e4))) rfl ?_
  refine jr.sipush rfl (by decide) ?_
  refine jr.icmp_ge rfl rfl (by first | (refine rgb (by assumption) ?_; exact rfl) | omega) (rgl rfl) (fun h27 => ?_) (fun h27 => ?_)
  · refine jr.aload_n rfl rfl ?_
    refine jr.getf (i := 10) (v := .ref 436) rfl rfl (nlt rfl) rfl (nlt rfl) rfl rfl rfl rfl ?_
    refine jr.iconst rfl ?_
    refine jr.bipush rfl (jbp _ (nlt rfl)) ?_
    refine jr.iast (i := 0) (x := 8) rfl (nlt rfl) rfl (Nat.le_of_ble_eq_true rfl) (by omega) (by omega) ?_
    refine jr.aload_n rfl rfl ?_
    refine jr.getf (i := 10) (v := .ref 436) rfl rfl (nlt rfl) rfl (nlt rfl) rfl rfl rfl rfl ?_
    refine jr.iconst rfl ?_
    refine jr.iconst rfl ?_
    refine jr.iast (i := 1) (x := 0) rfl (nlt rfl) rfl (Nat.le_of_ble_eq_true rfl) (by omega) (by omega) ?_
    refine jr.aload_n rfl rfl ?_
    obtain ⟨v5, e5⟩ : ∃ z_, M 421 17 = z_ := ⟨_, rfl⟩
    have b5 : 0 ≤ v5 ∧ v5 ≤ 1 := by rw [← e5]; exact (CI.r hC_M (show kd 421 = 22 from rfl) (by decide) 17)
    refine jr.getf (i := 17) (x := v5) (v := .int (Int32.ofInt (v5))) rfl rfl (nlt rfl) rfl (nlt rfl) rfl rfl ((ju_c _ _ (by decide)).trans ((ju_c _ _ (by decide)).trans ((ju_c _ _ (by decide)).trans ((ju_i _ _ (zne (by decide))).trans ((ju_i _ _ (zne (by decide))).trans e5))))) rfl ?_
    refine jr.if_eq rfl rfl (by first | (refine rgb (by assumption) ?_; exact rfl) | omega) (fun h62 => ?_) (fun h62 => ?_)
    · refine jr.aload_n rfl rfl ?_
      refine jr.iconst rfl ?_
      refine jr_v rfl rfl (Or.inl rfl) rfl rfl (nlt rfl) rfl ⟨rfl, Nat.le_of_ble_eq_true rfl, Nat.le_of_ble_eq_true rfl⟩ rfl (jc.deep (c_Machine_leaveBody (CI.u (CI.u (CI.u (CI.u (CI.u hC_M (i := 4) (show kd 421 = 22 from rfl) (show (0 : Int) ≤ _ ∧ _ ≤ (1 : Int) from by omega) rfl) (i := 9) (show kd 421 = 22 from rfl) (show (0 : Int) ≤ _ ∧ _ ≤ (320 : Int) from by omega) rfl) (i := 3) (show kd 436 = 24 from rfl) (show (-2147483648 : Int) ≤ _ ∧ _ ≤ (2147483647 : Int) from by omega) rfl) (i := 0) (show kd 436 = 24 from rfl) (show (-2147483648 : Int) ≤ _ ∧ _ ≤ (2147483647 : Int) from by omega) rfl) (i := 1) (show kd 436 = 24 from rfl) (show (-2147483648 : Int) ≤ _ ∧ _ ≤ (2147483647 : Int) from by omega) rfl) (FR.rfl _ ((ju (ju (ju (ju (ju M 421 4 0) 421 9 0) 436 3 r3) 436 0 8) 436 1 0))) (by omega) (by have hq0 : (ju (ju (ju (ju (ju M 421 4 0) 421 9 0) 436 3 r3) 436 0 8) 436 1 0) 421 7 = v1 := ((ju_c _ _ (by decide)).trans ((ju_c _ _ (by decide)).trans ((ju_c _ _ (by decide)).trans ((ju_i _ _ (zne (by decide))).trans ((ju_i _ _ (zne (by decide))).trans e1))))); omega) (LC.n (LC.n (LC.n (LC.n (LC.n p1 (show kd 421 = 22 from rfl) (by decide)) (show kd 421 = 22 from rfl) (by decide)) (show kd 436 = 24 from rfl) (by decide)) (show kd 436 = 24 from rfl) (by decide)) (show kd 436 = 24 from rfl) (by decide)) (fun M6 hC_M6 hf_M6 w6_0 => ?_)) (Nat.le_of_ble_eq_true rfl))
      have ht_M6 : FR W_c_Machine_unwind T M6 := FR.t (FR.o (FR.o (FR.o (FR.o (FR.o ht_M (show kd 421 = 22 from rfl) rfl) (show kd 421 = 22 from rfl) rfl) (show kd 436 = 24 from rfl) rfl) (show kd 436 = 24 from rfl) rfl) (show kd 436 = 24 from rfl) rfl) hf_M6 (kw_sub rfl)
      have e7 : M6 421 4 = 0 := (hf_M6.g (show kd 421 = 22 from rfl) rfl).trans ((ju_c _ _ (by decide)).trans ((ju_c _ _ (by decide)).trans ((ju_c _ _ (by decide)).trans ((ju_i _ _ (zne (by decide))).trans (ju_same _ _ _ _)))))
      exact jr.vreturn rfl rfl (q _ hC_M6 ht_M6  (LC.le w6_0 (by omega)) (by have hq0 : M6 421 4 = 0 := e7; omega))
    · have sx62 : (1 : Int) ≤ v5 := by omega
      clear h62
      refine jr.aload_n rfl rfl ?_
      refine jr.getf (i := 1) (v := .ref 423) rfl rfl (nlt rfl) rfl (nlt rfl) rfl rfl rfl rfl ?_
      refine jr.aload_n rfl rfl ?_
      refine jr.getf (i := 6) (v := .ref 434) rfl rfl (nlt rfl) rfl (nlt rfl) rfl rfl rfl rfl ?_
      refine jr.aload_n rfl rfl ?_
      refine jr.getf (i := 7) (x := v1) (v := .int (Int32.ofInt (v1))) rfl rfl (nlt rfl) rfl (nlt rfl) rfl rfl ((ju_c _ _ (by decide)).trans ((ju_c _ _ (by decide)).trans ((ju_c _ _ (by decide)).trans ((ju_i _ _ (zne (by decide))).trans ((ju_i _ _ (zne (by decide))).trans e1))))) rfl ?_
      refine jr.iconst rfl ?_
      refine jr.isub rfl ?_
      have k8 := kxe_23 (a := 434) rfl (i := (v1 - 1)) (by omega) (by omega)
      refine jr.aald (c := (xe 434 (v1 - 1))) rfl (by decide) rfl (by decide) (by decide) rfl (by decide) (by omega) (by omega) k8.1 ?_
      have k9 := kf_14_3 k8.2
      refine jr.getf (i := 3) (v := .ref ((xe 434 (v1 - 1)) + 1)) rfl rfl (Nat.lt_trans (kx_14 k8.2).1 (by decide)) (kx_14 k8.2).2 (by decide) rfl rfl rfl (jval_ref rfl k9.1) ?_
      refine jr_v rfl rfl (Or.inl rfl) rfl rfl (nlt rfl) rfl ⟨rfl, Nat.le_of_ble_eq_true rfl, Nat.le_of_ble_eq_true rfl⟩ rfl (jc.deep (c_Memory_becomeLike (CI.u (CI.u (CI.u (CI.u (CI.u hC_M (i := 4) (show kd 421 = 22 from rfl) (show (0 : Int) ≤ _ ∧ _ ≤ (1 : Int) from by omega) rfl) (i := 9) (show kd 421 = 22 from rfl) (show (0 : Int) ≤ _ ∧ _ ≤ (320 : Int) from by omega) rfl) (i := 3) (show kd 436 = 24 from rfl) (show (-2147483648 : Int) ≤ _ ∧ _ ≤ (2147483647 : Int) from by omega) rfl) (i := 0) (show kd 436 = 24 from rfl) (show (-2147483648 : Int) ≤ _ ∧ _ ≤ (2147483647 : Int) from by omega) rfl) (i := 1) (show kd 436 = 24 from rfl) (show (-2147483648 : Int) ≤ _ ∧ _ ≤ (2147483647 : Int) from by omega) rfl) (FR.rfl _ ((ju (ju (ju (ju (ju M 421 4 0) 421 9 0) 436 3 r3) 436 0 8) 436 1 0))) (show kd 423 = 27 from rfl) k9.2 (LC.n (LC.n (LC.n (LC.n (LC.n p1 (show kd 421 = 22 from rfl) (by decide)) (show kd 421 = 22 from rfl) (by decide)) (show kd 436 = 24 from rfl) (by decide)) (show kd 436 = 24 from rfl) (by decide)) (show kd 436 = 24 from rfl) (by decide)) (fun M10 hC_M10 hf_M10 w10_0 => ?_)) (Nat.le_of_ble_eq_true rfl))
      have ht_M10 : FR W_c_Machine_unwind T M10 := FR.t (FR.o (FR.o (FR.o (FR.o (FR.o ht_M (show kd 421 = 22 from rfl) rfl) (show kd 421 = 22 from rfl) rfl) (show kd 436 = 24 from rfl) rfl) (show kd 436 = 24 from rfl) rfl) (show kd 436 = 24 from rfl) rfl) hf_M10 (kw_sub rfl)
      refine jr.aload_n rfl rfl ?_
      refine jr.iconst rfl ?_
      refine jr.putf (i := 18) (x := 3) rfl rfl (nlt rfl) rfl (nlt rfl) rfl rfl rfl rfl rfl ?_
      refine jr.aload_n rfl rfl ?_
      have e12 : M10 421 7 = v1 := (hf_M10.g (show kd 421 = 22 from rfl) rfl).trans ((ju_c _ _ (by decide)).trans ((ju_c _ _ (by decide)).trans ((ju_c _ _ (by decide)).trans ((ju_i _ _ (zne (by decide))).trans ((ju_i _ _ (zne (by decide))).trans e1)))))
      refine jr_v rfl rfl (Or.inl rfl) rfl rfl (nlt rfl) rfl ⟨rfl, Nat.le_of_ble_eq_true rfl, Nat.le_of_ble_eq_true rfl⟩ rfl (jc.deep (c_Machine_leaveChain (CI.u hC_M10 (i := 18) (show kd 421 = 22 from rfl) (show (-2147483648 : Int) ≤ _ ∧ _ ≤ (2147483647 : Int) from by omega) rfl) (FR.rfl _ ((ju M10 421 18 3)))  (by have hq0 : (ju M10 421 18 3) 421 7 = v1 := ((ju_i _ _ (zne (by decide))).trans e12); omega) (LC.n w10_0 (show kd 421 = 22 from rfl) (by decide)) (fun M11 hC_M11 hf_M11 w11_0 => ?_)) (Nat.le_of_ble_eq_true rfl))
      have ht_M11 : FR W_c_Machine_unwind T M11 := FR.t (FR.o ht_M10 (show kd 421 = 22 from rfl) rfl) hf_M11 (kw_sub rfl)
      refine jr.goto rfl rfl ?_
      have e13 : M10 421 4 = 0 := (hf_M10.g (show kd 421 = 22 from rfl) rfl).trans ((ju_c _ _ (by decide)).trans ((ju_c _ _ (by decide)).trans ((ju_c _ _ (by decide)).trans ((ju_i _ _ (zne (by decide))).trans (ju_same _ _ _ _)))))
      have e14 : M11 421 4 = 0 := (hf_M11.g (show kd 421 = 22 from rfl) rfl).trans ((ju_i _ _ (zne (by decide))).trans e13)
      exact jr.vreturn rfl rfl (q _ hC_M11 ht_M11  (LC.le w11_0 (by omega)) (by have hq0 : M11 421 4 = 0 := e14; omega))
  · refine jr.aload_n rfl rfl ?_
    refine jr.dup rfl rfl ?_
    refine jr.getf (i := 3) (x := v4) (v := .int (Int32.ofInt (v4))) rfl rfl (nlt rfl) rfl (nlt rfl) rfl rfl ((ju_c _ _ (by decide)).trans ((ju_i _ _ (zne (by decide))).trans ((ju_i _ _ (zne (by decide))).trans e4))) rfl ?_
    refine jr.iconst rfl ?_
    refine jr.iadd rfl ?_
    refine jr.putf (i := 3) (x := (v4 + 1)) rfl rfl (nlt rfl) rfl (nlt rfl) rfl rfl rfl rfl rfl ?_
    refine jr.goto rfl rfl ?_
    refine jr.aload_n rfl rfl ?_
    obtain ⟨v15, e15⟩ : ∃ z_, M 421 17 = z_ := ⟨_, rfl⟩
    have b15 : 0 ≤ v15 ∧ v15 ≤ 1 := by rw [← e15]; exact (CI.r hC_M (show kd 421 = 22 from rfl) (by decide) 17)
    refine jr.getf (i := 17) (x := v15) (v := .int (Int32.ofInt (v15))) rfl rfl (nlt rfl) rfl (nlt rfl) rfl rfl ((ju_i _ _ (zne (by decide))).trans ((ju_c _ _ (by decide)).trans ((ju_i _ _ (zne (by decide))).trans ((ju_i _ _ (zne (by decide))).trans e15)))) rfl ?_
    refine jr.if_eq rfl rfl (by first | (refine rgb (by assumption) ?_; exact rfl) | omega) (fun h62 => ?_) (fun h62 => ?_)
    · refine jr.aload_n rfl rfl ?_
      refine jr.iconst rfl ?_
      refine jr_v rfl rfl (Or.inl rfl) rfl rfl (nlt rfl) rfl ⟨rfl, Nat.le_of_ble_eq_true rfl, Nat.le_of_ble_eq_true rfl⟩ rfl (jc.deep (c_Machine_leaveBody (CI.u (CI.u (CI.u (CI.u hC_M (i := 4) (show kd 421 = 22 from rfl) (show (0 : Int) ≤ _ ∧ _ ≤ (1 : Int) from by omega) rfl) (i := 9) (show kd 421 = 22 from rfl) (show (0 : Int) ≤ _ ∧ _ ≤ (320 : Int) from by omega) rfl) (i := 3) (show kd 436 = 24 from rfl) (show (-2147483648 : Int) ≤ _ ∧ _ ≤ (2147483647 : Int) from by omega) rfl) (i := 3) (show kd 421 = 22 from rfl) (show (-2147483648 : Int) ≤ _ ∧ _ ≤ (2147483647 : Int) from by omega) rfl) (FR.rfl _ ((ju (ju (ju (ju M 421 4 0) 421 9 0) 436 3 r3) 421 3 (v4 + 1)))) (by omega) (by have hq0 : (ju (ju (ju (ju M 421 4 0) 421 9 0) 436 3 r3) 421 3 (v4 + 1)) 421 7 = v1 := ((ju_i _ _ (zne (by decide))).trans ((ju_c _ _ (by decide)).trans ((ju_i _ _ (zne (by decide))).trans ((ju_i _ _ (zne (by decide))).trans e1)))); omega) (LC.n (LC.n (LC.n (LC.n p1 (show kd 421 = 22 from rfl) (by decide)) (show kd 421 = 22 from rfl) (by decide)) (show kd 436 = 24 from rfl) (by decide)) (show kd 421 = 22 from rfl) (by decide)) (fun M16 hC_M16 hf_M16 w16_0 => ?_)) (Nat.le_of_ble_eq_true rfl))
      have ht_M16 : FR W_c_Machine_unwind T M16 := FR.t (FR.o (FR.o (FR.o (FR.o ht_M (show kd 421 = 22 from rfl) rfl) (show kd 421 = 22 from rfl) rfl) (show kd 436 = 24 from rfl) rfl) (show kd 421 = 22 from rfl) rfl) hf_M16 (kw_sub rfl)
      have e17 : M16 421 4 = 0 := (hf_M16.g (show kd 421 = 22 from rfl) rfl).trans ((ju_i _ _ (zne (by decide))).trans ((ju_c _ _ (by decide)).trans ((ju_i _ _ (zne (by decide))).trans (ju_same _ _ _ _))))
      exact jr.vreturn rfl rfl (q _ hC_M16 ht_M16  (LC.le w16_0 (by omega)) (by have hq0 : M16 421 4 = 0 := e17; omega))
    · have sx62 : (1 : Int) ≤ v15 := by omega
      clear h62
      refine jr.aload_n rfl rfl ?_
      refine jr.getf (i := 1) (v := .ref 423) rfl rfl (nlt rfl) rfl (nlt rfl) rfl rfl rfl rfl ?_
      refine jr.aload_n rfl rfl ?_
      refine jr.getf (i := 6) (v := .ref 434) rfl rfl (nlt rfl) rfl (nlt rfl) rfl rfl rfl rfl ?_
      refine jr.aload_n rfl rfl ?_
      refine jr.getf (i := 7) (x := v1) (v := .int (Int32.ofInt (v1))) rfl rfl (nlt rfl) rfl (nlt rfl) rfl rfl ((ju_i _ _ (zne (by decide))).trans ((ju_c _ _ (by decide)).trans ((ju_i _ _ (zne (by decide))).trans ((ju_i _ _ (zne (by decide))).trans e1)))) rfl ?_
      refine jr.iconst rfl ?_
      refine jr.isub rfl ?_
      have k18 := kxe_23 (a := 434) rfl (i := (v1 - 1)) (by omega) (by omega)
      refine jr.aald (c := (xe 434 (v1 - 1))) rfl (by decide) rfl (by decide) (by decide) rfl (by decide) (by omega) (by omega) k18.1 ?_
      have k19 := kf_14_3 k18.2
      refine jr.getf (i := 3) (v := .ref ((xe 434 (v1 - 1)) + 1)) rfl rfl (Nat.lt_trans (kx_14 k18.2).1 (by decide)) (kx_14 k18.2).2 (by decide) rfl rfl rfl (jval_ref rfl k19.1) ?_
      refine jr_v rfl rfl (Or.inl rfl) rfl rfl (nlt rfl) rfl ⟨rfl, Nat.le_of_ble_eq_true rfl, Nat.le_of_ble_eq_true rfl⟩ rfl (jc.deep (c_Memory_becomeLike (CI.u (CI.u (CI.u (CI.u hC_M (i := 4) (show kd 421 = 22 from rfl) (show (0 : Int) ≤ _ ∧ _ ≤ (1 : Int) from by omega) rfl) (i := 9) (show kd 421 = 22 from rfl) (show (0 : Int) ≤ _ ∧ _ ≤ (320 : Int) from by omega) rfl) (i := 3) (show kd 436 = 24 from rfl) (show (-2147483648 : Int) ≤ _ ∧ _ ≤ (2147483647 : Int) from by omega) rfl) (i := 3) (show kd 421 = 22 from rfl) (show (-2147483648 : Int) ≤ _ ∧ _ ≤ (2147483647 : Int) from by omega) rfl) (FR.rfl _ ((ju (ju (ju (ju M 421 4 0) 421 9 0) 436 3 r3) 421 3 (v4 + 1)))) (show kd 423 = 27 from rfl) k19.2 (LC.n (LC.n (LC.n (LC.n p1 (show kd 421 = 22 from rfl) (by decide)) (show kd 421 = 22 from rfl) (by decide)) (show kd 436 = 24 from rfl) (by decide)) (show kd 421 = 22 from rfl) (by decide)) (fun M20 hC_M20 hf_M20 w20_0 => ?_)) (Nat.le_of_ble_eq_true rfl))
      have ht_M20 : FR W_c_Machine_unwind T M20 := FR.t (FR.o (FR.o (FR.o (FR.o ht_M (show kd 421 = 22 from rfl) rfl) (show kd 421 = 22 from rfl) rfl) (show kd 436 = 24 from rfl) rfl) (show kd 421 = 22 from rfl) rfl) hf_M20 (kw_sub rfl)
      refine jr.aload_n rfl rfl ?_
      refine jr.iconst rfl ?_
      refine jr.putf (i := 18) (x := 3) rfl rfl (nlt rfl) rfl (nlt rfl) rfl rfl rfl rfl rfl ?_
      refine jr.aload_n rfl rfl ?_
      have e22 : M20 421 7 = v1 := (hf_M20.g (show kd 421 = 22 from rfl) rfl).trans ((ju_i _ _ (zne (by decide))).trans ((ju_c _ _ (by decide)).trans ((ju_i _ _ (zne (by decide))).trans ((ju_i _ _ (zne (by decide))).trans e1))))
      refine jr_v rfl rfl (Or.inl rfl) rfl rfl (nlt rfl) rfl ⟨rfl, Nat.le_of_ble_eq_true rfl, Nat.le_of_ble_eq_true rfl⟩ rfl (jc.deep (c_Machine_leaveChain (CI.u hC_M20 (i := 18) (show kd 421 = 22 from rfl) (show (-2147483648 : Int) ≤ _ ∧ _ ≤ (2147483647 : Int) from by omega) rfl) (FR.rfl _ ((ju M20 421 18 3)))  (by have hq0 : (ju M20 421 18 3) 421 7 = v1 := ((ju_i _ _ (zne (by decide))).trans e22); omega) (LC.n w20_0 (show kd 421 = 22 from rfl) (by decide)) (fun M21 hC_M21 hf_M21 w21_0 => ?_)) (Nat.le_of_ble_eq_true rfl))
      have ht_M21 : FR W_c_Machine_unwind T M21 := FR.t (FR.o ht_M20 (show kd 421 = 22 from rfl) rfl) hf_M21 (kw_sub rfl)
      refine jr.goto rfl rfl ?_
      have e23 : M20 421 4 = 0 := (hf_M20.g (show kd 421 = 22 from rfl) rfl).trans ((ju_i _ _ (zne (by decide))).trans ((ju_c _ _ (by decide)).trans ((ju_i _ _ (zne (by decide))).trans (ju_same _ _ _ _))))
      have e24 : M21 421 4 = 0 := (hf_M21.g (show kd 421 = 22 from rfl) rfl).trans ((ju_i _ _ (zne (by decide))).trans e23)
      exact jr.vreturn rfl rfl (q _ hC_M21 ht_M21  (LC.le w21_0 (by omega)) (by have hq0 : M21 421 4 = 0 := e24; omega))
noncomputable def W_c_Machine_goInto : List (Nat × Nat) := [(14, 0), (14, 1), (14, 2), (22, 4), (22, 7), (22, 16), (22, 17), (22, 19), (24, 1000), (27, 5), (27, 6), (28, 1000), (29, 1000), (30, 1000), (31, 1000), (32, 1000)]
theorem c_Machine_goInto {A : Nat → Option (Nat × (Nat → Int32))} {Q : Option Value → jm → Prop} {L : Int} {T : jm} {M : jm} (hC_M : CI M) (ht_M : FR W_c_Machine_goInto T M) {x : Int} (h_x : (-2147483648) ≤ x ∧ x ≤ 2147483647) {y : Int} (h_y : 0 ≤ y ∧ y ≤ 15) (p0 : 1 ≤ M 421 7 ∧ M 421 7 ≤ 8) (p1 : LC M L) (q : ∀ (M' : jm), CI M' → FR W_c_Machine_goInto T M' → (LC M' L) → (1 ≤ M' 421 7 ∧ M' 421 7 ≤ 8) → Q none M') : jc A 3 153 [.ref (421), .int (Int32.ofInt (x)), .int (Int32.ofInt (y))] M Q := by
  refine jc_of (m := xm_153) rfl (Nat.le_of_ble_eq_true rfl) rfl ?_
  obtain ⟨v1, e1⟩ : ∃ z_, M 421 7 = z_ := ⟨_, rfl⟩
  have b1 : 0 ≤ v1 ∧ v1 ≤ 8 := by rw [← e1]; exact (CI.r hC_M (show kd 421 = 22 from rfl) (by decide) 7)
  have b2 : 1 ≤ v1 ∧ v1 ≤ 8 := by rw [← e1]; exact p0
  refine jr.aload_n rfl rfl ?_
  refine jr_v rfl rfl (Or.inl rfl) rfl rfl (nlt rfl) rfl ⟨rfl, Nat.le_of_ble_eq_true rfl, Nat.le_of_ble_eq_true rfl⟩ rfl (jc.deep (c_Machine_chainNow hC_M  (by have hq0 : M 421 7 = v1 := e1; omega) (fun r3 z3  => ?_)) (Nat.le_of_ble_eq_true rfl))
  refine jr.istore_n (ls' := [_, _, _, _]) rfl (nlt rfl) rfl ?_
  refine jr.aload_n rfl rfl ?_
  refine jr.iload_n rfl rfl ?_
  refine jr.iload_n rfl rfl ?_
  refine jr.bipush rfl (jbp _ (nlt rfl)) ?_
  refine jr.icmp_ne rfl rfl (by first | (refine rgb (by assumption) ?_; exact rfl) | omega) (rgl rfl) (fun h10 => ?_) (fun h10 => ?_)
  · refine jr.iconst rfl ?_
    obtain ⟨v5, e5⟩ : ∃ z_, M 421 4 = z_ := ⟨_, rfl⟩
    have b5 : 0 ≤ v5 ∧ v5 ≤ 1 := by rw [← e5]; exact (CI.r hC_M (show kd 421 = 22 from rfl) (by decide) 4)
    refine jr_v rfl rfl (Or.inl rfl) rfl rfl (nlt rfl) rfl ⟨rfl, Nat.le_of_ble_eq_true rfl, Nat.le_of_ble_eq_true rfl⟩ rfl (jc.deep (c_Machine_enter hC_M (FR.rfl _ M) (by omega) (by omega) e5 e1 p1 (fun r4 M4 hC_M4 hf_M4 z4 w4_0 w4_1 => ?_)) (Nat.le_of_ble_eq_true rfl))
    have ht_M4 : FR W_c_Machine_goInto T M4 := FR.t ht_M hf_M4 (kw_sub rfl)
    obtain ⟨v6, e6⟩ : ∃ z_, M4 421 7 = z_ := ⟨_, rfl⟩
    have b6 : 0 ≤ v6 ∧ v6 ≤ 8 := by rw [← e6]; exact (CI.r hC_M4 (show kd 421 = 22 from rfl) (by decide) 7)
    obtain ⟨v7, e7⟩ : ∃ z_, M4 421 4 = z_ := ⟨_, rfl⟩
    have b7 : 0 ≤ v7 ∧ v7 ≤ 1 := by rw [← e7]; exact (CI.r hC_M4 (show kd 421 = 22 from rfl) (by decide) 4)
    refine jr.if_ne rfl rfl (by first | (refine rgb (by assumption) ?_; exact rfl) | omega) (fun h21 => ?_) (fun h21 => ?_)
    · have sx21 : (1 : Int) ≤ r4 := by omega
      clear h21
      refine jr.aload_n rfl rfl ?_
      refine jr.bipush rfl (jbp _ (nlt rfl)) ?_
      refine jr.iload_n rfl rfl ?_
      refine jr.imul rfl ?_
      refine jr.iload_n rfl rfl ?_
      refine jr.bipush rfl (jbp _ (nlt rfl)) ?_
      refine jr.icmp_ne rfl rfl (by first | (refine rgb (by assumption) ?_; exact rfl) | omega) (rgl rfl) (fun h33 => ?_) (fun h33 => ?_)
      · refine jr.iconst rfl ?_
        refine jr.iadd rfl ?_
        refine jr_v rfl rfl (Or.inl rfl) rfl rfl (nlt rfl) rfl ⟨rfl, Nat.le_of_ble_eq_true rfl, Nat.le_of_ble_eq_true rfl⟩ rfl (jc.deep (c_Machine_note hC_M4 (FR.rfl _ M4) (by omega) (fun M8 hC_M8 hf_M8  => ?_)) (Nat.le_of_ble_eq_true rfl))
        have ht_M8 : FR W_c_Machine_goInto T M8 := FR.t ht_M4 hf_M8 (kw_sub rfl)
        refine jr.iload_n rfl rfl ?_
        refine jr.bipush rfl (jbp _ (nlt rfl)) ?_
        refine jr.icmp_ne rfl rfl (by first | (refine rgb (by assumption) ?_; exact rfl) | omega) (rgl rfl) (fun h48 => ?_) (fun h48 => ?_)
        · have e9 : M8 421 7 = v6 := (hf_M8.g (show kd 421 = 22 from rfl) rfl).trans e6
          exact jr.vreturn rfl rfl (q _ hC_M8 ht_M8  (LC.fr (LC.le w4_0 (by omega)) hf_M8 rfl) (by have hq0 : M8 421 7 = v6 := e9; omega))
        · exact absurd h33 h48
      · exact absurd h10 h33
    · exact jr.vreturn rfl rfl (q _ hC_M4 ht_M4  (LC.le w4_0 (by omega)) (by have hq0 : M4 421 7 = v6 := e6; omega))
  · refine jr.iconst rfl ?_
    refine jr.goto rfl rfl ?_
    obtain ⟨v14, e14⟩ : ∃ z_, M 421 4 = z_ := ⟨_, rfl⟩
    have b14 : 0 ≤ v14 ∧ v14 ≤ 1 := by rw [← e14]; exact (CI.r hC_M (show kd 421 = 22 from rfl) (by decide) 4)
    refine jr_v rfl rfl (Or.inl rfl) rfl rfl (nlt rfl) rfl ⟨rfl, Nat.le_of_ble_eq_true rfl, Nat.le_of_ble_eq_true rfl⟩ rfl (jc.deep (c_Machine_enter hC_M (FR.rfl _ M) (by omega) (by omega) e14 e1 p1 (fun r13 M13 hC_M13 hf_M13 z13 w13_0 w13_1 => ?_)) (Nat.le_of_ble_eq_true rfl))
    have ht_M13 : FR W_c_Machine_goInto T M13 := FR.t ht_M hf_M13 (kw_sub rfl)
    obtain ⟨v15, e15⟩ : ∃ z_, M13 421 7 = z_ := ⟨_, rfl⟩
    have b15 : 0 ≤ v15 ∧ v15 ≤ 8 := by rw [← e15]; exact (CI.r hC_M13 (show kd 421 = 22 from rfl) (by decide) 7)
    obtain ⟨v16, e16⟩ : ∃ z_, M13 421 4 = z_ := ⟨_, rfl⟩
    have b16 : 0 ≤ v16 ∧ v16 ≤ 1 := by rw [← e16]; exact (CI.r hC_M13 (show kd 421 = 22 from rfl) (by decide) 4)
    refine jr.if_ne rfl rfl (by first | (refine rgb (by assumption) ?_; exact rfl) | omega) (fun h21 => ?_) (fun h21 => ?_)
    · have sx21 : (1 : Int) ≤ r13 := by omega
      clear h21
      refine jr.aload_n rfl rfl ?_
      refine jr.bipush rfl (jbp _ (nlt rfl)) ?_
      refine jr.iload_n rfl rfl ?_
      refine jr.imul rfl ?_
      refine jr.iload_n rfl rfl ?_
      refine jr.bipush rfl (jbp _ (nlt rfl)) ?_
      refine jr.icmp_ne rfl rfl (by first | (refine rgb (by assumption) ?_; exact rfl) | omega) (rgl rfl) (fun h33 => ?_) (fun h33 => ?_)
      · exact absurd h33 (by omega)
      · refine jr.iconst rfl ?_
        refine jr.goto rfl rfl ?_
        refine jr.iadd rfl ?_
        refine jr_v rfl rfl (Or.inl rfl) rfl rfl (nlt rfl) rfl ⟨rfl, Nat.le_of_ble_eq_true rfl, Nat.le_of_ble_eq_true rfl⟩ rfl (jc.deep (c_Machine_note hC_M13 (FR.rfl _ M13) (by omega) (fun M17 hC_M17 hf_M17  => ?_)) (Nat.le_of_ble_eq_true rfl))
        have ht_M17 : FR W_c_Machine_goInto T M17 := FR.t ht_M13 hf_M17 (kw_sub rfl)
        refine jr.iload_n rfl rfl ?_
        refine jr.bipush rfl (jbp _ (nlt rfl)) ?_
        refine jr.icmp_ne rfl rfl (by first | (refine rgb (by assumption) ?_; exact rfl) | omega) (rgl rfl) (fun h48 => ?_) (fun h48 => ?_)
        · exact absurd h48 (by omega)
        · refine jr.aload_n rfl rfl ?_
          refine jr.iconst rfl ?_
          refine jr.putf (i := 19) (x := 0) rfl rfl (nlt rfl) rfl (nlt rfl) rfl rfl rfl rfl rfl ?_
          have e18 : M17 421 7 = v15 := (hf_M17.g (show kd 421 = 22 from rfl) rfl).trans e15
          exact jr.vreturn rfl rfl (q _ (CI.u hC_M17 (i := 19) (show kd 421 = 22 from rfl) (show (-2147483648 : Int) ≤ _ ∧ _ ≤ (2147483647 : Int) from by omega) rfl) (FR.o ht_M17 (show kd 421 = 22 from rfl) rfl)  (LC.n (LC.fr (LC.le w13_0 (by omega)) hf_M17 rfl) (show kd 421 = 22 from rfl) (by decide)) (by have hq0 : (ju M17 421 19 0) 421 7 = v15 := ((ju_i _ _ (zne (by decide))).trans e18); omega))
    · exact jr.vreturn rfl rfl (q _ hC_M13 ht_M13  (LC.le w13_0 (by omega)) (by have hq0 : M13 421 7 = v15 := e15; omega))
noncomputable def W_c_Machine_goOn : List (Nat × Nat) := [(14, 0), (14, 1), (14, 2), (22, 4), (22, 7), (22, 9), (22, 16), (22, 17), (22, 18), (22, 19), (24, 1000), (27, 5), (27, 6), (28, 1000), (29, 1000), (30, 1000), (31, 1000), (32, 1000)]
theorem c_Machine_goOn {A : Nat → Option (Nat × (Nat → Int32))} {Q : Option Value → jm → Prop} {L : Int} {T : jm} {M : jm} (hC_M : CI M) (ht_M : FR W_c_Machine_goOn T M) {x : Int} (h_x : (-2147483648) ≤ x ∧ x ≤ 2147483647) {y : Int} (h_y : (-2147483648) ≤ y ∧ y ≤ 2147483647) (p0 : (x ≠ 8 ∧ x ≠ 9) ∨ (0 ≤ y ∧ y ≤ 15)) (p1 : 1 ≤ M 421 7 ∧ M 421 7 ≤ 8) (p2 : 0 ≤ M 421 4 ∧ M 421 4 ≤ 0) (p3 : LC M L) (q : ∀ (M' : jm), CI M' → FR W_c_Machine_goOn T M' → (LC M' L) → (M' 421 4 = 0 ∨ 1 ≤ M' 421 7) → Q none M') : jc A 4 151 [.ref (421), .int (Int32.ofInt (x)), .int (Int32.ofInt (y))] M Q := by
  refine jc_of (m := xm_151) rfl (Nat.le_of_ble_eq_true rfl) rfl ?_
  obtain ⟨v1, e1⟩ : ∃ z_, M 421 7 = z_ := ⟨_, rfl⟩
  have b1 : 0 ≤ v1 ∧ v1 ≤ 8 := by rw [← e1]; exact (CI.r hC_M (show kd 421 = 22 from rfl) (by decide) 7)
  have b2 : 1 ≤ v1 ∧ v1 ≤ 8 := by rw [← e1]; exact p1
  obtain ⟨v3, e3⟩ : ∃ z_, M 421 4 = z_ := ⟨_, rfl⟩
  have b3 : 0 ≤ v3 ∧ v3 ≤ 1 := by rw [← e3]; exact (CI.r hC_M (show kd 421 = 22 from rfl) (by decide) 4)
  have b4 : 0 ≤ v3 ∧ v3 ≤ 0 := by rw [← e3]; exact p2
  refine jr.iload_n rfl rfl ?_
  rcases (show x = 3 ∨ x = 7 ∨ x = 8 ∨ x = 9 ∨ x = 60 ∨ x = 61 ∨ x = 62 ∨ x = 63 ∨ (x ≠ 3 ∧ x ≠ 7 ∧ x ≠ 8 ∧ x ≠ 9 ∧ x ≠ 60 ∧ x ≠ 61 ∧ x ≠ 62 ∧ x ≠ 63) by omega) with h1 | h1 | h1 | h1 | h1 | h1 | h1 | h1 | h1
  · refine jr.lsw_k 3 rfl h1 rfl ?_
    refine jr.aload_n rfl rfl ?_
    refine jr.aload_n rfl rfl ?_
    refine jr_v rfl rfl (Or.inl rfl) rfl rfl (nlt rfl) rfl ⟨rfl, Nat.le_of_ble_eq_true rfl, Nat.le_of_ble_eq_true rfl⟩ rfl (jc.deep (c_Machine_pop hC_M (FR.rfl _ M)  (fun r5 M5 hC_M5 hf_M5 z5  => ?_)) (Nat.le_of_ble_eq_true rfl))
    have ht_M5 : FR W_c_Machine_goOn T M5 := FR.t ht_M hf_M5 (kw_sub rfl)
    refine jr.lconst (x := 0) rfl (by decide) ?_
    refine jr.lcmp_ne rfl rfl rfl (by omega) (by omega) (fun h87 => ?_) (fun h87 => ?_)
    · refine jr.aload_n rfl rfl ?_
      obtain ⟨v6, e6⟩ : ∃ z_, M 421 16 = z_ := ⟨_, rfl⟩
      have b6 : (-2147483648) ≤ v6 ∧ v6 ≤ 2147483647 := by rw [← e6]; exact (CI.r hC_M (show kd 421 = 22 from rfl) (by decide) 16)
      have e7 : M5 421 16 = v6 := (hf_M5.g (show kd 421 = 22 from rfl) rfl).trans e6
      refine jr.getf (i := 16) (x := v6) (v := .int (Int32.ofInt (v6))) rfl rfl (nlt rfl) rfl (nlt rfl) rfl rfl e7 rfl ?_
      refine jr.putf (i := 16) (x := v6) rfl rfl (nlt rfl) rfl (nlt rfl) rfl rfl rfl rfl rfl ?_
      have e8 : M5 421 4 = v3 := (hf_M5.g (show kd 421 = 22 from rfl) rfl).trans e3
      have e9 : M5 421 7 = v1 := (hf_M5.g (show kd 421 = 22 from rfl) rfl).trans e1
      exact jr.vreturn rfl rfl (q _ (CI.u hC_M5 (i := 16) (show kd 421 = 22 from rfl) (show (-2147483648 : Int) ≤ _ ∧ _ ≤ (2147483647 : Int) from by omega) rfl) (FR.o ht_M5 (show kd 421 = 22 from rfl) rfl)  (LC.n (LC.fr (LC.le p3 (by omega)) hf_M5 rfl) (show kd 421 = 22 from rfl) (by decide)) (by have hq0 : (ju M5 421 16 v6) 421 4 = v3 := ((ju_i _ _ (zne (by decide))).trans e8); have hq1 : (ju M5 421 16 v6) 421 7 = v1 := ((ju_i _ _ (zne (by decide))).trans e9); omega))
    · refine jr.iload_n rfl rfl ?_
      refine jr.goto rfl rfl ?_
      refine jr.putf (i := 16) (x := y) rfl rfl (nlt rfl) rfl (nlt rfl) rfl rfl rfl rfl rfl ?_
      have e10 : M5 421 4 = v3 := (hf_M5.g (show kd 421 = 22 from rfl) rfl).trans e3
      have e11 : M5 421 7 = v1 := (hf_M5.g (show kd 421 = 22 from rfl) rfl).trans e1
      exact jr.vreturn rfl rfl (q _ (CI.u hC_M5 (i := 16) (show kd 421 = 22 from rfl) (show (-2147483648 : Int) ≤ _ ∧ _ ≤ (2147483647 : Int) from by omega) rfl) (FR.o ht_M5 (show kd 421 = 22 from rfl) rfl)  (LC.n (LC.fr (LC.le p3 (by omega)) hf_M5 rfl) (show kd 421 = 22 from rfl) (by decide)) (by have hq0 : (ju M5 421 16 y) 421 4 = v3 := ((ju_i _ _ (zne (by decide))).trans e10); have hq1 : (ju M5 421 16 y) 421 7 = v1 := ((ju_i _ _ (zne (by decide))).trans e11); omega))
  · refine jr.lsw_k 7 rfl h1 rfl ?_
    refine jr.aload_n rfl rfl ?_
    refine jr.bipush rfl (jbp _ (nlt rfl)) ?_
    refine jr.aload_n rfl rfl ?_
    refine jr_v rfl rfl (Or.inl rfl) rfl rfl (nlt rfl) rfl ⟨rfl, Nat.le_of_ble_eq_true rfl, Nat.le_of_ble_eq_true rfl⟩ rfl (jc.deep (c_Machine_chainNow hC_M  (by have hq0 : M 421 7 = v1 := e1; omega) (fun r12 z12  => ?_)) (Nat.le_of_ble_eq_true rfl))
    refine jr.imul rfl ?_
    refine jr.iconst rfl ?_
    refine jr.iadd rfl ?_
    refine jr_v rfl rfl (Or.inl rfl) rfl rfl (nlt rfl) rfl ⟨rfl, Nat.le_of_ble_eq_true rfl, Nat.le_of_ble_eq_true rfl⟩ rfl (jc.deep (c_Machine_note hC_M (FR.rfl _ M) (by omega) (fun M13 hC_M13 hf_M13  => ?_)) (Nat.le_of_ble_eq_true rfl))
    have ht_M13 : FR W_c_Machine_goOn T M13 := FR.t ht_M hf_M13 (kw_sub rfl)
    refine jr.aload_n rfl rfl ?_
    refine jr.iconst rfl ?_
    have e15 : M13 421 7 = v1 := (hf_M13.g (show kd 421 = 22 from rfl) rfl).trans e1
    refine jr_v rfl rfl (Or.inl rfl) rfl rfl (nlt rfl) rfl ⟨rfl, Nat.le_of_ble_eq_true rfl, Nat.le_of_ble_eq_true rfl⟩ rfl (jc.deep (c_Machine_leaveBody hC_M13 (FR.rfl _ M13) (by omega) (by have hq0 : M13 421 7 = v1 := e15; omega) (LC.fr p3 hf_M13 rfl) (fun M14 hC_M14 hf_M14 w14_0 => ?_)) (Nat.le_of_ble_eq_true rfl))
    have ht_M14 : FR W_c_Machine_goOn T M14 := FR.t ht_M13 hf_M14 (kw_sub rfl)
    have e16 : M13 421 4 = v3 := (hf_M13.g (show kd 421 = 22 from rfl) rfl).trans e3
    have e17 : M14 421 4 = v3 := (hf_M14.g (show kd 421 = 22 from rfl) rfl).trans e16
    have e18 : M14 421 7 = v1 := (hf_M14.g (show kd 421 = 22 from rfl) rfl).trans e15
    exact jr.vreturn rfl rfl (q _ hC_M14 ht_M14  (LC.le w14_0 (by omega)) (by have hq0 : M14 421 4 = v3 := e17; have hq1 : M14 421 7 = v1 := e18; omega))
  · refine jr.lsw_k 8 rfl h1 rfl ?_
    refine jr.aload_n rfl rfl ?_
    refine jr.iload_n rfl rfl ?_
    refine jr.iload_n rfl rfl ?_
    refine jr_v rfl rfl (Or.inl rfl) rfl rfl (nlt rfl) rfl ⟨rfl, Nat.le_of_ble_eq_true rfl, Nat.le_of_ble_eq_true rfl⟩ rfl (jc.deep (c_Machine_goInto hC_M (FR.rfl _ M) (by omega) (by omega) (by have hq0 : M 421 7 = v1 := e1; omega) p3 (fun M19 hC_M19 hf_M19 w19_0 w19_1 => ?_)) (Nat.le_of_ble_eq_true rfl))
    have ht_M19 : FR W_c_Machine_goOn T M19 := FR.t ht_M hf_M19 (kw_sub rfl)
    obtain ⟨v20, e20⟩ : ∃ z_, M19 421 7 = z_ := ⟨_, rfl⟩
    have b20 : 0 ≤ v20 ∧ v20 ≤ 8 := by rw [← e20]; exact (CI.r hC_M19 (show kd 421 = 22 from rfl) (by decide) 7)
    have b21 : 1 ≤ v20 ∧ v20 ≤ 8 := by rw [← e20]; exact w19_1
    obtain ⟨v22, e22⟩ : ∃ z_, M19 421 4 = z_ := ⟨_, rfl⟩
    have b22 : 0 ≤ v22 ∧ v22 ≤ 1 := by rw [← e22]; exact (CI.r hC_M19 (show kd 421 = 22 from rfl) (by decide) 4)
    exact jr.vreturn rfl rfl (q _ hC_M19 ht_M19  (LC.le w19_0 (by omega)) (by have hq0 : M19 421 4 = v22 := e22; have hq1 : M19 421 7 = v20 := e20; omega))
  · refine jr.lsw_k 9 rfl h1 rfl ?_
    refine jr.aload_n rfl rfl ?_
    refine jr.iload_n rfl rfl ?_
    refine jr.iload_n rfl rfl ?_
    refine jr_v rfl rfl (Or.inl rfl) rfl rfl (nlt rfl) rfl ⟨rfl, Nat.le_of_ble_eq_true rfl, Nat.le_of_ble_eq_true rfl⟩ rfl (jc.deep (c_Machine_goInto hC_M (FR.rfl _ M) (by omega) (by omega) (by have hq0 : M 421 7 = v1 := e1; omega) p3 (fun M23 hC_M23 hf_M23 w23_0 w23_1 => ?_)) (Nat.le_of_ble_eq_true rfl))
    have ht_M23 : FR W_c_Machine_goOn T M23 := FR.t ht_M hf_M23 (kw_sub rfl)
    obtain ⟨v24, e24⟩ : ∃ z_, M23 421 7 = z_ := ⟨_, rfl⟩
    have b24 : 0 ≤ v24 ∧ v24 ≤ 8 := by rw [← e24]; exact (CI.r hC_M23 (show kd 421 = 22 from rfl) (by decide) 7)
    have b25 : 1 ≤ v24 ∧ v24 ≤ 8 := by rw [← e24]; exact w23_1
    obtain ⟨v26, e26⟩ : ∃ z_, M23 421 4 = z_ := ⟨_, rfl⟩
    have b26 : 0 ≤ v26 ∧ v26 ≤ 1 := by rw [← e26]; exact (CI.r hC_M23 (show kd 421 = 22 from rfl) (by decide) 4)
    exact jr.vreturn rfl rfl (q _ hC_M23 ht_M23  (LC.le w23_0 (by omega)) (by have hq0 : M23 421 4 = v26 := e26; have hq1 : M23 421 7 = v24 := e24; omega))
  · refine jr.lsw_k 60 rfl h1 rfl ?_
    refine jr.aload_n rfl rfl ?_
    refine jr_v rfl rfl (Or.inl rfl) rfl rfl (nlt rfl) rfl ⟨rfl, Nat.le_of_ble_eq_true rfl, Nat.le_of_ble_eq_true rfl⟩ rfl (jc.deep (c_Machine_takeStep hC_M (FR.rfl _ M)  (fun M27 hC_M27 hf_M27  => ?_)) (Nat.le_of_ble_eq_true rfl))
    have ht_M27 : FR W_c_Machine_goOn T M27 := FR.t ht_M hf_M27 (kw_sub rfl)
    obtain ⟨v28, e28⟩ : ∃ z_, M27 421 4 = z_ := ⟨_, rfl⟩
    have b28 : 0 ≤ v28 ∧ v28 ≤ 1 := by rw [← e28]; exact (CI.r hC_M27 (show kd 421 = 22 from rfl) (by decide) 4)
    have e29 : M27 421 7 = v1 := (hf_M27.g (show kd 421 = 22 from rfl) rfl).trans e1
    exact jr.vreturn rfl rfl (q _ hC_M27 ht_M27  (LC.fr (LC.le p3 (by omega)) hf_M27 rfl) (by have hq0 : M27 421 4 = v28 := e28; have hq1 : M27 421 7 = v1 := e29; omega))
  · refine jr.lsw_k 61 rfl h1 rfl ?_
    refine jr.aload_n rfl rfl ?_
    refine jr.iload_n rfl rfl ?_
    refine jr.putf (i := 16) (x := y) rfl rfl (nlt rfl) rfl (nlt rfl) rfl rfl rfl rfl rfl ?_
    exact jr.vreturn rfl rfl (q _ (CI.u hC_M (i := 16) (show kd 421 = 22 from rfl) (show (-2147483648 : Int) ≤ _ ∧ _ ≤ (2147483647 : Int) from by omega) rfl) (FR.o ht_M (show kd 421 = 22 from rfl) rfl)  (LC.n (LC.le p3 (by omega)) (show kd 421 = 22 from rfl) (by decide)) (by have hq0 : (ju M 421 16 y) 421 4 = v3 := ((ju_i _ _ (zne (by decide))).trans e3); have hq1 : (ju M 421 16 y) 421 7 = v1 := ((ju_i _ _ (zne (by decide))).trans e1); omega))
  · refine jr.lsw_k 62 rfl h1 rfl ?_
    refine jr.aload_n rfl rfl ?_
    refine jr.iconst rfl ?_
    refine jr_v rfl rfl (Or.inl rfl) rfl rfl (nlt rfl) rfl ⟨rfl, Nat.le_of_ble_eq_true rfl, Nat.le_of_ble_eq_true rfl⟩ rfl (jc.deep (c_Machine_leaveBody hC_M (FR.rfl _ M) (by omega) (by have hq0 : M 421 7 = v1 := e1; omega) p3 (fun M30 hC_M30 hf_M30 w30_0 => ?_)) (Nat.le_of_ble_eq_true rfl))
    have ht_M30 : FR W_c_Machine_goOn T M30 := FR.t ht_M hf_M30 (kw_sub rfl)
    have e31 : M30 421 4 = v3 := (hf_M30.g (show kd 421 = 22 from rfl) rfl).trans e3
    have e32 : M30 421 7 = v1 := (hf_M30.g (show kd 421 = 22 from rfl) rfl).trans e1
    exact jr.vreturn rfl rfl (q _ hC_M30 ht_M30  (LC.le w30_0 (by omega)) (by have hq0 : M30 421 4 = v3 := e31; have hq1 : M30 421 7 = v1 := e32; omega))
  · refine jr.lsw_k 63 rfl h1 rfl ?_
    refine jr.aload_n rfl rfl ?_
    refine jr_v rfl rfl (Or.inl rfl) rfl rfl (nlt rfl) rfl ⟨rfl, Nat.le_of_ble_eq_true rfl, Nat.le_of_ble_eq_true rfl⟩ rfl (jc.deep (c_Machine_leaveChain hC_M (FR.rfl _ M)  (by have hq0 : M 421 7 = v1 := e1; omega) p3 (fun M33 hC_M33 hf_M33 w33_0 => ?_)) (Nat.le_of_ble_eq_true rfl))
    have ht_M33 : FR W_c_Machine_goOn T M33 := FR.t ht_M hf_M33 (kw_sub rfl)
    have e34 : M33 421 4 = v3 := (hf_M33.g (show kd 421 = 22 from rfl) rfl).trans e3
    obtain ⟨v35, e35⟩ : ∃ z_, M33 421 7 = z_ := ⟨_, rfl⟩
    have b35 : 0 ≤ v35 ∧ v35 ≤ 8 := by rw [← e35]; exact (CI.r hC_M33 (show kd 421 = 22 from rfl) (by decide) 7)
    exact jr.vreturn rfl rfl (q _ hC_M33 ht_M33  (LC.le w33_0 (by omega)) (by have hq0 : M33 421 4 = v3 := e34; have hq1 : M33 421 7 = v35 := e35; omega))
  · refine jr.lsw_d rfl (by omega) rfl (fun q hq => by simp only [List.mem_cons, List.not_mem_nil, or_false] at hq; rcases hq with rfl | rfl | rfl | rfl | rfl | rfl | rfl | rfl <;> (simp only; omega)) rfl ?_
    refine jr.aload_n rfl rfl ?_
    refine jr.bipush rfl (jbp _ (nlt rfl)) ?_
    refine jr.aload_n rfl rfl ?_
    refine jr_v rfl rfl (Or.inl rfl) rfl rfl (nlt rfl) rfl ⟨rfl, Nat.le_of_ble_eq_true rfl, Nat.le_of_ble_eq_true rfl⟩ rfl (jc.deep (c_Machine_chainNow hC_M  (by have hq0 : M 421 7 = v1 := e1; omega) (fun r36 z36  => ?_)) (Nat.le_of_ble_eq_true rfl))
    refine jr.imul rfl ?_
    refine jr.iload_n rfl rfl ?_
    refine jr.iadd rfl ?_
    refine jr.iw (j_w ((100 * r36) + x)) (j_w_eq _) ?_
    have b37 : -2147483648 ≤ j_w ((100 * r36) + x) ∧ j_w ((100 * r36) + x) ≤ 2147483647 := jb_any _
    generalize j_w ((100 * r36) + x) = v37 at b37 ⊢
    refine jr.iconst rfl ?_
    refine jr.isub rfl ?_
    refine jr.iw (j_w (v37 - 4)) (j_w_eq _) ?_
    have b38 : -2147483648 ≤ j_w (v37 - 4) ∧ j_w (v37 - 4) ≤ 2147483647 := jb_any _
    generalize j_w (v37 - 4) = v38 at b38 ⊢
    refine jr_v rfl rfl (Or.inl rfl) rfl rfl (nlt rfl) rfl ⟨rfl, Nat.le_of_ble_eq_true rfl, Nat.le_of_ble_eq_true rfl⟩ rfl (jc.deep (c_Machine_note hC_M (FR.rfl _ M) (by omega) (fun M39 hC_M39 hf_M39  => ?_)) (Nat.le_of_ble_eq_true rfl))
    have ht_M39 : FR W_c_Machine_goOn T M39 := FR.t ht_M hf_M39 (kw_sub rfl)
    refine jr.aload_n rfl rfl ?_
    refine jr.iload_n rfl rfl ?_
    refine jr.iconst rfl ?_
    refine jr.isub rfl ?_
    refine jr.iw (j_w (x - 4)) (j_w_eq _) ?_
    have b40 : -2147483648 ≤ j_w (x - 4) ∧ j_w (x - 4) ≤ 2147483647 := jb_any _
    generalize j_w (x - 4) = v40 at b40 ⊢
    have e42 : M39 421 7 = v1 := (hf_M39.g (show kd 421 = 22 from rfl) rfl).trans e1
    refine jr_v rfl rfl (Or.inl rfl) rfl rfl (nlt rfl) rfl ⟨rfl, Nat.le_of_ble_eq_true rfl, Nat.le_of_ble_eq_true rfl⟩ rfl (jc.deep (c_Machine_leaveBody hC_M39 (FR.rfl _ M39) (by omega) (by have hq0 : M39 421 7 = v1 := e42; omega) (LC.fr p3 hf_M39 rfl) (fun M41 hC_M41 hf_M41 w41_0 => ?_)) (Nat.le_of_ble_eq_true rfl))
    have ht_M41 : FR W_c_Machine_goOn T M41 := FR.t ht_M39 hf_M41 (kw_sub rfl)
    have e43 : M39 421 4 = v3 := (hf_M39.g (show kd 421 = 22 from rfl) rfl).trans e3
    have e44 : M41 421 4 = v3 := (hf_M41.g (show kd 421 = 22 from rfl) rfl).trans e43
    have e45 : M41 421 7 = v1 := (hf_M41.g (show kd 421 = 22 from rfl) rfl).trans e42
    exact jr.vreturn rfl rfl (q _ hC_M41 ht_M41  (LC.le w41_0 (by omega)) (by have hq0 : M41 421 4 = v3 := e44; have hq1 : M41 421 7 = v1 := e45; omega))
noncomputable def W_c_Machine_doDeed : List (Nat × Nat) := [(22, 4), (22, 5), (22, 9), (24, 1000), (27, 5), (27, 6), (29, 1000), (30, 1000), (31, 1000), (32, 1000), (52, 0), (52, 1), (53, 1000), (54, 1000)]
theorem c_Machine_doDeed {A : Nat → Option (Nat × (Nat → Int32))} {Q : Option Value → jm → Prop} {L : Int} {T : jm} {M : jm} (hC_M : CI M) (ht_M : FR W_c_Machine_doDeed T M) {x : Int} (h_x : (-2147483648) ≤ x ∧ x ≤ 2147483647) (p0 : LC M L) (p1 : L ≤ 2000000000) (q : ∀ (M' : jm), CI M' → FR W_c_Machine_doDeed T M' → (LC M' (L + 1)) → Q none M') : jc A 5 173 [.ref (421), .int (Int32.ofInt (x))] M Q := by
  refine jc_of (m := xm_173) rfl (Nat.le_of_ble_eq_true rfl) rfl ?_
  refine jr.aload_n rfl rfl ?_
  refine jr.iconst rfl ?_
  refine jr.putf (i := 9) (x := 0) rfl rfl (nlt rfl) rfl (nlt rfl) rfl rfl rfl rfl rfl ?_
  refine jr.iload_n rfl rfl ?_
  rcases (show x = 10 ∨ x = 11 ∨ x = 12 ∨ x = 13 ∨ x = 14 ∨ x = 15 ∨ x = 16 ∨ x = 17 ∨ (x ≠ 10 ∧ x ≠ 11 ∧ x ≠ 12 ∧ x ≠ 13 ∧ x ≠ 14 ∧ x ≠ 15 ∧ x ≠ 16 ∧ x ≠ 17) by omega) with h6 | h6 | h6 | h6 | h6 | h6 | h6 | h6 | h6
  · refine jr.tsw_k 10 rfl h6 rfl ?_
    refine jr.aload_n rfl rfl ?_
    refine jr_v rfl rfl (Or.inl rfl) rfl rfl (nlt rfl) rfl ⟨rfl, Nat.le_of_ble_eq_true rfl, Nat.le_of_ble_eq_true rfl⟩ rfl (jc.deep (c_Machine_setLabel (CI.u hC_M (i := 9) (show kd 421 = 22 from rfl) (show (0 : Int) ≤ _ ∧ _ ≤ (320 : Int) from by omega) rfl) (FR.rfl _ ((ju M 421 9 0)))  (fun M1 hC_M1 hf_M1  => ?_)) (Nat.le_of_ble_eq_true rfl))
    have ht_M1 : FR W_c_Machine_doDeed T M1 := FR.t (FR.o ht_M (show kd 421 = 22 from rfl) rfl) hf_M1 (kw_sub rfl)
    exact jr.vreturn rfl rfl (q _ hC_M1 ht_M1  (LC.fr (LC.n (LC.le p0 (by omega)) (show kd 421 = 22 from rfl) (by decide)) hf_M1 rfl))
  · refine jr.tsw_k 11 rfl h6 rfl ?_
    refine jr.aload_n rfl rfl ?_
    refine jr_v rfl rfl (Or.inl rfl) rfl rfl (nlt rfl) rfl ⟨rfl, Nat.le_of_ble_eq_true rfl, Nat.le_of_ble_eq_true rfl⟩ rfl (jc.deep (c_Machine_count (CI.u hC_M (i := 9) (show kd 421 = 22 from rfl) (show (0 : Int) ≤ _ ∧ _ ≤ (320 : Int) from by omega) rfl) (FR.rfl _ ((ju M 421 9 0)))  (fun M2 hC_M2 hf_M2  => ?_)) (Nat.le_of_ble_eq_true rfl))
    have ht_M2 : FR W_c_Machine_doDeed T M2 := FR.t (FR.o ht_M (show kd 421 = 22 from rfl) rfl) hf_M2 (kw_sub rfl)
    exact jr.vreturn rfl rfl (q _ hC_M2 ht_M2  (LC.fr (LC.n (LC.le p0 (by omega)) (show kd 421 = 22 from rfl) (by decide)) hf_M2 rfl))
  · refine jr.tsw_k 12 rfl h6 rfl ?_
    refine jr.aload_n rfl rfl ?_
    refine jr.getf (i := 1) (v := .ref 423) rfl rfl (nlt rfl) rfl (nlt rfl) rfl rfl rfl rfl ?_
    refine jr.aload_n rfl rfl ?_
    refine jr.getf (i := 8) (v := .ref 435) rfl rfl (nlt rfl) rfl (nlt rfl) rfl rfl rfl rfl ?_
    refine jr.iconst rfl ?_
    obtain ⟨v3, e3⟩ : ∃ z_, M 435 0 = z_ := ⟨_, rfl⟩
    have b3 : (-9223372036854775808) ≤ v3 ∧ v3 ≤ 9223372036854775807 := by rw [← e3]; exact (CI.r hC_M (show kd 435 = 26 from rfl) (by decide) 0)
    refine jr.lald (i := 0) (x := v3) rfl (nlt rfl) rfl (Nat.le_of_ble_eq_true rfl) (by omega) (by omega) ((ju_c _ _ (by decide)).trans e3) ?_
    refine jr_v rfl rfl (Or.inl rfl) rfl rfl (nlt rfl) rfl ⟨rfl, Nat.le_of_ble_eq_true rfl, Nat.le_of_ble_eq_true rfl⟩ rfl (jc.deep (c_Memory_addToLog (CI.u hC_M (i := 9) (show kd 421 = 22 from rfl) (show (0 : Int) ≤ _ ∧ _ ≤ (320 : Int) from by omega) rfl) (FR.rfl _ ((ju M 421 9 0))) (show kd 423 = 27 from rfl) (by omega) (LC.n p0 (show kd 421 = 22 from rfl) (by decide)) (by omega) (fun M4 hC_M4 hf_M4 w4_0 => ?_)) (Nat.le_of_ble_eq_true rfl))
    have ht_M4 : FR W_c_Machine_doDeed T M4 := FR.t (FR.o ht_M (show kd 421 = 22 from rfl) rfl) hf_M4 (kw_sub rfl)
    exact jr.vreturn rfl rfl (q _ hC_M4 ht_M4  (LC.le w4_0 (by omega)))
  · refine jr.tsw_k 13 rfl h6 rfl ?_
    refine jr.aload_n rfl rfl ?_
    refine jr_v rfl rfl (Or.inl rfl) rfl rfl (nlt rfl) rfl ⟨rfl, Nat.le_of_ble_eq_true rfl, Nat.le_of_ble_eq_true rfl⟩ rfl (jc.deep (c_Machine_learn (CI.u hC_M (i := 9) (show kd 421 = 22 from rfl) (show (0 : Int) ≤ _ ∧ _ ≤ (320 : Int) from by omega) rfl) (FR.rfl _ ((ju M 421 9 0)))  (fun M5 hC_M5 hf_M5  => ?_)) (Nat.le_of_ble_eq_true rfl))
    have ht_M5 : FR W_c_Machine_doDeed T M5 := FR.t (FR.o ht_M (show kd 421 = 22 from rfl) rfl) hf_M5 (kw_sub rfl)
    exact jr.vreturn rfl rfl (q _ hC_M5 ht_M5  (LC.fr (LC.n (LC.le p0 (by omega)) (show kd 421 = 22 from rfl) (by decide)) hf_M5 rfl))
  · refine jr.tsw_k 14 rfl h6 rfl ?_
    refine jr.aload_n rfl rfl ?_
    refine jr_v rfl rfl (Or.inl rfl) rfl rfl (nlt rfl) rfl ⟨rfl, Nat.le_of_ble_eq_true rfl, Nat.le_of_ble_eq_true rfl⟩ rfl (jc.deep (c_Machine_putItem (CI.u hC_M (i := 9) (show kd 421 = 22 from rfl) (show (0 : Int) ≤ _ ∧ _ ≤ (320 : Int) from by omega) rfl) (FR.rfl _ ((ju M 421 9 0)))  (fun M6 hC_M6 hf_M6  => ?_)) (Nat.le_of_ble_eq_true rfl))
    have ht_M6 : FR W_c_Machine_doDeed T M6 := FR.t (FR.o ht_M (show kd 421 = 22 from rfl) rfl) hf_M6 (kw_sub rfl)
    exact jr.vreturn rfl rfl (q _ hC_M6 ht_M6  (LC.fr (LC.n (LC.le p0 (by omega)) (show kd 421 = 22 from rfl) (by decide)) hf_M6 rfl))
  · refine jr.tsw_k 15 rfl h6 rfl ?_
    refine jr.aload_n rfl rfl ?_
    refine jr_v rfl rfl (Or.inl rfl) rfl rfl (nlt rfl) rfl ⟨rfl, Nat.le_of_ble_eq_true rfl, Nat.le_of_ble_eq_true rfl⟩ rfl (jc.deep (c_Machine_copyItems (CI.u hC_M (i := 9) (show kd 421 = 22 from rfl) (show (0 : Int) ≤ _ ∧ _ ≤ (320 : Int) from by omega) rfl) (FR.rfl _ ((ju M 421 9 0)))  (fun M7 hC_M7 hf_M7  => ?_)) (Nat.le_of_ble_eq_true rfl))
    have ht_M7 : FR W_c_Machine_doDeed T M7 := FR.t (FR.o ht_M (show kd 421 = 22 from rfl) rfl) hf_M7 (kw_sub rfl)
    exact jr.vreturn rfl rfl (q _ hC_M7 ht_M7  (LC.fr (LC.n (LC.le p0 (by omega)) (show kd 421 = 22 from rfl) (by decide)) hf_M7 rfl))
  · refine jr.tsw_k 16 rfl h6 rfl ?_
    refine jr.aload_n rfl rfl ?_
    refine jr_v rfl rfl (Or.inl rfl) rfl rfl (nlt rfl) rfl ⟨rfl, Nat.le_of_ble_eq_true rfl, Nat.le_of_ble_eq_true rfl⟩ rfl (jc.deep (c_Machine_makeFresh (CI.u hC_M (i := 9) (show kd 421 = 22 from rfl) (show (0 : Int) ≤ _ ∧ _ ≤ (320 : Int) from by omega) rfl) (FR.rfl _ ((ju M 421 9 0)))  (fun M8 hC_M8 hf_M8  => ?_)) (Nat.le_of_ble_eq_true rfl))
    have ht_M8 : FR W_c_Machine_doDeed T M8 := FR.t (FR.o ht_M (show kd 421 = 22 from rfl) rfl) hf_M8 (kw_sub rfl)
    exact jr.vreturn rfl rfl (q _ hC_M8 ht_M8  (LC.fr (LC.n (LC.le p0 (by omega)) (show kd 421 = 22 from rfl) (by decide)) hf_M8 rfl))
  · refine jr.tsw_k 17 rfl h6 rfl ?_
    refine jr.aload_n rfl rfl ?_
    refine jr_v rfl rfl (Or.inl rfl) rfl rfl (nlt rfl) rfl ⟨rfl, Nat.le_of_ble_eq_true rfl, Nat.le_of_ble_eq_true rfl⟩ rfl (jc.deep (c_Machine_makeList (CI.u hC_M (i := 9) (show kd 421 = 22 from rfl) (show (0 : Int) ≤ _ ∧ _ ≤ (320 : Int) from by omega) rfl) (FR.rfl _ ((ju M 421 9 0)))  (fun M9 hC_M9 hf_M9  => ?_)) (Nat.le_of_ble_eq_true rfl))
    have ht_M9 : FR W_c_Machine_doDeed T M9 := FR.t (FR.o ht_M (show kd 421 = 22 from rfl) rfl) hf_M9 (kw_sub rfl)
    exact jr.vreturn rfl rfl (q _ hC_M9 ht_M9  (LC.fr (LC.n (LC.le p0 (by omega)) (show kd 421 = 22 from rfl) (by decide)) hf_M9 rfl))
  · refine jr.tsw_d rfl (by omega) (by omega) rfl ?_
    refine jr.aload_n rfl rfl ?_
    refine jr.bipush rfl (jbp _ (nlt rfl)) ?_
    refine jr_v rfl rfl (Or.inl rfl) rfl rfl (nlt rfl) rfl ⟨rfl, Nat.le_of_ble_eq_true rfl, Nat.le_of_ble_eq_true rfl⟩ rfl (jc.deep (c_Machine_fail (CI.u hC_M (i := 9) (show kd 421 = 22 from rfl) (show (0 : Int) ≤ _ ∧ _ ≤ (320 : Int) from by omega) rfl) (FR.rfl _ ((ju M 421 9 0))) (by omega) (fun M10 hC_M10 hf_M10  => ?_)) (Nat.le_of_ble_eq_true rfl))
    have ht_M10 : FR W_c_Machine_doDeed T M10 := FR.t (FR.o ht_M (show kd 421 = 22 from rfl) rfl) hf_M10 (kw_sub rfl)
    refine jr.aload_n rfl rfl ?_
    refine jr.getf (i := 10) (v := .ref 436) rfl rfl (nlt rfl) rfl (nlt rfl) rfl rfl rfl rfl ?_
    refine jr.iconst rfl ?_
    refine jr.aload_n rfl rfl ?_
    refine jr.getf (i := 8) (v := .ref 435) rfl rfl (nlt rfl) rfl (nlt rfl) rfl rfl rfl rfl ?_
    refine jr.iconst rfl ?_
    obtain ⟨v11, e11⟩ : ∃ z_, M 435 0 = z_ := ⟨_, rfl⟩
    have b11 : (-9223372036854775808) ≤ v11 ∧ v11 ≤ 9223372036854775807 := by rw [← e11]; exact (CI.r hC_M (show kd 435 = 26 from rfl) (by decide) 0)
    have e12 : M10 435 0 = v11 := (hf_M10.g (show kd 435 = 26 from rfl) rfl).trans ((ju_c _ _ (by decide)).trans e11)
    refine jr.lald (i := 0) (x := v11) rfl (nlt rfl) rfl (Nat.le_of_ble_eq_true rfl) (by omega) (by omega) e12 ?_
    refine jr.l2i rfl ?_
    refine jr.iw (j_w v11) (j_w_eq _) ?_
    have b13 : -2147483648 ≤ j_w v11 ∧ j_w v11 ≤ 2147483647 := jb_any _
    generalize j_w v11 = v13 at b13 ⊢
    refine jr.iast (i := 1) (x := v13) rfl (nlt rfl) rfl (Nat.le_of_ble_eq_true rfl) (by omega) (by omega) ?_
    exact jr.vreturn rfl rfl (q _ (CI.u hC_M10 (i := 1) (show kd 436 = 24 from rfl) (show (-2147483648 : Int) ≤ _ ∧ _ ≤ (2147483647 : Int) from by omega) rfl) (FR.o ht_M10 (show kd 436 = 24 from rfl) rfl)  (LC.n (LC.fr (LC.n (LC.le p0 (by omega)) (show kd 421 = 22 from rfl) (by decide)) hf_M10 rfl) (show kd 436 = 24 from rfl) (by decide)))
noncomputable def W_c_Machine_perform : List (Nat × Nat) := [(14, 0), (14, 1), (14, 2), (22, 4), (22, 5), (22, 7), (22, 9), (22, 16), (22, 17), (22, 18), (22, 19), (24, 1000), (26, 1000), (27, 5), (27, 6), (28, 1000), (29, 1000), (30, 1000), (31, 1000), (32, 1000), (52, 0), (52, 1), (53, 1000), (54, 1000)]
theorem c_Machine_perform {A : Nat → Option (Nat × (Nat → Int32))} {Q : Option Value → jm → Prop} {L : Int} {T : jm} {M : jm} (hC_M : CI M) (ht_M : FR W_c_Machine_perform T M) (p0 : 1 ≤ M 421 7 ∧ M 421 7 ≤ 8) (p1 : 0 ≤ M 421 4 ∧ M 421 4 ≤ 0) (p2 : LC M L) (p3 : L ≤ 2000000000) (p4 : PC M ) (q : ∀ (M' : jm), CI M' → FR W_c_Machine_perform T M' → (LC M' (L + 1)) → (M' 421 4 = 0 ∨ 1 ≤ M' 421 7) → Q none M') : jc A 6 143 [.ref (421)] M Q := by
  refine jc_of (m := xm_143) rfl (Nat.le_of_ble_eq_true rfl) rfl ?_
  obtain ⟨v1, e1⟩ : ∃ z_, M 421 7 = z_ := ⟨_, rfl⟩
  have b1 : 0 ≤ v1 ∧ v1 ≤ 8 := by rw [← e1]; exact (CI.r hC_M (show kd 421 = 22 from rfl) (by decide) 7)
  have b2 : 1 ≤ v1 ∧ v1 ≤ 8 := by rw [← e1]; exact p0
  obtain ⟨v3, e3⟩ : ∃ z_, M 421 4 = z_ := ⟨_, rfl⟩
  have b3 : 0 ≤ v3 ∧ v3 ≤ 1 := by rw [← e3]; exact (CI.r hC_M (show kd 421 = 22 from rfl) (by decide) 4)
  have b4 : 0 ≤ v3 ∧ v3 ≤ 0 := by rw [← e3]; exact p1
  refine jr.aload_n rfl rfl ?_
  obtain ⟨v5, e5⟩ : ∃ z_, M 421 2 = z_ := ⟨_, rfl⟩
  have b5 : 0 ≤ v5 ∧ v5 ≤ 597 := by rw [← e5]; exact (CI.r hC_M (show kd 421 = 22 from rfl) (by decide) 2)
  have k6 : kd (v5).toNat = 47 := ((congrArg (fun z : Int => kd z.toNat) (show M 421 2 = v5 from e5)).symm.trans (CI.x hC_M (show kd 421 = 22 from rfl) 2 rfl (by decide)))
  refine jr.getf (i := 2) (x := v5) (v := .ref (v5.toNat)) rfl rfl (nlt rfl) rfl (nlt rfl) rfl rfl e5 rfl ?_
  refine jr.aload_n rfl rfl ?_
  obtain ⟨v7, e7⟩ : ∃ z_, M 421 16 = z_ := ⟨_, rfl⟩
  have b7 : (-2147483648) ≤ v7 ∧ v7 ≤ 2147483647 := by rw [← e7]; exact (CI.r hC_M (show kd 421 = 22 from rfl) (by decide) 16)
  refine jr.getf (i := 16) (x := v7) (v := .int (Int32.ofInt (v7))) rfl rfl (nlt rfl) rfl (nlt rfl) rfl rfl e7 rfl ?_
  refine jr_v rfl rfl (Or.inl rfl) rfl rfl (Nat.lt_trans (kx_47 k6).1 (by decide)) (kx_47 k6).2 ⟨rfl, Nat.le_of_ble_eq_true rfl, Nat.le_of_ble_eq_true rfl⟩ rfl (jc.deep (c_Program_opAt hC_M k6 (by omega) (fun r8 z8 w8_0 w8_1 => ?_)) (Nat.le_of_ble_eq_true rfl))
  refine jr.istore_n (ls' := [_, _]) rfl (nlt rfl) rfl ?_
  refine jr.aload_n rfl rfl ?_
  have k9 : kd (v5).toNat = 47 := ((congrArg (fun z : Int => kd z.toNat) (show M 421 2 = v5 from e5)).symm.trans (CI.x hC_M (show kd 421 = 22 from rfl) 2 rfl (by decide)))
  refine jr.getf (i := 2) (x := v5) (v := .ref (v5.toNat)) rfl rfl (nlt rfl) rfl (nlt rfl) rfl rfl e5 rfl ?_
  refine jr.aload_n rfl rfl ?_
  refine jr.getf (i := 16) (x := v7) (v := .int (Int32.ofInt (v7))) rfl rfl (nlt rfl) rfl (nlt rfl) rfl rfl e7 rfl ?_
  refine jr_v rfl rfl (Or.inl rfl) rfl rfl (Nat.lt_trans (kx_47 k9).1 (by decide)) (kx_47 k9).2 ⟨rfl, Nat.le_of_ble_eq_true rfl, Nat.le_of_ble_eq_true rfl⟩ rfl (jc.deep (c_Program_argAt hC_M k9 (by omega) (fun r10 z10 w10_0 => ?_)) (Nat.le_of_ble_eq_true rfl))
  refine jr.istore_n (ls' := [_, _, _]) rfl (nlt rfl) rfl ?_
  refine jr.aload_n rfl rfl ?_
  refine jr.dup rfl rfl ?_
  refine jr.getf (i := 16) (x := v7) (v := .int (Int32.ofInt (v7))) rfl rfl (nlt rfl) rfl (nlt rfl) rfl rfl e7 rfl ?_
  refine jr.iconst rfl ?_
  refine jr.iadd rfl ?_
  refine jr.iw (j_w (v7 + 1)) (j_w_eq _) ?_
  have b11 : -2147483648 ≤ j_w (v7 + 1) ∧ j_w (v7 + 1) ≤ 2147483647 := jb_any _
  generalize j_w (v7 + 1) = v11 at b11 ⊢
  refine jr.putf (i := 16) (x := v11) rfl rfl (nlt rfl) rfl (nlt rfl) rfl rfl rfl rfl rfl ?_
  refine jr.iload_n rfl rfl ?_
  refine jr.sipush rfl (by decide) ?_
  refine jr.icmp_lt rfl rfl (by first | (refine rgb (by assumption) ?_; exact rfl) | omega) (rgl rfl) (fun h38 => ?_) (fun h38 => ?_)
  · refine jr.iload_n rfl rfl ?_
    refine jr.bipush rfl (jbp _ (nlt rfl)) ?_
    refine jr.icmp_lt rfl rfl (by first | (refine rgb (by assumption) ?_; exact rfl) | omega) (rgl rfl) (fun h53 => ?_) (fun h53 => ?_)
    · refine jr.iload_n rfl rfl ?_
      refine jr.bipush rfl (jbp _ (nlt rfl)) ?_
      refine jr.icmp_lt rfl rfl (by first | (refine rgb (by assumption) ?_; exact rfl) | omega) (rgl rfl) (fun h68 => ?_) (fun h68 => ?_)
      · refine jr.iload_n rfl rfl ?_
        refine jr.bipush rfl (jbp _ (nlt rfl)) ?_
        refine jr.icmp_lt rfl rfl (by first | (refine rgb (by assumption) ?_; exact rfl) | omega) (rgl rfl) (fun h83 => ?_) (fun h83 => ?_)
        · refine jr.iload_n rfl rfl ?_
          refine jr.bipush rfl (jbp _ (nlt rfl)) ?_
          refine jr.icmp_lt rfl rfl (by first | (refine rgb (by assumption) ?_; exact rfl) | omega) (rgl rfl) (fun h97 => ?_) (fun h97 => ?_)
          · refine jr.iload_n rfl rfl ?_
            refine jr.bipush rfl (jbp _ (nlt rfl)) ?_
            refine jr.icmp_lt rfl rfl (by first | (refine rgb (by assumption) ?_; exact rfl) | omega) (rgl rfl) (fun h112 => ?_) (fun h112 => ?_)
            · refine jr.aload_n rfl rfl ?_
              refine jr.iload_n rfl rfl ?_
              refine jr.iload_n rfl rfl ?_
              refine jr_v rfl rfl (Or.inl rfl) rfl rfl (nlt rfl) rfl ⟨rfl, Nat.le_of_ble_eq_true rfl, Nat.le_of_ble_eq_true rfl⟩ rfl (jc.deep (c_Machine_goOn (CI.u hC_M (i := 16) (show kd 421 = 22 from rfl) (show (-2147483648 : Int) ≤ _ ∧ _ ≤ (2147483647 : Int) from by omega) rfl) (FR.rfl _ ((ju M 421 16 v11))) (by omega) (by omega) (PC.at p4 e5 w8_0 w10_0) (by have hq0 : (ju M 421 16 v11) 421 7 = v1 := ((ju_i _ _ (zne (by decide))).trans e1); omega) (by have hq0 : (ju M 421 16 v11) 421 4 = v3 := ((ju_i _ _ (zne (by decide))).trans e3); omega) (LC.n p2 (show kd 421 = 22 from rfl) (by decide)) (fun M12 hC_M12 hf_M12 w12_0 w12_1 => ?_)) (Nat.le_of_ble_eq_true rfl))
              have ht_M12 : FR W_c_Machine_perform T M12 := FR.t (FR.o ht_M (show kd 421 = 22 from rfl) rfl) hf_M12 (kw_sub rfl)
              obtain ⟨v13, e13⟩ : ∃ z_, M12 421 4 = z_ := ⟨_, rfl⟩
              have b13 : 0 ≤ v13 ∧ v13 ≤ 1 := by rw [← e13]; exact (CI.r hC_M12 (show kd 421 = 22 from rfl) (by decide) 4)
              obtain ⟨v14, e14⟩ : ∃ z_, M12 421 7 = z_ := ⟨_, rfl⟩
              have b14 : 0 ≤ v14 ∧ v14 ≤ 8 := by rw [← e14]; exact (CI.r hC_M12 (show kd 421 = 22 from rfl) (by decide) 7)
              exact jr.vreturn rfl rfl (q _ hC_M12 ht_M12  (LC.le w12_0 (by omega)) (by have hq0 : M12 421 4 = v13 := e13; have hq1 : M12 421 7 = v14 := e14; omega))
            · refine jr.aload_n rfl rfl ?_
              refine jr.iload_n rfl rfl ?_
              refine jr_v rfl rfl (Or.inl rfl) rfl rfl (nlt rfl) rfl ⟨rfl, Nat.le_of_ble_eq_true rfl, Nat.le_of_ble_eq_true rfl⟩ rfl (jc.deep (c_Machine_doDeed (CI.u hC_M (i := 16) (show kd 421 = 22 from rfl) (show (-2147483648 : Int) ≤ _ ∧ _ ≤ (2147483647 : Int) from by omega) rfl) (FR.rfl _ ((ju M 421 16 v11))) (by omega) (LC.n p2 (show kd 421 = 22 from rfl) (by decide)) (by omega) (fun M15 hC_M15 hf_M15 w15_0 => ?_)) (Nat.le_of_ble_eq_true rfl))
              have ht_M15 : FR W_c_Machine_perform T M15 := FR.t (FR.o ht_M (show kd 421 = 22 from rfl) rfl) hf_M15 (kw_sub rfl)
              refine jr.goto rfl rfl ?_
              obtain ⟨v16, e16⟩ : ∃ z_, M15 421 4 = z_ := ⟨_, rfl⟩
              have b16 : 0 ≤ v16 ∧ v16 ≤ 1 := by rw [← e16]; exact (CI.r hC_M15 (show kd 421 = 22 from rfl) (by decide) 4)
              have e17 : M15 421 7 = v1 := (hf_M15.g (show kd 421 = 22 from rfl) rfl).trans ((ju_i _ _ (zne (by decide))).trans e1)
              exact jr.vreturn rfl rfl (q _ hC_M15 ht_M15  (LC.le w15_0 (by omega)) (by have hq0 : M15 421 4 = v16 := e16; have hq1 : M15 421 7 = v1 := e17; omega))
          · refine jr.aload_n rfl rfl ?_
            refine jr.iload_n rfl rfl ?_
            refine jr.iload_n rfl rfl ?_
            refine jr_v rfl rfl (Or.inl rfl) rfl rfl (nlt rfl) rfl ⟨rfl, Nat.le_of_ble_eq_true rfl, Nat.le_of_ble_eq_true rfl⟩ rfl (jc.deep (c_Machine_tell (CI.u hC_M (i := 16) (show kd 421 = 22 from rfl) (show (-2147483648 : Int) ≤ _ ∧ _ ≤ (2147483647 : Int) from by omega) rfl) (FR.rfl _ ((ju M 421 16 v11))) (by omega) (by omega) (fun M18 hC_M18 hf_M18  => ?_)) (Nat.le_of_ble_eq_true rfl))
            have ht_M18 : FR W_c_Machine_perform T M18 := FR.t (FR.o ht_M (show kd 421 = 22 from rfl) rfl) hf_M18 (kw_sub rfl)
            refine jr.goto rfl rfl ?_
            obtain ⟨v19, e19⟩ : ∃ z_, M18 421 4 = z_ := ⟨_, rfl⟩
            have b19 : 0 ≤ v19 ∧ v19 ≤ 1 := by rw [← e19]; exact (CI.r hC_M18 (show kd 421 = 22 from rfl) (by decide) 4)
            have e20 : M18 421 7 = v1 := (hf_M18.g (show kd 421 = 22 from rfl) rfl).trans ((ju_i _ _ (zne (by decide))).trans e1)
            exact jr.vreturn rfl rfl (q _ hC_M18 ht_M18  (LC.fr (LC.n (LC.le p2 (by omega)) (show kd 421 = 22 from rfl) (by decide)) hf_M18 rfl) (by have hq0 : M18 421 4 = v19 := e19; have hq1 : M18 421 7 = v1 := e20; omega))
        · refine jr.aload_n rfl rfl ?_
          refine jr.iload_n rfl rfl ?_
          refine jr_v rfl rfl (Or.inl rfl) rfl rfl (nlt rfl) rfl ⟨rfl, Nat.le_of_ble_eq_true rfl, Nat.le_of_ble_eq_true rfl⟩ rfl (jc.deep (c_Machine_ask (CI.u hC_M (i := 16) (show kd 421 = 22 from rfl) (show (-2147483648 : Int) ≤ _ ∧ _ ≤ (2147483647 : Int) from by omega) rfl) (FR.rfl _ ((ju M 421 16 v11))) (by omega) (fun M21 hC_M21 hf_M21  => ?_)) (Nat.le_of_ble_eq_true rfl))
          have ht_M21 : FR W_c_Machine_perform T M21 := FR.t (FR.o ht_M (show kd 421 = 22 from rfl) rfl) hf_M21 (kw_sub rfl)
          refine jr.goto rfl rfl ?_
          obtain ⟨v22, e22⟩ : ∃ z_, M21 421 4 = z_ := ⟨_, rfl⟩
          have b22 : 0 ≤ v22 ∧ v22 ≤ 1 := by rw [← e22]; exact (CI.r hC_M21 (show kd 421 = 22 from rfl) (by decide) 4)
          have e23 : M21 421 7 = v1 := (hf_M21.g (show kd 421 = 22 from rfl) rfl).trans ((ju_i _ _ (zne (by decide))).trans e1)
          exact jr.vreturn rfl rfl (q _ hC_M21 ht_M21  (LC.fr (LC.n (LC.le p2 (by omega)) (show kd 421 = 22 from rfl) (by decide)) hf_M21 rfl) (by have hq0 : M21 421 4 = v22 := e22; have hq1 : M21 421 7 = v1 := e23; omega))
      · refine jr.aload_n rfl rfl ?_
        refine jr.iload_n rfl rfl ?_
        refine jr.iload_n rfl rfl ?_
        refine jr_v rfl rfl (Or.inl rfl) rfl rfl (nlt rfl) rfl ⟨rfl, Nat.le_of_ble_eq_true rfl, Nat.le_of_ble_eq_true rfl⟩ rfl (jc.deep (c_Machine_tell (CI.u hC_M (i := 16) (show kd 421 = 22 from rfl) (show (-2147483648 : Int) ≤ _ ∧ _ ≤ (2147483647 : Int) from by omega) rfl) (FR.rfl _ ((ju M 421 16 v11))) (by omega) (by omega) (fun M24 hC_M24 hf_M24  => ?_)) (Nat.le_of_ble_eq_true rfl))
        have ht_M24 : FR W_c_Machine_perform T M24 := FR.t (FR.o ht_M (show kd 421 = 22 from rfl) rfl) hf_M24 (kw_sub rfl)
        refine jr.goto rfl rfl ?_
        obtain ⟨v25, e25⟩ : ∃ z_, M24 421 4 = z_ := ⟨_, rfl⟩
        have b25 : 0 ≤ v25 ∧ v25 ≤ 1 := by rw [← e25]; exact (CI.r hC_M24 (show kd 421 = 22 from rfl) (by decide) 4)
        have e26 : M24 421 7 = v1 := (hf_M24.g (show kd 421 = 22 from rfl) rfl).trans ((ju_i _ _ (zne (by decide))).trans e1)
        exact jr.vreturn rfl rfl (q _ hC_M24 ht_M24  (LC.fr (LC.n (LC.le p2 (by omega)) (show kd 421 = 22 from rfl) (by decide)) hf_M24 rfl) (by have hq0 : M24 421 4 = v25 := e25; have hq1 : M24 421 7 = v1 := e26; omega))
    · refine jr.aload_n rfl rfl ?_
      refine jr.iload_n rfl rfl ?_
      refine jr.iload_n rfl rfl ?_
      refine jr_v rfl rfl (Or.inl rfl) rfl rfl (nlt rfl) rfl ⟨rfl, Nat.le_of_ble_eq_true rfl, Nat.le_of_ble_eq_true rfl⟩ rfl (jc.deep (c_Machine_goOn (CI.u hC_M (i := 16) (show kd 421 = 22 from rfl) (show (-2147483648 : Int) ≤ _ ∧ _ ≤ (2147483647 : Int) from by omega) rfl) (FR.rfl _ ((ju M 421 16 v11))) (by omega) (by omega) (PC.at p4 e5 w8_0 w10_0) (by have hq0 : (ju M 421 16 v11) 421 7 = v1 := ((ju_i _ _ (zne (by decide))).trans e1); omega) (by have hq0 : (ju M 421 16 v11) 421 4 = v3 := ((ju_i _ _ (zne (by decide))).trans e3); omega) (LC.n p2 (show kd 421 = 22 from rfl) (by decide)) (fun M27 hC_M27 hf_M27 w27_0 w27_1 => ?_)) (Nat.le_of_ble_eq_true rfl))
      have ht_M27 : FR W_c_Machine_perform T M27 := FR.t (FR.o ht_M (show kd 421 = 22 from rfl) rfl) hf_M27 (kw_sub rfl)
      obtain ⟨v28, e28⟩ : ∃ z_, M27 421 4 = z_ := ⟨_, rfl⟩
      have b28 : 0 ≤ v28 ∧ v28 ≤ 1 := by rw [← e28]; exact (CI.r hC_M27 (show kd 421 = 22 from rfl) (by decide) 4)
      obtain ⟨v29, e29⟩ : ∃ z_, M27 421 7 = z_ := ⟨_, rfl⟩
      have b29 : 0 ≤ v29 ∧ v29 ≤ 8 := by rw [← e29]; exact (CI.r hC_M27 (show kd 421 = 22 from rfl) (by decide) 7)
      refine jr.goto rfl rfl ?_
      exact jr.vreturn rfl rfl (q _ hC_M27 ht_M27  (LC.le w27_0 (by omega)) (by have hq0 : M27 421 4 = v28 := e28; have hq1 : M27 421 7 = v29 := e29; omega))
  · refine jr.aload_n rfl rfl ?_
    refine jr.iload_n rfl rfl ?_
    refine jr.iload_n rfl rfl ?_
    refine jr_v rfl rfl (Or.inl rfl) rfl rfl (nlt rfl) rfl ⟨rfl, Nat.le_of_ble_eq_true rfl, Nat.le_of_ble_eq_true rfl⟩ rfl (jc.deep (c_Machine_workSign (CI.u hC_M (i := 16) (show kd 421 = 22 from rfl) (show (-2147483648 : Int) ≤ _ ∧ _ ≤ (2147483647 : Int) from by omega) rfl) (FR.rfl _ ((ju M 421 16 v11))) (by omega) (by omega) (fun M30 hC_M30 hf_M30  => ?_)) (Nat.le_of_ble_eq_true rfl))
    have ht_M30 : FR W_c_Machine_perform T M30 := FR.t (FR.o ht_M (show kd 421 = 22 from rfl) rfl) hf_M30 (kw_sub rfl)
    refine jr.goto rfl rfl ?_
    obtain ⟨v31, e31⟩ : ∃ z_, M30 421 4 = z_ := ⟨_, rfl⟩
    have b31 : 0 ≤ v31 ∧ v31 ≤ 1 := by rw [← e31]; exact (CI.r hC_M30 (show kd 421 = 22 from rfl) (by decide) 4)
    have e32 : M30 421 7 = v1 := (hf_M30.g (show kd 421 = 22 from rfl) rfl).trans ((ju_i _ _ (zne (by decide))).trans e1)
    exact jr.vreturn rfl rfl (q _ hC_M30 ht_M30  (LC.fr (LC.n (LC.le p2 (by omega)) (show kd 421 = 22 from rfl) (by decide)) hf_M30 rfl) (by have hq0 : M30 421 4 = v31 := e31; have hq1 : M30 421 7 = v1 := e32; omega))
noncomputable def W_c_Machine_judge : List (Nat × Nat) := [(14, 0), (14, 1), (14, 2), (22, 3), (22, 4), (22, 5), (22, 7), (22, 9), (22, 11), (22, 12), (22, 13), (22, 14), (22, 15), (22, 16), (22, 17), (22, 18), (22, 19), (24, 1000), (26, 1000), (27, 5), (27, 6), (28, 1000), (29, 1000), (30, 1000), (31, 1000), (32, 1000), (33, 2), (52, 0), (52, 1), (53, 1000), (54, 1000)]
theorem c_Machine_judge_L67 {A : Nat → Option (Nat × (Nat → Int32))} {Q : Option Value → jm → Prop} {L : Int} {T : jm} {x : Nat} (k_x : kd x = 18) (q : ∀ (r : Int) (M' : jm), CI M' → FR W_c_Machine_judge T M' → (-2147483648) ≤ r ∧ r ≤ 2147483647 → (LC M' (L + 1000000)) → (0 ≤ M' 421 4 ∧ M' 421 4 ≤ 0) → Q (some (.int (Int32.ofInt r))) M') : ∀ (nM : Nat) (M : jm) (i : Int), CI M → FR W_c_Machine_judge T M → 0 ≤ i ∧ i ≤ 1000000 → (0 ≤ M 421 4 ∧ M 421 4 ≤ 0) → (LC M (L + i)) → (PC M ) → (L + 1000000 ≤ 2000000000) → 1000000 - i ≤ nM → jr A 6 xm_140 67 [(5, .int (Int32.ofInt (i))), (0, .ref (421)), (1, .ref (x))] [] M Q := by
  intro nM
  induction nM using Nat.strongRecOn with
  | ind nM ih =>
    intro M i hC_M ht_M h_i hy0 hy1 hy2 hy3 hm
    obtain ⟨v1, e1⟩ : ∃ z_, M 421 4 = z_ := ⟨_, rfl⟩
    have b1 : 0 ≤ v1 ∧ v1 ≤ 1 := by rw [← e1]; exact (CI.r hC_M (show kd 421 = 22 from rfl) (by decide) 4)
    have b2 : 0 ≤ v1 ∧ v1 ≤ 0 := by rw [← e1]; exact hy0
    refine jr.iload rfl rfl ?_
    refine jr.ldc (x := 1000000) rfl rfl (by decide) ?_
    refine jr.icmp_ge rfl rfl (by first | (refine rgb (by assumption) ?_; exact rfl) | omega) (by first | (refine rgb (by assumption) ?_; exact rfl) | omega) (fun h71 => ?_) (fun h71 => ?_)
    · refine jr.aload_n rfl rfl ?_
      obtain ⟨v3, e3⟩ : ∃ z_, M 421 12 = z_ := ⟨_, rfl⟩
      have b3 : 0 ≤ v3 ∧ v3 ≤ 597 := by rw [← e3]; exact (CI.r hC_M (show kd 421 = 22 from rfl) (by decide) 12)
      have k4 : kd (v3).toNat = 18 := ((congrArg (fun z : Int => kd z.toNat) (show M 421 12 = v3 from e3)).symm.trans (CI.x hC_M (show kd 421 = 22 from rfl) 12 rfl (by decide)))
      refine jr.getf (i := 12) (x := v3) (v := .ref (v3.toNat)) rfl rfl (nlt rfl) rfl (nlt rfl) rfl rfl e3 rfl ?_
      obtain ⟨v5, e5⟩ : ∃ z_, M ((v3.toNat)) 7 = z_ := ⟨_, rfl⟩
      have b5 : 0 ≤ v5 ∧ v5 ≤ 597 := by rw [← e5]; exact (CI.r hC_M k4 (by decide) 7)
      have k6 : kd (v5).toNat = 33 := ((congrArg (fun z : Int => kd z.toNat) (show M ((v3.toNat)) 7 = v5 from e5)).symm.trans (CI.x hC_M k4 7 rfl (by decide)))
      refine jr.getf (i := 7) (x := v5) (v := .ref (v5.toNat)) rfl rfl (Nat.lt_trans (kx_18 k4).1 (by decide)) (kx_18 k4).2 (by decide) rfl rfl e5 (jval_mut rfl (kn_18_7 k4)) ?_
      refine jr.aload_n rfl rfl ?_
      refine jr.getf (i := 1) (v := .ref 423) rfl rfl (nlt rfl) rfl (nlt rfl) rfl rfl rfl rfl ?_
      obtain ⟨v7, e7⟩ : ∃ z_, M 423 6 = z_ := ⟨_, rfl⟩
      have b7 : (-9223372036854775808) ≤ v7 ∧ v7 ≤ 9223372036854775807 := by rw [← e7]; exact (CI.r hC_M (show kd 423 = 27 from rfl) (by decide) 6)
      refine jr.getf (i := 6) (x := v7) (v := .long (Int64.ofInt (v7))) rfl rfl (nlt rfl) rfl (nlt rfl) rfl rfl e7 rfl ?_
      refine jr.putf (i := 2) (x := v7) rfl rfl (Nat.lt_trans (kx_33 k6).1 (by decide)) (kx_33 k6).2 (by decide) rfl rfl rfl rfl rfl ?_
      refine jr.aload_n rfl rfl ?_
      obtain ⟨v8, e8⟩ : ∃ z_, M 421 18 = z_ := ⟨_, rfl⟩
      have b8 : (-2147483648) ≤ v8 ∧ v8 ≤ 2147483647 := by rw [← e8]; exact (CI.r hC_M (show kd 421 = 22 from rfl) (by decide) 18)
      refine jr.getf (i := 18) (x := v8) (v := .int (Int32.ofInt (v8))) rfl rfl (nlt rfl) rfl (nlt rfl) rfl rfl ((ju_i _ _ (zne (by decide))).trans e8) rfl ?_
      refine jr.iconst rfl ?_
      refine jr.icmp_ne rfl rfl (by first | (refine rgb (by assumption) ?_; exact rfl) | omega) (rgl rfl) (fun h124 => ?_) (fun h124 => ?_)
      · refine jr.aload_n rfl rfl ?_
        refine jr_v rfl rfl (Or.inl rfl) rfl rfl (nlt rfl) rfl ⟨rfl, Nat.le_of_ble_eq_true rfl, Nat.le_of_ble_eq_true rfl⟩ rfl (jc.deep (c_Machine_clearFailure (CI.u hC_M (i := 2) k6 (show (-9223372036854775808 : Int) ≤ _ ∧ _ ≤ (9223372036854775807 : Int) from by omega) rfl) (FR.rfl _ ((ju M ((v5.toNat)) 2 v7)))  (fun M9 hC_M9 hf_M9  => ?_)) (Nat.le_of_ble_eq_true rfl))
        have ht_M9 : FR W_c_Machine_judge T M9 := FR.t (FR.o ht_M k6 rfl) hf_M9 (kw_sub rfl)
        refine jr.aload_n rfl rfl ?_
        have e10 : M9 421 18 = v8 := (hf_M9.g (show kd 421 = 22 from rfl) rfl).trans ((ju_i _ _ (zne (by decide))).trans e8)
        refine jr.getf (i := 18) (x := v8) (v := .int (Int32.ofInt (v8))) rfl rfl (nlt rfl) rfl (nlt rfl) rfl rfl e10 rfl ?_
        refine jr.iconst rfl ?_
        refine jr.icmp_ne rfl rfl (by first | (refine rgb (by assumption) ?_; exact rfl) | omega) (rgl rfl) (fun h146 => ?_) (fun h146 => ?_)
        · refine jr.aload_n rfl rfl ?_
          refine jr.getf (i := 18) (x := v8) (v := .int (Int32.ofInt (v8))) rfl rfl (nlt rfl) rfl (nlt rfl) rfl rfl e10 rfl ?_
          have e11 : M9 421 4 = v1 := (hf_M9.g (show kd 421 = 22 from rfl) rfl).trans ((ju_i _ _ (zne (by decide))).trans e1)
          exact jr.ireturn rfl rfl rfl (q _ _ hC_M9 ht_M9 (by omega) (LC.fr (LC.n (LC.le hy1 (by omega)) k6 (by decide)) hf_M9 rfl) (by have hq0 : M9 421 4 = v1 := e11; omega))
        · refine jr.iconst rfl ?_
          refine jr.goto rfl rfl ?_
          have e12 : M9 421 4 = v1 := (hf_M9.g (show kd 421 = 22 from rfl) rfl).trans ((ju_i _ _ (zne (by decide))).trans e1)
          exact jr.ireturn rfl rfl rfl (q _ _ hC_M9 ht_M9 (by omega) (LC.fr (LC.n (LC.le hy1 (by omega)) k6 (by decide)) hf_M9 rfl) (by have hq0 : M9 421 4 = v1 := e12; omega))
      · refine jr.bipush rfl (by decide) ?_
        refine jr.aload_n rfl rfl ?_
        refine jr.getf (i := 10) (v := .ref 436) rfl rfl (nlt rfl) rfl (nlt rfl) rfl rfl rfl rfl ?_
        refine jr.iconst rfl ?_
        obtain ⟨v13, e13⟩ : ∃ z_, M 436 0 = z_ := ⟨_, rfl⟩
        have b13 : (-2147483648) ≤ v13 ∧ v13 ≤ 2147483647 := by rw [← e13]; exact (CI.r hC_M (show kd 436 = 24 from rfl) (by decide) 0)
        refine jr.iald (i := 0) (x := v13) rfl (nlt rfl) rfl (Nat.le_of_ble_eq_true rfl) (by omega) (by omega) ((ju_i _ _ (zne (by decide))).trans e13) ?_
        refine jr.isub rfl ?_
        refine jr.iw (j_w ((-10) - v13)) (j_w_eq _) ?_
        have b14 : -2147483648 ≤ j_w ((-10) - v13) ∧ j_w ((-10) - v13) ≤ 2147483647 := jb_any _
        generalize j_w ((-10) - v13) = v14 at b14 ⊢
        exact jr.ireturn rfl rfl rfl (q _ _ (CI.u hC_M (i := 2) k6 (show (-9223372036854775808 : Int) ≤ _ ∧ _ ≤ (9223372036854775807 : Int) from by omega) rfl) (FR.o ht_M k6 rfl) (by omega) (LC.n (LC.le hy1 (by omega)) k6 (by decide)) (by have hq0 : (ju M ((v5.toNat)) 2 v7) 421 4 = v1 := ((ju_i _ _ (zne (by decide))).trans e1); omega))
    · refine jr.aload_n rfl rfl ?_
      obtain ⟨v15, e15⟩ : ∃ z_, M 421 7 = z_ := ⟨_, rfl⟩
      have b15 : 0 ≤ v15 ∧ v15 ≤ 8 := by rw [← e15]; exact (CI.r hC_M (show kd 421 = 22 from rfl) (by decide) 7)
      refine jr.getf (i := 7) (x := v15) (v := .int (Int32.ofInt (v15))) rfl rfl (nlt rfl) rfl (nlt rfl) rfl rfl e15 rfl ?_
      refine jr.if_le rfl rfl (by first | (refine rgb (by assumption) ?_; exact rfl) | omega) (fun h78 => ?_) (fun h78 => ?_)
      · refine jr.aload_n rfl rfl ?_
        obtain ⟨v16, e16⟩ : ∃ z_, M 421 12 = z_ := ⟨_, rfl⟩
        have b16 : 0 ≤ v16 ∧ v16 ≤ 597 := by rw [← e16]; exact (CI.r hC_M (show kd 421 = 22 from rfl) (by decide) 12)
        have k17 : kd (v16).toNat = 18 := ((congrArg (fun z : Int => kd z.toNat) (show M 421 12 = v16 from e16)).symm.trans (CI.x hC_M (show kd 421 = 22 from rfl) 12 rfl (by decide)))
        refine jr.getf (i := 12) (x := v16) (v := .ref (v16.toNat)) rfl rfl (nlt rfl) rfl (nlt rfl) rfl rfl e16 rfl ?_
        obtain ⟨v18, e18⟩ : ∃ z_, M ((v16.toNat)) 7 = z_ := ⟨_, rfl⟩
        have b18 : 0 ≤ v18 ∧ v18 ≤ 597 := by rw [← e18]; exact (CI.r hC_M k17 (by decide) 7)
        have k19 : kd (v18).toNat = 33 := ((congrArg (fun z : Int => kd z.toNat) (show M ((v16.toNat)) 7 = v18 from e18)).symm.trans (CI.x hC_M k17 7 rfl (by decide)))
        refine jr.getf (i := 7) (x := v18) (v := .ref (v18.toNat)) rfl rfl (Nat.lt_trans (kx_18 k17).1 (by decide)) (kx_18 k17).2 (by decide) rfl rfl e18 (jval_mut rfl (kn_18_7 k17)) ?_
        refine jr.aload_n rfl rfl ?_
        refine jr.getf (i := 1) (v := .ref 423) rfl rfl (nlt rfl) rfl (nlt rfl) rfl rfl rfl rfl ?_
        obtain ⟨v20, e20⟩ : ∃ z_, M 423 6 = z_ := ⟨_, rfl⟩
        have b20 : (-9223372036854775808) ≤ v20 ∧ v20 ≤ 9223372036854775807 := by rw [← e20]; exact (CI.r hC_M (show kd 423 = 27 from rfl) (by decide) 6)
        refine jr.getf (i := 6) (x := v20) (v := .long (Int64.ofInt (v20))) rfl rfl (nlt rfl) rfl (nlt rfl) rfl rfl e20 rfl ?_
        refine jr.putf (i := 2) (x := v20) rfl rfl (Nat.lt_trans (kx_33 k19).1 (by decide)) (kx_33 k19).2 (by decide) rfl rfl rfl rfl rfl ?_
        refine jr.aload_n rfl rfl ?_
        obtain ⟨v21, e21⟩ : ∃ z_, M 421 18 = z_ := ⟨_, rfl⟩
        have b21 : (-2147483648) ≤ v21 ∧ v21 ≤ 2147483647 := by rw [← e21]; exact (CI.r hC_M (show kd 421 = 22 from rfl) (by decide) 18)
        refine jr.getf (i := 18) (x := v21) (v := .int (Int32.ofInt (v21))) rfl rfl (nlt rfl) rfl (nlt rfl) rfl rfl ((ju_i _ _ (zne (by decide))).trans e21) rfl ?_
        refine jr.iconst rfl ?_
        refine jr.icmp_ne rfl rfl (by first | (refine rgb (by assumption) ?_; exact rfl) | omega) (rgl rfl) (fun h124 => ?_) (fun h124 => ?_)
        · refine jr.aload_n rfl rfl ?_
          refine jr_v rfl rfl (Or.inl rfl) rfl rfl (nlt rfl) rfl ⟨rfl, Nat.le_of_ble_eq_true rfl, Nat.le_of_ble_eq_true rfl⟩ rfl (jc.deep (c_Machine_clearFailure (CI.u hC_M (i := 2) k19 (show (-9223372036854775808 : Int) ≤ _ ∧ _ ≤ (9223372036854775807 : Int) from by omega) rfl) (FR.rfl _ ((ju M ((v18.toNat)) 2 v20)))  (fun M22 hC_M22 hf_M22  => ?_)) (Nat.le_of_ble_eq_true rfl))
          have ht_M22 : FR W_c_Machine_judge T M22 := FR.t (FR.o ht_M k19 rfl) hf_M22 (kw_sub rfl)
          refine jr.aload_n rfl rfl ?_
          have e23 : M22 421 18 = v21 := (hf_M22.g (show kd 421 = 22 from rfl) rfl).trans ((ju_i _ _ (zne (by decide))).trans e21)
          refine jr.getf (i := 18) (x := v21) (v := .int (Int32.ofInt (v21))) rfl rfl (nlt rfl) rfl (nlt rfl) rfl rfl e23 rfl ?_
          refine jr.iconst rfl ?_
          refine jr.icmp_ne rfl rfl (by first | (refine rgb (by assumption) ?_; exact rfl) | omega) (rgl rfl) (fun h146 => ?_) (fun h146 => ?_)
          · refine jr.aload_n rfl rfl ?_
            refine jr.getf (i := 18) (x := v21) (v := .int (Int32.ofInt (v21))) rfl rfl (nlt rfl) rfl (nlt rfl) rfl rfl e23 rfl ?_
            have e24 : M22 421 4 = v1 := (hf_M22.g (show kd 421 = 22 from rfl) rfl).trans ((ju_i _ _ (zne (by decide))).trans e1)
            exact jr.ireturn rfl rfl rfl (q _ _ hC_M22 ht_M22 (by omega) (LC.fr (LC.n (LC.le hy1 (by omega)) k19 (by decide)) hf_M22 rfl) (by have hq0 : M22 421 4 = v1 := e24; omega))
          · refine jr.iconst rfl ?_
            refine jr.goto rfl rfl ?_
            have e25 : M22 421 4 = v1 := (hf_M22.g (show kd 421 = 22 from rfl) rfl).trans ((ju_i _ _ (zne (by decide))).trans e1)
            exact jr.ireturn rfl rfl rfl (q _ _ hC_M22 ht_M22 (by omega) (LC.fr (LC.n (LC.le hy1 (by omega)) k19 (by decide)) hf_M22 rfl) (by have hq0 : M22 421 4 = v1 := e25; omega))
        · refine jr.bipush rfl (by decide) ?_
          refine jr.aload_n rfl rfl ?_
          refine jr.getf (i := 10) (v := .ref 436) rfl rfl (nlt rfl) rfl (nlt rfl) rfl rfl rfl rfl ?_
          refine jr.iconst rfl ?_
          obtain ⟨v26, e26⟩ : ∃ z_, M 436 0 = z_ := ⟨_, rfl⟩
          have b26 : (-2147483648) ≤ v26 ∧ v26 ≤ 2147483647 := by rw [← e26]; exact (CI.r hC_M (show kd 436 = 24 from rfl) (by decide) 0)
          refine jr.iald (i := 0) (x := v26) rfl (nlt rfl) rfl (Nat.le_of_ble_eq_true rfl) (by omega) (by omega) ((ju_i _ _ (zne (by decide))).trans e26) ?_
          refine jr.isub rfl ?_
          refine jr.iw (j_w ((-10) - v26)) (j_w_eq _) ?_
          have b27 : -2147483648 ≤ j_w ((-10) - v26) ∧ j_w ((-10) - v26) ≤ 2147483647 := jb_any _
          generalize j_w ((-10) - v26) = v27 at b27 ⊢
          exact jr.ireturn rfl rfl rfl (q _ _ (CI.u hC_M (i := 2) k19 (show (-9223372036854775808 : Int) ≤ _ ∧ _ ≤ (9223372036854775807 : Int) from by omega) rfl) (FR.o ht_M k19 rfl) (by omega) (LC.n (LC.le hy1 (by omega)) k19 (by decide)) (by have hq0 : (ju M ((v18.toNat)) 2 v20) 421 4 = v1 := ((ju_i _ _ (zne (by decide))).trans e1); omega))
      · refine jr.aload_n rfl rfl ?_
        refine jr_v rfl rfl (Or.inl rfl) rfl rfl (nlt rfl) rfl ⟨rfl, Nat.le_of_ble_eq_true rfl, Nat.le_of_ble_eq_true rfl⟩ rfl (jc.deep (c_Machine_perform hC_M (FR.rfl _ M)  (by have hq0 : M 421 7 = v15 := e15; omega) (by have hq0 : M 421 4 = v1 := e1; omega) hy1 (by omega) hy2 (fun M28 hC_M28 hf_M28 w28_0 w28_1 => ?_)) (Nat.le_of_ble_eq_true rfl))
        have ht_M28 : FR W_c_Machine_judge T M28 := FR.t ht_M hf_M28 (kw_sub rfl)
        obtain ⟨v29, e29⟩ : ∃ z_, M28 421 4 = z_ := ⟨_, rfl⟩
        have b29 : 0 ≤ v29 ∧ v29 ≤ 1 := by rw [← e29]; exact (CI.r hC_M28 (show kd 421 = 22 from rfl) (by decide) 4)
        obtain ⟨v30, e30⟩ : ∃ z_, M28 421 7 = z_ := ⟨_, rfl⟩
        have b30 : 0 ≤ v30 ∧ v30 ≤ 8 := by rw [← e30]; exact (CI.r hC_M28 (show kd 421 = 22 from rfl) (by decide) 7)
        refine jr.aload_n rfl rfl ?_
        refine jr.getf (i := 4) (x := v29) (v := .int (Int32.ofInt (v29))) rfl rfl (nlt rfl) rfl (nlt rfl) rfl rfl e29 rfl ?_
        refine jr.if_eq rfl rfl (by first | (refine rgb (by assumption) ?_; exact rfl) | omega) (fun h89 => ?_) (fun h89 => ?_)
        · refine jr.iinc (ls' := [_, _, _]) rfl rfl (nlt rfl) rfl ?_
          refine jr.goto rfl rfl ?_
          refine jr.pick (ls := [_, _, _]) [0, 1, 2] rfl rfl ?_
          exact ih (nM - 1) (by omega) M28 (i + 1) hC_M28 ht_M28 (by omega) (by have hq0 : M28 421 4 = v29 := e29; omega) (LC.le w28_0 (by omega)) (PC.fr hy2 hC_M hf_M28 rfl) (by omega) (by omega)
        · have sx89 : (1 : Int) ≤ v29 := by omega
          clear h89
          refine jr.aload_n rfl rfl ?_
          refine jr_v rfl rfl (Or.inl rfl) rfl rfl (nlt rfl) rfl ⟨rfl, Nat.le_of_ble_eq_true rfl, Nat.le_of_ble_eq_true rfl⟩ rfl (jc.deep (c_Machine_unwind hC_M28 (FR.rfl _ M28)  (by have hq0 : M28 421 7 = v30 := e30; omega) w28_0 (fun M31 hC_M31 hf_M31 w31_0 w31_1 => ?_)) (Nat.le_of_ble_eq_true rfl))
          have ht_M31 : FR W_c_Machine_judge T M31 := FR.t ht_M28 hf_M31 (kw_sub rfl)
          obtain ⟨v32, e32⟩ : ∃ z_, M31 421 4 = z_ := ⟨_, rfl⟩
          have b32 : 0 ≤ v32 ∧ v32 ≤ 1 := by rw [← e32]; exact (CI.r hC_M31 (show kd 421 = 22 from rfl) (by decide) 4)
          have b33 : 0 ≤ v32 ∧ v32 ≤ 0 := by rw [← e32]; exact w31_1
          refine jr.iinc (ls' := [_, _, _]) rfl rfl (nlt rfl) rfl ?_
          refine jr.goto rfl rfl ?_
          refine jr.pick (ls := [_, _, _]) [0, 1, 2] rfl rfl ?_
          exact ih (nM - 1) (by omega) M31 (i + 1) hC_M31 ht_M31 (by omega) (by have hq0 : M31 421 4 = v32 := e32; omega) (LC.le w31_0 (by omega)) (PC.fr (PC.fr hy2 hC_M hf_M28 rfl) hC_M28 hf_M31 rfl) (by omega) (by omega)
theorem c_Machine_judge {A : Nat → Option (Nat × (Nat → Int32))} {Q : Option Value → jm → Prop} {L : Int} {T : jm} {M : jm} (hC_M : CI M) (ht_M : FR W_c_Machine_judge T M) {x : Nat} (k_x : kd x = 18) {y : Int} (h_y : (-2147483648) ≤ y ∧ y ≤ 2147483647) {z : Int} (h_z : (-2147483648) ≤ z ∧ z ≤ 2147483647) {u : Int} (h_u : (-2147483648) ≤ u ∧ u ≤ 2147483647) (p0 : 0 ≤ M 421 4 ∧ M 421 4 ≤ 0) (p1 : LC M L) (p2 : L + 1000000 ≤ 2000000000) (p3 : PC M ) (q : ∀ (r : Int) (M' : jm), CI M' → FR W_c_Machine_judge T M' → (-2147483648) ≤ r ∧ r ≤ 2147483647 → (LC M' (L + 1000000)) → (0 ≤ M' 421 4 ∧ M' 421 4 ≤ 0) → Q (some (.int (Int32.ofInt r))) M') : jc A 7 140 [.ref (421), .ref (x), .int (Int32.ofInt (y)), .int (Int32.ofInt (z)), .int (Int32.ofInt (u))] M Q := by
  refine jc_of (m := xm_140) rfl (Nat.le_of_ble_eq_true rfl) rfl ?_
  obtain ⟨v1, e1⟩ : ∃ z_, M 421 4 = z_ := ⟨_, rfl⟩
  have b1 : 0 ≤ v1 ∧ v1 ≤ 1 := by rw [← e1]; exact (CI.r hC_M (show kd 421 = 22 from rfl) (by decide) 4)
  have b2 : 0 ≤ v1 ∧ v1 ≤ 0 := by rw [← e1]; exact p0
  refine jr.aload_n rfl rfl ?_
  refine jr.aload_n rfl rfl ?_
  refine jr.putf (i := 12) (x := (((x : Nat) : Int))) rfl rfl (nlt rfl) rfl (nlt rfl) rfl rfl rfl rfl rfl ?_
  refine jr.aload_n rfl rfl ?_
  refine jr.iload_n rfl rfl ?_
  refine jr.putf (i := 13) (x := y) rfl rfl (nlt rfl) rfl (nlt rfl) rfl rfl rfl rfl rfl ?_
  refine jr.aload_n rfl rfl ?_
  refine jr.iload_n rfl rfl ?_
  refine jr.putf (i := 14) (x := z) rfl rfl (nlt rfl) rfl (nlt rfl) rfl rfl rfl rfl rfl ?_
  refine jr.aload_n rfl rfl ?_
  refine jr.iload rfl rfl ?_
  refine jr.putf (i := 15) (x := u) rfl rfl (nlt rfl) rfl (nlt rfl) rfl rfl rfl rfl rfl ?_
  refine jr.aload_n rfl rfl ?_
  refine jr_v rfl rfl (Or.inl rfl) rfl rfl (nlt rfl) rfl ⟨rfl, Nat.le_of_ble_eq_true rfl, Nat.le_of_ble_eq_true rfl⟩ rfl (jc.deep (c_Machine_clearReport (CI.u (CI.u (CI.u (CI.w (v := ((x : Nat) : Int)) hC_M (i := 12) (show kd 421 = 22 from rfl) (show (0 : Int) ≤ _ ∧ _ ≤ (597 : Int) from by have hk := kd_lt (a := (((x : Nat) : Int)).toNat) (by rw [(show kd (((x : Nat) : Int)).toNat = 18 from k_x)]; decide); omega) (show kd (((x : Nat) : Int)).toNat = 18 from k_x)) (i := 13) (show kd 421 = 22 from rfl) (show (-2147483648 : Int) ≤ _ ∧ _ ≤ (2147483647 : Int) from by omega) rfl) (i := 14) (show kd 421 = 22 from rfl) (show (-2147483648 : Int) ≤ _ ∧ _ ≤ (2147483647 : Int) from by omega) rfl) (i := 15) (show kd 421 = 22 from rfl) (show (-2147483648 : Int) ≤ _ ∧ _ ≤ (2147483647 : Int) from by omega) rfl) (FR.rfl _ ((ju (ju (ju (ju M 421 12 (((x : Nat) : Int))) 421 13 y) 421 14 z) 421 15 u)))  (fun M3 hC_M3 hf_M3  => ?_)) (Nat.le_of_ble_eq_true rfl))
  have ht_M3 : FR W_c_Machine_judge T M3 := FR.t (FR.o (FR.o (FR.o (FR.o ht_M (show kd 421 = 22 from rfl) rfl) (show kd 421 = 22 from rfl) rfl) (show kd 421 = 22 from rfl) rfl) (show kd 421 = 22 from rfl) rfl) hf_M3 (kw_sub rfl)
  refine jr.aload_n rfl rfl ?_
  refine jr.getf (i := 1) (v := .ref 423) rfl rfl (nlt rfl) rfl (nlt rfl) rfl rfl rfl rfl ?_
  refine jr.aload_n rfl rfl ?_
  have e4 : M3 421 12 = ((x : Nat) : Int) := (hf_M3.g (show kd 421 = 22 from rfl) rfl).trans ((ju_i _ _ (zne (by decide))).trans ((ju_i _ _ (zne (by decide))).trans ((ju_i _ _ (zne (by decide))).trans (ju_same _ _ _ _))))
  have k5 : kd (((x : Nat) : Int)).toNat = 18 := ((congrArg (fun z : Int => kd z.toNat) (show M3 421 12 = ((x : Nat) : Int) from e4)).symm.trans (CI.x hC_M3 (show kd 421 = 22 from rfl) 12 rfl (by decide)))
  refine jr.getf (i := 12) (x := (((x : Nat) : Int))) (v := .ref ((((x : Nat) : Int)).toNat)) rfl rfl (nlt rfl) rfl (nlt rfl) rfl rfl e4 rfl ?_
  obtain ⟨v6, e6⟩ : ∃ z_, M (((((x : Nat) : Int)).toNat)) 7 = z_ := ⟨_, rfl⟩
  have b6 : 0 ≤ v6 ∧ v6 ≤ 597 := by rw [← e6]; exact (CI.r hC_M k5 (by decide) 7)
  have e7 : M3 (((((x : Nat) : Int)).toNat)) 7 = v6 := (hf_M3.g k5 rfl).trans ((ju_i _ _ (zne (by decide))).trans ((ju_i _ _ (zne (by decide))).trans ((ju_i _ _ (zne (by decide))).trans ((ju_i _ _ (zne (by decide))).trans e6))))
  have k8 : kd (v6).toNat = 33 := ((congrArg (fun z : Int => kd z.toNat) (show M3 (((((x : Nat) : Int)).toNat)) 7 = v6 from e7)).symm.trans (CI.x hC_M3 k5 7 rfl (by decide)))
  refine jr.getf (i := 7) (x := v6) (v := .ref (v6.toNat)) rfl rfl (Nat.lt_trans (kx_18 k5).1 (by decide)) (kx_18 k5).2 (by decide) rfl rfl e7 (jval_mut rfl (kn_18_7 k5)) ?_
  obtain ⟨v9, e9⟩ : ∃ z_, M ((v6.toNat)) 2 = z_ := ⟨_, rfl⟩
  have b9 : (-9223372036854775808) ≤ v9 ∧ v9 ≤ 9223372036854775807 := by rw [← e9]; exact (CI.r hC_M k8 (by decide) 2)
  have e10 : M3 ((v6.toNat)) 2 = v9 := (hf_M3.g k8 rfl).trans ((ju_i _ _ (zne (by decide))).trans ((ju_i _ _ (zne (by decide))).trans ((ju_i _ _ (zne (by decide))).trans ((ju_i _ _ (zne (by decide))).trans e9))))
  refine jr.getf (i := 2) (x := v9) (v := .long (Int64.ofInt (v9))) rfl rfl (Nat.lt_trans (kx_33 k8).1 (by decide)) (kx_33 k8).2 (by decide) rfl rfl e10 rfl ?_
  refine jr.putf (i := 6) (x := v9) rfl rfl (nlt rfl) rfl (nlt rfl) rfl rfl rfl rfl rfl ?_
  refine jr.aload_n rfl rfl ?_
  refine jr.iconst rfl ?_
  refine jr.putf (i := 7) (x := 0) rfl rfl (nlt rfl) rfl (nlt rfl) rfl rfl rfl rfl rfl ?_
  refine jr.aload_n rfl rfl ?_
  refine jr.iconst rfl ?_
  refine jr.putf (i := 9) (x := 0) rfl rfl (nlt rfl) rfl (nlt rfl) rfl rfl rfl rfl rfl ?_
  refine jr.aload_n rfl rfl ?_
  refine jr.iconst rfl ?_
  refine jr.putf (i := 19) (x := 0) rfl rfl (nlt rfl) rfl (nlt rfl) rfl rfl rfl rfl rfl ?_
  refine jr.aload_n rfl rfl ?_
  refine jr.iconst rfl ?_
  refine jr.iconst rfl ?_
  have e12 : M3 421 4 = v1 := (hf_M3.g (show kd 421 = 22 from rfl) rfl).trans ((ju_i _ _ (zne (by decide))).trans ((ju_i _ _ (zne (by decide))).trans ((ju_i _ _ (zne (by decide))).trans ((ju_i _ _ (zne (by decide))).trans e1))))
  refine jr_v rfl rfl (Or.inl rfl) rfl rfl (nlt rfl) rfl ⟨rfl, Nat.le_of_ble_eq_true rfl, Nat.le_of_ble_eq_true rfl⟩ rfl (jc.deep (c_Machine_enter (CI.u (CI.u (CI.u (CI.u hC_M3 (i := 6) (show kd 423 = 27 from rfl) (show (-9223372036854775808 : Int) ≤ _ ∧ _ ≤ (9223372036854775807 : Int) from by omega) rfl) (i := 7) (show kd 421 = 22 from rfl) (show (0 : Int) ≤ _ ∧ _ ≤ (8 : Int) from by omega) rfl) (i := 9) (show kd 421 = 22 from rfl) (show (0 : Int) ≤ _ ∧ _ ≤ (320 : Int) from by omega) rfl) (i := 19) (show kd 421 = 22 from rfl) (show (-2147483648 : Int) ≤ _ ∧ _ ≤ (2147483647 : Int) from by omega) rfl) (FR.rfl _ ((ju (ju (ju (ju M3 423 6 v9) 421 7 0) 421 9 0) 421 19 0))) (by omega) (by omega) ((ju_i _ _ (zne (by decide))).trans ((ju_i _ _ (zne (by decide))).trans ((ju_i _ _ (zne (by decide))).trans ((ju_c _ _ (by decide)).trans e12)))) ((ju_i _ _ (zne (by decide))).trans ((ju_i _ _ (zne (by decide))).trans (ju_same _ _ _ _))) (LC.n (LC.n (LC.n (LC.m (LC.fr (LC.n (LC.n (LC.n (LC.n p1 (show kd 421 = 22 from rfl) (by decide)) (show kd 421 = 22 from rfl) (by decide)) (show kd 421 = 22 from rfl) (by decide)) (show kd 421 = 22 from rfl) (by decide)) hf_M3 rfl) (by decide)) (show kd 421 = 22 from rfl) (by decide)) (show kd 421 = 22 from rfl) (by decide)) (show kd 421 = 22 from rfl) (by decide)) (fun r11 M11 hC_M11 hf_M11 z11 w11_0 w11_1 => ?_)) (Nat.le_of_ble_eq_true rfl))
  have ht_M11 : FR W_c_Machine_judge T M11 := FR.t (FR.o (FR.o (FR.o (FR.o ht_M3 (show kd 423 = 27 from rfl) rfl) (show kd 421 = 22 from rfl) rfl) (show kd 421 = 22 from rfl) rfl) (show kd 421 = 22 from rfl) rfl) hf_M11 (kw_sub rfl)
  obtain ⟨v13, e13⟩ : ∃ z_, M11 421 7 = z_ := ⟨_, rfl⟩
  have b13 : 0 ≤ v13 ∧ v13 ≤ 8 := by rw [← e13]; exact (CI.r hC_M11 (show kd 421 = 22 from rfl) (by decide) 7)
  obtain ⟨v14, e14⟩ : ∃ z_, M11 421 4 = z_ := ⟨_, rfl⟩
  have b14 : 0 ≤ v14 ∧ v14 ≤ 1 := by rw [← e14]; exact (CI.r hC_M11 (show kd 421 = 22 from rfl) (by decide) 4)
  refine jr.pop rfl rfl ?_
  refine jr.iconst rfl ?_
  refine jr.istore (ls' := [_, _, _, _, _, _]) rfl (nlt rfl) rfl ?_
  refine jr.pick (ls := [_, _, _]) [0, 1, 2] rfl rfl ?_
  exact c_Machine_judge_L67 k_x q 1000000 M11 0 hC_M11 ht_M11 (by omega) (by have hq0 : M11 421 4 = v14 := e14; omega) (LC.le w11_0 (by omega)) (PC.fr (PC.fr (PC.fr (PC.fr p3 hC_M (FR.o (FR.o (FR.o (FR.o (FR.rfl [(22, 12), (22, 13), (22, 14), (22, 15)] M) (show kd 421 = 22 from rfl) rfl) (show kd 421 = 22 from rfl) rfl) (show kd 421 = 22 from rfl) rfl) (show kd 421 = 22 from rfl) rfl) rfl) (CI.u (CI.u (CI.u (CI.w (v := ((x : Nat) : Int)) hC_M (i := 12) (show kd 421 = 22 from rfl) (show (0 : Int) ≤ _ ∧ _ ≤ (597 : Int) from by have hk := kd_lt (a := (((x : Nat) : Int)).toNat) (by rw [(show kd (((x : Nat) : Int)).toNat = 18 from k_x)]; decide); omega) (show kd (((x : Nat) : Int)).toNat = 18 from k_x)) (i := 13) (show kd 421 = 22 from rfl) (show (-2147483648 : Int) ≤ _ ∧ _ ≤ (2147483647 : Int) from by omega) rfl) (i := 14) (show kd 421 = 22 from rfl) (show (-2147483648 : Int) ≤ _ ∧ _ ≤ (2147483647 : Int) from by omega) rfl) (i := 15) (show kd 421 = 22 from rfl) (show (-2147483648 : Int) ≤ _ ∧ _ ≤ (2147483647 : Int) from by omega) rfl) hf_M3 rfl) hC_M3 (FR.o (FR.o (FR.o (FR.o (FR.rfl [(22, 7), (22, 9), (22, 19), (27, 6)] M3) (show kd 423 = 27 from rfl) rfl) (show kd 421 = 22 from rfl) rfl) (show kd 421 = 22 from rfl) rfl) (show kd 421 = 22 from rfl) rfl) rfl) (CI.u (CI.u (CI.u (CI.u hC_M3 (i := 6) (show kd 423 = 27 from rfl) (show (-9223372036854775808 : Int) ≤ _ ∧ _ ≤ (9223372036854775807 : Int) from by omega) rfl) (i := 7) (show kd 421 = 22 from rfl) (show (0 : Int) ≤ _ ∧ _ ≤ (8 : Int) from by omega) rfl) (i := 9) (show kd 421 = 22 from rfl) (show (0 : Int) ≤ _ ∧ _ ≤ (320 : Int) from by omega) rfl) (i := 19) (show kd 421 = 22 from rfl) (show (-2147483648 : Int) ≤ _ ∧ _ ≤ (2147483647 : Int) from by omega) rfl) hf_M11 rfl) (by omega) (by omega)
