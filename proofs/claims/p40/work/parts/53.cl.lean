section
/-! ===== the class's methods ===== -/
noncomputable def W_c_Parser_begin : List (Nat × Nat) := [(44, 0), (44, 1), (44, 3), (44, 4), (44, 6), (44, 7), (44, 8), (44, 9), (44, 10), (44, 11), (47, 2), (47, 3), (47, 4)]
theorem c_Parser_begin {A : Nat → Option (Nat × (Nat → Int32))} [HA A] {Q : Option Value → jm → Prop} {G : Nat → Int → Int} {T : jm} {M : jm} (hC_M : CI M) (ht_M : FR W_c_Parser_begin T M) {y : Int} (h_y : 0 ≤ y ∧ y ≤ 1600) (p0 : MP M G) (q : ∀ (M' : jm), CI M' → FR W_c_Parser_begin T M' → (MP M' G) → (1 ≤ M' 413 3 ∧ M' 413 3 ≤ 1) → Q none M') : jc A 7 195 [.ref (413), .ref (1), .int (Int32.ofInt (y))] M Q := by
  refine jc_of (m := xm_195) rfl (Nat.le_of_ble_eq_true rfl) rfl ?_
  refine jr.aload_n rfl rfl ?_
  refine jr.aload_n rfl rfl ?_
  refine jr.putf (i := 3) (x := 1) rfl rfl (nlt rfl) rfl (nlt rfl) rfl rfl rfl rfl rfl ?_
  refine jr.aload_n rfl rfl ?_
  refine jr.iload_n rfl rfl ?_
  refine jr.putf (i := 4) (x := y) rfl rfl (nlt rfl) rfl (nlt rfl) rfl rfl rfl rfl rfl ?_
  refine jr.aload_n rfl rfl ?_
  obtain ⟨v1, e1⟩ : ∃ z_, M 413 2 = z_ := ⟨_, rfl⟩
  have b1 : 0 ≤ v1 ∧ v1 ≤ 597 := by rw [← e1]; exact (CI.r hC_M (show kd 413 = 44 from rfl) (by decide) 2)
  have k2 : kd (v1).toNat = 47 := ((congrArg (fun z : Int => kd z.toNat) (show (ju (ju M 413 3 1) 413 4 y) 413 2 = v1 from ((ju_i _ _ (zne (by decide))).trans ((ju_i _ _ (zne (by decide))).trans e1)))).symm.trans (CI.x (CI.u (CI.u hC_M (i := 3) (show kd 413 = 44 from rfl) (show (1 : Int) ≤ _ ∧ _ ≤ (419 : Int) from by omega) rfl) (i := 4) (show kd 413 = 44 from rfl) (show (0 : Int) ≤ _ ∧ _ ≤ (1600 : Int) from by omega) rfl) (show kd 413 = 44 from rfl) 2 rfl (by decide)))
  refine jr.getf (i := 2) (x := v1) (v := .ref (v1.toNat)) rfl rfl (nlt rfl) rfl (nlt rfl) rfl rfl ((ju_i _ _ (zne (by decide))).trans ((ju_i _ _ (zne (by decide))).trans e1)) rfl ?_
  refine jr_v rfl rfl (Or.inl rfl) rfl rfl (Nat.lt_trans (kx_47 k2).1 (by decide)) (kx_47 k2).2 ⟨rfl, Nat.le_of_ble_eq_true rfl, Nat.le_of_ble_eq_true rfl⟩ rfl (jc.deep (c_Program_clear_m (CI.u (CI.u hC_M (i := 3) (show kd 413 = 44 from rfl) (show (1 : Int) ≤ _ ∧ _ ≤ (419 : Int) from by omega) rfl) (i := 4) (show kd 413 = 44 from rfl) (show (0 : Int) ≤ _ ∧ _ ≤ (1600 : Int) from by omega) rfl) (FR.rfl _ ((ju (ju M 413 3 1) 413 4 y))) k2 (by have hq0 : (ju (ju M 413 3 1) 413 4 y) 413 2 = v1 := ((ju_i _ _ (zne (by decide))).trans ((ju_i _ _ (zne (by decide))).trans e1)); omega) (MP.n (MP.n p0 hC_M (show kd 413 = 44 from rfl) (by decide) (Or.inl (by decide))) (CI.u hC_M (i := 3) (show kd 413 = 44 from rfl) (show (1 : Int) ≤ _ ∧ _ ≤ (419 : Int) from by omega) rfl) (show kd 413 = 44 from rfl) (by decide) (Or.inl (by decide))) (fun M3 hC_M3 hf_M3 w3_0 => ?_)) (Nat.le_of_ble_eq_true rfl))
  have ht_M3 : FR W_c_Parser_begin T M3 := FR.t (FR.o (FR.o ht_M (show kd 413 = 44 from rfl) rfl) (show kd 413 = 44 from rfl) rfl) hf_M3 (kw_sub rfl)
  refine jr.aload_n rfl rfl ?_
  refine jr.iconst rfl ?_
  refine jr.putf (i := 0) (x := 0) rfl rfl (nlt rfl) rfl (nlt rfl) rfl rfl rfl rfl rfl ?_
  refine jr.aload_n rfl rfl ?_
  refine jr.iconst rfl ?_
  refine jr.putf (i := 1) (x := (-1)) rfl rfl (nlt rfl) rfl (nlt rfl) rfl rfl rfl rfl rfl ?_
  refine jr.aload_n rfl rfl ?_
  refine jr.iconst rfl ?_
  refine jr.putf (i := 8) (x := 0) rfl rfl (nlt rfl) rfl (nlt rfl) rfl rfl rfl rfl rfl ?_
  refine jr.aload_n rfl rfl ?_
  have e5 : M3 413 3 = 1 := (hf_M3.g (show kd 413 = 44 from rfl) rfl).trans ((ju_i _ _ (zne (by decide))).trans (ju_same _ _ _ _))
  refine jr_v rfl rfl (Or.inl rfl) rfl rfl (nlt rfl) rfl ⟨rfl, Nat.le_of_ble_eq_true rfl, Nat.le_of_ble_eq_true rfl⟩ rfl (jc.deep (c_Parser_advance (CI.u (CI.u (CI.u hC_M3 (i := 0) (show kd 413 = 44 from rfl) (show (-2147483648 : Int) ≤ _ ∧ _ ≤ (2147483647 : Int) from by omega) rfl) (i := 1) (show kd 413 = 44 from rfl) (show (-2147483648 : Int) ≤ _ ∧ _ ≤ (2147483647 : Int) from by omega) rfl) (i := 8) (show kd 413 = 44 from rfl) (show (0 : Int) ≤ _ ∧ _ ≤ (1600 : Int) from by omega) rfl) (FR.rfl _ ((ju (ju (ju M3 413 0 0) 413 1 (-1)) 413 8 0)))  (by have hq0 : (ju (ju (ju M3 413 0 0) 413 1 (-1)) 413 8 0) 413 3 = 1 := ((ju_i _ _ (zne (by decide))).trans ((ju_i _ _ (zne (by decide))).trans ((ju_i _ _ (zne (by decide))).trans e5))); omega) (fun M4 hC_M4 hf_M4  => ?_)) (Nat.le_of_ble_eq_true rfl))
  have ht_M4 : FR W_c_Parser_begin T M4 := FR.t (FR.o (FR.o (FR.o ht_M3 (show kd 413 = 44 from rfl) rfl) (show kd 413 = 44 from rfl) rfl) (show kd 413 = 44 from rfl) rfl) hf_M4 (kw_sub rfl)
  have e6 : M4 413 3 = 1 := (hf_M4.g (show kd 413 = 44 from rfl) rfl).trans ((ju_i _ _ (zne (by decide))).trans ((ju_i _ _ (zne (by decide))).trans ((ju_i _ _ (zne (by decide))).trans e5)))
  exact jr.vreturn rfl rfl (q _ hC_M4 ht_M4  (MP.fr (MP.n (MP.n (MP.n w3_0 hC_M3 (show kd 413 = 44 from rfl) (by decide) (Or.inl (by decide))) (CI.u hC_M3 (i := 0) (show kd 413 = 44 from rfl) (show (-2147483648 : Int) ≤ _ ∧ _ ≤ (2147483647 : Int) from by omega) rfl) (show kd 413 = 44 from rfl) (by decide) (Or.inl (by decide))) (CI.u (CI.u hC_M3 (i := 0) (show kd 413 = 44 from rfl) (show (-2147483648 : Int) ≤ _ ∧ _ ≤ (2147483647 : Int) from by omega) rfl) (i := 1) (show kd 413 = 44 from rfl) (show (-2147483648 : Int) ≤ _ ∧ _ ≤ (2147483647 : Int) from by omega) rfl) (show kd 413 = 44 from rfl) (by decide) (Or.inl (by decide))) (CI.u (CI.u (CI.u hC_M3 (i := 0) (show kd 413 = 44 from rfl) (show (-2147483648 : Int) ≤ _ ∧ _ ≤ (2147483647 : Int) from by omega) rfl) (i := 1) (show kd 413 = 44 from rfl) (show (-2147483648 : Int) ≤ _ ∧ _ ≤ (2147483647 : Int) from by omega) rfl) (i := 8) (show kd 413 = 44 from rfl) (show (0 : Int) ≤ _ ∧ _ ≤ (1600 : Int) from by omega) rfl) hf_M4 rfl) (by have hq0 : M4 413 3 = 1 := e6; omega))
noncomputable def W_c_Parser_chain : List (Nat × Nat) := [(44, 0), (44, 1), (44, 6), (44, 7), (44, 8), (44, 9), (44, 10), (44, 11), (45, 1000), (47, 2), (47, 3), (47, 4), (48, 1000), (49, 1000), (50, 1000), (51, 1000)]
theorem c_Parser_chain {A : Nat → Option (Nat × (Nat → Int32))} [HA A] {Q : Option Value → jm → Prop} {G : Nat → Int → Int} {T : jm} {M : jm} (hC_M : CI M) (ht_M : FR W_c_Parser_chain T M) (p0 : 1 ≤ M 413 3 ∧ M 413 3 ≤ 1) (p1 : MP M G) (q : ∀ (M' : jm), CI M' → FR W_c_Parser_chain T M' → (MP M' G) → Q none M') : jc A 361 197 [.ref (413)] M Q := by
  refine jc_of (m := xm_197) rfl (Nat.le_of_ble_eq_true rfl) rfl ?_
  obtain ⟨v1, e1⟩ : ∃ z_, M 413 3 = z_ := ⟨_, rfl⟩
  have b1 : 1 ≤ v1 ∧ v1 ≤ 419 := by rw [← e1]; exact (CI.r hC_M (show kd 413 = 44 from rfl) (by decide) 3)
  have b2 : 1 ≤ v1 ∧ v1 ≤ 1 := by rw [← e1]; exact p0
  refine jr.aload_n rfl rfl ?_
  refine jr.iconst rfl ?_
  refine jr_v rfl rfl (Or.inl rfl) rfl rfl (nlt rfl) rfl ⟨rfl, Nat.le_of_ble_eq_true rfl, Nat.le_of_ble_eq_true rfl⟩ rfl (jc.deep (c_Parser_isWord hC_M (by omega) (fun r3 z3  => ?_)) (Nat.le_of_ble_eq_true rfl))
  refine jr.if_ne rfl rfl (by first | (refine rgb (by assumption) ?_; exact rfl) | omega) (fun h5 => ?_) (fun h5 => ?_)
  · have sx5 : (1 : Int) ≤ r3 := by omega
    clear h5
    refine jr.aload_n rfl rfl ?_
    obtain ⟨v4, e4⟩ : ∃ z_, M 413 2 = z_ := ⟨_, rfl⟩
    have b4 : 0 ≤ v4 ∧ v4 ≤ 597 := by rw [← e4]; exact (CI.r hC_M (show kd 413 = 44 from rfl) (by decide) 2)
    have k5 : kd (v4).toNat = 47 := ((congrArg (fun z : Int => kd z.toNat) (show M 413 2 = v4 from e4)).symm.trans (CI.x hC_M (show kd 413 = 44 from rfl) 2 rfl (by decide)))
    refine jr.getf (i := 2) (x := v4) (v := .ref (v4.toNat)) rfl rfl (nlt rfl) rfl (nlt rfl) rfl rfl e4 rfl ?_
    obtain ⟨v6, e6⟩ : ∃ z_, M ((v4.toNat)) 3 = z_ := ⟨_, rfl⟩
    have b6 : 0 ≤ v6 ∧ v6 ≤ 16 := by rw [← e6]; exact (CI.r hC_M k5 (by decide) 3)
    refine jr.getf (i := 3) (x := v6) (v := .int (Int32.ofInt (v6))) rfl rfl (Nat.lt_trans (kx_47 k5).1 (by decide)) (kx_47 k5).2 (by decide) rfl rfl e6 rfl ?_
    refine jr.bipush rfl (jbp _ (nlt rfl)) ?_
    refine jr.icmp_lt rfl rfl (by first | (refine rgb (by assumption) ?_; exact rfl) | omega) (rgl rfl) (fun h22 => ?_) (fun h22 => ?_)
    · refine jr.aload_n rfl rfl ?_
      refine jr_v rfl rfl (Or.inl rfl) rfl rfl (nlt rfl) rfl ⟨rfl, Nat.le_of_ble_eq_true rfl, Nat.le_of_ble_eq_true rfl⟩ rfl (jc.deep (c_Parser_advance hC_M (FR.rfl _ M)  (by have hq0 : M 413 3 = v1 := e1; omega) (fun M7 hC_M7 hf_M7  => ?_)) (Nat.le_of_ble_eq_true rfl))
      have ht_M7 : FR W_c_Parser_chain T M7 := FR.t ht_M hf_M7 (kw_sub rfl)
      refine jr.aload_n rfl rfl ?_
      refine jr_v rfl rfl (Or.inl rfl) rfl rfl (nlt rfl) rfl ⟨rfl, Nat.le_of_ble_eq_true rfl, Nat.le_of_ble_eq_true rfl⟩ rfl (jc.deep (c_Parser_isName hC_M7  (fun r8 z8  => ?_)) (Nat.le_of_ble_eq_true rfl))
      refine jr.if_ne rfl rfl (by first | (refine rgb (by assumption) ?_; exact rfl) | omega) (fun h39 => ?_) (fun h39 => ?_)
      · have sx39 : (1 : Int) ≤ r8 := by omega
        clear h39
        refine jr.aload_n rfl rfl ?_
        refine jr.aload_n rfl rfl ?_
        obtain ⟨v9, e9⟩ : ∃ z_, M7 413 7 = z_ := ⟨_, rfl⟩
        have b9 : 0 ≤ v9 ∧ v9 ≤ 1600 := by rw [← e9]; exact (CI.r hC_M7 (show kd 413 = 44 from rfl) (by decide) 7)
        refine jr.getf (i := 7) (x := v9) (v := .int (Int32.ofInt (v9))) rfl rfl (nlt rfl) rfl (nlt rfl) rfl rfl e9 rfl ?_
        have e11 : M7 413 3 = v1 := (hf_M7.g (show kd 413 = 44 from rfl) rfl).trans e1
        refine jr_v rfl rfl (Or.inl rfl) rfl rfl (nlt rfl) rfl ⟨rfl, Nat.le_of_ble_eq_true rfl, Nat.le_of_ble_eq_true rfl⟩ rfl (jc.deep (c_Parser_chainNamed hC_M7 (by omega) (by have hq0 : M7 413 3 = v1 := e11; omega) (fun r10 z10  => ?_)) (Nat.le_of_ble_eq_true rfl))
        refine jr.iconst rfl ?_
        refine jr.icmp_eq rfl rfl (by first | (refine rgb (by assumption) ?_; exact rfl) | omega) (rgl rfl) (fun h56 => ?_) (fun h56 => ?_)
        · refine jr.aload_n rfl rfl ?_
          refine jr.getf (i := 5) (v := .ref 420) rfl rfl (nlt rfl) rfl (nlt rfl) rfl rfl rfl rfl ?_
          refine jr.aload_n rfl rfl ?_
          have e12 : M7 413 2 = v4 := (hf_M7.g (show kd 413 = 44 from rfl) rfl).trans e4
          have k13 : kd (v4).toNat = 47 := ((congrArg (fun z : Int => kd z.toNat) (show M7 413 2 = v4 from e12)).symm.trans (CI.x hC_M7 (show kd 413 = 44 from rfl) 2 rfl (by decide)))
          refine jr.getf (i := 2) (x := v4) (v := .ref (v4.toNat)) rfl rfl (nlt rfl) rfl (nlt rfl) rfl rfl e12 rfl ?_
          have e14 : M7 ((v4.toNat)) 3 = v6 := (hf_M7.g k13 rfl).trans e6
          refine jr.getf (i := 3) (x := v6) (v := .int (Int32.ofInt (v6))) rfl rfl (Nat.lt_trans (kx_47 k13).1 (by decide)) (kx_47 k13).2 (by decide) rfl rfl e14 rfl ?_
          refine jr.aload_n rfl rfl ?_
          refine jr.getf (i := 7) (x := v9) (v := .int (Int32.ofInt (v9))) rfl rfl (nlt rfl) rfl (nlt rfl) rfl rfl e9 rfl ?_
          refine jr.iast (i := v6) (x := v9) rfl (nlt rfl) rfl (Nat.le_of_ble_eq_true rfl) (by omega) (by omega) ?_
          refine jr.aload_n rfl rfl ?_
          have k15 : kd (v4).toNat = 47 := ((congrArg (fun z : Int => kd z.toNat) (show (ju M7 420 v6 v9) 413 2 = v4 from ((ju_c _ _ (by decide)).trans e12))).symm.trans (CI.x (CI.u hC_M7 (i := v6) (show kd 420 = 45 from rfl) (show (-2147483648 : Int) ≤ _ ∧ _ ≤ (2147483647 : Int) from by omega) rfl) (show kd 413 = 44 from rfl) 2 rfl (by decide)))
          refine jr.getf (i := 2) (x := v4) (v := .ref (v4.toNat)) rfl rfl (nlt rfl) rfl (nlt rfl) rfl rfl ((ju_c _ _ (by decide)).trans e12) rfl ?_
          have k16 := kf_47_5 k15
          refine jr.getf (i := 5) (v := .ref ((v4.toNat) + 3)) rfl rfl (Nat.lt_trans (kx_47 k15).1 (by decide)) (kx_47 k15).2 (by decide) rfl rfl rfl (jval_ref rfl k16.1) ?_
          refine jr.aload_n rfl rfl ?_
          have k17 : kd (v4).toNat = 47 := ((congrArg (fun z : Int => kd z.toNat) (show (ju M7 420 v6 v9) 413 2 = v4 from ((ju_c _ _ (by decide)).trans e12))).symm.trans (CI.x (CI.u hC_M7 (i := v6) (show kd 420 = 45 from rfl) (show (-2147483648 : Int) ≤ _ ∧ _ ≤ (2147483647 : Int) from by omega) rfl) (show kd 413 = 44 from rfl) 2 rfl (by decide)))
          refine jr.getf (i := 2) (x := v4) (v := .ref (v4.toNat)) rfl rfl (nlt rfl) rfl (nlt rfl) rfl rfl ((ju_c _ _ (by decide)).trans e12) rfl ?_
          refine jr.getf (i := 3) (x := v6) (v := .int (Int32.ofInt (v6))) rfl rfl (Nat.lt_trans (kx_47 k17).1 (by decide)) (kx_47 k17).2 (by decide) rfl rfl ((ju_c _ _ (kd_ne (by rw [k17, (show kd 420 = 45 from rfl)]; decide))).trans e14) rfl ?_
          refine jr.aload_n rfl rfl ?_
          have k18 : kd (v4).toNat = 47 := ((congrArg (fun z : Int => kd z.toNat) (show (ju M7 420 v6 v9) 413 2 = v4 from ((ju_c _ _ (by decide)).trans e12))).symm.trans (CI.x (CI.u hC_M7 (i := v6) (show kd 420 = 45 from rfl) (show (-2147483648 : Int) ≤ _ ∧ _ ≤ (2147483647 : Int) from by omega) rfl) (show kd 413 = 44 from rfl) 2 rfl (by decide)))
          refine jr.getf (i := 2) (x := v4) (v := .ref (v4.toNat)) rfl rfl (nlt rfl) rfl (nlt rfl) rfl rfl ((ju_c _ _ (by decide)).trans e12) rfl ?_
          obtain ⟨v19, e19⟩ : ∃ z_, M ((v4.toNat)) 2 = z_ := ⟨_, rfl⟩
          have b19 : 0 ≤ v19 ∧ v19 ≤ 932 := by rw [← e19]; exact (CI.r hC_M k18 (by decide) 2)
          have e20 : M7 ((v4.toNat)) 2 = v19 := (hf_M7.g k18 rfl).trans e19
          refine jr.getf (i := 2) (x := v19) (v := .int (Int32.ofInt (v19))) rfl rfl (Nat.lt_trans (kx_47 k18).1 (by decide)) (kx_47 k18).2 (by decide) rfl rfl ((ju_c _ _ (kd_ne (by rw [k18, (show kd 420 = 45 from rfl)]; decide))).trans e20) rfl ?_
          refine jr.iast (i := v6) (x := v19) rfl (Nat.lt_trans (kx_50 k16.2).1 (by decide)) (kx_50 k16.2).2 (by decide) (by omega) (by omega) ?_
          refine jr.aload_n rfl rfl ?_
          refine jr_v rfl rfl (Or.inl rfl) rfl rfl (nlt rfl) rfl ⟨rfl, Nat.le_of_ble_eq_true rfl, Nat.le_of_ble_eq_true rfl⟩ rfl (jc.deep (c_Parser_advance (CI.u (CI.u hC_M7 (i := v6) (show kd 420 = 45 from rfl) (show (-2147483648 : Int) ≤ _ ∧ _ ≤ (2147483647 : Int) from by omega) rfl) (i := v6) k16.2 (show (-2147483648 : Int) ≤ _ ∧ _ ≤ (2147483647 : Int) from by omega) rfl) (FR.rfl _ ((ju (ju M7 420 v6 v9) (((v4.toNat) + 3)) v6 v19)))  (by have hq0 : (ju (ju M7 420 v6 v9) (((v4.toNat) + 3)) v6 v19) 413 3 = v1 := ((ju_c _ _ (kd_ne (by rw [(show kd 413 = 44 from rfl), k16.2]; decide))).trans ((ju_c _ _ (by decide)).trans e11)); omega) (fun M21 hC_M21 hf_M21  => ?_)) (Nat.le_of_ble_eq_true rfl))
          have ht_M21 : FR W_c_Parser_chain T M21 := FR.t (FR.o (FR.o ht_M7 (show kd 420 = 45 from rfl) rfl) k16.2 rfl) hf_M21 (kw_sub rfl)
          refine jr.aload_n rfl rfl ?_
          refine jr.iconst rfl ?_
          refine jr.iconst rfl ?_
          have e23 : M21 413 3 = v1 := (hf_M21.g (show kd 413 = 44 from rfl) rfl).trans ((ju_c _ _ (kd_ne (by rw [(show kd 413 = 44 from rfl), k16.2]; decide))).trans ((ju_c _ _ (by decide)).trans e11))
          refine jr_v rfl rfl (Or.inl rfl) rfl rfl (nlt rfl) rfl ⟨rfl, Nat.le_of_ble_eq_true rfl, Nat.le_of_ble_eq_true rfl⟩ rfl (jc.deep ((PX_all (A := A) 300).2.2.2.2.1 hC_M21 (FR.rfl _ M21) (by omega) (by omega) (by have hq0 : M21 413 3 = v1 := e23; omega) (MP.fr (MP.w (MP.n (MP.fr p1 hC_M hf_M7 rfl) hC_M7 (show kd 420 = 45 from rfl) (by decide) (Or.inr (by decide))) (CI.u hC_M7 (i := v6) (show kd 420 = 45 from rfl) (show (-2147483648 : Int) ≤ _ ∧ _ ≤ (2147483647 : Int) from by omega) rfl) ((ju_c _ _ (by decide)).trans e12) ⟨by omega, by omega⟩) (CI.u (CI.u hC_M7 (i := v6) (show kd 420 = 45 from rfl) (show (-2147483648 : Int) ≤ _ ∧ _ ≤ (2147483647 : Int) from by omega) rfl) (i := v6) k16.2 (show (-2147483648 : Int) ≤ _ ∧ _ ≤ (2147483647 : Int) from by omega) rfl) hf_M21 rfl) (by omega) (fun M22 hC_M22 hf_M22 w22_0 => ?_)) (Nat.le_of_ble_eq_true rfl))
          have ht_M22 : FR W_c_Parser_chain T M22 := FR.t ht_M21 hf_M22 (kw_sub rfl)
          refine jr.aload_n rfl rfl ?_
          have e24 : M21 413 2 = v4 := (hf_M21.g (show kd 413 = 44 from rfl) rfl).trans ((ju_c _ _ (kd_ne (by rw [(show kd 413 = 44 from rfl), k16.2]; decide))).trans ((ju_c _ _ (by decide)).trans e12))
          have e25 : M22 413 2 = v4 := (hf_M22.g (show kd 413 = 44 from rfl) rfl).trans e24
          have k26 : kd (v4).toNat = 47 := ((congrArg (fun z : Int => kd z.toNat) (show M22 413 2 = v4 from e25)).symm.trans (CI.x hC_M22 (show kd 413 = 44 from rfl) 2 rfl (by decide)))
          refine jr.getf (i := 2) (x := v4) (v := .ref (v4.toNat)) rfl rfl (nlt rfl) rfl (nlt rfl) rfl rfl e25 rfl ?_
          refine jr.bipush rfl (jbp _ (nlt rfl)) ?_
          refine jr.iconst rfl ?_
          refine jr_v rfl rfl (Or.inl rfl) rfl rfl (Nat.lt_trans (kx_47 k26).1 (by decide)) (kx_47 k26).2 ⟨rfl, Nat.le_of_ble_eq_true rfl, Nat.le_of_ble_eq_true rfl⟩ rfl (jc.deep (c_Program_emit_m hC_M22 (FR.rfl _ M22) k26 (by omega) (by omega) (by have hq0 : M22 413 2 = v4 := e25; omega) w22_0 (fun r27 M27 hC_M27 hf_M27 z27 w27_0 => ?_)) (Nat.le_of_ble_eq_true rfl))
          have ht_M27 : FR W_c_Parser_chain T M27 := FR.t ht_M22 hf_M27 (kw_sub rfl)
          refine jr.pop rfl rfl ?_
          refine jr.aload_n rfl rfl ?_
          have e28 : M27 413 2 = v4 := (hf_M27.g (show kd 413 = 44 from rfl) rfl).trans e25
          have k29 : kd (v4).toNat = 47 := ((congrArg (fun z : Int => kd z.toNat) (show M27 413 2 = v4 from e28)).symm.trans (CI.x hC_M27 (show kd 413 = 44 from rfl) 2 rfl (by decide)))
          refine jr.getf (i := 2) (x := v4) (v := .ref (v4.toNat)) rfl rfl (nlt rfl) rfl (nlt rfl) rfl rfl e28 rfl ?_
          have k30 := kf_47_6 k29
          refine jr.getf (i := 6) (v := .ref ((v4.toNat) + 4)) rfl rfl (Nat.lt_trans (kx_47 k29).1 (by decide)) (kx_47 k29).2 (by decide) rfl rfl rfl (jval_ref rfl k30.1) ?_
          refine jr.aload_n rfl rfl ?_
          have k31 : kd (v4).toNat = 47 := ((congrArg (fun z : Int => kd z.toNat) (show M27 413 2 = v4 from e28)).symm.trans (CI.x hC_M27 (show kd 413 = 44 from rfl) 2 rfl (by decide)))
          refine jr.getf (i := 2) (x := v4) (v := .ref (v4.toNat)) rfl rfl (nlt rfl) rfl (nlt rfl) rfl rfl e28 rfl ?_
          have e32 : M21 ((v4.toNat)) 3 = v6 := (hf_M21.g k31 rfl).trans ((ju_c _ _ (kd_ne (by rw [k31, k16.2]; decide))).trans ((ju_c _ _ (kd_ne (by rw [k31, (show kd 420 = 45 from rfl)]; decide))).trans e14))
          have e33 : M22 ((v4.toNat)) 3 = v6 := (hf_M22.g k31 rfl).trans e32
          have e34 : M27 ((v4.toNat)) 3 = v6 := (hf_M27.g k31 rfl).trans e33
          refine jr.getf (i := 3) (x := v6) (v := .int (Int32.ofInt (v6))) rfl rfl (Nat.lt_trans (kx_47 k31).1 (by decide)) (kx_47 k31).2 (by decide) rfl rfl e34 rfl ?_
          refine jr.aload_n rfl rfl ?_
          have k35 : kd (v4).toNat = 47 := ((congrArg (fun z : Int => kd z.toNat) (show M27 413 2 = v4 from e28)).symm.trans (CI.x hC_M27 (show kd 413 = 44 from rfl) 2 rfl (by decide)))
          refine jr.getf (i := 2) (x := v4) (v := .ref (v4.toNat)) rfl rfl (nlt rfl) rfl (nlt rfl) rfl rfl e28 rfl ?_
          obtain ⟨v36, e36⟩ : ∃ z_, M27 ((v4.toNat)) 2 = z_ := ⟨_, rfl⟩
          have b36 : 0 ≤ v36 ∧ v36 ≤ 932 := by rw [← e36]; exact (CI.r hC_M27 k35 (by decide) 2)
          refine jr.getf (i := 2) (x := v36) (v := .int (Int32.ofInt (v36))) rfl rfl (Nat.lt_trans (kx_47 k35).1 (by decide)) (kx_47 k35).2 (by decide) rfl rfl e36 rfl ?_
          refine jr.iast (i := v6) (x := v36) rfl (Nat.lt_trans (kx_49 k30.2).1 (by decide)) (kx_49 k30.2).2 (by decide) (by omega) (by omega) ?_
          refine jr.aload_n rfl rfl ?_
          obtain ⟨v37, e37⟩ : ∃ z_, M22 413 0 = z_ := ⟨_, rfl⟩
          have b37 : (-2147483648) ≤ v37 ∧ v37 ≤ 2147483647 := by rw [← e37]; exact (CI.r hC_M22 (show kd 413 = 44 from rfl) (by decide) 0)
          have e38 : M27 413 0 = v37 := (hf_M27.g (show kd 413 = 44 from rfl) rfl).trans e37
          refine jr.getf (i := 0) (x := v37) (v := .int (Int32.ofInt (v37))) rfl rfl (nlt rfl) rfl (nlt rfl) rfl rfl ((ju_c _ _ (kd_ne (by rw [(show kd 413 = 44 from rfl), k30.2]; decide))).trans e38) rfl ?_
          refine jr.if_ne rfl rfl (by first | (refine rgb (by assumption) ?_; exact rfl) | omega) (fun h150 => ?_) (fun h150 => ?_)
          · refine jr.aload_n rfl rfl ?_
            have k39 : kd (v4).toNat = 47 := ((congrArg (fun z : Int => kd z.toNat) (show (ju M27 (((v4.toNat) + 4)) v6 v36) 413 2 = v4 from ((ju_c _ _ (kd_ne (by rw [(show kd 413 = 44 from rfl), k30.2]; decide))).trans e28))).symm.trans (CI.x (CI.u hC_M27 (i := v6) k30.2 (show (-2147483648 : Int) ≤ _ ∧ _ ≤ (2147483647 : Int) from by omega) rfl) (show kd 413 = 44 from rfl) 2 rfl (by decide)))
            refine jr.getf (i := 2) (x := v4) (v := .ref (v4.toNat)) rfl rfl (nlt rfl) rfl (nlt rfl) rfl rfl ((ju_c _ _ (kd_ne (by rw [(show kd 413 = 44 from rfl), k30.2]; decide))).trans e28) rfl ?_
            refine jr.bipush rfl (jbp _ (nlt rfl)) ?_
            refine jr.iconst rfl ?_
            refine jr_v rfl rfl (Or.inl rfl) rfl rfl (Nat.lt_trans (kx_47 k39).1 (by decide)) (kx_47 k39).2 ⟨rfl, Nat.le_of_ble_eq_true rfl, Nat.le_of_ble_eq_true rfl⟩ rfl (jc.deep (c_Program_emit_m (CI.u hC_M27 (i := v6) k30.2 (show (-2147483648 : Int) ≤ _ ∧ _ ≤ (2147483647 : Int) from by omega) rfl) (FR.rfl _ ((ju M27 (((v4.toNat) + 4)) v6 v36))) k39 (by omega) (by omega) (by have hq0 : (ju M27 (((v4.toNat) + 4)) v6 v36) 413 2 = v4 := ((ju_c _ _ (kd_ne (by rw [(show kd 413 = 44 from rfl), k30.2]; decide))).trans e28); omega) (MP.w w27_0 hC_M27 e28 ⟨by omega, by omega⟩) (fun r40 M40 hC_M40 hf_M40 z40 w40_0 => ?_)) (Nat.le_of_ble_eq_true rfl))
            have ht_M40 : FR W_c_Parser_chain T M40 := FR.t (FR.o ht_M27 k30.2 rfl) hf_M40 (kw_sub rfl)
            refine jr.pop rfl rfl ?_
            refine jr.aload_n rfl rfl ?_
            have e41 : M40 413 2 = v4 := (hf_M40.g (show kd 413 = 44 from rfl) rfl).trans ((ju_c _ _ (kd_ne (by rw [(show kd 413 = 44 from rfl), k30.2]; decide))).trans e28)
            have k42 : kd (v4).toNat = 47 := ((congrArg (fun z : Int => kd z.toNat) (show M40 413 2 = v4 from e41)).symm.trans (CI.x hC_M40 (show kd 413 = 44 from rfl) 2 rfl (by decide)))
            refine jr.getf (i := 2) (x := v4) (v := .ref (v4.toNat)) rfl rfl (nlt rfl) rfl (nlt rfl) rfl rfl e41 rfl ?_
            refine jr.dup rfl rfl ?_
            have e43 : M40 ((v4.toNat)) 3 = v6 := (hf_M40.g k42 rfl).trans ((ju_c _ _ (kd_ne (by rw [k42, k30.2]; decide))).trans e34)
            refine jr.getf (i := 3) (x := v6) (v := .int (Int32.ofInt (v6))) rfl rfl (Nat.lt_trans (kx_47 k42).1 (by decide)) (kx_47 k42).2 (by decide) rfl rfl e43 rfl ?_
            refine jr.iconst rfl ?_
            refine jr.iadd rfl ?_
            refine jr.putf (i := 3) (x := (v6 + 1)) rfl rfl (Nat.lt_trans (kx_47 k42).1 (by decide)) (kx_47 k42).2 (by decide) rfl rfl rfl rfl rfl ?_
            exact jr.vreturn rfl rfl (q _ (CI.u hC_M40 (i := 3) k42 (show (0 : Int) ≤ _ ∧ _ ≤ (16 : Int) from by omega) rfl) (FR.o ht_M40 k42 rfl)  (MP.w w40_0 hC_M40 e41 ⟨by omega, by omega⟩))
          · refine jr.aload_n rfl rfl ?_
            refine jr.iconst rfl ?_
            refine jr_v rfl rfl (Or.inl rfl) rfl rfl (nlt rfl) rfl ⟨rfl, Nat.le_of_ble_eq_true rfl, Nat.le_of_ble_eq_true rfl⟩ rfl (jc.deep (c_Parser_isWord (CI.u hC_M27 (i := v6) k30.2 (show (-2147483648 : Int) ≤ _ ∧ _ ≤ (2147483647 : Int) from by omega) rfl) (by omega) (fun r44 z44  => ?_)) (Nat.le_of_ble_eq_true rfl))
            refine jr.if_eq rfl rfl (by first | (refine rgb (by assumption) ?_; exact rfl) | omega) (fun h158 => ?_) (fun h158 => ?_)
            · refine jr.aload_n rfl rfl ?_
              have k45 : kd (v4).toNat = 47 := ((congrArg (fun z : Int => kd z.toNat) (show (ju M27 (((v4.toNat) + 4)) v6 v36) 413 2 = v4 from ((ju_c _ _ (kd_ne (by rw [(show kd 413 = 44 from rfl), k30.2]; decide))).trans e28))).symm.trans (CI.x (CI.u hC_M27 (i := v6) k30.2 (show (-2147483648 : Int) ≤ _ ∧ _ ≤ (2147483647 : Int) from by omega) rfl) (show kd 413 = 44 from rfl) 2 rfl (by decide)))
              refine jr.getf (i := 2) (x := v4) (v := .ref (v4.toNat)) rfl rfl (nlt rfl) rfl (nlt rfl) rfl rfl ((ju_c _ _ (kd_ne (by rw [(show kd 413 = 44 from rfl), k30.2]; decide))).trans e28) rfl ?_
              refine jr.bipush rfl (jbp _ (nlt rfl)) ?_
              refine jr.iconst rfl ?_
              refine jr_v rfl rfl (Or.inl rfl) rfl rfl (Nat.lt_trans (kx_47 k45).1 (by decide)) (kx_47 k45).2 ⟨rfl, Nat.le_of_ble_eq_true rfl, Nat.le_of_ble_eq_true rfl⟩ rfl (jc.deep (c_Program_emit_m (CI.u hC_M27 (i := v6) k30.2 (show (-2147483648 : Int) ≤ _ ∧ _ ≤ (2147483647 : Int) from by omega) rfl) (FR.rfl _ ((ju M27 (((v4.toNat) + 4)) v6 v36))) k45 (by omega) (by omega) (by have hq0 : (ju M27 (((v4.toNat) + 4)) v6 v36) 413 2 = v4 := ((ju_c _ _ (kd_ne (by rw [(show kd 413 = 44 from rfl), k30.2]; decide))).trans e28); omega) (MP.w w27_0 hC_M27 e28 ⟨by omega, by omega⟩) (fun r46 M46 hC_M46 hf_M46 z46 w46_0 => ?_)) (Nat.le_of_ble_eq_true rfl))
              have ht_M46 : FR W_c_Parser_chain T M46 := FR.t (FR.o ht_M27 k30.2 rfl) hf_M46 (kw_sub rfl)
              refine jr.pop rfl rfl ?_
              refine jr.aload_n rfl rfl ?_
              have e47 : M46 413 2 = v4 := (hf_M46.g (show kd 413 = 44 from rfl) rfl).trans ((ju_c _ _ (kd_ne (by rw [(show kd 413 = 44 from rfl), k30.2]; decide))).trans e28)
              have k48 : kd (v4).toNat = 47 := ((congrArg (fun z : Int => kd z.toNat) (show M46 413 2 = v4 from e47)).symm.trans (CI.x hC_M46 (show kd 413 = 44 from rfl) 2 rfl (by decide)))
              refine jr.getf (i := 2) (x := v4) (v := .ref (v4.toNat)) rfl rfl (nlt rfl) rfl (nlt rfl) rfl rfl e47 rfl ?_
              refine jr.dup rfl rfl ?_
              have e49 : M46 ((v4.toNat)) 3 = v6 := (hf_M46.g k48 rfl).trans ((ju_c _ _ (kd_ne (by rw [k48, k30.2]; decide))).trans e34)
              refine jr.getf (i := 3) (x := v6) (v := .int (Int32.ofInt (v6))) rfl rfl (Nat.lt_trans (kx_47 k48).1 (by decide)) (kx_47 k48).2 (by decide) rfl rfl e49 rfl ?_
              refine jr.iconst rfl ?_
              refine jr.iadd rfl ?_
              refine jr.putf (i := 3) (x := (v6 + 1)) rfl rfl (Nat.lt_trans (kx_47 k48).1 (by decide)) (kx_47 k48).2 (by decide) rfl rfl rfl rfl rfl ?_
              exact jr.vreturn rfl rfl (q _ (CI.u hC_M46 (i := 3) k48 (show (0 : Int) ≤ _ ∧ _ ≤ (16 : Int) from by omega) rfl) (FR.o ht_M46 k48 rfl)  (MP.w w46_0 hC_M46 e47 ⟨by omega, by omega⟩))
            · have sx158 : (1 : Int) ≤ r44 := by omega
              clear h158
              refine jr.aload_n rfl rfl ?_
              have e51 : M22 413 3 = v1 := (hf_M22.g (show kd 413 = 44 from rfl) rfl).trans e23
              have e52 : M27 413 3 = v1 := (hf_M27.g (show kd 413 = 44 from rfl) rfl).trans e51
              refine jr_v rfl rfl (Or.inl rfl) rfl rfl (nlt rfl) rfl ⟨rfl, Nat.le_of_ble_eq_true rfl, Nat.le_of_ble_eq_true rfl⟩ rfl (jc.deep (c_Parser_advance (CI.u hC_M27 (i := v6) k30.2 (show (-2147483648 : Int) ≤ _ ∧ _ ≤ (2147483647 : Int) from by omega) rfl) (FR.rfl _ ((ju M27 (((v4.toNat) + 4)) v6 v36)))  (by have hq0 : (ju M27 (((v4.toNat) + 4)) v6 v36) 413 3 = v1 := ((ju_c _ _ (kd_ne (by rw [(show kd 413 = 44 from rfl), k30.2]; decide))).trans e52); omega) (fun M50 hC_M50 hf_M50  => ?_)) (Nat.le_of_ble_eq_true rfl))
              have ht_M50 : FR W_c_Parser_chain T M50 := FR.t (FR.o ht_M27 k30.2 rfl) hf_M50 (kw_sub rfl)
              refine jr.aload_n rfl rfl ?_
              refine jr.iconst rfl ?_
              refine jr.iconst rfl ?_
              have e54 : M50 413 3 = v1 := (hf_M50.g (show kd 413 = 44 from rfl) rfl).trans ((ju_c _ _ (kd_ne (by rw [(show kd 413 = 44 from rfl), k30.2]; decide))).trans e52)
              refine jr_v rfl rfl (Or.inl rfl) rfl rfl (nlt rfl) rfl ⟨rfl, Nat.le_of_ble_eq_true rfl, Nat.le_of_ble_eq_true rfl⟩ rfl (jc.deep ((PX_all (A := A) 300).2.2.2.2.1 hC_M50 (FR.rfl _ M50) (by omega) (by omega) (by have hq0 : M50 413 3 = v1 := e54; omega) (MP.fr (MP.w w27_0 hC_M27 e28 ⟨by omega, by omega⟩) (CI.u hC_M27 (i := v6) k30.2 (show (-2147483648 : Int) ≤ _ ∧ _ ≤ (2147483647 : Int) from by omega) rfl) hf_M50 rfl) (by omega) (fun M53 hC_M53 hf_M53 w53_0 => ?_)) (Nat.le_of_ble_eq_true rfl))
              have ht_M53 : FR W_c_Parser_chain T M53 := FR.t ht_M50 hf_M53 (kw_sub rfl)
              refine jr.aload_n rfl rfl ?_
              have e55 : M50 413 2 = v4 := (hf_M50.g (show kd 413 = 44 from rfl) rfl).trans ((ju_c _ _ (kd_ne (by rw [(show kd 413 = 44 from rfl), k30.2]; decide))).trans e28)
              have e56 : M53 413 2 = v4 := (hf_M53.g (show kd 413 = 44 from rfl) rfl).trans e55
              have k57 : kd (v4).toNat = 47 := ((congrArg (fun z : Int => kd z.toNat) (show M53 413 2 = v4 from e56)).symm.trans (CI.x hC_M53 (show kd 413 = 44 from rfl) 2 rfl (by decide)))
              refine jr.getf (i := 2) (x := v4) (v := .ref (v4.toNat)) rfl rfl (nlt rfl) rfl (nlt rfl) rfl rfl e56 rfl ?_
              refine jr.bipush rfl (jbp _ (nlt rfl)) ?_
              refine jr.iconst rfl ?_
              refine jr_v rfl rfl (Or.inl rfl) rfl rfl (Nat.lt_trans (kx_47 k57).1 (by decide)) (kx_47 k57).2 ⟨rfl, Nat.le_of_ble_eq_true rfl, Nat.le_of_ble_eq_true rfl⟩ rfl (jc.deep (c_Program_emit_m hC_M53 (FR.rfl _ M53) k57 (by omega) (by omega) (by have hq0 : M53 413 2 = v4 := e56; omega) w53_0 (fun r58 M58 hC_M58 hf_M58 z58 w58_0 => ?_)) (Nat.le_of_ble_eq_true rfl))
              have ht_M58 : FR W_c_Parser_chain T M58 := FR.t ht_M53 hf_M58 (kw_sub rfl)
              refine jr.pop rfl rfl ?_
              refine jr.aload_n rfl rfl ?_
              have e59 : M58 413 2 = v4 := (hf_M58.g (show kd 413 = 44 from rfl) rfl).trans e56
              have k60 : kd (v4).toNat = 47 := ((congrArg (fun z : Int => kd z.toNat) (show M58 413 2 = v4 from e59)).symm.trans (CI.x hC_M58 (show kd 413 = 44 from rfl) 2 rfl (by decide)))
              refine jr.getf (i := 2) (x := v4) (v := .ref (v4.toNat)) rfl rfl (nlt rfl) rfl (nlt rfl) rfl rfl e59 rfl ?_
              refine jr.dup rfl rfl ?_
              have e61 : M50 ((v4.toNat)) 3 = v6 := (hf_M50.g k60 rfl).trans ((ju_c _ _ (kd_ne (by rw [k60, k30.2]; decide))).trans e34)
              have e62 : M53 ((v4.toNat)) 3 = v6 := (hf_M53.g k60 rfl).trans e61
              have e63 : M58 ((v4.toNat)) 3 = v6 := (hf_M58.g k60 rfl).trans e62
              refine jr.getf (i := 3) (x := v6) (v := .int (Int32.ofInt (v6))) rfl rfl (Nat.lt_trans (kx_47 k60).1 (by decide)) (kx_47 k60).2 (by decide) rfl rfl e63 rfl ?_
              refine jr.iconst rfl ?_
              refine jr.iadd rfl ?_
              refine jr.putf (i := 3) (x := (v6 + 1)) rfl rfl (Nat.lt_trans (kx_47 k60).1 (by decide)) (kx_47 k60).2 (by decide) rfl rfl rfl rfl rfl ?_
              exact jr.vreturn rfl rfl (q _ (CI.u hC_M58 (i := 3) k60 (show (0 : Int) ≤ _ ∧ _ ≤ (16 : Int) from by omega) rfl) (FR.o ht_M58 k60 rfl)  (MP.w w58_0 hC_M58 e59 ⟨by omega, by omega⟩))
        · have sx56 : (0 : Int) ≤ r10 := by omega
          clear h56
          refine jr.aload_n rfl rfl ?_
          refine jr.iconst rfl ?_
          refine jr_v rfl rfl (Or.inl rfl) rfl rfl (nlt rfl) rfl ⟨rfl, Nat.le_of_ble_eq_true rfl, Nat.le_of_ble_eq_true rfl⟩ rfl (jc.deep (c_Parser_fail hC_M7 (FR.rfl _ M7) (by omega) (fun M64 hC_M64 hf_M64 w64_0 => ?_)) (Nat.le_of_ble_eq_true rfl))
          have ht_M64 : FR W_c_Parser_chain T M64 := FR.t ht_M7 hf_M64 (kw_sub rfl)
          obtain ⟨v65, e65⟩ : ∃ z_, M64 413 0 = z_ := ⟨_, rfl⟩
          have b65 : (-2147483648) ≤ v65 ∧ v65 ≤ 2147483647 := by rw [← e65]; exact (CI.r hC_M64 (show kd 413 = 44 from rfl) (by decide) 0)
          exact jr.vreturn rfl rfl (q _ hC_M64 ht_M64  (MP.fr (MP.fr p1 hC_M hf_M7 rfl) hC_M7 hf_M64 rfl))
      · refine jr.aload_n rfl rfl ?_
        refine jr_v rfl rfl (Or.inl rfl) rfl rfl (nlt rfl) rfl ⟨rfl, Nat.le_of_ble_eq_true rfl, Nat.le_of_ble_eq_true rfl⟩ rfl (jc.deep (c_Parser_refuse hC_M7 (FR.rfl _ M7)  (fun M66 hC_M66 hf_M66 w66_0 => ?_)) (Nat.le_of_ble_eq_true rfl))
        have ht_M66 : FR W_c_Parser_chain T M66 := FR.t ht_M7 hf_M66 (kw_sub rfl)
        obtain ⟨v67, e67⟩ : ∃ z_, M66 413 0 = z_ := ⟨_, rfl⟩
        have b67 : (-2147483648) ≤ v67 ∧ v67 ≤ 2147483647 := by rw [← e67]; exact (CI.r hC_M66 (show kd 413 = 44 from rfl) (by decide) 0)
        exact jr.vreturn rfl rfl (q _ hC_M66 ht_M66  (MP.fr (MP.fr p1 hC_M hf_M7 rfl) hC_M7 hf_M66 rfl))
    · refine jr.aload_n rfl rfl ?_
      refine jr.iconst rfl ?_
      refine jr_v rfl rfl (Or.inl rfl) rfl rfl (nlt rfl) rfl ⟨rfl, Nat.le_of_ble_eq_true rfl, Nat.le_of_ble_eq_true rfl⟩ rfl (jc.deep (c_Parser_fail hC_M (FR.rfl _ M) (by omega) (fun M68 hC_M68 hf_M68 w68_0 => ?_)) (Nat.le_of_ble_eq_true rfl))
      have ht_M68 : FR W_c_Parser_chain T M68 := FR.t ht_M hf_M68 (kw_sub rfl)
      obtain ⟨v69, e69⟩ : ∃ z_, M68 413 0 = z_ := ⟨_, rfl⟩
      have b69 : (-2147483648) ≤ v69 ∧ v69 ≤ 2147483647 := by rw [← e69]; exact (CI.r hC_M68 (show kd 413 = 44 from rfl) (by decide) 0)
      exact jr.vreturn rfl rfl (q _ hC_M68 ht_M68  (MP.fr p1 hC_M hf_M68 rfl))
  · refine jr.aload_n rfl rfl ?_
    refine jr_v rfl rfl (Or.inl rfl) rfl rfl (nlt rfl) rfl ⟨rfl, Nat.le_of_ble_eq_true rfl, Nat.le_of_ble_eq_true rfl⟩ rfl (jc.deep (c_Parser_refuse hC_M (FR.rfl _ M)  (fun M70 hC_M70 hf_M70 w70_0 => ?_)) (Nat.le_of_ble_eq_true rfl))
    have ht_M70 : FR W_c_Parser_chain T M70 := FR.t ht_M hf_M70 (kw_sub rfl)
    obtain ⟨v71, e71⟩ : ∃ z_, M70 413 0 = z_ := ⟨_, rfl⟩
    have b71 : (-2147483648) ≤ v71 ∧ v71 ≤ 2147483647 := by rw [← e71]; exact (CI.r hC_M70 (show kd 413 = 44 from rfl) (by decide) 0)
    exact jr.vreturn rfl rfl (q _ hC_M70 ht_M70  (MP.fr p1 hC_M hf_M70 rfl))
noncomputable def W_c_Parser_resolveJumps : List (Nat × Nat) := [(44, 0), (44, 1), (48, 1000)]
theorem c_Parser_resolveJumps_L2 {A : Nat → Option (Nat × (Nat → Int32))} [HA A] {Q : Option Value → jm → Prop} {G : Nat → Int → Int} {T : jm} (q : ∀ (M' : jm), CI M' → FR W_c_Parser_resolveJumps T M' → (MP M' G) → (PR M') → Q none M') : ∀ (nM : Nat) (M : jm) (i : Int), CI M → FR W_c_Parser_resolveJumps T M → 0 ≤ i ∧ i ≤ 932 → (1 ≤ M 413 3 ∧ M 413 3 ≤ 1) → (MP M G) → (JR M i) → 932 - i ≤ nM → jr A 3 xm_208 2 [(1, .int (Int32.ofInt (i))), (0, .ref (413))] [] M Q := by
  intro nM
  induction nM using Nat.strongRecOn with
  | ind nM ih =>
    intro M i hC_M ht_M h_i hy0 hy1 hy2 hm
    obtain ⟨v1, e1⟩ : ∃ z_, M 413 3 = z_ := ⟨_, rfl⟩
    have b1 : 1 ≤ v1 ∧ v1 ≤ 419 := by rw [← e1]; exact (CI.r hC_M (show kd 413 = 44 from rfl) (by decide) 3)
    have b2 : 1 ≤ v1 ∧ v1 ≤ 1 := by rw [← e1]; exact hy0
    refine jr.iload_n rfl rfl ?_
    refine jr.aload_n rfl rfl ?_
    obtain ⟨v3, e3⟩ : ∃ z_, M 413 2 = z_ := ⟨_, rfl⟩
    have b3 : 0 ≤ v3 ∧ v3 ≤ 597 := by rw [← e3]; exact (CI.r hC_M (show kd 413 = 44 from rfl) (by decide) 2)
    have k4 : kd (v3).toNat = 47 := ((congrArg (fun z : Int => kd z.toNat) (show M 413 2 = v3 from e3)).symm.trans (CI.x hC_M (show kd 413 = 44 from rfl) 2 rfl (by decide)))
    refine jr.getf (i := 2) (x := v3) (v := .ref (v3.toNat)) rfl rfl (nlt rfl) rfl (nlt rfl) rfl rfl e3 rfl ?_
    obtain ⟨v5, e5⟩ : ∃ z_, M ((v3.toNat)) 2 = z_ := ⟨_, rfl⟩
    have b5 : 0 ≤ v5 ∧ v5 ≤ 932 := by rw [← e5]; exact (CI.r hC_M k4 (by decide) 2)
    refine jr.getf (i := 2) (x := v5) (v := .int (Int32.ofInt (v5))) rfl rfl (Nat.lt_trans (kx_47 k4).1 (by decide)) (kx_47 k4).2 (by decide) rfl rfl e5 rfl ?_
    refine jr.icmp_ge rfl rfl (by first | (refine rgb (by assumption) ?_; exact rfl) | omega) (by first | (refine rgb (by assumption) ?_; exact rfl) | omega) (fun h10 => ?_) (fun h10 => ?_)
    · exact jr.vreturn rfl rfl (q _ hC_M ht_M  hy1 (by first | exact PR.f (by omega) | exact JR.e hy2 e3 e5 (by omega)))
    · refine jr.aload_n rfl rfl ?_
      obtain ⟨v6, e6⟩ : ∃ z_, M 413 0 = z_ := ⟨_, rfl⟩
      have b6 : (-2147483648) ≤ v6 ∧ v6 ≤ 2147483647 := by rw [← e6]; exact (CI.r hC_M (show kd 413 = 44 from rfl) (by decide) 0)
      refine jr.getf (i := 0) (x := v6) (v := .int (Int32.ofInt (v6))) rfl rfl (nlt rfl) rfl (nlt rfl) rfl rfl e6 rfl ?_
      refine jr.if_ne rfl rfl (by first | (refine rgb (by assumption) ?_; exact rfl) | omega) (fun h17 => ?_) (fun h17 => ?_)
      · exact jr.vreturn rfl rfl (q _ hC_M ht_M  hy1 (by first | exact PR.f (by omega) | exact JR.e hy2 e3 e5 (by omega)))
      · refine jr.aload_n rfl rfl ?_
        have k7 : kd (v3).toNat = 47 := ((congrArg (fun z : Int => kd z.toNat) (show M 413 2 = v3 from e3)).symm.trans (CI.x hC_M (show kd 413 = 44 from rfl) 2 rfl (by decide)))
        refine jr.getf (i := 2) (x := v3) (v := .ref (v3.toNat)) rfl rfl (nlt rfl) rfl (nlt rfl) rfl rfl e3 rfl ?_
        refine jr.iload_n rfl rfl ?_
        refine jr_v rfl rfl (Or.inl rfl) rfl rfl (Nat.lt_trans (kx_47 k7).1 (by decide)) (kx_47 k7).2 ⟨rfl, Nat.le_of_ble_eq_true rfl, Nat.le_of_ble_eq_true rfl⟩ rfl (jc.deep (c_Program_opAt hC_M k7 (by omega) (fun r8 z8 w8_0 w8_1 => ?_)) (Nat.le_of_ble_eq_true rfl))
        refine jr.istore_n (ls' := [_, _, _]) rfl (nlt rfl) rfl ?_
        refine jr.iload_n rfl rfl ?_
        refine jr.bipush rfl (jbp _ (nlt rfl)) ?_
        refine jr.icmp_eq rfl rfl (by first | (refine rgb (by assumption) ?_; exact rfl) | omega) (rgl rfl) (fun h32 => ?_) (fun h32 => ?_)
        · refine jr.aload_n rfl rfl ?_
          refine jr.aload_n rfl rfl ?_
          have k9 : kd (v3).toNat = 47 := ((congrArg (fun z : Int => kd z.toNat) (show M 413 2 = v3 from e3)).symm.trans (CI.x hC_M (show kd 413 = 44 from rfl) 2 rfl (by decide)))
          refine jr.getf (i := 2) (x := v3) (v := .ref (v3.toNat)) rfl rfl (nlt rfl) rfl (nlt rfl) rfl rfl e3 rfl ?_
          have k10 := kf_47_1 k9
          refine jr.getf (i := 1) (v := .ref ((v3.toNat) + 2)) rfl rfl (Nat.lt_trans (kx_47 k9).1 (by decide)) (kx_47 k9).2 (by decide) rfl rfl rfl (jval_ref rfl k10.1) ?_
          refine jr.iload_n rfl rfl ?_
          obtain ⟨v11, e11⟩ : ∃ z_, M (((v3.toNat) + 2)) i = z_ := ⟨_, rfl⟩
          have b11 : (-2147483648) ≤ v11 ∧ v11 ≤ 2147483647 := by rw [← e11]; exact (CI.r hC_M k10.2 (by decide) i)
          refine jr.iald (i := i) (x := v11) rfl (Nat.lt_trans (kx_48 k10.2).1 (by decide)) (kx_48 k10.2).2 (by decide) (by omega) (by omega) e11 ?_
          refine jr_v rfl rfl (Or.inl rfl) rfl rfl (nlt rfl) rfl ⟨rfl, Nat.le_of_ble_eq_true rfl, Nat.le_of_ble_eq_true rfl⟩ rfl (jc.deep (c_Parser_chainNamed hC_M (by omega) (by have hq0 : M 413 3 = v1 := e1; omega) (fun r12 z12  => ?_)) (Nat.le_of_ble_eq_true rfl))
          refine jr.istore_n (ls' := [_, _, _, _]) rfl (nlt rfl) rfl ?_
          refine jr.iload_n rfl rfl ?_
          refine jr.iconst rfl ?_
          refine jr.icmp_ne rfl rfl (by first | (refine rgb (by assumption) ?_; exact rfl) | omega) (rgl rfl) (fun h57 => ?_) (fun h57 => ?_)
          · have sx57 : (0 : Int) ≤ r12 := by omega
            clear h57
            refine jr.aload_n rfl rfl ?_
            have k13 : kd (v3).toNat = 47 := ((congrArg (fun z : Int => kd z.toNat) (show M 413 2 = v3 from e3)).symm.trans (CI.x hC_M (show kd 413 = 44 from rfl) 2 rfl (by decide)))
            refine jr.getf (i := 2) (x := v3) (v := .ref (v3.toNat)) rfl rfl (nlt rfl) rfl (nlt rfl) rfl rfl e3 rfl ?_
            have k14 := kf_47_1 k13
            refine jr.getf (i := 1) (v := .ref ((v3.toNat) + 2)) rfl rfl (Nat.lt_trans (kx_47 k13).1 (by decide)) (kx_47 k13).2 (by decide) rfl rfl rfl (jval_ref rfl k14.1) ?_
            refine jr.iload_n rfl rfl ?_
            refine jr.iload_n rfl rfl ?_
            refine jr.iast (i := i) (x := r12) rfl (Nat.lt_trans (kx_48 k14.2).1 (by decide)) (kx_48 k14.2).2 (by decide) (by omega) (by omega) ?_
            refine jr.iinc (ls' := [_, _, _, _]) rfl rfl (nlt rfl) rfl ?_
            refine jr.goto rfl rfl ?_
            refine jr.pick (ls := [_, _]) [0, 3] rfl rfl ?_
            exact ih (nM - 1) (by omega) ((ju M (((v3.toNat) + 2)) i r12)) (i + 1) (CI.u hC_M (i := i) k14.2 (show (-2147483648 : Int) ≤ _ ∧ _ ≤ (2147483647 : Int) from by omega) rfl) (FR.o ht_M k14.2 rfl) (by omega) (by have hq0 : (ju M (((v3.toNat) + 2)) i r12) 413 3 = v1 := ((ju_c _ _ (kd_ne (by rw [(show kd 413 = 44 from rfl), k14.2]; decide))).trans e1); omega) (MP.w hy1 hC_M e3 ⟨by omega, by omega⟩) (JR.w hy2 hC_M e3 (by omega)) (by omega)
          · refine jr.aload_n rfl rfl ?_
            refine jr.bipush rfl (jbp _ (nlt rfl)) ?_
            refine jr.putf (i := 0) (x := 7) rfl rfl (nlt rfl) rfl (nlt rfl) rfl rfl rfl rfl rfl ?_
            refine jr.aload_n rfl rfl ?_
            refine jr.aload_n rfl rfl ?_
            have k15 : kd (v3).toNat = 47 := ((congrArg (fun z : Int => kd z.toNat) (show (ju M 413 0 7) 413 2 = v3 from ((ju_i _ _ (zne (by decide))).trans e3))).symm.trans (CI.x (CI.u hC_M (i := 0) (show kd 413 = 44 from rfl) (show (-2147483648 : Int) ≤ _ ∧ _ ≤ (2147483647 : Int) from by omega) rfl) (show kd 413 = 44 from rfl) 2 rfl (by decide)))
            refine jr.getf (i := 2) (x := v3) (v := .ref (v3.toNat)) rfl rfl (nlt rfl) rfl (nlt rfl) rfl rfl ((ju_i _ _ (zne (by decide))).trans e3) rfl ?_
            have k16 := kf_47_1 k15
            refine jr.getf (i := 1) (v := .ref ((v3.toNat) + 2)) rfl rfl (Nat.lt_trans (kx_47 k15).1 (by decide)) (kx_47 k15).2 (by decide) rfl rfl rfl (jval_ref rfl k16.1) ?_
            refine jr.iload_n rfl rfl ?_
            refine jr.iald (i := i) (x := v11) rfl (Nat.lt_trans (kx_48 k16.2).1 (by decide)) (kx_48 k16.2).2 (by decide) (by omega) (by omega) ((ju_c _ _ (kd_ne (by rw [k16.2, (show kd 413 = 44 from rfl)]; decide))).trans e11) ?_
            refine jr.putf (i := 1) (x := v11) rfl rfl (nlt rfl) rfl (nlt rfl) rfl rfl rfl rfl rfl ?_
            refine jr.aload_n rfl rfl ?_
            have k17 : kd (v3).toNat = 47 := ((congrArg (fun z : Int => kd z.toNat) (show (ju (ju M 413 0 7) 413 1 v11) 413 2 = v3 from ((ju_i _ _ (zne (by decide))).trans ((ju_i _ _ (zne (by decide))).trans e3)))).symm.trans (CI.x (CI.u (CI.u hC_M (i := 0) (show kd 413 = 44 from rfl) (show (-2147483648 : Int) ≤ _ ∧ _ ≤ (2147483647 : Int) from by omega) rfl) (i := 1) (show kd 413 = 44 from rfl) (show (-2147483648 : Int) ≤ _ ∧ _ ≤ (2147483647 : Int) from by omega) rfl) (show kd 413 = 44 from rfl) 2 rfl (by decide)))
            refine jr.getf (i := 2) (x := v3) (v := .ref (v3.toNat)) rfl rfl (nlt rfl) rfl (nlt rfl) rfl rfl ((ju_i _ _ (zne (by decide))).trans ((ju_i _ _ (zne (by decide))).trans e3)) rfl ?_
            have k18 := kf_47_1 k17
            refine jr.getf (i := 1) (v := .ref ((v3.toNat) + 2)) rfl rfl (Nat.lt_trans (kx_47 k17).1 (by decide)) (kx_47 k17).2 (by decide) rfl rfl rfl (jval_ref rfl k18.1) ?_
            refine jr.iload_n rfl rfl ?_
            refine jr.iload_n rfl rfl ?_
            refine jr.iast (i := i) (x := r12) rfl (Nat.lt_trans (kx_48 k18.2).1 (by decide)) (kx_48 k18.2).2 (by decide) (by omega) (by omega) ?_
            refine jr.iinc (ls' := [_, _, _, _]) rfl rfl (nlt rfl) rfl ?_
            refine jr.goto rfl rfl ?_
            refine jr.pick (ls := [_, _]) [0, 3] rfl rfl ?_
            exact ih (nM - 1) (by omega) ((ju (ju (ju M 413 0 7) 413 1 v11) (((v3.toNat) + 2)) i r12)) (i + 1) (CI.u (CI.u (CI.u hC_M (i := 0) (show kd 413 = 44 from rfl) (show (-2147483648 : Int) ≤ _ ∧ _ ≤ (2147483647 : Int) from by omega) rfl) (i := 1) (show kd 413 = 44 from rfl) (show (-2147483648 : Int) ≤ _ ∧ _ ≤ (2147483647 : Int) from by omega) rfl) (i := i) k18.2 (show (-2147483648 : Int) ≤ _ ∧ _ ≤ (2147483647 : Int) from by omega) rfl) (FR.o (FR.o (FR.o ht_M (show kd 413 = 44 from rfl) rfl) (show kd 413 = 44 from rfl) rfl) k18.2 rfl) (by omega) (by have hq0 : (ju (ju (ju M 413 0 7) 413 1 v11) (((v3.toNat) + 2)) i r12) 413 3 = v1 := ((ju_c _ _ (kd_ne (by rw [(show kd 413 = 44 from rfl), k18.2]; decide))).trans ((ju_i _ _ (zne (by decide))).trans ((ju_i _ _ (zne (by decide))).trans e1))); omega) (MP.w (MP.n (MP.n hy1 hC_M (show kd 413 = 44 from rfl) (by decide) (Or.inl (by decide))) (CI.u hC_M (i := 0) (show kd 413 = 44 from rfl) (show (-2147483648 : Int) ≤ _ ∧ _ ≤ (2147483647 : Int) from by omega) rfl) (show kd 413 = 44 from rfl) (by decide) (Or.inl (by decide))) (CI.u (CI.u hC_M (i := 0) (show kd 413 = 44 from rfl) (show (-2147483648 : Int) ≤ _ ∧ _ ≤ (2147483647 : Int) from by omega) rfl) (i := 1) (show kd 413 = 44 from rfl) (show (-2147483648 : Int) ≤ _ ∧ _ ≤ (2147483647 : Int) from by omega) rfl) ((ju_i _ _ (zne (by decide))).trans ((ju_i _ _ (zne (by decide))).trans e3)) ⟨by omega, by omega⟩) (JR.f (by have hq : (ju (ju (ju M 413 0 7) 413 1 v11) (((v3.toNat) + 2)) i r12) 413 0 = 7 := ((ju_c _ _ (kd_ne (by rw [(show kd 413 = 44 from rfl), k18.2]; decide))).trans ((ju_i _ _ (zne (by decide))).trans (ju_same _ _ _ _))); omega)) (by omega)
        · refine jr.iload_n rfl rfl ?_
          refine jr.bipush rfl (jbp _ (nlt rfl)) ?_
          refine jr.icmp_ne rfl rfl (by first | (refine rgb (by assumption) ?_; exact rfl) | omega) (rgl rfl) (fun h38 => ?_) (fun h38 => ?_)
          · refine jr.iinc (ls' := [_, _, _]) rfl rfl (nlt rfl) rfl ?_
            refine jr.goto rfl rfl ?_
            refine jr.pick (ls := [_, _]) [0, 2] rfl rfl ?_
            exact ih (nM - 1) (by omega) M (i + 1) hC_M ht_M (by omega) (by have hq0 : M 413 3 = v1 := e1; omega) hy1 (JR.n (o := r8) hy2 e3 (by omega) (by omega)) (by omega)
          · refine jr.aload_n rfl rfl ?_
            refine jr.aload_n rfl rfl ?_
            have k19 : kd (v3).toNat = 47 := ((congrArg (fun z : Int => kd z.toNat) (show M 413 2 = v3 from e3)).symm.trans (CI.x hC_M (show kd 413 = 44 from rfl) 2 rfl (by decide)))
            refine jr.getf (i := 2) (x := v3) (v := .ref (v3.toNat)) rfl rfl (nlt rfl) rfl (nlt rfl) rfl rfl e3 rfl ?_
            have k20 := kf_47_1 k19
            refine jr.getf (i := 1) (v := .ref ((v3.toNat) + 2)) rfl rfl (Nat.lt_trans (kx_47 k19).1 (by decide)) (kx_47 k19).2 (by decide) rfl rfl rfl (jval_ref rfl k20.1) ?_
            refine jr.iload_n rfl rfl ?_
            obtain ⟨v21, e21⟩ : ∃ z_, M (((v3.toNat) + 2)) i = z_ := ⟨_, rfl⟩
            have b21 : (-2147483648) ≤ v21 ∧ v21 ≤ 2147483647 := by rw [← e21]; exact (CI.r hC_M k20.2 (by decide) i)
            refine jr.iald (i := i) (x := v21) rfl (Nat.lt_trans (kx_48 k20.2).1 (by decide)) (kx_48 k20.2).2 (by decide) (by omega) (by omega) e21 ?_
            refine jr_v rfl rfl (Or.inl rfl) rfl rfl (nlt rfl) rfl ⟨rfl, Nat.le_of_ble_eq_true rfl, Nat.le_of_ble_eq_true rfl⟩ rfl (jc.deep (c_Parser_chainNamed hC_M (by omega) (by have hq0 : M 413 3 = v1 := e1; omega) (fun r22 z22  => ?_)) (Nat.le_of_ble_eq_true rfl))
            refine jr.istore_n (ls' := [_, _, _, _]) rfl (nlt rfl) rfl ?_
            refine jr.iload_n rfl rfl ?_
            refine jr.iconst rfl ?_
            refine jr.icmp_ne rfl rfl (by first | (refine rgb (by assumption) ?_; exact rfl) | omega) (rgl rfl) (fun h57 => ?_) (fun h57 => ?_)
            · have sx57 : (0 : Int) ≤ r22 := by omega
              clear h57
              refine jr.aload_n rfl rfl ?_
              have k23 : kd (v3).toNat = 47 := ((congrArg (fun z : Int => kd z.toNat) (show M 413 2 = v3 from e3)).symm.trans (CI.x hC_M (show kd 413 = 44 from rfl) 2 rfl (by decide)))
              refine jr.getf (i := 2) (x := v3) (v := .ref (v3.toNat)) rfl rfl (nlt rfl) rfl (nlt rfl) rfl rfl e3 rfl ?_
              have k24 := kf_47_1 k23
              refine jr.getf (i := 1) (v := .ref ((v3.toNat) + 2)) rfl rfl (Nat.lt_trans (kx_47 k23).1 (by decide)) (kx_47 k23).2 (by decide) rfl rfl rfl (jval_ref rfl k24.1) ?_
              refine jr.iload_n rfl rfl ?_
              refine jr.iload_n rfl rfl ?_
              refine jr.iast (i := i) (x := r22) rfl (Nat.lt_trans (kx_48 k24.2).1 (by decide)) (kx_48 k24.2).2 (by decide) (by omega) (by omega) ?_
              refine jr.iinc (ls' := [_, _, _, _]) rfl rfl (nlt rfl) rfl ?_
              refine jr.goto rfl rfl ?_
              refine jr.pick (ls := [_, _]) [0, 3] rfl rfl ?_
              exact ih (nM - 1) (by omega) ((ju M (((v3.toNat) + 2)) i r22)) (i + 1) (CI.u hC_M (i := i) k24.2 (show (-2147483648 : Int) ≤ _ ∧ _ ≤ (2147483647 : Int) from by omega) rfl) (FR.o ht_M k24.2 rfl) (by omega) (by have hq0 : (ju M (((v3.toNat) + 2)) i r22) 413 3 = v1 := ((ju_c _ _ (kd_ne (by rw [(show kd 413 = 44 from rfl), k24.2]; decide))).trans e1); omega) (MP.w hy1 hC_M e3 ⟨by omega, by omega⟩) (JR.w hy2 hC_M e3 (by omega)) (by omega)
            · refine jr.aload_n rfl rfl ?_
              refine jr.bipush rfl (jbp _ (nlt rfl)) ?_
              refine jr.putf (i := 0) (x := 7) rfl rfl (nlt rfl) rfl (nlt rfl) rfl rfl rfl rfl rfl ?_
              refine jr.aload_n rfl rfl ?_
              refine jr.aload_n rfl rfl ?_
              have k25 : kd (v3).toNat = 47 := ((congrArg (fun z : Int => kd z.toNat) (show (ju M 413 0 7) 413 2 = v3 from ((ju_i _ _ (zne (by decide))).trans e3))).symm.trans (CI.x (CI.u hC_M (i := 0) (show kd 413 = 44 from rfl) (show (-2147483648 : Int) ≤ _ ∧ _ ≤ (2147483647 : Int) from by omega) rfl) (show kd 413 = 44 from rfl) 2 rfl (by decide)))
              refine jr.getf (i := 2) (x := v3) (v := .ref (v3.toNat)) rfl rfl (nlt rfl) rfl (nlt rfl) rfl rfl ((ju_i _ _ (zne (by decide))).trans e3) rfl ?_
              have k26 := kf_47_1 k25
              refine jr.getf (i := 1) (v := .ref ((v3.toNat) + 2)) rfl rfl (Nat.lt_trans (kx_47 k25).1 (by decide)) (kx_47 k25).2 (by decide) rfl rfl rfl (jval_ref rfl k26.1) ?_
              refine jr.iload_n rfl rfl ?_
              refine jr.iald (i := i) (x := v21) rfl (Nat.lt_trans (kx_48 k26.2).1 (by decide)) (kx_48 k26.2).2 (by decide) (by omega) (by omega) ((ju_c _ _ (kd_ne (by rw [k26.2, (show kd 413 = 44 from rfl)]; decide))).trans e21) ?_
              refine jr.putf (i := 1) (x := v21) rfl rfl (nlt rfl) rfl (nlt rfl) rfl rfl rfl rfl rfl ?_
              refine jr.aload_n rfl rfl ?_
              have k27 : kd (v3).toNat = 47 := ((congrArg (fun z : Int => kd z.toNat) (show (ju (ju M 413 0 7) 413 1 v21) 413 2 = v3 from ((ju_i _ _ (zne (by decide))).trans ((ju_i _ _ (zne (by decide))).trans e3)))).symm.trans (CI.x (CI.u (CI.u hC_M (i := 0) (show kd 413 = 44 from rfl) (show (-2147483648 : Int) ≤ _ ∧ _ ≤ (2147483647 : Int) from by omega) rfl) (i := 1) (show kd 413 = 44 from rfl) (show (-2147483648 : Int) ≤ _ ∧ _ ≤ (2147483647 : Int) from by omega) rfl) (show kd 413 = 44 from rfl) 2 rfl (by decide)))
              refine jr.getf (i := 2) (x := v3) (v := .ref (v3.toNat)) rfl rfl (nlt rfl) rfl (nlt rfl) rfl rfl ((ju_i _ _ (zne (by decide))).trans ((ju_i _ _ (zne (by decide))).trans e3)) rfl ?_
              have k28 := kf_47_1 k27
              refine jr.getf (i := 1) (v := .ref ((v3.toNat) + 2)) rfl rfl (Nat.lt_trans (kx_47 k27).1 (by decide)) (kx_47 k27).2 (by decide) rfl rfl rfl (jval_ref rfl k28.1) ?_
              refine jr.iload_n rfl rfl ?_
              refine jr.iload_n rfl rfl ?_
              refine jr.iast (i := i) (x := r22) rfl (Nat.lt_trans (kx_48 k28.2).1 (by decide)) (kx_48 k28.2).2 (by decide) (by omega) (by omega) ?_
              refine jr.iinc (ls' := [_, _, _, _]) rfl rfl (nlt rfl) rfl ?_
              refine jr.goto rfl rfl ?_
              refine jr.pick (ls := [_, _]) [0, 3] rfl rfl ?_
              exact ih (nM - 1) (by omega) ((ju (ju (ju M 413 0 7) 413 1 v21) (((v3.toNat) + 2)) i r22)) (i + 1) (CI.u (CI.u (CI.u hC_M (i := 0) (show kd 413 = 44 from rfl) (show (-2147483648 : Int) ≤ _ ∧ _ ≤ (2147483647 : Int) from by omega) rfl) (i := 1) (show kd 413 = 44 from rfl) (show (-2147483648 : Int) ≤ _ ∧ _ ≤ (2147483647 : Int) from by omega) rfl) (i := i) k28.2 (show (-2147483648 : Int) ≤ _ ∧ _ ≤ (2147483647 : Int) from by omega) rfl) (FR.o (FR.o (FR.o ht_M (show kd 413 = 44 from rfl) rfl) (show kd 413 = 44 from rfl) rfl) k28.2 rfl) (by omega) (by have hq0 : (ju (ju (ju M 413 0 7) 413 1 v21) (((v3.toNat) + 2)) i r22) 413 3 = v1 := ((ju_c _ _ (kd_ne (by rw [(show kd 413 = 44 from rfl), k28.2]; decide))).trans ((ju_i _ _ (zne (by decide))).trans ((ju_i _ _ (zne (by decide))).trans e1))); omega) (MP.w (MP.n (MP.n hy1 hC_M (show kd 413 = 44 from rfl) (by decide) (Or.inl (by decide))) (CI.u hC_M (i := 0) (show kd 413 = 44 from rfl) (show (-2147483648 : Int) ≤ _ ∧ _ ≤ (2147483647 : Int) from by omega) rfl) (show kd 413 = 44 from rfl) (by decide) (Or.inl (by decide))) (CI.u (CI.u hC_M (i := 0) (show kd 413 = 44 from rfl) (show (-2147483648 : Int) ≤ _ ∧ _ ≤ (2147483647 : Int) from by omega) rfl) (i := 1) (show kd 413 = 44 from rfl) (show (-2147483648 : Int) ≤ _ ∧ _ ≤ (2147483647 : Int) from by omega) rfl) ((ju_i _ _ (zne (by decide))).trans ((ju_i _ _ (zne (by decide))).trans e3)) ⟨by omega, by omega⟩) (JR.f (by have hq : (ju (ju (ju M 413 0 7) 413 1 v21) (((v3.toNat) + 2)) i r22) 413 0 = 7 := ((ju_c _ _ (kd_ne (by rw [(show kd 413 = 44 from rfl), k28.2]; decide))).trans ((ju_i _ _ (zne (by decide))).trans (ju_same _ _ _ _))); omega)) (by omega)
theorem c_Parser_resolveJumps {A : Nat → Option (Nat × (Nat → Int32))} [HA A] {Q : Option Value → jm → Prop} {G : Nat → Int → Int} {T : jm} {M : jm} (hC_M : CI M) (ht_M : FR W_c_Parser_resolveJumps T M) (p0 : 1 ≤ M 413 3 ∧ M 413 3 ≤ 1) (p1 : MP M G) (q : ∀ (M' : jm), CI M' → FR W_c_Parser_resolveJumps T M' → (MP M' G) → (PR M') → Q none M') : jc A 4 208 [.ref (413)] M Q := by
  refine jc_of (m := xm_208) rfl (Nat.le_of_ble_eq_true rfl) rfl ?_
  obtain ⟨v1, e1⟩ : ∃ z_, M 413 3 = z_ := ⟨_, rfl⟩
  have b1 : 1 ≤ v1 ∧ v1 ≤ 419 := by rw [← e1]; exact (CI.r hC_M (show kd 413 = 44 from rfl) (by decide) 3)
  have b2 : 1 ≤ v1 ∧ v1 ≤ 1 := by rw [← e1]; exact p0
  refine jr.iconst rfl ?_
  refine jr.istore_n (ls' := [_, _]) rfl (nlt rfl) rfl ?_
  refine jr.pick (ls := [_, _]) [0, 1] rfl rfl ?_
  exact c_Parser_resolveJumps_L2  q 932 M 0 hC_M ht_M (by omega) (by have hq0 : M 413 3 = v1 := e1; omega) p1 (JR.z _) (by omega)
end
section
/-! ===== bytes of numbers ===== -/
theorem j_and_m (k : Nat) (hk : k < 32) (x : Int) : j_and x ((2 ^ k - 1 : Nat) : Int) = x % (2 ^ k : Nat) := by
  have hp : 0 < 2 ^ k := Nat.two_pow_pos k
  have hp2 : 2 ^ k ≤ 2 ^ 31 := Nat.pow_le_pow_right (by decide) (by omega)
  have hp3 : 2 ^ 31 = 2147483648 := rfl
  unfold j_and
  have hN : (Int32.ofInt x &&& Int32.ofInt ((2 ^ k - 1 : Nat) : Int)).toBitVec.toNat = (x % 4294967296).toNat % 2 ^ k := by
    rw [Int32.toBitVec_and, BitVec.toNat_and, jb_tn, jb_tn]
    rw [show (((2 ^ k - 1 : Nat) : Int) % 4294967296).toNat = 2 ^ k - 1 by omega]
    exact Nat.and_two_pow_sub_one_eq_mod _ k
  have hl : (x % 4294967296).toNat % 2 ^ k < 2 ^ k := Nat.mod_lt _ hp
  have e2 : x % (2 ^ k : Nat) = (((x % 4294967296).toNat % 2 ^ k : Nat) : Int) := by
    have h1 : (((x % 4294967296).toNat % 2 ^ k : Nat) : Int) = (x % 4294967296) % (2 ^ k : Nat) := by
      rw [Int.natCast_emod, Int.toNat_of_nonneg (Int.emod_nonneg _ (by decide))]
    rw [h1]
    refine (Int.emod_emod_of_dvd x ?_).symm
    show ((2 ^ k : Nat) : Int) ∣ ((2 ^ 32 : Nat) : Int)
    exact Int.natCast_dvd_natCast.mpr (Nat.pow_dvd_pow 2 (by omega))
  rw [e2, jb_ti, hN]
  split <;> omega
theorem j_and_255 (x : Int) : j_and x 255 = x % 256 := j_and_m 8 (by decide) x
theorem j_w_mod (y : Int) : j_w y % 256 = y % 256 := by
  unfold j_w
  rw [jb_ti, jb_tn]
  split <;> omega
theorem jbl_su : ∀ n, n < 64 → (((Int32.ofInt (n : Nat)).toInt64.toUInt64 &&& Int64.toUInt64 63).toBitVec % 64).toNat = n := by decide +kernel
theorem jl_ushr_tn (x : Int) (k : Nat) (hk : k < 64) : jl_ushr x (k : Nat) % 256 = (((x % 18446744073709551616).toNat / 2 ^ k : Nat) : Int) % 256 := by
  unfold jl_ushr
  have hN : ((Int64.ofInt x).toUInt64 >>> ((Int32.ofInt (k : Nat)).toInt64.toUInt64 &&& Int64.toUInt64 63)).toInt64.toBitVec.toNat = (x % 18446744073709551616).toNat / 2 ^ k := by
    show ((Int64.ofInt x).toUInt64 >>> ((Int32.ofInt (k : Nat)).toInt64.toUInt64 &&& Int64.toUInt64 63)).toBitVec.toNat = _
    rw [UInt64.toBitVec_shiftRight]
    show ((Int64.ofInt x).toBitVec >>> ((((Int32.ofInt (k : Nat)).toInt64.toUInt64 &&& Int64.toUInt64 63).toBitVec % 64))).toNat = _
    rw [BitVec.ushiftRight_eq', BitVec.toNat_ushiftRight, jbl_su k hk, jbl_tn, Nat.shiftRight_eq_div_pow]
  rw [jbl_ti, hN]
  split <;> omega
/-- byte i of a number, the lowest first -/
noncomputable def bt (n i : Int) : Int := if i = 0 then n % 256 else if i = 1 then n / 256 % 256 else if i = 2 then n / 65536 % 256 else if i = 3 then n / 16777216 % 256 else if i = 4 then n / 4294967296 % 256 else if i = 5 then n / 1099511627776 % 256 else if i = 6 then n / 281474976710656 % 256 else n / 72057594037927936 % 256
theorem bt_r (n i : Int) : 0 ≤ bt n i ∧ bt n i ≤ 255 := by
  unfold bt
  repeat' split
  all_goals omega
theorem bt_cl {n i : Int} (h : 0 ≤ i ∧ i ≤ 7) : j_and (j_w (jl_ushr n (8 * i))) 255 = bt n i := by
  rw [j_and_255, j_w_mod]
  unfold bt
  rcases (show i = 0 ∨ i = 1 ∨ i = 2 ∨ i = 3 ∨ i = 4 ∨ i = 5 ∨ i = 6 ∨ i = 7 by omega) with rfl | rfl | rfl | rfl | rfl | rfl | rfl | rfl
  · rw [show (8 * (0 : Int)) = ((0 : Nat) : Int) from rfl, jl_ushr_tn n 0 (by decide)]; simp only [if_true]; omega
  · rw [show (8 * (1 : Int)) = ((8 : Nat) : Int) from rfl, jl_ushr_tn n 8 (by decide)]; simp; omega
  · rw [show (8 * (2 : Int)) = ((16 : Nat) : Int) from rfl, jl_ushr_tn n 16 (by decide)]; simp; omega
  · rw [show (8 * (3 : Int)) = ((24 : Nat) : Int) from rfl, jl_ushr_tn n 24 (by decide)]; simp; omega
  · rw [show (8 * (4 : Int)) = ((32 : Nat) : Int) from rfl, jl_ushr_tn n 32 (by decide)]; simp; omega
  · rw [show (8 * (5 : Int)) = ((40 : Nat) : Int) from rfl, jl_ushr_tn n 40 (by decide)]; simp; omega
  · rw [show (8 * (6 : Int)) = ((48 : Nat) : Int) from rfl, jl_ushr_tn n 48 (by decide)]; simp; omega
  · rw [show (8 * (7 : Int)) = ((56 : Nat) : Int) from rfl, jl_ushr_tn n 56 (by decide)]; simp; omega
theorem j_ushr_tn (x : Int) (k : Nat) (hk : k < 32) : j_ushr x (k : Nat) % 256 = (((x % 4294967296).toNat / 2 ^ k : Nat) : Int) % 256 := by
  unfold j_ushr
  have hN : ((Int32.ofInt x).toUInt32 >>> ((Int32.ofInt (k : Nat)).toUInt32 &&& Int32.toUInt32 31)).toInt32.toBitVec.toNat = (x % 4294967296).toNat / 2 ^ k := by
    show ((Int32.ofInt x).toUInt32 >>> ((Int32.ofInt (k : Nat)).toUInt32 &&& Int32.toUInt32 31)).toBitVec.toNat = _
    rw [UInt32.toBitVec_shiftRight]
    show ((Int32.ofInt x).toBitVec >>> ((((Int32.ofInt (k : Nat)).toUInt32 &&& Int32.toUInt32 31).toBitVec % 32))).toNat = _
    rw [BitVec.ushiftRight_eq', BitVec.toNat_ushiftRight, jb_su k hk, jb_tn, Nat.shiftRight_eq_div_pow]
  rw [jb_ti, hN]
  split <;> omega
theorem bt_rf {n k : Int} (h : k = 0 ∨ k = 8 ∨ k = 16 ∨ k = 24) : j_and (j_ushr n k) 255 = bt n (k / 8) := by
  rw [j_and_255]
  unfold bt
  rcases h with rfl | rfl | rfl | rfl
  · rw [show (0 : Int) = ((0 : Nat) : Int) from rfl, j_ushr_tn n 0 (by decide)]; simp; omega
  · rw [show (8 : Int) = ((8 : Nat) : Int) from rfl, j_ushr_tn n 8 (by decide)]; simp; omega
  · rw [show (16 : Int) = ((16 : Nat) : Int) from rfl, j_ushr_tn n 16 (by decide)]; simp; omega
  · rw [show (24 : Int) = ((24 : Nat) : Int) from rfl, j_ushr_tn n 24 (by decide)]; simp; omega
end
section
/-! ===== exact effects: rows of bytes ===== -/
noncomputable def pnf (f : Int → Int) (y z n i len : Int) : Int → Int := fun k => if y + z - i ≤ k ∧ k < y + z ∧ 0 ≤ k ∧ k < len then bt n (y + z - 1 - k) else f k
/-- putNumber has laid i bytes -/
noncomputable def PN (T M : jm) (x : Nat) (y z n i len : Int) : Prop := (∀ k : Int, M x k = pnf (T x) y z n i len k) ∧ ∀ (b : Nat) (k : Int), b ≠ x → M b k = T b k
theorem PN.z {T M : jm} {x : Nat} {y z n len : Int} (h : T = M) : PN T M x y z n 0 len := by
  subst h
  refine ⟨fun k => ?_, fun _ _ _ => rfl⟩
  unfold pnf
  rw [if_neg (by omega)]
theorem PN.s {T M : jm} {x : Nat} {y z n i len : Int} (h : PN T M x y z n i len) (ho : y + z - 1 - i < 0 ∨ len ≤ y + z - 1 - i) : PN T M x y z n (i + 1) len := by
  refine ⟨fun k => ?_, h.2⟩
  rw [h.1 k]
  unfold pnf
  by_cases q : y + z - i ≤ k ∧ k < y + z ∧ 0 ≤ k ∧ k < len
  · rw [if_pos q, if_pos (by omega)]
  · rw [if_neg q, if_neg (by omega)]
theorem PN.w {T M : jm} {x : Nat} {y z n i len t v : Int} (h : PN T M x y z n i len) (ht : t = y + z - 1 - i) (hi : 0 ≤ i) (h0 : 0 ≤ t ∧ t < len) (hv : v = bt n i) : PN T (ju M x t v) x y z n (i + 1) len := by
  subst ht
  refine ⟨fun k => ?_, fun b k hb => by rw [ju_c M v hb]; exact h.2 b k hb⟩
  by_cases q : k = y + z - 1 - i
  · subst q
    rw [ju_same, hv]
    unfold pnf
    rw [if_pos (by omega), show y + z - 1 - (y + z - 1 - i) = i by omega]
  · rw [ju_i M v q, h.1 k]
    unfold pnf
    by_cases q2 : y + z - i ≤ k ∧ k < y + z ∧ 0 ≤ k ∧ k < len
    · rw [if_pos q2, if_pos (by omega)]
    · rw [if_neg q2, if_neg (by omega)]
noncomputable def W_c_PacketWall_putNumber_pf : List (Nat × Nat) := [(34, 1000)]
theorem c_PacketWall_putNumber_pf_L3 {A : Nat → Option (Nat × (Nat → Int32))} {Q : Option Value → jm → Prop} {T : jm} {x : Nat} (k_x : kd x = 34) {u : Int} {y : Int} {z : Int} (q : ∀ (M' : jm), CI M' → FR W_c_PacketWall_putNumber_pf T M' → (PN T M' x y z u z 400) → Q none M') : ∀ (nM : Nat) (M : jm) (i : Int), CI M → FR W_c_PacketWall_putNumber_pf T M → (-100000) ≤ y ∧ y ≤ 100000 → 0 ≤ z ∧ z ≤ 8 → (-9223372036854775808) ≤ u ∧ u ≤ 9223372036854775807 → 0 ≤ i ∧ i ≤ 8 → (PN T M x y z u i 400) → (i ≤ z) → 8 - i ≤ nM → jr A 0 xm_53 3 [(1, .int (Int32.ofInt (y))), (2, .int (Int32.ofInt (z))), (3, .long (Int64.ofInt (u))), (5, .int (Int32.ofInt (i))), (0, .ref (x))] [] M Q := by
  intro nM
  induction nM using Nat.strongRecOn with
  | ind nM ih =>
    intro M i hC_M ht_M h_y h_z h_u h_i hy0 hy1 hm
    refine jr.iload rfl rfl ?_
    refine jr.iload_n rfl rfl ?_
    refine jr.icmp_ge rfl rfl (by first | (refine rgb (by assumption) ?_; exact rfl) | omega) (by first | (refine rgb (by assumption) ?_; exact rfl) | omega) (fun h6 => ?_) (fun h6 => ?_)
    · exact jr.vreturn rfl rfl (q _ hC_M ht_M  (by have hq := hy0; rw [show i = z from by omega] at hq; exact hq))
    · refine jr.iload_n rfl rfl ?_
      refine jr.iload_n rfl rfl ?_
      refine jr.iadd rfl ?_
      refine jr.iconst rfl ?_
      refine jr.isub rfl ?_
      refine jr.iload rfl rfl ?_
      refine jr.isub rfl ?_
      refine jr.istore (ls' := [_, _, _, _, _, _]) rfl (nlt rfl) rfl ?_
      refine jr.iload rfl rfl ?_
      refine jr.if_lt rfl rfl (by first | (refine rgb (by assumption) ?_; exact rfl) | omega) (fun h21 => ?_) (fun h21 => ?_)
      · refine jr.iinc (ls' := [_, _, _, _, _, _]) rfl rfl (nlt rfl) rfl ?_
        refine jr.goto rfl rfl ?_
        refine jr.pick (ls := [_, _, _, _, _]) [2, 3, 4, 0, 5] rfl rfl ?_
        exact ih (nM - 1) (by omega) M (i + 1) hC_M ht_M (by omega) (by omega) (by omega) (by omega) (PN.s hy0 (by omega)) (by omega) (by omega)
      · refine jr.iload rfl rfl ?_
        refine jr.aload_n rfl rfl ?_
        refine jr.alen0 (x := 400) rfl (Nat.lt_trans (kx_34 k_x).1 (by decide)) (kx_34 k_x).2 rfl ?_
        refine jr.icmp_ge rfl rfl (by first | (refine rgb (by assumption) ?_; exact rfl) | omega) (by first | (refine rgb (by assumption) ?_; exact rfl) | omega) (fun h28 => ?_) (fun h28 => ?_)
        · refine jr.iinc (ls' := [_, _, _, _, _, _]) rfl rfl (nlt rfl) rfl ?_
          refine jr.goto rfl rfl ?_
          refine jr.pick (ls := [_, _, _, _, _]) [2, 3, 4, 0, 5] rfl rfl ?_
          exact ih (nM - 1) (by omega) M (i + 1) hC_M ht_M (by omega) (by omega) (by omega) (by omega) (PN.s hy0 (by omega)) (by omega) (by omega)
        · refine jr.aload_n rfl rfl ?_
          refine jr.iload rfl rfl ?_
          refine jr.lload_n rfl rfl ?_
          refine jr.bipush rfl (jbp _ (nlt rfl)) ?_
          refine jr.iload rfl rfl ?_
          refine jr.imul rfl ?_
          refine jr.lushr rfl ?_
          refine jr.l2i rfl ?_
          refine jr.iw (j_w (jl_ushr u (8 * i))) (j_w_eq _) ?_
          have b1 : -2147483648 ≤ j_w (jl_ushr u (8 * i)) ∧ j_w (jl_ushr u (8 * i)) ≤ 2147483647 := jb_any _
          refine jr.sipush rfl (by decide) ?_
          refine jr.iand rfl ?_
          have b2 : j_and (j_w (jl_ushr u (8 * i))) 255 = bt u i ∧ 0 ≤ j_and (j_w (jl_ushr u (8 * i))) 255 ∧ j_and (j_w (jl_ushr u (8 * i))) 255 ≤ 255 := ⟨bt_cl (by omega), by rw [bt_cl (by omega)]; exact bt_r _ _⟩
          generalize j_and (j_w (jl_ushr u (8 * i))) 255 = v2 at b2 ⊢
          refine jr.iast (i := (((y + z) - 1) - i)) (x := v2) rfl (Nat.lt_trans (kx_34 k_x).1 (by decide)) (kx_34 k_x).2 (by decide) (by omega) (by omega) ?_
          refine jr.iinc (ls' := [_, _, _, _, _, _]) rfl rfl (nlt rfl) rfl ?_
          refine jr.goto rfl rfl ?_
          refine jr.pick (ls := [_, _, _, _, _]) [2, 3, 4, 0, 5] rfl rfl ?_
          exact ih (nM - 1) (by omega) ((ju M x (((y + z) - 1) - i) v2)) (i + 1) (CI.u hC_M (i := (((y + z) - 1) - i)) k_x (show (-1 : Int) ≤ _ ∧ _ ≤ (255 : Int) from by omega) rfl) (FR.o ht_M k_x rfl) (by omega) (by omega) (by omega) (by omega) (PN.w hy0 (by omega) (by omega) (by omega) (by omega)) (by omega) (by omega)
theorem c_PacketWall_putNumber_pf {A : Nat → Option (Nat × (Nat → Int32))} {Q : Option Value → jm → Prop} {T : jm} {M : jm} (hC_M : CI M) (ht_M : FR W_c_PacketWall_putNumber_pf T M) {x : Nat} (k_x : kd x = 34) {y : Int} (h_y : (-100000) ≤ y ∧ y ≤ 100000) {z : Int} (h_z : 0 ≤ z ∧ z ≤ 8) {u : Int} (h_u : (-9223372036854775808) ≤ u ∧ u ≤ 9223372036854775807) (p0 : T = M) (q : ∀ (M' : jm), CI M' → FR W_c_PacketWall_putNumber_pf T M' → (PN T M' x y z u z 400) → Q none M') : jc A 1 53 [.ref (x), .int (Int32.ofInt (y)), .int (Int32.ofInt (z)), .long (Int64.ofInt (u))] M Q := by
  refine jc_of (m := xm_53) rfl (Nat.le_of_ble_eq_true rfl) rfl ?_
  refine jr.iconst rfl ?_
  refine jr.istore (ls' := [_, _, _, _, _]) rfl (nlt rfl) rfl ?_
  refine jr.pick (ls := [_, _, _, _, _]) [2, 3, 4, 0, 1] rfl rfl ?_
  exact c_PacketWall_putNumber_pf_L3 k_x q 8 M 0 hC_M ht_M (by omega) (by omega) (by omega) (by omega) (PN.z p0) (by omega) (by omega)
noncomputable def W_c_PacketWall_putNumber_tf : List (Nat × Nat) := [(43, 1000)]
theorem c_PacketWall_putNumber_tf_L3 {A : Nat → Option (Nat × (Nat → Int32))} {Q : Option Value → jm → Prop} {T : jm} {x : Nat} (k_x : kd x = 43) {u : Int} {y : Int} {z : Int} (q : ∀ (M' : jm), CI M' → FR W_c_PacketWall_putNumber_tf T M' → (PN T M' x y z u z 1600) → Q none M') : ∀ (nM : Nat) (M : jm) (i : Int), CI M → FR W_c_PacketWall_putNumber_tf T M → (-100000) ≤ y ∧ y ≤ 100000 → 0 ≤ z ∧ z ≤ 8 → (-9223372036854775808) ≤ u ∧ u ≤ 9223372036854775807 → 0 ≤ i ∧ i ≤ 8 → (PN T M x y z u i 1600) → (i ≤ z) → 8 - i ≤ nM → jr A 0 xm_53 3 [(1, .int (Int32.ofInt (y))), (2, .int (Int32.ofInt (z))), (3, .long (Int64.ofInt (u))), (5, .int (Int32.ofInt (i))), (0, .ref (x))] [] M Q := by
  intro nM
  induction nM using Nat.strongRecOn with
  | ind nM ih =>
    intro M i hC_M ht_M h_y h_z h_u h_i hy0 hy1 hm
    refine jr.iload rfl rfl ?_
    refine jr.iload_n rfl rfl ?_
    refine jr.icmp_ge rfl rfl (by first | (refine rgb (by assumption) ?_; exact rfl) | omega) (by first | (refine rgb (by assumption) ?_; exact rfl) | omega) (fun h6 => ?_) (fun h6 => ?_)
    · exact jr.vreturn rfl rfl (q _ hC_M ht_M  (by have hq := hy0; rw [show i = z from by omega] at hq; exact hq))
    · refine jr.iload_n rfl rfl ?_
      refine jr.iload_n rfl rfl ?_
      refine jr.iadd rfl ?_
      refine jr.iconst rfl ?_
      refine jr.isub rfl ?_
      refine jr.iload rfl rfl ?_
      refine jr.isub rfl ?_
      refine jr.istore (ls' := [_, _, _, _, _, _]) rfl (nlt rfl) rfl ?_
      refine jr.iload rfl rfl ?_
      refine jr.if_lt rfl rfl (by first | (refine rgb (by assumption) ?_; exact rfl) | omega) (fun h21 => ?_) (fun h21 => ?_)
      · refine jr.iinc (ls' := [_, _, _, _, _, _]) rfl rfl (nlt rfl) rfl ?_
        refine jr.goto rfl rfl ?_
        refine jr.pick (ls := [_, _, _, _, _]) [2, 3, 4, 0, 5] rfl rfl ?_
        exact ih (nM - 1) (by omega) M (i + 1) hC_M ht_M (by omega) (by omega) (by omega) (by omega) (PN.s hy0 (by omega)) (by omega) (by omega)
      · refine jr.iload rfl rfl ?_
        refine jr.aload_n rfl rfl ?_
        refine jr.alen0 (x := 1600) rfl (Nat.lt_trans (kx_43 k_x).1 (by decide)) (kx_43 k_x).2 rfl ?_
        refine jr.icmp_ge rfl rfl (by first | (refine rgb (by assumption) ?_; exact rfl) | omega) (by first | (refine rgb (by assumption) ?_; exact rfl) | omega) (fun h28 => ?_) (fun h28 => ?_)
        · refine jr.iinc (ls' := [_, _, _, _, _, _]) rfl rfl (nlt rfl) rfl ?_
          refine jr.goto rfl rfl ?_
          refine jr.pick (ls := [_, _, _, _, _]) [2, 3, 4, 0, 5] rfl rfl ?_
          exact ih (nM - 1) (by omega) M (i + 1) hC_M ht_M (by omega) (by omega) (by omega) (by omega) (PN.s hy0 (by omega)) (by omega) (by omega)
        · refine jr.aload_n rfl rfl ?_
          refine jr.iload rfl rfl ?_
          refine jr.lload_n rfl rfl ?_
          refine jr.bipush rfl (jbp _ (nlt rfl)) ?_
          refine jr.iload rfl rfl ?_
          refine jr.imul rfl ?_
          refine jr.lushr rfl ?_
          refine jr.l2i rfl ?_
          refine jr.iw (j_w (jl_ushr u (8 * i))) (j_w_eq _) ?_
          have b1 : -2147483648 ≤ j_w (jl_ushr u (8 * i)) ∧ j_w (jl_ushr u (8 * i)) ≤ 2147483647 := jb_any _
          refine jr.sipush rfl (by decide) ?_
          refine jr.iand rfl ?_
          have b2 : j_and (j_w (jl_ushr u (8 * i))) 255 = bt u i ∧ 0 ≤ j_and (j_w (jl_ushr u (8 * i))) 255 ∧ j_and (j_w (jl_ushr u (8 * i))) 255 ≤ 255 := ⟨bt_cl (by omega), by rw [bt_cl (by omega)]; exact bt_r _ _⟩
          generalize j_and (j_w (jl_ushr u (8 * i))) 255 = v2 at b2 ⊢
          refine jr.iast (i := (((y + z) - 1) - i)) (x := v2) rfl (Nat.lt_trans (kx_43 k_x).1 (by decide)) (kx_43 k_x).2 (by decide) (by omega) (by omega) ?_
          refine jr.iinc (ls' := [_, _, _, _, _, _]) rfl rfl (nlt rfl) rfl ?_
          refine jr.goto rfl rfl ?_
          refine jr.pick (ls := [_, _, _, _, _]) [2, 3, 4, 0, 5] rfl rfl ?_
          exact ih (nM - 1) (by omega) ((ju M x (((y + z) - 1) - i) v2)) (i + 1) (CI.u hC_M (i := (((y + z) - 1) - i)) k_x (show (0 : Int) ≤ _ ∧ _ ≤ (255 : Int) from by omega) rfl) (FR.o ht_M k_x rfl) (by omega) (by omega) (by omega) (by omega) (PN.w hy0 (by omega) (by omega) (by omega) (by omega)) (by omega) (by omega)
theorem c_PacketWall_putNumber_tf {A : Nat → Option (Nat × (Nat → Int32))} {Q : Option Value → jm → Prop} {T : jm} {M : jm} (hC_M : CI M) (ht_M : FR W_c_PacketWall_putNumber_tf T M) {x : Nat} (k_x : kd x = 43) {y : Int} (h_y : (-100000) ≤ y ∧ y ≤ 100000) {z : Int} (h_z : 0 ≤ z ∧ z ≤ 8) {u : Int} (h_u : (-9223372036854775808) ≤ u ∧ u ≤ 9223372036854775807) (p0 : T = M) (q : ∀ (M' : jm), CI M' → FR W_c_PacketWall_putNumber_tf T M' → (PN T M' x y z u z 1600) → Q none M') : jc A 1 53 [.ref (x), .int (Int32.ofInt (y)), .int (Int32.ofInt (z)), .long (Int64.ofInt (u))] M Q := by
  refine jc_of (m := xm_53) rfl (Nat.le_of_ble_eq_true rfl) rfl ?_
  refine jr.iconst rfl ?_
  refine jr.istore (ls' := [_, _, _, _, _]) rfl (nlt rfl) rfl ?_
  refine jr.pick (ls := [_, _, _, _, _]) [2, 3, 4, 0, 1] rfl rfl ?_
  exact c_PacketWall_putNumber_tf_L3 k_x q 8 M 0 hC_M ht_M (by omega) (by omega) (by omega) (by omega) (PN.z p0) (by omega) (by omega)
/-- four bytes of a number, laid at S -/
noncomputable def t4 (f : Int → Int) (S v : Int) : Int → Int := fun k => if S ≤ k ∧ k < S + 4 then bt v (S + 3 - k) else f k
theorem PN.t4 {T M : jm} {S v : Int} (h : PN T M 1 S 4 v 4 1600) (h0 : 0 ≤ S ∧ S ≤ 1596) : M 1 = t4 (T 1) S v := by
  funext k
  rw [h.1 k]
  unfold pnf
  show _ = if S ≤ k ∧ k < S + 4 then bt v (S + 3 - k) else T 1 k
  by_cases q : S ≤ k ∧ k < S + 4
  · rw [if_pos (by omega), if_pos q, show S + 4 - 1 - k = S + 3 - k by omega]
  · rw [if_neg (by omega), if_neg q]
theorem t4_eq {f g : Int → Int} (h : f = g) (S v : Int) : t4 f S v = t4 g S v := by rw [h]
theorem ju1_row {M : jm} {a : Nat} {i v : Int} (h : (1 : Nat) ≠ a) : ju M a i v 1 = M 1 := funext (fun k => ju_c M v h)
noncomputable def W_c_PacketWall_feedFour_f : List (Nat × Nat) := [(35, 1), (43, 1000)]
theorem c_PacketWall_feedFour_f {A : Nat → Option (Nat × (Nat → Int32))} {Q : Option Value → jm → Prop} {T : jm} {M : jm} (hC_M : CI M) (ht_M : FR W_c_PacketWall_feedFour_f T M) {x : Int} (h_x : (-2147483648) ≤ x ∧ x ≤ 2147483647) {S : Int} (g_S : M 0 1 = S) (p0 : S ≤ 1596) (p1 : T = M) (q : ∀ (M' : jm), CI M' → FR W_c_PacketWall_feedFour_f T M' → (M' 0 1 = (S + 4)) → (M' 1 = t4 (T 1) S x) → Q none M') : jc A 2 41 [.ref (0), .int (Int32.ofInt (x))] M Q := by
  refine jc_of (m := xm_41) rfl (Nat.le_of_ble_eq_true rfl) rfl ?_
  have b_S : 0 ≤ S ∧ S ≤ 1600 := by rw [← g_S]; exact (CI.r hC_M (show kd 0 = 35 from rfl) (by decide) 1)
  refine jr.aload_n rfl rfl ?_
  refine jr.getf (i := 0) (v := .ref 1) rfl rfl (nlt rfl) rfl (nlt rfl) rfl rfl rfl rfl ?_
  refine jr.aload_n rfl rfl ?_
  refine jr.getf (i := 1) (x := S) (v := .int (Int32.ofInt (S))) rfl rfl (nlt rfl) rfl (nlt rfl) rfl rfl g_S rfl ?_
  refine jr.iconst rfl ?_
  refine jr.iload_n rfl rfl ?_
  refine jr.i2l rfl (by omega) ?_
  refine jr_s rfl rfl (Or.inl rfl) ⟨Nat.le_of_ble_eq_true rfl, Nat.le_of_ble_eq_true rfl⟩ rfl rfl (jc.deep (c_PacketWall_putNumber_tf hC_M (FR.rfl _ M) (show kd 1 = 43 from rfl) (by omega) (by omega) (by omega) rfl (fun M1 hC_M1 hf_M1 w1_0 => ?_)) (Nat.le_of_ble_eq_true rfl))
  have ht_M1 : FR W_c_PacketWall_feedFour_f T M1 := FR.t ht_M hf_M1 (kw_sub rfl)
  refine jr.aload_n rfl rfl ?_
  refine jr.dup rfl rfl ?_
  have e2 : M1 0 1 = S := (hf_M1.g (show kd 0 = 35 from rfl) rfl).trans g_S
  refine jr.getf (i := 1) (x := S) (v := .int (Int32.ofInt (S))) rfl rfl (nlt rfl) rfl (nlt rfl) rfl rfl e2 rfl ?_
  refine jr.iconst rfl ?_
  refine jr.iadd rfl ?_
  refine jr.putf (i := 1) (x := (S + 4)) rfl rfl (nlt rfl) rfl (nlt rfl) rfl rfl rfl rfl rfl ?_
  exact jr.vreturn rfl rfl (q _ (CI.u hC_M1 (i := 1) (show kd 0 = 35 from rfl) (show (0 : Int) ≤ _ ∧ _ ≤ (1600 : Int) from by omega) rfl) (FR.o ht_M1 (show kd 0 = 35 from rfl) rfl)  (by have hq0 : (ju M1 0 1 (S + 4)) 0 1 = S + 4 := (ju_same _ _ _ _); omega) (by rw [ju1_row (by decide), p1]; exact PN.t4 w1_0 (by omega)))
noncomputable def W_c_PacketWall_feed_f : List (Nat × Nat) := [(35, 1), (43, 1000)]
theorem c_PacketWall_feed_f {A : Nat → Option (Nat × (Nat → Int32))} {Q : Option Value → jm → Prop} {T : jm} {M : jm} (hC_M : CI M) (ht_M : FR W_c_PacketWall_feed_f T M) {x : Int} (h_x : (-2147483648) ≤ x ∧ x ≤ 2147483647) {y : Int} (h_y : (-2147483648) ≤ y ∧ y ≤ 2147483647) {z : Int} (h_z : (-2147483648) ≤ z ∧ z ≤ 2147483647) {u : Int} (h_u : (-2147483648) ≤ u ∧ u ≤ 2147483647) {v : Int} (h_v : (-2147483648) ≤ v ∧ v ≤ 2147483647) {S : Int} (g_S : M 0 1 = S) (p0 : T = M) (q : ∀ (r : Int) (M' : jm), CI M' → FR W_c_PacketWall_feed_f T M' → (-2147483648) ≤ r ∧ r ≤ 2147483647 → ((S + 20 ≤ 1600 ∧ r = S + 20 ∧ M' 1 = t4 (t4 (t4 (t4 (t4 (T 1) S x) (S + 4) y) ((S + 4) + 4) z) (((S + 4) + 4) + 4) u) ((((S + 4) + 4) + 4) + 4) v) ∨ (1600 < S + 20 ∧ r = -5 ∧ M' 1 = T 1)) → ((S + 20 ≤ 1600 ∧ M' 0 1 = S + 20) ∨ (1600 < S + 20 ∧ M' 0 1 = S)) → Q (some (.int (Int32.ofInt r))) M') : jc A 3 1 [.ref (0), .int (Int32.ofInt (x)), .int (Int32.ofInt (y)), .int (Int32.ofInt (z)), .int (Int32.ofInt (u)), .int (Int32.ofInt (v))] M Q := by
  refine jc_of (m := xm_1) rfl (Nat.le_of_ble_eq_true rfl) rfl ?_
  have b_S : 0 ≤ S ∧ S ≤ 1600 := by rw [← g_S]; exact (CI.r hC_M (show kd 0 = 35 from rfl) (by decide) 1)
  refine jr.aload_n rfl rfl ?_
  refine jr.getf (i := 1) (x := S) (v := .int (Int32.ofInt (S))) rfl rfl (nlt rfl) rfl (nlt rfl) rfl rfl g_S rfl ?_
  refine jr.bipush rfl (jbp _ (nlt rfl)) ?_
  refine jr.iadd rfl ?_
  refine jr.sipush rfl (by decide) ?_
  refine jr.icmp_le rfl rfl (by first | (refine rgb (by assumption) ?_; exact rfl) | omega) (rgl rfl) (fun h10 => ?_) (fun h10 => ?_)
  · refine jr.aload_n rfl rfl ?_
    refine jr.iload_n rfl rfl ?_
    refine jr_v rfl rfl (Or.inl rfl) rfl rfl (nlt rfl) rfl ⟨rfl, Nat.le_of_ble_eq_true rfl, Nat.le_of_ble_eq_true rfl⟩ rfl (jc.deep (c_PacketWall_feedFour_f hC_M (FR.rfl _ M) (by omega) g_S (by omega) rfl (fun M1 hC_M1 hf_M1 w1_0 w1_1 => ?_)) (Nat.le_of_ble_eq_true rfl))
    have ht_M1 : FR W_c_PacketWall_feed_f T M1 := FR.t ht_M hf_M1 (kw_sub rfl)
    have b2 : 0 ≤ (S + 4) ∧ (S + 4) ≤ 1600 := by omega
    refine jr.aload_n rfl rfl ?_
    refine jr.iload_n rfl rfl ?_
    refine jr_v rfl rfl (Or.inl rfl) rfl rfl (nlt rfl) rfl ⟨rfl, Nat.le_of_ble_eq_true rfl, Nat.le_of_ble_eq_true rfl⟩ rfl (jc.deep (c_PacketWall_feedFour_f hC_M1 (FR.rfl _ M1) (by omega) w1_0 (by omega) rfl (fun M3 hC_M3 hf_M3 w3_0 w3_1 => ?_)) (Nat.le_of_ble_eq_true rfl))
    have ht_M3 : FR W_c_PacketWall_feed_f T M3 := FR.t ht_M1 hf_M3 (kw_sub rfl)
    have b4 : 0 ≤ (((S + 4)) + 4) ∧ (((S + 4)) + 4) ≤ 1600 := by omega
    refine jr.aload_n rfl rfl ?_
    refine jr.iload_n rfl rfl ?_
    refine jr_v rfl rfl (Or.inl rfl) rfl rfl (nlt rfl) rfl ⟨rfl, Nat.le_of_ble_eq_true rfl, Nat.le_of_ble_eq_true rfl⟩ rfl (jc.deep (c_PacketWall_feedFour_f hC_M3 (FR.rfl _ M3) (by omega) w3_0 (by omega) rfl (fun M5 hC_M5 hf_M5 w5_0 w5_1 => ?_)) (Nat.le_of_ble_eq_true rfl))
    have ht_M5 : FR W_c_PacketWall_feed_f T M5 := FR.t ht_M3 hf_M5 (kw_sub rfl)
    have b6 : 0 ≤ (((((S + 4)) + 4)) + 4) ∧ (((((S + 4)) + 4)) + 4) ≤ 1600 := by omega
    refine jr.aload_n rfl rfl ?_
    refine jr.iload rfl rfl ?_
    refine jr_v rfl rfl (Or.inl rfl) rfl rfl (nlt rfl) rfl ⟨rfl, Nat.le_of_ble_eq_true rfl, Nat.le_of_ble_eq_true rfl⟩ rfl (jc.deep (c_PacketWall_feedFour_f hC_M5 (FR.rfl _ M5) (by omega) w5_0 (by omega) rfl (fun M7 hC_M7 hf_M7 w7_0 w7_1 => ?_)) (Nat.le_of_ble_eq_true rfl))
    have ht_M7 : FR W_c_PacketWall_feed_f T M7 := FR.t ht_M5 hf_M7 (kw_sub rfl)
    have b8 : 0 ≤ (((((((S + 4)) + 4)) + 4)) + 4) ∧ (((((((S + 4)) + 4)) + 4)) + 4) ≤ 1600 := by omega
    refine jr.aload_n rfl rfl ?_
    refine jr.iload rfl rfl ?_
    refine jr_v rfl rfl (Or.inl rfl) rfl rfl (nlt rfl) rfl ⟨rfl, Nat.le_of_ble_eq_true rfl, Nat.le_of_ble_eq_true rfl⟩ rfl (jc.deep (c_PacketWall_feedFour_f hC_M7 (FR.rfl _ M7) (by omega) w7_0 (by omega) rfl (fun M9 hC_M9 hf_M9 w9_0 w9_1 => ?_)) (Nat.le_of_ble_eq_true rfl))
    have ht_M9 : FR W_c_PacketWall_feed_f T M9 := FR.t ht_M7 hf_M9 (kw_sub rfl)
    have b10 : 0 ≤ (((((((((S + 4)) + 4)) + 4)) + 4)) + 4) ∧ (((((((((S + 4)) + 4)) + 4)) + 4)) + 4) ≤ 1600 := by omega
    refine jr.aload_n rfl rfl ?_
    refine jr.getf (i := 1) (x := ((((((((((S + 4)) + 4)) + 4)) + 4)) + 4))) (v := .int (Int32.ofInt ((((((((((S + 4)) + 4)) + 4)) + 4)) + 4)))) rfl rfl (nlt rfl) rfl (nlt rfl) rfl rfl w9_0 rfl ?_
    exact jr.ireturn rfl rfl rfl (q _ _ hC_M9 ht_M9 (by omega) (Or.inl ⟨by omega, by omega, by rw [w9_1, w7_1, w5_1, w3_1, w1_1, p0]⟩) (by have hq0 : M9 0 1 = (((((((((S + 4)) + 4)) + 4)) + 4)) + 4) := w9_0; omega))
  · refine jr.bipush rfl (by decide) ?_
    exact jr.ireturn rfl rfl rfl (q _ _ hC_M ht_M (by first | exact rgq rfl | omega) (Or.inr ⟨by omega, by omega, by rw [p0]⟩) (by have hq0 : M 0 1 = S := g_S; omega))
noncomputable def W_c_PacketWall_end_x : List (Nat × Nat) := [(35, 1)]
theorem c_PacketWall_end_x {A : Nat → Option (Nat × (Nat → Int32))} {Q : Option Value → jm → Prop} {T : jm} {M : jm} (hC_M : CI M) (ht_M : FR W_c_PacketWall_end_x T M) {x : Int} (h_x : (-2147483648) ≤ x ∧ x ≤ 2147483647) {S : Int} (g_S : M 0 1 = S) (q : ∀ (r : Int) (M' : jm), CI M' → FR W_c_PacketWall_end_x T M' → (-2147483648) ≤ r ∧ r ≤ 2147483647 → (((0 ≤ x ∧ x ≤ S) ∧ r = x ∧ M' 0 1 = x) ∨ ((x < 0 ∨ S < x) ∧ r = -3 ∧ M' 0 1 = S)) → Q (some (.int (Int32.ofInt r))) M') : jc A 1 2 [.ref (0), .int (Int32.ofInt (x))] M Q := by
  refine jc_of (m := xm_2) rfl (Nat.le_of_ble_eq_true rfl) rfl ?_
  have b_S : 0 ≤ S ∧ S ≤ 1600 := by rw [← g_S]; exact (CI.r hC_M (show kd 0 = 35 from rfl) (by decide) 1)
  refine jr.iload_n rfl rfl ?_
  refine jr.if_lt rfl rfl (by first | (refine rgb (by assumption) ?_; exact rfl) | omega) (fun h1 => ?_) (fun h1 => ?_)
  · refine jr.bipush rfl (by decide) ?_
    exact jr.ireturn rfl rfl rfl (q _ _ hC_M ht_M (by first | exact rgq rfl | omega) (by have hq0 : M 0 1 = S := g_S; omega))
  · refine jr.iload_n rfl rfl ?_
    refine jr.aload_n rfl rfl ?_
    refine jr.getf (i := 1) (x := S) (v := .int (Int32.ofInt (S))) rfl rfl (nlt rfl) rfl (nlt rfl) rfl rfl g_S rfl ?_
    refine jr.icmp_le rfl rfl (by first | (refine rgb (by assumption) ?_; exact rfl) | omega) (by first | (refine rgb (by assumption) ?_; exact rfl) | omega) (fun h9 => ?_) (fun h9 => ?_)
    · refine jr.aload_n rfl rfl ?_
      refine jr.iload_n rfl rfl ?_
      refine jr.putf (i := 1) (x := x) rfl rfl (nlt rfl) rfl (nlt rfl) rfl rfl rfl rfl rfl ?_
      refine jr.iload_n rfl rfl ?_
      exact jr.ireturn rfl rfl rfl (q _ _ (CI.u hC_M (i := 1) (show kd 0 = 35 from rfl) (show (0 : Int) ≤ _ ∧ _ ≤ (1600 : Int) from by omega) rfl) (FR.o ht_M (show kd 0 = 35 from rfl) rfl) (by omega) (by have hq0 : (ju M 0 1 x) 0 1 = x := (ju_same _ _ _ _); omega))
    · refine jr.bipush rfl (by decide) ?_
      exact jr.ireturn rfl rfl rfl (q _ _ hC_M ht_M (by first | exact rgq rfl | omega) (by have hq0 : M 0 1 = S := g_S; omega))
theorem c_PacketWall_tape_x {A : Nat → Option (Nat × (Nat → Int32))} {Q : Option Value → jm → Prop} {M : jm} (hC_M : CI M) {x : Int} (h_x : (-2147483648) ≤ x ∧ x ≤ 2147483647) {S : Int} (g_S : M 0 1 = S) (q : ∀ (r : Int), (-2147483648) ≤ r ∧ r ≤ 2147483647 → (((0 ≤ x ∧ x < S) ∧ r = M 1 x) ∨ ((x < 0 ∨ S ≤ x) ∧ r = -1)) → Q (some (.int (Int32.ofInt r))) M) : jc A 1 39 [.ref (0), .int (Int32.ofInt (x))] M Q := by
  refine jc_of (m := xm_39) rfl (Nat.le_of_ble_eq_true rfl) rfl ?_
  have b_S : 0 ≤ S ∧ S ≤ 1600 := by rw [← g_S]; exact (CI.r hC_M (show kd 0 = 35 from rfl) (by decide) 1)
  refine jr.iload_n rfl rfl ?_
  refine jr.if_lt rfl rfl (by first | (refine rgb (by assumption) ?_; exact rfl) | omega) (fun h1 => ?_) (fun h1 => ?_)
  · refine jr.iconst rfl ?_
    refine jr.goto rfl rfl ?_
    exact jr.ireturn rfl rfl rfl (q _ (by first | exact rgq rfl | omega) (by omega))
  · refine jr.iload_n rfl rfl ?_
    refine jr.aload_n rfl rfl ?_
    refine jr.getf (i := 1) (x := S) (v := .int (Int32.ofInt (S))) rfl rfl (nlt rfl) rfl (nlt rfl) rfl rfl g_S rfl ?_
    refine jr.icmp_lt rfl rfl (by first | (refine rgb (by assumption) ?_; exact rfl) | omega) (by first | (refine rgb (by assumption) ?_; exact rfl) | omega) (fun h9 => ?_) (fun h9 => ?_)
    · refine jr.aload_n rfl rfl ?_
      refine jr.getf (i := 0) (v := .ref 1) rfl rfl (nlt rfl) rfl (nlt rfl) rfl rfl rfl rfl ?_
      refine jr.iload_n rfl rfl ?_
      obtain ⟨v1, e1⟩ : ∃ z_, M 1 x = z_ := ⟨_, rfl⟩
      have b1 : 0 ≤ v1 ∧ v1 ≤ 255 := by rw [← e1]; exact (CI.r hC_M (show kd 1 = 43 from rfl) (by decide) x)
      refine jr.iald (i := x) (x := v1) rfl (nlt rfl) rfl (Nat.le_of_ble_eq_true rfl) (by omega) (by omega) e1 ?_
      exact jr.ireturn rfl rfl rfl (q _ (by omega) (by omega))
    · refine jr.iconst rfl ?_
      refine jr.goto rfl rfl ?_
      exact jr.ireturn rfl rfl rfl (q _ (by first | exact rgq rfl | omega) (by omega))
theorem c_PacketWall_isPacket_x {A : Nat → Option (Nat × (Nat → Int32))} {Q : Option Value → jm → Prop} {M : jm} (hC_M : CI M) {x : Int} (h_x : (-2147483648) ≤ x ∧ x ≤ 2147483647) (q : ∀ (r : Int), 0 ≤ r ∧ r ≤ 1 → (r = 0 ∨ (0 ≤ x ∧ x ≤ 23)) → ((r = 1 ∧ (0 ≤ x ∧ x ≤ 23) ∧ M (xe 2 x) 1 ≠ -1) ∨ (r = 0 ∧ (x < 0 ∨ 23 < x ∨ M (xe 2 x) 1 = -1))) → Q (some (.int (Int32.ofInt r))) M) : jc A 2 42 [.ref (0), .int (Int32.ofInt (x))] M Q := by
  refine jc_of (m := xm_42) rfl (Nat.le_of_ble_eq_true rfl) rfl ?_
  refine jr.iload_n rfl rfl ?_
  refine jr.if_lt rfl rfl (by first | (refine rgb (by assumption) ?_; exact rfl) | omega) (fun h1 => ?_) (fun h1 => ?_)
  · refine jr.iconst rfl ?_
    exact jr.ireturn rfl rfl rfl (q _ (by first | exact rgq rfl | omega) (by omega) (by omega))
  · refine jr.iload_n rfl rfl ?_
    refine jr.bipush rfl (jbp _ (nlt rfl)) ?_
    refine jr.icmp_ge rfl rfl (by first | (refine rgb (by assumption) ?_; exact rfl) | omega) (rgl rfl) (fun h7 => ?_) (fun h7 => ?_)
    · refine jr.iconst rfl ?_
      exact jr.ireturn rfl rfl rfl (q _ (by first | exact rgq rfl | omega) (by omega) (by omega))
    · refine jr.aload_n rfl rfl ?_
      refine jr.getf (i := 2) (v := .ref 2) rfl rfl (nlt rfl) rfl (nlt rfl) rfl rfl rfl rfl ?_
      refine jr.iload_n rfl rfl ?_
      have k1 := kxe_42 (a := 2) rfl (i := x) (by omega) (by omega)
      refine jr.aald (c := (xe 2 x)) rfl (by decide) rfl (by decide) (by decide) rfl (by decide) (by omega) (by omega) k1.1 ?_
      refine jr_v rfl rfl (Or.inl rfl) rfl rfl (Nat.lt_trans (kx_33 k1.2).1 (by decide)) (kx_33 k1.2).2 ⟨rfl, Nat.le_of_ble_eq_true rfl, Nat.le_of_ble_eq_true rfl⟩ rfl (jc.deep (c_Packet_isThere hC_M k1.2 (fun r2 z2 w2_0 => ?_)) (Nat.le_of_ble_eq_true rfl))
      obtain ⟨v3, e3⟩ : ∃ z_, M ((xe 2 x)) 1 = z_ := ⟨_, rfl⟩
      have b3 : (-1) ≤ v3 ∧ v3 ≤ 400 := by rw [← e3]; exact (CI.r hC_M k1.2 (by decide) 1)
      refine jr.if_eq rfl rfl (by first | (refine rgb (by assumption) ?_; exact rfl) | omega) (fun h19 => ?_) (fun h19 => ?_)
      · refine jr.iconst rfl ?_
        exact jr.ireturn rfl rfl rfl (q _ (by first | exact rgq rfl | omega) (by omega) (by omega))
      · have sx19 : (1 : Int) ≤ r2 := by omega
        clear h19
        refine jr.iconst rfl ?_
        refine jr.goto rfl rfl ?_
        exact jr.ireturn rfl rfl rfl (q _ (by first | exact rgq rfl | omega) (by omega) (by omega))
theorem c_Packet_hasByte_x {A : Nat → Option (Nat × (Nat → Int32))} {Q : Option Value → jm → Prop} {M : jm} (hC_M : CI M) {t : Nat} (k_t : kd t = 33) {x : Int} (h_x : (-9223372036854775808) ≤ x ∧ x ≤ 9223372036854775807) (q : ∀ (r : Int), 0 ≤ r ∧ r ≤ 1 → (r = 0 ∨ (0 ≤ x ∧ x ≤ 399)) → ((r = 1 ∧ 0 ≤ x ∧ x < M t 1) ∨ (r = 0 ∧ (x < 0 ∨ M t 1 ≤ x))) → Q (some (.int (Int32.ofInt r))) M) : jc A 1 191 [.ref (t), .long (Int64.ofInt (x))] M Q := by
  refine jc_of (m := xm_191) rfl (Nat.le_of_ble_eq_true rfl) rfl ?_
  refine jr.lload_n rfl rfl ?_
  refine jr.lconst (x := 0) rfl (by decide) ?_
  refine jr.lcmp_lt rfl rfl rfl (by omega) (by omega) (fun h2 => ?_) (fun h2 => ?_)
  · refine jr.iconst rfl ?_
    obtain ⟨v1, e1⟩ : ∃ z_, M t 1 = z_ := ⟨_, rfl⟩
    have b1 : (-1) ≤ v1 ∧ v1 ≤ 400 := by rw [← e1]; exact (CI.r hC_M k_t (by decide) 1)
    exact jr.ireturn rfl rfl rfl (q _ (by omega) (by omega) (by have hq0 : M t 1 = v1 := e1; omega))
  · refine jr.lload_n rfl rfl ?_
    refine jr.aload_n rfl rfl ?_
    obtain ⟨v2, e2⟩ : ∃ z_, M t 1 = z_ := ⟨_, rfl⟩
    have b2 : (-1) ≤ v2 ∧ v2 ≤ 400 := by rw [← e2]; exact (CI.r hC_M k_t (by decide) 1)
    refine jr.getf (i := 1) (x := v2) (v := .int (Int32.ofInt (v2))) rfl rfl (Nat.lt_trans (kx_33 k_t).1 (by decide)) (kx_33 k_t).2 (by decide) rfl rfl e2 rfl ?_
    refine jr.i2l rfl (by omega) ?_
    refine jr.lcmp_ge rfl rfl rfl (by omega) (by omega) (fun h12 => ?_) (fun h12 => ?_)
    · refine jr.iconst rfl ?_
      exact jr.ireturn rfl rfl rfl (q _ (by first | exact rgq rfl | omega) (by omega) (by have hq0 : M t 1 = v2 := e2; omega))
    · refine jr.iconst rfl ?_
      refine jr.goto rfl rfl ?_
      exact jr.ireturn rfl rfl rfl (q _ (by first | exact rgq rfl | omega) (by omega) (by have hq0 : M t 1 = v2 := e2; omega))
theorem c_Packet_byteAt_x {A : Nat → Option (Nat × (Nat → Int32))} {Q : Option Value → jm → Prop} {M : jm} (hC_M : CI M) {t : Nat} (k_t : kd t = 33) {x : Int} (h_x : (-2147483648) ≤ x ∧ x ≤ 2147483647) (q : ∀ (r : Int), (-1) ≤ r ∧ r ≤ 255 → (((0 ≤ x ∧ x < M t 1) ∧ r = M (t + 1) x) ∨ ((x < 0 ∨ M t 1 ≤ x) ∧ r = 0)) → Q (some (.int (Int32.ofInt r))) M) : jc A 1 192 [.ref (t), .int (Int32.ofInt (x))] M Q := by
  refine jc_of (m := xm_192) rfl (Nat.le_of_ble_eq_true rfl) rfl ?_
  refine jr.iload_n rfl rfl ?_
  refine jr.if_lt rfl rfl (by first | (refine rgb (by assumption) ?_; exact rfl) | omega) (fun h1 => ?_) (fun h1 => ?_)
  · refine jr.iconst rfl ?_
    obtain ⟨v1, e1⟩ : ∃ z_, M t 1 = z_ := ⟨_, rfl⟩
    have b1 : (-1) ≤ v1 ∧ v1 ≤ 400 := by rw [← e1]; exact (CI.r hC_M k_t (by decide) 1)
    exact jr.ireturn rfl rfl rfl (q _ (by omega) (by have hq0 : M t 1 = v1 := e1; omega))
  · refine jr.iload_n rfl rfl ?_
    refine jr.aload_n rfl rfl ?_
    obtain ⟨v2, e2⟩ : ∃ z_, M t 1 = z_ := ⟨_, rfl⟩
    have b2 : (-1) ≤ v2 ∧ v2 ≤ 400 := by rw [← e2]; exact (CI.r hC_M k_t (by decide) 1)
    refine jr.getf (i := 1) (x := v2) (v := .int (Int32.ofInt (v2))) rfl rfl (Nat.lt_trans (kx_33 k_t).1 (by decide)) (kx_33 k_t).2 (by decide) rfl rfl e2 rfl ?_
    refine jr.icmp_ge rfl rfl (by first | (refine rgb (by assumption) ?_; exact rfl) | omega) (by first | (refine rgb (by assumption) ?_; exact rfl) | omega) (fun h9 => ?_) (fun h9 => ?_)
    · refine jr.iconst rfl ?_
      exact jr.ireturn rfl rfl rfl (q _ (by first | exact rgq rfl | omega) (by have hq0 : M t 1 = v2 := e2; omega))
    · refine jr.aload_n rfl rfl ?_
      have k3 := kf_33_0 k_t
      refine jr.getf (i := 0) (v := .ref (t + 1)) rfl rfl (Nat.lt_trans (kx_33 k_t).1 (by decide)) (kx_33 k_t).2 (by decide) rfl rfl rfl (jval_ref rfl k3.1) ?_
      refine jr.iload_n rfl rfl ?_
      obtain ⟨v4, e4⟩ : ∃ z_, M ((t + 1)) x = z_ := ⟨_, rfl⟩
      have b4 : (-1) ≤ v4 ∧ v4 ≤ 255 := by rw [← e4]; exact (CI.r hC_M k3.2 (by decide) x)
      refine jr.iald (i := x) (x := v4) rfl (Nat.lt_trans (kx_34 k3.2).1 (by decide)) (kx_34 k3.2).2 (by decide) (by omega) (by omega) e4 ?_
      refine jr.goto rfl rfl ?_
      exact jr.ireturn rfl rfl rfl (q _ (by omega) (by have hq0 : M t 1 = v2 := e2; omega))
theorem c_PacketWall_at_x {A : Nat → Option (Nat × (Nat → Int32))} {Q : Option Value → jm → Prop} {M : jm} (hC_M : CI M) {x : Int} (h_x : (-2147483648) ≤ x ∧ x ≤ 2147483647) {y : Int} (h_y : (-2147483648) ≤ y ∧ y ≤ 2147483647) (q : ∀ (r : Int), (-2147483648) ≤ r ∧ r ≤ 2147483647 → (((x < 0 ∨ 23 < x ∨ M (xe 2 x) 1 = -1) ∧ r = -2) ∨ ((0 ≤ x ∧ x ≤ 23) ∧ M (xe 2 x) 1 ≠ -1 ∧ ((y = -1 ∧ r = M (xe 2 x) 1) ∨ (y ≠ -1 ∧ (0 ≤ y ∧ y < M (xe 2 x) 1) ∧ r = M ((xe 2 x) + 1) y) ∨ (y ≠ -1 ∧ (y < 0 ∨ M (xe 2 x) 1 ≤ y) ∧ r = -1)))) → Q (some (.int (Int32.ofInt r))) M) : jc A 3 5 [.ref (0), .int (Int32.ofInt (x)), .int (Int32.ofInt (y))] M Q := by
  refine jc_of (m := xm_5) rfl (Nat.le_of_ble_eq_true rfl) rfl ?_
  refine jr.aload_n rfl rfl ?_
  refine jr.iload_n rfl rfl ?_
  refine jr_v rfl rfl (Or.inl rfl) rfl rfl (nlt rfl) rfl ⟨rfl, Nat.le_of_ble_eq_true rfl, Nat.le_of_ble_eq_true rfl⟩ rfl (jc.deep (c_PacketWall_isPacket_x hC_M (by omega) (fun r1 z1 w1_0 w1_1 => ?_)) (Nat.le_of_ble_eq_true rfl))
  refine jr.if_ne rfl rfl (by first | (refine rgb (by assumption) ?_; exact rfl) | omega) (fun h5 => ?_) (fun h5 => ?_)
  · have sx5 : (1 : Int) ≤ r1 := by omega
    clear h5
    refine jr.iload_n rfl rfl ?_
    refine jr.iconst rfl ?_
    refine jr.icmp_ne rfl rfl (by first | (refine rgb (by assumption) ?_; exact rfl) | omega) (rgl rfl) (fun h13 => ?_) (fun h13 => ?_)
    · refine jr.aload_n rfl rfl ?_
      refine jr.getf (i := 2) (v := .ref 2) rfl rfl (nlt rfl) rfl (nlt rfl) rfl rfl rfl rfl ?_
      refine jr.iload_n rfl rfl ?_
      have k2 := kxe_42 (a := 2) rfl (i := x) (by omega) (by omega)
      refine jr.aald (c := (xe 2 x)) rfl (by decide) rfl (by decide) (by decide) rfl (by decide) (by omega) (by omega) k2.1 ?_
      refine jr.iload_n rfl rfl ?_
      refine jr.i2l rfl (by omega) ?_
      refine jr_v rfl rfl (Or.inl rfl) rfl rfl (Nat.lt_trans (kx_33 k2.2).1 (by decide)) (kx_33 k2.2).2 ⟨rfl, Nat.le_of_ble_eq_true rfl, Nat.le_of_ble_eq_true rfl⟩ rfl (jc.deep (c_Packet_hasByte_x hC_M k2.2 (by omega) (fun r3 z3 w3_0 w3_1 => ?_)) (Nat.le_of_ble_eq_true rfl))
      obtain ⟨v4, e4⟩ : ∃ z_, M ((xe 2 x)) 1 = z_ := ⟨_, rfl⟩
      have b4 : (-1) ≤ v4 ∧ v4 ≤ 400 := by rw [← e4]; exact (CI.r hC_M k2.2 (by decide) 1)
      refine jr.if_eq rfl rfl (by first | (refine rgb (by assumption) ?_; exact rfl) | omega) (fun h37 => ?_) (fun h37 => ?_)
      · refine jr.iconst rfl ?_
        exact jr.ireturn rfl rfl rfl (q _ (by first | exact rgq rfl | omega) (by omega))
      · have sx37 : (1 : Int) ≤ r3 := by omega
        clear h37
        refine jr.aload_n rfl rfl ?_
        refine jr.getf (i := 2) (v := .ref 2) rfl rfl (nlt rfl) rfl (nlt rfl) rfl rfl rfl rfl ?_
        refine jr.iload_n rfl rfl ?_
        have k5 := kxe_42 (a := 2) rfl (i := x) (by omega) (by omega)
        refine jr.aald (c := (xe 2 x)) rfl (by decide) rfl (by decide) (by decide) rfl (by decide) (by omega) (by omega) k5.1 ?_
        refine jr.iload_n rfl rfl ?_
        refine jr_v rfl rfl (Or.inl rfl) rfl rfl (Nat.lt_trans (kx_33 k5.2).1 (by decide)) (kx_33 k5.2).2 ⟨rfl, Nat.le_of_ble_eq_true rfl, Nat.le_of_ble_eq_true rfl⟩ rfl (jc.deep (c_Packet_byteAt_x hC_M k5.2 (by omega) (fun r6 z6 w6_0 => ?_)) (Nat.le_of_ble_eq_true rfl))
        refine jr.goto rfl rfl ?_
        exact jr.ireturn rfl rfl rfl (q _ (by omega) (by omega))
    · refine jr.aload_n rfl rfl ?_
      refine jr.getf (i := 2) (v := .ref 2) rfl rfl (nlt rfl) rfl (nlt rfl) rfl rfl rfl rfl ?_
      refine jr.iload_n rfl rfl ?_
      have k7 := kxe_42 (a := 2) rfl (i := x) (by omega) (by omega)
      refine jr.aald (c := (xe 2 x)) rfl (by decide) rfl (by decide) (by decide) rfl (by decide) (by omega) (by omega) k7.1 ?_
      obtain ⟨v8, e8⟩ : ∃ z_, M ((xe 2 x)) 1 = z_ := ⟨_, rfl⟩
      have b8 : (-1) ≤ v8 ∧ v8 ≤ 400 := by rw [← e8]; exact (CI.r hC_M k7.2 (by decide) 1)
      refine jr.getf (i := 1) (x := v8) (v := .int (Int32.ofInt (v8))) rfl rfl (Nat.lt_trans (kx_33 k7.2).1 (by decide)) (kx_33 k7.2).2 (by decide) rfl rfl e8 rfl ?_
      exact jr.ireturn rfl rfl rfl (q _ (by omega) (by omega))
  · refine jr.bipush rfl (by decide) ?_
    exact jr.ireturn rfl rfl rfl (q _ (by first | exact rgq rfl | omega) (by omega))
noncomputable def W_c_PacketWall_set_x : List (Nat × Nat) := [(34, 1000)]
theorem c_PacketWall_set_x {A : Nat → Option (Nat × (Nat → Int32))} {Q : Option Value → jm → Prop} {T : jm} {M : jm} (hC_M : CI M) (ht_M : FR W_c_PacketWall_set_x T M) {x : Int} (h_x : (-2147483648) ≤ x ∧ x ≤ 2147483647) {y : Int} (h_y : (-2147483648) ≤ y ∧ y ≤ 2147483647) {z : Int} (h_z : (-2147483648) ≤ z ∧ z ≤ 2147483647) (p0 : T = M) (q : ∀ (r : Int) (M' : jm), CI M' → FR W_c_PacketWall_set_x T M' → (-2147483648) ≤ r ∧ r ≤ 2147483647 → (((x < 0 ∨ 23 < x ∨ T (xe 2 x) 1 = -1) ∧ r = -2 ∧ M' = T) ∨ ((0 ≤ x ∧ x ≤ 23) ∧ T (xe 2 x) 1 ≠ -1 ∧ (y < 0 ∨ T (xe 2 x) 1 ≤ y ∨ z < 0 ∨ 255 < z) ∧ r = -3 ∧ M' = T) ∨ ((0 ≤ x ∧ x ≤ 23) ∧ T (xe 2 x) 1 ≠ -1 ∧ (0 ≤ y ∧ y < T (xe 2 x) 1) ∧ (0 ≤ z ∧ z ≤ 255) ∧ r = T ((xe 2 x) + 1) y ∧ M' = ju T ((xe 2 x) + 1) y z)) → Q (some (.int (Int32.ofInt r))) M') : jc A 3 14 [.ref (0), .int (Int32.ofInt (x)), .int (Int32.ofInt (y)), .int (Int32.ofInt (z))] M Q := by
  have hTM := fun (b : Nat) (k : Int) => congrFun (congrFun p0 b) k
  have hT1 := hTM (xe 2 x) 1
  have hT2 := hTM ((xe 2 x) + 1) y
  refine jc_of (m := xm_14) rfl (Nat.le_of_ble_eq_true rfl) rfl ?_
  refine jr.aload_n rfl rfl ?_
  refine jr.iload_n rfl rfl ?_
  refine jr_v rfl rfl (Or.inl rfl) rfl rfl (nlt rfl) rfl ⟨rfl, Nat.le_of_ble_eq_true rfl, Nat.le_of_ble_eq_true rfl⟩ rfl (jc.deep (c_PacketWall_isPacket_x hC_M (by omega) (fun r1 z1 w1_0 w1_1 => ?_)) (Nat.le_of_ble_eq_true rfl))
  refine jr.if_ne rfl rfl (by first | (refine rgb (by assumption) ?_; exact rfl) | omega) (fun h5 => ?_) (fun h5 => ?_)
  · have sx5 : (1 : Int) ≤ r1 := by omega
    clear h5
    refine jr.aload_n rfl rfl ?_
    refine jr.getf (i := 2) (v := .ref 2) rfl rfl (nlt rfl) rfl (nlt rfl) rfl rfl rfl rfl ?_
    refine jr.iload_n rfl rfl ?_
    have k2 := kxe_42 (a := 2) rfl (i := x) (by omega) (by omega)
    refine jr.aald (c := (xe 2 x)) rfl (by decide) rfl (by decide) (by decide) rfl (by decide) (by omega) (by omega) k2.1 ?_
    refine jr.iload_n rfl rfl ?_
    refine jr.i2l rfl (by omega) ?_
    refine jr_v rfl rfl (Or.inl rfl) rfl rfl (Nat.lt_trans (kx_33 k2.2).1 (by decide)) (kx_33 k2.2).2 ⟨rfl, Nat.le_of_ble_eq_true rfl, Nat.le_of_ble_eq_true rfl⟩ rfl (jc.deep (c_Packet_hasByte_x hC_M k2.2 (by omega) (fun r3 z3 w3_0 w3_1 => ?_)) (Nat.le_of_ble_eq_true rfl))
    obtain ⟨v4, e4⟩ : ∃ z_, M ((xe 2 x)) 1 = z_ := ⟨_, rfl⟩
    have b4 : (-1) ≤ v4 ∧ v4 ≤ 400 := by rw [← e4]; exact (CI.r hC_M k2.2 (by decide) 1)
    refine jr.if_eq rfl rfl (by first | (refine rgb (by assumption) ?_; exact rfl) | omega) (fun h22 => ?_) (fun h22 => ?_)
    · refine jr.bipush rfl (by decide) ?_
      exact jr.ireturn rfl rfl rfl (q _ _ hC_M ht_M (by first | exact rgq rfl | omega) (by first | exact Or.inl ⟨by omega, by omega, p0.symm⟩ | exact Or.inr (Or.inl ⟨by omega, by omega, by omega, by omega, p0.symm⟩)))
    · have sx22 : (1 : Int) ≤ r3 := by omega
      clear h22
      refine jr.iload_n rfl rfl ?_
      refine jr.if_lt rfl rfl (by first | (refine rgb (by assumption) ?_; exact rfl) | omega) (fun h26 => ?_) (fun h26 => ?_)
      · refine jr.bipush rfl (by decide) ?_
        exact jr.ireturn rfl rfl rfl (q _ _ hC_M ht_M (by first | exact rgq rfl | omega) (by first | exact Or.inl ⟨by omega, by omega, p0.symm⟩ | exact Or.inr (Or.inl ⟨by omega, by omega, by omega, by omega, p0.symm⟩)))
      · refine jr.iload_n rfl rfl ?_
        refine jr.sipush rfl (by decide) ?_
        refine jr.icmp_le rfl rfl (by first | (refine rgb (by assumption) ?_; exact rfl) | omega) (rgl rfl) (fun h33 => ?_) (fun h33 => ?_)
        · refine jr.aload_n rfl rfl ?_
          refine jr.getf (i := 2) (v := .ref 2) rfl rfl (nlt rfl) rfl (nlt rfl) rfl rfl rfl rfl ?_
          refine jr.iload_n rfl rfl ?_
          have k5 := kxe_42 (a := 2) rfl (i := x) (by omega) (by omega)
          refine jr.aald (c := (xe 2 x)) rfl (by decide) rfl (by decide) (by decide) rfl (by decide) (by omega) (by omega) k5.1 ?_
          refine jr.iload_n rfl rfl ?_
          refine jr_v rfl rfl (Or.inl rfl) rfl rfl (Nat.lt_trans (kx_33 k5.2).1 (by decide)) (kx_33 k5.2).2 ⟨rfl, Nat.le_of_ble_eq_true rfl, Nat.le_of_ble_eq_true rfl⟩ rfl (jc.deep (c_Packet_byteAt_x hC_M k5.2 (by omega) (fun r6 z6 w6_0 => ?_)) (Nat.le_of_ble_eq_true rfl))
          refine jr.istore (ls' := [_, _, _, _, _]) rfl (nlt rfl) rfl ?_
          refine jr.aload_n rfl rfl ?_
          refine jr.getf (i := 2) (v := .ref 2) rfl rfl (nlt rfl) rfl (nlt rfl) rfl rfl rfl rfl ?_
          refine jr.iload_n rfl rfl ?_
          have k7 := kxe_42 (a := 2) rfl (i := x) (by omega) (by omega)
          refine jr.aald (c := (xe 2 x)) rfl (by decide) rfl (by decide) (by decide) rfl (by decide) (by omega) (by omega) k7.1 ?_
          have k8 := kf_33_0 k7.2
          refine jr.getf (i := 0) (v := .ref ((xe 2 x) + 1)) rfl rfl (Nat.lt_trans (kx_33 k7.2).1 (by decide)) (kx_33 k7.2).2 (by decide) rfl rfl rfl (jval_ref rfl k8.1) ?_
          refine jr.iload_n rfl rfl ?_
          refine jr.iload_n rfl rfl ?_
          refine jr.iast (i := y) (x := z) rfl (Nat.lt_trans (kx_34 k8.2).1 (by decide)) (kx_34 k8.2).2 (by decide) (by omega) (by omega) ?_
          refine jr.iload rfl rfl ?_
          exact jr.ireturn rfl rfl rfl (q _ _ (CI.u hC_M (i := y) k8.2 (show (-1 : Int) ≤ _ ∧ _ ≤ (255 : Int) from by omega) rfl) (FR.o ht_M k8.2 rfl) (by omega) (Or.inr (Or.inr ⟨by omega, by omega, by omega, by omega, by omega, by rw [p0]⟩)))
        · refine jr.bipush rfl (by decide) ?_
          exact jr.ireturn rfl rfl rfl (q _ _ hC_M ht_M (by first | exact rgq rfl | omega) (by first | exact Or.inl ⟨by omega, by omega, p0.symm⟩ | exact Or.inr (Or.inl ⟨by omega, by omega, by omega, by omega, p0.symm⟩)))
  · refine jr.bipush rfl (by decide) ?_
    exact jr.ireturn rfl rfl rfl (q _ _ hC_M ht_M (by first | exact rgq rfl | omega) (by first | exact Or.inl ⟨by omega, by omega, p0.symm⟩ | exact Or.inr (Or.inl ⟨by omega, by omega, by omega, by omega, p0.symm⟩)))
noncomputable def W_c_PacketWall_drop_x : List (Nat × Nat) := [(33, 1), (33, 2)]
theorem c_PacketWall_drop_x {A : Nat → Option (Nat × (Nat → Int32))} {Q : Option Value → jm → Prop} {T : jm} {M : jm} (hC_M : CI M) (ht_M : FR W_c_PacketWall_drop_x T M) {x : Int} (h_x : (-2147483648) ≤ x ∧ x ≤ 2147483647) (p0 : T = M) (q : ∀ (r : Int) (M' : jm), CI M' → FR W_c_PacketWall_drop_x T M' → (-2147483648) ≤ r ∧ r ≤ 2147483647 → (((x < 0 ∨ 23 < x) ∧ r = -3 ∧ M' = T) ∨ ((0 ≤ x ∧ x ≤ 23) ∧ ((T (xe 2 x) 1 = -1 ∧ r = 0) ∨ (T (xe 2 x) 1 ≠ -1 ∧ r = 1)) ∧ M' = ju (ju T (xe 2 x) 1 (-1)) (xe 2 x) 2 0)) → Q (some (.int (Int32.ofInt r))) M') : jc A 2 4 [.ref (0), .int (Int32.ofInt (x))] M Q := by
  have hT1 := congrFun (congrFun p0 (xe 2 x)) 1
  refine jc_of (m := xm_4) rfl (Nat.le_of_ble_eq_true rfl) rfl ?_
  refine jr.iload_n rfl rfl ?_
  refine jr.if_lt rfl rfl (by first | (refine rgb (by assumption) ?_; exact rfl) | omega) (fun h1 => ?_) (fun h1 => ?_)
  · refine jr.bipush rfl (by decide) ?_
    exact jr.ireturn rfl rfl rfl (q _ _ hC_M ht_M (by first | exact rgq rfl | omega) (Or.inl ⟨by omega, by omega, p0.symm⟩))
  · refine jr.iload_n rfl rfl ?_
    refine jr.bipush rfl (jbp _ (nlt rfl)) ?_
    refine jr.icmp_lt rfl rfl (by first | (refine rgb (by assumption) ?_; exact rfl) | omega) (rgl rfl) (fun h7 => ?_) (fun h7 => ?_)
    · refine jr.aload_n rfl rfl ?_
      refine jr.getf (i := 2) (v := .ref 2) rfl rfl (nlt rfl) rfl (nlt rfl) rfl rfl rfl rfl ?_
      refine jr.iload_n rfl rfl ?_
      have k1 := kxe_42 (a := 2) rfl (i := x) (by omega) (by omega)
      refine jr.aald (c := (xe 2 x)) rfl (by decide) rfl (by decide) (by decide) rfl (by decide) (by omega) (by omega) k1.1 ?_
      refine jr_v rfl rfl (Or.inl rfl) rfl rfl (Nat.lt_trans (kx_33 k1.2).1 (by decide)) (kx_33 k1.2).2 ⟨rfl, Nat.le_of_ble_eq_true rfl, Nat.le_of_ble_eq_true rfl⟩ rfl (jc.deep (c_Packet_isThere hC_M k1.2 (fun r2 z2 w2_0 => ?_)) (Nat.le_of_ble_eq_true rfl))
      obtain ⟨v3, e3⟩ : ∃ z_, M ((xe 2 x)) 1 = z_ := ⟨_, rfl⟩
      have b3 : (-1) ≤ v3 ∧ v3 ≤ 400 := by rw [← e3]; exact (CI.r hC_M k1.2 (by decide) 1)
      refine jr.if_eq rfl rfl (by first | (refine rgb (by assumption) ?_; exact rfl) | omega) (fun h22 => ?_) (fun h22 => ?_)
      · refine jr.iconst rfl ?_
        refine jr.istore_n (ls' := [_, _, _]) rfl (nlt rfl) rfl ?_
        refine jr.aload_n rfl rfl ?_
        refine jr.getf (i := 2) (v := .ref 2) rfl rfl (nlt rfl) rfl (nlt rfl) rfl rfl rfl rfl ?_
        refine jr.iload_n rfl rfl ?_
        have k4 := kxe_42 (a := 2) rfl (i := x) (by omega) (by omega)
        refine jr.aald (c := (xe 2 x)) rfl (by decide) rfl (by decide) (by decide) rfl (by decide) (by omega) (by omega) k4.1 ?_
        refine jr.iconst rfl ?_
        refine jr.putf (i := 1) (x := (-1)) rfl rfl (Nat.lt_trans (kx_33 k4.2).1 (by decide)) (kx_33 k4.2).2 (by decide) rfl rfl rfl rfl rfl ?_
        refine jr.aload_n rfl rfl ?_
        refine jr.getf (i := 2) (v := .ref 2) rfl rfl (nlt rfl) rfl (nlt rfl) rfl rfl rfl rfl ?_
        refine jr.iload_n rfl rfl ?_
        have k5 := kxe_42 (a := 2) rfl (i := x) (by omega) (by omega)
        refine jr.aald (c := (xe 2 x)) rfl (by decide) rfl (by decide) (by decide) rfl (by decide) (by omega) (by omega) k5.1 ?_
        refine jr.lconst (x := 0) rfl (by decide) ?_
        refine jr.putf (i := 2) (x := 0) rfl rfl (Nat.lt_trans (kx_33 k5.2).1 (by decide)) (kx_33 k5.2).2 (by decide) rfl rfl rfl rfl rfl ?_
        refine jr.iload_n rfl rfl ?_
        exact jr.ireturn rfl rfl rfl (q _ _ (CI.u (CI.u hC_M (i := 1) k5.2 (show (-1 : Int) ≤ _ ∧ _ ≤ (400 : Int) from by omega) rfl) (i := 2) k5.2 (show (-9223372036854775808 : Int) ≤ _ ∧ _ ≤ (9223372036854775807 : Int) from by omega) rfl) (FR.o (FR.o ht_M k5.2 rfl) k5.2 rfl) (by omega) (Or.inr ⟨by omega, by omega, by rw [p0]⟩))
      · have sx22 : (1 : Int) ≤ r2 := by omega
        clear h22
        refine jr.iconst rfl ?_
        refine jr.goto rfl rfl ?_
        refine jr.istore_n (ls' := [_, _, _]) rfl (nlt rfl) rfl ?_
        refine jr.aload_n rfl rfl ?_
        refine jr.getf (i := 2) (v := .ref 2) rfl rfl (nlt rfl) rfl (nlt rfl) rfl rfl rfl rfl ?_
        refine jr.iload_n rfl rfl ?_
        have k6 := kxe_42 (a := 2) rfl (i := x) (by omega) (by omega)
        refine jr.aald (c := (xe 2 x)) rfl (by decide) rfl (by decide) (by decide) rfl (by decide) (by omega) (by omega) k6.1 ?_
        refine jr.iconst rfl ?_
        refine jr.putf (i := 1) (x := (-1)) rfl rfl (Nat.lt_trans (kx_33 k6.2).1 (by decide)) (kx_33 k6.2).2 (by decide) rfl rfl rfl rfl rfl ?_
        refine jr.aload_n rfl rfl ?_
        refine jr.getf (i := 2) (v := .ref 2) rfl rfl (nlt rfl) rfl (nlt rfl) rfl rfl rfl rfl ?_
        refine jr.iload_n rfl rfl ?_
        have k7 := kxe_42 (a := 2) rfl (i := x) (by omega) (by omega)
        refine jr.aald (c := (xe 2 x)) rfl (by decide) rfl (by decide) (by decide) rfl (by decide) (by omega) (by omega) k7.1 ?_
        refine jr.lconst (x := 0) rfl (by decide) ?_
        refine jr.putf (i := 2) (x := 0) rfl rfl (Nat.lt_trans (kx_33 k7.2).1 (by decide)) (kx_33 k7.2).2 (by decide) rfl rfl rfl rfl rfl ?_
        refine jr.iload_n rfl rfl ?_
        exact jr.ireturn rfl rfl rfl (q _ _ (CI.u (CI.u hC_M (i := 1) k7.2 (show (-1 : Int) ≤ _ ∧ _ ≤ (400 : Int) from by omega) rfl) (i := 2) k7.2 (show (-9223372036854775808 : Int) ≤ _ ∧ _ ≤ (9223372036854775807 : Int) from by omega) rfl) (FR.o (FR.o ht_M k7.2 rfl) k7.2 rfl) (by omega) (Or.inr ⟨by omega, by omega, by rw [p0]⟩))
    · refine jr.bipush rfl (by decide) ?_
      exact jr.ireturn rfl rfl rfl (q _ _ hC_M ht_M (by first | exact rgq rfl | omega) (Or.inl ⟨by omega, by omega, p0.symm⟩))
/-- the memory behind packet(p) of the class -/
noncomputable def pkm (T : jm) (X : Nat) (S : Int) : jm := fun b k => if b = 0 ∧ k = 1 then 0 else if b = X ∧ k = 2 then 0 else if b = X ∧ k = 1 then S else if b = X + 1 ∧ 0 ≤ k ∧ k < 0 + S then T 1 (0 + (k - 0)) else T b k
noncomputable def W_c_PacketWall_packet_x : List (Nat × Nat) := [(33, 1), (33, 2), (34, 1000), (35, 1)]
theorem c_PacketWall_packet_x {A : Nat → Option (Nat × (Nat → Int32))} {Q : Option Value → jm → Prop} {T : jm} {M : jm} (hC_M : CI M) (ht_M : FR W_c_PacketWall_packet_x T M) {x : Int} (h_x : (-2147483648) ≤ x ∧ x ≤ 2147483647) {S : Int} (g_S : M 0 1 = S) (p0 : T = M) (q : ∀ (r : Int) (M' : jm), CI M' → FR W_c_PacketWall_packet_x T M' → (-2147483648) ≤ r ∧ r ≤ 2147483647 → (((x < 0 ∨ 23 < x ∨ 400 < S) ∧ r = -3 ∧ M' = T) ∨ ((0 ≤ x ∧ x ≤ 23) ∧ S ≤ 400 ∧ r = S ∧ M' = pkm T (xe 2 x) S)) → Q (some (.int (Int32.ofInt r))) M') : jc A 1 3 [.ref (0), .int (Int32.ofInt (x))] M Q := by
  refine jc_of (m := xm_3) rfl (Nat.le_of_ble_eq_true rfl) rfl ?_
  have b_S : 0 ≤ S ∧ S ≤ 1600 := by rw [← g_S]; exact (CI.r hC_M (show kd 0 = 35 from rfl) (by decide) 1)
  refine jr.iload_n rfl rfl ?_
  refine jr.if_lt rfl rfl (by first | (refine rgb (by assumption) ?_; exact rfl) | omega) (fun h1 => ?_) (fun h1 => ?_)
  · refine jr.bipush rfl (by decide) ?_
    exact jr.ireturn rfl rfl rfl (q _ _ hC_M ht_M (by first | exact rgq rfl | omega) (Or.inl ⟨by omega, by omega, p0.symm⟩))
  · refine jr.iload_n rfl rfl ?_
    refine jr.bipush rfl (jbp _ (nlt rfl)) ?_
    refine jr.icmp_ge rfl rfl (by first | (refine rgb (by assumption) ?_; exact rfl) | omega) (rgl rfl) (fun h7 => ?_) (fun h7 => ?_)
    · refine jr.bipush rfl (by decide) ?_
      exact jr.ireturn rfl rfl rfl (q _ _ hC_M ht_M (by first | exact rgq rfl | omega) (Or.inl ⟨by omega, by omega, p0.symm⟩))
    · refine jr.aload_n rfl rfl ?_
      refine jr.getf (i := 1) (x := S) (v := .int (Int32.ofInt (S))) rfl rfl (nlt rfl) rfl (nlt rfl) rfl rfl g_S rfl ?_
      refine jr.sipush rfl (by decide) ?_
      refine jr.icmp_le rfl rfl (by first | (refine rgb (by assumption) ?_; exact rfl) | omega) (rgl rfl) (fun h17 => ?_) (fun h17 => ?_)
      · refine jr.aload_n rfl rfl ?_
        refine jr.getf (i := 2) (v := .ref 2) rfl rfl (nlt rfl) rfl (nlt rfl) rfl rfl rfl rfl ?_
        refine jr.iload_n rfl rfl ?_
        have k1 := kxe_42 (a := 2) rfl (i := x) (by omega) (by omega)
        refine jr.aald (c := (xe 2 x)) rfl (by decide) rfl (by decide) (by decide) rfl (by decide) (by omega) (by omega) k1.1 ?_
        refine jr.astore_n (ls' := [_, _, _]) rfl (nlt rfl) rfl ?_
        refine jr.aload_n rfl rfl ?_
        refine jr.getf (i := 0) (v := .ref 1) rfl rfl (nlt rfl) rfl (nlt rfl) rfl rfl rfl rfl ?_
        refine jr.iconst rfl ?_
        refine jr.aload_n rfl rfl ?_
        have k2 := kf_33_0 k1.2
        refine jr.getf (i := 0) (v := .ref ((xe 2 x) + 1)) rfl rfl (Nat.lt_trans (kx_33 k1.2).1 (by decide)) (kx_33 k1.2).2 (by decide) rfl rfl rfl (jval_ref rfl k2.1) ?_
        refine jr.iconst rfl ?_
        refine jr.aload_n rfl rfl ?_
        refine jr.getf (i := 1) (x := S) (v := .int (Int32.ofInt (S))) rfl rfl (nlt rfl) rfl (nlt rfl) rfl rfl g_S rfl ?_
        refine jr.acp rfl rfl (Nat.le_of_ble_eq_true rfl) (by decide) rfl (Nat.lt_trans (kx_34 k2.2).1 (by decide)) (kx_34 k2.2).2 (by decide) (by decide) (by omega) (by omega) (by omega) (by omega) (by omega) ?_
        have hC_M3 : CI (jcpy M 1 0 (((xe 2 x) + 1)) 0 S) := CI.cpy hC_M (show kd 1 = 43 from rfl) k2.2 (by decide) (fun i j => (show (-1 : Int) ≤ (0 : Int) ∧ (255 : Int) ≤ (255 : Int) from by decide)) (fun _ => rfl)
        have ht_M3 : FR W_c_PacketWall_packet_x T (jcpy M 1 0 (((xe 2 x) + 1)) 0 S) := FR.cpy ht_M k2.2 (fun _ => rfl)
        have hf_M3 : FR [(34, 1000)] M (jcpy M 1 0 (((xe 2 x) + 1)) 0 S) := FR.cpy (FR.rfl _ _) k2.2 (fun _ => rfl)
        have hx_M3 : ∀ (b : Nat) (k : Int), jcpy M 1 0 (((xe 2 x) + 1)) 0 S b k = if b = ((xe 2 x) + 1) ∧ 0 ≤ k ∧ k < 0 + S then M 1 (0 + (k - 0)) else M b k := fun _ _ => rfl
        generalize jcpy M 1 0 (((xe 2 x) + 1)) 0 S = M3 at hC_M3 ht_M3 hf_M3 hx_M3 ⊢
        refine jr.aload_n rfl rfl ?_
        refine jr.aload_n rfl rfl ?_
        have e4 : M3 0 1 = S := (hf_M3.g (show kd 0 = 35 from rfl) rfl).trans g_S
        refine jr.getf (i := 1) (x := S) (v := .int (Int32.ofInt (S))) rfl rfl (nlt rfl) rfl (nlt rfl) rfl rfl e4 rfl ?_
        refine jr.putf (i := 1) (x := S) rfl rfl (Nat.lt_trans (kx_33 k1.2).1 (by decide)) (kx_33 k1.2).2 (by decide) rfl rfl rfl rfl rfl ?_
        refine jr.aload_n rfl rfl ?_
        refine jr.lconst (x := 0) rfl (by decide) ?_
        refine jr.putf (i := 2) (x := 0) rfl rfl (Nat.lt_trans (kx_33 k1.2).1 (by decide)) (kx_33 k1.2).2 (by decide) rfl rfl rfl rfl rfl ?_
        refine jr.aload_n rfl rfl ?_
        refine jr.iconst rfl ?_
        refine jr.putf (i := 1) (x := 0) rfl rfl (nlt rfl) rfl (nlt rfl) rfl rfl rfl rfl rfl ?_
        refine jr.aload_n rfl rfl ?_
        refine jr.getf (i := 1) (x := S) (v := .int (Int32.ofInt (S))) rfl rfl (Nat.lt_trans (kx_33 k1.2).1 (by decide)) (kx_33 k1.2).2 (by decide) rfl rfl ((ju_c _ _ (kd_ne (by rw [k1.2, (show kd 0 = 35 from rfl)]; decide))).trans ((ju_i _ _ (zne (by decide))).trans (ju_same _ _ _ _))) rfl ?_
        exact jr.ireturn rfl rfl rfl (q _ _ (CI.u (CI.u (CI.u hC_M3 (i := 1) k1.2 (show (-1 : Int) ≤ _ ∧ _ ≤ (400 : Int) from by omega) rfl) (i := 2) k1.2 (show (-9223372036854775808 : Int) ≤ _ ∧ _ ≤ (9223372036854775807 : Int) from by omega) rfl) (i := 1) (show kd 0 = 35 from rfl) (show (0 : Int) ≤ _ ∧ _ ≤ (1600 : Int) from by omega) rfl) (FR.o (FR.o (FR.o ht_M3 k1.2 rfl) k1.2 rfl) (show kd 0 = 35 from rfl) rfl) (by omega) (Or.inr ⟨by omega, by omega, by omega, by funext b k; simp only [ju, pkm, hx_M3]; rw [p0]⟩))
      · refine jr.bipush rfl (by decide) ?_
        exact jr.ireturn rfl rfl rfl (q _ _ hC_M ht_M (by first | exact rgq rfl | omega) (Or.inl ⟨by omega, by omega, p0.symm⟩))
theorem pk_len {M : jm} (h : CI M) {x : Int} (h0 : 0 ≤ x) (h1 : x < 24) : -1 ≤ M (xe 2 x) 1 ∧ M (xe 2 x) 1 ≤ 400 := CI.r h (kxe_42 (show kd 2 = 42 from rfl) h0 h1).2 (by decide) 1
/-- the sum of a packet's first bytes -/
noncomputable def dg (f : Int → Int) : Nat → Int
  | 0 => -3750763034362895579
  | n + 1 => jl_w (jl_xor (dg f n) (f n) * 1099511628211)
theorem dg_s {f : Int → Int} {i : Int} (h : 0 ≤ i) : dg f (i + 1).toNat = jl_w (jl_xor (dg f i.toNat) (f i) * 1099511628211) := by
  obtain ⟨n, rfl⟩ := Int.eq_ofNat_of_zero_le h
  rw [show ((n : Int) + 1).toNat = n + 1 by omega, show ((n : Int)).toNat = n by omega]
  rfl
theorem c_PacketWall_digest_x_L17 {A : Nat → Option (Nat × (Nat → Int32))} {Q : Option Value → jm → Prop} {M : jm} (hC_M : CI M) {x : Int} (q : ∀ (r : Int), (-9223372036854775808) ≤ r ∧ r ≤ 9223372036854775807 → (((x < 0 ∨ 23 < x ∨ M (xe 2 x) 1 = -1) ∧ r = 0) ∨ ((0 ≤ x ∧ x ≤ 23) ∧ M (xe 2 x) 1 ≠ -1 ∧ r = dg (fun k => M ((xe 2 x) + 1) k) (M (xe 2 x) 1).toNat)) → Q (some (.long (Int64.ofInt r))) M) : ∀ (nM : Nat) (d : Int) (i : Int), 0 ≤ x ∧ x ≤ 23 → (-9223372036854775808) ≤ d ∧ d ≤ 9223372036854775807 → 0 ≤ i ∧ i ≤ 400 → (M (xe 2 x) 1 ≠ -1 ∧ i ≤ M (xe 2 x) 1) → (d = dg (fun k => M ((xe 2 x) + 1) k) i.toNat) → 400 - i ≤ nM → jr A 2 xm_15 17 [(1, .int (Int32.ofInt (x))), (2, .long (Int64.ofInt (d))), (4, .int (Int32.ofInt (i))), (0, .ref (0))] [] M Q := by
  intro nM
  induction nM using Nat.strongRecOn with
  | ind nM ih =>
    intro d i h_x h_d h_i hy0 hy1 hm
    refine jr.iload rfl rfl ?_
    refine jr.aload_n rfl rfl ?_
    refine jr.getf (i := 2) (v := .ref 2) rfl rfl (nlt rfl) rfl (nlt rfl) rfl rfl rfl rfl ?_
    refine jr.iload_n rfl rfl ?_
    have k1 := kxe_42 (a := 2) rfl (i := x) (by omega) (by omega)
    refine jr.aald (c := (xe 2 x)) rfl (by decide) rfl (by decide) (by decide) rfl (by decide) (by omega) (by omega) k1.1 ?_
    obtain ⟨v2, e2⟩ : ∃ z_, M ((xe 2 x)) 1 = z_ := ⟨_, rfl⟩
    have b2 : (-1) ≤ v2 ∧ v2 ≤ 400 := by rw [← e2]; exact (CI.r hC_M k1.2 (by decide) 1)
    refine jr.getf (i := 1) (x := v2) (v := .int (Int32.ofInt (v2))) rfl rfl (Nat.lt_trans (kx_33 k1.2).1 (by decide)) (kx_33 k1.2).2 (by decide) rfl rfl e2 rfl ?_
    refine jr.icmp_ge rfl rfl (by first | (refine rgb (by assumption) ?_; exact rfl) | omega) (by first | (refine rgb (by assumption) ?_; exact rfl) | omega) (fun h28 => ?_) (fun h28 => ?_)
    · refine jr.lload_n rfl rfl ?_
      exact jr.lreturn rfl rfl (q _ (by omega) (Or.inr ⟨by omega, by omega, by rw [hy1, e2, show i = v2 from by omega]⟩))
    · refine jr.lload_n rfl rfl ?_
      refine jr.aload_n rfl rfl ?_
      refine jr.getf (i := 2) (v := .ref 2) rfl rfl (nlt rfl) rfl (nlt rfl) rfl rfl rfl rfl ?_
      refine jr.iload_n rfl rfl ?_
      have k3 := kxe_42 (a := 2) rfl (i := x) (by omega) (by omega)
      refine jr.aald (c := (xe 2 x)) rfl (by decide) rfl (by decide) (by decide) rfl (by decide) (by omega) (by omega) k3.1 ?_
      refine jr.iload rfl rfl ?_
      refine jr_v rfl rfl (Or.inl rfl) rfl rfl (Nat.lt_trans (kx_33 k3.2).1 (by decide)) (kx_33 k3.2).2 ⟨rfl, Nat.le_of_ble_eq_true rfl, Nat.le_of_ble_eq_true rfl⟩ rfl (jc.deep (c_Packet_byteAt_x hC_M k3.2 (by omega) (fun r4 z4 w4_0 => ?_)) (Nat.le_of_ble_eq_true rfl))
      refine jr.i2l rfl (by omega) ?_
      refine jr.lxor rfl ?_
      refine jr.ldc2 (x := 1099511628211) rfl rfl (by decide) ?_
      refine jr.lmul rfl ?_
      refine jr.lw (jl_w ((jl_xor d r4) * 1099511628211)) (jl_w_eq _) ?_
      have b5 : -9223372036854775808 ≤ jl_w ((jl_xor d r4) * 1099511628211) ∧ jl_w ((jl_xor d r4) * 1099511628211) ≤ 9223372036854775807 := jbl_any _
      refine jr.lstore_n (ls' := [_, _, _, _]) rfl (nlt rfl) rfl ?_
      refine jr.iinc (ls' := [_, _, _, _]) rfl rfl (nlt rfl) rfl ?_
      refine jr.goto rfl rfl ?_
      refine jr.pick (ls := [_, _, _, _]) [2, 1, 0, 3] rfl rfl ?_
      exact ih (nM - 1) (by omega) (jl_w ((jl_xor d r4) * 1099511628211)) (i + 1) (by omega) (by omega) (by omega) (by have hl := pk_len hC_M (x := x) (by omega) (by omega); omega) (by rw [dg_s (by omega), ← hy1, show M ((xe 2 x) + 1) i = r4 from by omega]) (by omega)
theorem c_PacketWall_digest_x {A : Nat → Option (Nat × (Nat → Int32))} {Q : Option Value → jm → Prop} {M : jm} (hC_M : CI M) {x : Int} (h_x : (-2147483648) ≤ x ∧ x ≤ 2147483647) (q : ∀ (r : Int), (-9223372036854775808) ≤ r ∧ r ≤ 9223372036854775807 → (((x < 0 ∨ 23 < x ∨ M (xe 2 x) 1 = -1) ∧ r = 0) ∨ ((0 ≤ x ∧ x ≤ 23) ∧ M (xe 2 x) 1 ≠ -1 ∧ r = dg (fun k => M ((xe 2 x) + 1) k) (M (xe 2 x) 1).toNat)) → Q (some (.long (Int64.ofInt r))) M) : jc A 3 15 [.ref (0), .int (Int32.ofInt (x))] M Q := by
  refine jc_of (m := xm_15) rfl (Nat.le_of_ble_eq_true rfl) rfl ?_
  refine jr.aload_n rfl rfl ?_
  refine jr.iload_n rfl rfl ?_
  refine jr_v rfl rfl (Or.inl rfl) rfl rfl (nlt rfl) rfl ⟨rfl, Nat.le_of_ble_eq_true rfl, Nat.le_of_ble_eq_true rfl⟩ rfl (jc.deep (c_PacketWall_isPacket_x hC_M (by omega) (fun r1 z1 w1_0 w1_1 => ?_)) (Nat.le_of_ble_eq_true rfl))
  refine jr.if_ne rfl rfl (by first | (refine rgb (by assumption) ?_; exact rfl) | omega) (fun h5 => ?_) (fun h5 => ?_)
  · have sx5 : (1 : Int) ≤ r1 := by omega
    clear h5
    refine jr.ldc2 (x := (-3750763034362895579)) rfl rfl (by decide) ?_
    refine jr.lstore_n (ls' := [_, _, _]) rfl (nlt rfl) rfl ?_
    refine jr.iconst rfl ?_
    refine jr.istore (ls' := [_, _, _, _]) rfl (nlt rfl) rfl ?_
    refine jr.pick (ls := [_, _, _, _]) [3, 1, 0, 2] rfl rfl ?_
    exact c_PacketWall_digest_x_L17 hC_M  q 400 (-3750763034362895579) 0 (by omega) (by omega) (by omega) (by have hl := pk_len hC_M (x := x) (by omega) (by omega); omega) rfl (by omega)
  · refine jr.lconst (x := 0) rfl (by decide) ?_
    exact jr.lreturn rfl rfl (q _ (by omega) (Or.inl ⟨by omega, by omega⟩))
end
