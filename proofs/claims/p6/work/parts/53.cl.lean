/-! ===== the class's methods ===== -/
def W_c_Parser_begin : List (Nat × Nat) := [(44, 0), (44, 1), (44, 3), (44, 4), (44, 6), (44, 7), (44, 8), (44, 9), (44, 10), (44, 11), (47, 2), (47, 3), (47, 4)]
theorem c_Parser_begin {A : Nat → Option (Nat × (Nat → Int32))} [HA A] {Q : Option Value → jm → Prop} {G : Nat → Int → Int} {T : jm} {M : jm} (hC_M : CI M) (ht_M : FR W_c_Parser_begin T M) {y : Int} (h_y : 0 ≤ y ∧ y ≤ 1600) (p0 : MP M G) (q : ∀ (M' : jm), CI M' → FR W_c_Parser_begin T M' → (MP M' G) → (1 ≤ M' 413 3 ∧ M' 413 3 ≤ 1) → Q none M') : jc A 7 195 [.ref (413), .ref (1), .int (Int32.ofInt (y))] M Q := by
  refine jc_of (m := xm_195) rfl (Nat.le_of_ble_eq_true rfl) rfl ?_
  refine jr.aload_n rfl rfl ?_
  refine jr.aload_n rfl rfl ?_
  refine jr.putf (i := 3) (x := 1) rfl rfl (by decide) rfl (by decide) rfl rfl rfl rfl rfl ?_
  refine jr.aload_n rfl rfl ?_
  refine jr.iload_n rfl rfl ?_
  refine jr.putf (i := 4) (x := y) rfl rfl (by decide) rfl (by decide) rfl rfl rfl rfl rfl ?_
  refine jr.aload_n rfl rfl ?_
  obtain ⟨v1, e1⟩ : ∃ z_, M 413 2 = z_ := ⟨_, rfl⟩
  have b1 : 0 ≤ v1 ∧ v1 ≤ 597 := by rw [← e1]; exact (CI.r hC_M (show kd 413 = 44 from rfl) (by decide) 2)
  have k2 : kd (v1).toNat = 47 := ((congrArg (fun z : Int => kd z.toNat) (show (ju (ju M 413 3 1) 413 4 y) 413 2 = v1 from ((ju_i _ _ (by decide)).trans ((ju_i _ _ (by decide)).trans e1)))).symm.trans (CI.x (CI.u (CI.u hC_M (i := 3) (show kd 413 = 44 from rfl) (show (1 : Int) ≤ _ ∧ _ ≤ (419 : Int) from by omega) rfl) (i := 4) (show kd 413 = 44 from rfl) (show (0 : Int) ≤ _ ∧ _ ≤ (1600 : Int) from by omega) rfl) (show kd 413 = 44 from rfl) 2 rfl (by decide)))
  refine jr.getf (i := 2) (x := v1) (v := .ref (v1.toNat)) rfl rfl (by decide) rfl (by decide) rfl rfl ((ju_i _ _ (by decide)).trans ((ju_i _ _ (by decide)).trans e1)) rfl ?_
  refine jr_v rfl rfl (Or.inl rfl) rfl rfl (Nat.lt_trans (kx_47 k2).1 (by decide)) (kx_47 k2).2 ⟨rfl, Nat.le_of_ble_eq_true rfl, Nat.le_of_ble_eq_true rfl⟩ rfl (jc.deep (c_Program_clear_m (CI.u (CI.u hC_M (i := 3) (show kd 413 = 44 from rfl) (show (1 : Int) ≤ _ ∧ _ ≤ (419 : Int) from by omega) rfl) (i := 4) (show kd 413 = 44 from rfl) (show (0 : Int) ≤ _ ∧ _ ≤ (1600 : Int) from by omega) rfl) (FR.rfl _ ((ju (ju M 413 3 1) 413 4 y))) k2 (by have hq0 : (ju (ju M 413 3 1) 413 4 y) 413 2 = v1 := ((ju_i _ _ (by decide)).trans ((ju_i _ _ (by decide)).trans e1)); omega) (MP.n (MP.n p0 hC_M (show kd 413 = 44 from rfl) (by decide) (Or.inl (by decide))) (CI.u hC_M (i := 3) (show kd 413 = 44 from rfl) (show (1 : Int) ≤ _ ∧ _ ≤ (419 : Int) from by omega) rfl) (show kd 413 = 44 from rfl) (by decide) (Or.inl (by decide))) (fun M3 hC_M3 hf_M3 w3_0 => ?_)) (by decide))
  have ht_M3 : FR W_c_Parser_begin T M3 := FR.t (FR.o (FR.o ht_M (show kd 413 = 44 from rfl) rfl) (show kd 413 = 44 from rfl) rfl) hf_M3 (kw_sub rfl)
  refine jr.aload_n rfl rfl ?_
  refine jr.iconst rfl ?_
  refine jr.putf (i := 0) (x := 0) rfl rfl (by decide) rfl (by decide) rfl rfl rfl rfl rfl ?_
  refine jr.aload_n rfl rfl ?_
  refine jr.iconst rfl ?_
  refine jr.putf (i := 1) (x := (-1)) rfl rfl (by decide) rfl (by decide) rfl rfl rfl rfl rfl ?_
  refine jr.aload_n rfl rfl ?_
  refine jr.iconst rfl ?_
  refine jr.putf (i := 8) (x := 0) rfl rfl (by decide) rfl (by decide) rfl rfl rfl rfl rfl ?_
  refine jr.aload_n rfl rfl ?_
  have e5 : M3 413 3 = 1 := (hf_M3.g (show kd 413 = 44 from rfl) rfl).trans ((ju_i _ _ (by decide)).trans (ju_same _ _ _ _))
  refine jr_v rfl rfl (Or.inl rfl) rfl rfl (by decide) rfl ⟨rfl, Nat.le_of_ble_eq_true rfl, Nat.le_of_ble_eq_true rfl⟩ rfl (jc.deep (c_Parser_advance (CI.u (CI.u (CI.u hC_M3 (i := 0) (show kd 413 = 44 from rfl) (show (-2147483648 : Int) ≤ _ ∧ _ ≤ (2147483647 : Int) from by omega) rfl) (i := 1) (show kd 413 = 44 from rfl) (show (-2147483648 : Int) ≤ _ ∧ _ ≤ (2147483647 : Int) from by omega) rfl) (i := 8) (show kd 413 = 44 from rfl) (show (0 : Int) ≤ _ ∧ _ ≤ (1600 : Int) from by omega) rfl) (FR.rfl _ ((ju (ju (ju M3 413 0 0) 413 1 (-1)) 413 8 0)))  (by have hq0 : (ju (ju (ju M3 413 0 0) 413 1 (-1)) 413 8 0) 413 3 = 1 := ((ju_i _ _ (by decide)).trans ((ju_i _ _ (by decide)).trans ((ju_i _ _ (by decide)).trans e5))); omega) (fun M4 hC_M4 hf_M4  => ?_)) (by decide))
  have ht_M4 : FR W_c_Parser_begin T M4 := FR.t (FR.o (FR.o (FR.o ht_M3 (show kd 413 = 44 from rfl) rfl) (show kd 413 = 44 from rfl) rfl) (show kd 413 = 44 from rfl) rfl) hf_M4 (kw_sub rfl)
  have e6 : M4 413 3 = 1 := (hf_M4.g (show kd 413 = 44 from rfl) rfl).trans ((ju_i _ _ (by decide)).trans ((ju_i _ _ (by decide)).trans ((ju_i _ _ (by decide)).trans e5)))
  exact jr.vreturn rfl rfl (q _ hC_M4 ht_M4  (MP.fr (MP.n (MP.n (MP.n w3_0 hC_M3 (show kd 413 = 44 from rfl) (by decide) (Or.inl (by decide))) (CI.u hC_M3 (i := 0) (show kd 413 = 44 from rfl) (show (-2147483648 : Int) ≤ _ ∧ _ ≤ (2147483647 : Int) from by omega) rfl) (show kd 413 = 44 from rfl) (by decide) (Or.inl (by decide))) (CI.u (CI.u hC_M3 (i := 0) (show kd 413 = 44 from rfl) (show (-2147483648 : Int) ≤ _ ∧ _ ≤ (2147483647 : Int) from by omega) rfl) (i := 1) (show kd 413 = 44 from rfl) (show (-2147483648 : Int) ≤ _ ∧ _ ≤ (2147483647 : Int) from by omega) rfl) (show kd 413 = 44 from rfl) (by decide) (Or.inl (by decide))) (CI.u (CI.u (CI.u hC_M3 (i := 0) (show kd 413 = 44 from rfl) (show (-2147483648 : Int) ≤ _ ∧ _ ≤ (2147483647 : Int) from by omega) rfl) (i := 1) (show kd 413 = 44 from rfl) (show (-2147483648 : Int) ≤ _ ∧ _ ≤ (2147483647 : Int) from by omega) rfl) (i := 8) (show kd 413 = 44 from rfl) (show (0 : Int) ≤ _ ∧ _ ≤ (1600 : Int) from by omega) rfl) hf_M4 rfl) (by have hq0 : M4 413 3 = 1 := e6; omega))
def W_c_Parser_chain : List (Nat × Nat) := [(44, 0), (44, 1), (44, 6), (44, 7), (44, 8), (44, 9), (44, 10), (44, 11), (45, 1000), (47, 2), (47, 3), (47, 4), (48, 1000), (49, 1000), (50, 1000), (51, 1000)]
theorem c_Parser_chain {A : Nat → Option (Nat × (Nat → Int32))} [HA A] {Q : Option Value → jm → Prop} {G : Nat → Int → Int} {T : jm} {M : jm} (hC_M : CI M) (ht_M : FR W_c_Parser_chain T M) (p0 : 1 ≤ M 413 3 ∧ M 413 3 ≤ 1) (p1 : MP M G) (q : ∀ (M' : jm), CI M' → FR W_c_Parser_chain T M' → (MP M' G) → Q none M') : jc A 361 197 [.ref (413)] M Q := by
  refine jc_of (m := xm_197) rfl (Nat.le_of_ble_eq_true rfl) rfl ?_
  obtain ⟨v1, e1⟩ : ∃ z_, M 413 3 = z_ := ⟨_, rfl⟩
  have b1 : 1 ≤ v1 ∧ v1 ≤ 419 := by rw [← e1]; exact (CI.r hC_M (show kd 413 = 44 from rfl) (by decide) 3)
  have b2 : 1 ≤ v1 ∧ v1 ≤ 1 := by rw [← e1]; exact p0
  refine jr.aload_n rfl rfl ?_
  refine jr.iconst rfl ?_
  refine jr_v rfl rfl (Or.inl rfl) rfl rfl (by decide) rfl ⟨rfl, Nat.le_of_ble_eq_true rfl, Nat.le_of_ble_eq_true rfl⟩ rfl (jc.deep (c_Parser_isWord hC_M (by omega) (fun r3 z3  => ?_)) (by decide))
  refine jr.if_ne rfl rfl (by omega) (fun h5 => ?_) (fun h5 => ?_)
  · refine jr.aload_n rfl rfl ?_
    obtain ⟨v4, e4⟩ : ∃ z_, M 413 2 = z_ := ⟨_, rfl⟩
    have b4 : 0 ≤ v4 ∧ v4 ≤ 597 := by rw [← e4]; exact (CI.r hC_M (show kd 413 = 44 from rfl) (by decide) 2)
    have k5 : kd (v4).toNat = 47 := ((congrArg (fun z : Int => kd z.toNat) (show M 413 2 = v4 from e4)).symm.trans (CI.x hC_M (show kd 413 = 44 from rfl) 2 rfl (by decide)))
    refine jr.getf (i := 2) (x := v4) (v := .ref (v4.toNat)) rfl rfl (by decide) rfl (by decide) rfl rfl e4 rfl ?_
    obtain ⟨v6, e6⟩ : ∃ z_, M ((v4.toNat)) 3 = z_ := ⟨_, rfl⟩
    have b6 : 0 ≤ v6 ∧ v6 ≤ 16 := by rw [← e6]; exact (CI.r hC_M k5 (by decide) 3)
    refine jr.getf (i := 3) (x := v6) (v := .int (Int32.ofInt (v6))) rfl rfl (Nat.lt_trans (kx_47 k5).1 (by decide)) (kx_47 k5).2 (by decide) rfl rfl e6 rfl ?_
    refine jr.bipush rfl (by decide) ?_
    refine jr.icmp_lt rfl rfl (by omega) (by omega) (fun h22 => ?_) (fun h22 => ?_)
    · refine jr.aload_n rfl rfl ?_
      refine jr_v rfl rfl (Or.inl rfl) rfl rfl (by decide) rfl ⟨rfl, Nat.le_of_ble_eq_true rfl, Nat.le_of_ble_eq_true rfl⟩ rfl (jc.deep (c_Parser_advance hC_M (FR.rfl _ M)  (by have hq0 : M 413 3 = v1 := e1; omega) (fun M7 hC_M7 hf_M7  => ?_)) (by decide))
      have ht_M7 : FR W_c_Parser_chain T M7 := FR.t ht_M hf_M7 (kw_sub rfl)
      refine jr.aload_n rfl rfl ?_
      refine jr_v rfl rfl (Or.inl rfl) rfl rfl (by decide) rfl ⟨rfl, Nat.le_of_ble_eq_true rfl, Nat.le_of_ble_eq_true rfl⟩ rfl (jc.deep (c_Parser_isName hC_M7  (fun r8 z8  => ?_)) (by decide))
      refine jr.if_ne rfl rfl (by omega) (fun h39 => ?_) (fun h39 => ?_)
      · refine jr.aload_n rfl rfl ?_
        refine jr.aload_n rfl rfl ?_
        obtain ⟨v9, e9⟩ : ∃ z_, M7 413 7 = z_ := ⟨_, rfl⟩
        have b9 : 0 ≤ v9 ∧ v9 ≤ 1600 := by rw [← e9]; exact (CI.r hC_M7 (show kd 413 = 44 from rfl) (by decide) 7)
        refine jr.getf (i := 7) (x := v9) (v := .int (Int32.ofInt (v9))) rfl rfl (by decide) rfl (by decide) rfl rfl e9 rfl ?_
        have e11 : M7 413 3 = v1 := (hf_M7.g (show kd 413 = 44 from rfl) rfl).trans e1
        refine jr_v rfl rfl (Or.inl rfl) rfl rfl (by decide) rfl ⟨rfl, Nat.le_of_ble_eq_true rfl, Nat.le_of_ble_eq_true rfl⟩ rfl (jc.deep (c_Parser_chainNamed hC_M7 (by omega) (by have hq0 : M7 413 3 = v1 := e11; omega) (fun r10 z10  => ?_)) (by decide))
        refine jr.iconst rfl ?_
        refine jr.icmp_eq rfl rfl (by omega) (by omega) (fun h56 => ?_) (fun h56 => ?_)
        · refine jr.aload_n rfl rfl ?_
          refine jr.getf (i := 5) (v := .ref 420) rfl rfl (by decide) rfl (by decide) rfl rfl rfl rfl ?_
          refine jr.aload_n rfl rfl ?_
          have e12 : M7 413 2 = v4 := (hf_M7.g (show kd 413 = 44 from rfl) rfl).trans e4
          have k13 : kd (v4).toNat = 47 := ((congrArg (fun z : Int => kd z.toNat) (show M7 413 2 = v4 from e12)).symm.trans (CI.x hC_M7 (show kd 413 = 44 from rfl) 2 rfl (by decide)))
          refine jr.getf (i := 2) (x := v4) (v := .ref (v4.toNat)) rfl rfl (by decide) rfl (by decide) rfl rfl e12 rfl ?_
          have e14 : M7 ((v4.toNat)) 3 = v6 := (hf_M7.g k13 rfl).trans e6
          refine jr.getf (i := 3) (x := v6) (v := .int (Int32.ofInt (v6))) rfl rfl (Nat.lt_trans (kx_47 k13).1 (by decide)) (kx_47 k13).2 (by decide) rfl rfl e14 rfl ?_
          refine jr.aload_n rfl rfl ?_
          refine jr.getf (i := 7) (x := v9) (v := .int (Int32.ofInt (v9))) rfl rfl (by decide) rfl (by decide) rfl rfl e9 rfl ?_
          refine jr.iast (i := v6) (x := v9) rfl (by decide) rfl (by decide) (by omega) (by omega) ?_
          refine jr.aload_n rfl rfl ?_
          have k15 : kd (v4).toNat = 47 := ((congrArg (fun z : Int => kd z.toNat) (show (ju M7 420 v6 v9) 413 2 = v4 from ((ju_c _ _ (by decide)).trans e12))).symm.trans (CI.x (CI.u hC_M7 (i := v6) (show kd 420 = 45 from rfl) (show (-2147483648 : Int) ≤ _ ∧ _ ≤ (2147483647 : Int) from by omega) rfl) (show kd 413 = 44 from rfl) 2 rfl (by decide)))
          refine jr.getf (i := 2) (x := v4) (v := .ref (v4.toNat)) rfl rfl (by decide) rfl (by decide) rfl rfl ((ju_c _ _ (by decide)).trans e12) rfl ?_
          have k16 := kf_47_5 k15
          refine jr.getf (i := 5) (v := .ref ((v4.toNat) + 3)) rfl rfl (Nat.lt_trans (kx_47 k15).1 (by decide)) (kx_47 k15).2 (by decide) rfl rfl rfl (jval_ref rfl k16.1) ?_
          refine jr.aload_n rfl rfl ?_
          have k17 : kd (v4).toNat = 47 := ((congrArg (fun z : Int => kd z.toNat) (show (ju M7 420 v6 v9) 413 2 = v4 from ((ju_c _ _ (by decide)).trans e12))).symm.trans (CI.x (CI.u hC_M7 (i := v6) (show kd 420 = 45 from rfl) (show (-2147483648 : Int) ≤ _ ∧ _ ≤ (2147483647 : Int) from by omega) rfl) (show kd 413 = 44 from rfl) 2 rfl (by decide)))
          refine jr.getf (i := 2) (x := v4) (v := .ref (v4.toNat)) rfl rfl (by decide) rfl (by decide) rfl rfl ((ju_c _ _ (by decide)).trans e12) rfl ?_
          refine jr.getf (i := 3) (x := v6) (v := .int (Int32.ofInt (v6))) rfl rfl (Nat.lt_trans (kx_47 k17).1 (by decide)) (kx_47 k17).2 (by decide) rfl rfl ((ju_c _ _ (kd_ne (by rw [k17, (show kd 420 = 45 from rfl)]; decide))).trans e14) rfl ?_
          refine jr.aload_n rfl rfl ?_
          have k18 : kd (v4).toNat = 47 := ((congrArg (fun z : Int => kd z.toNat) (show (ju M7 420 v6 v9) 413 2 = v4 from ((ju_c _ _ (by decide)).trans e12))).symm.trans (CI.x (CI.u hC_M7 (i := v6) (show kd 420 = 45 from rfl) (show (-2147483648 : Int) ≤ _ ∧ _ ≤ (2147483647 : Int) from by omega) rfl) (show kd 413 = 44 from rfl) 2 rfl (by decide)))
          refine jr.getf (i := 2) (x := v4) (v := .ref (v4.toNat)) rfl rfl (by decide) rfl (by decide) rfl rfl ((ju_c _ _ (by decide)).trans e12) rfl ?_
          obtain ⟨v19, e19⟩ : ∃ z_, M ((v4.toNat)) 2 = z_ := ⟨_, rfl⟩
          have b19 : 0 ≤ v19 ∧ v19 ≤ 932 := by rw [← e19]; exact (CI.r hC_M k18 (by decide) 2)
          have e20 : M7 ((v4.toNat)) 2 = v19 := (hf_M7.g k18 rfl).trans e19
          refine jr.getf (i := 2) (x := v19) (v := .int (Int32.ofInt (v19))) rfl rfl (Nat.lt_trans (kx_47 k18).1 (by decide)) (kx_47 k18).2 (by decide) rfl rfl ((ju_c _ _ (kd_ne (by rw [k18, (show kd 420 = 45 from rfl)]; decide))).trans e20) rfl ?_
          refine jr.iast (i := v6) (x := v19) rfl (Nat.lt_trans (kx_50 k16.2).1 (by decide)) (kx_50 k16.2).2 (by decide) (by omega) (by omega) ?_
          refine jr.aload_n rfl rfl ?_
          refine jr_v rfl rfl (Or.inl rfl) rfl rfl (by decide) rfl ⟨rfl, Nat.le_of_ble_eq_true rfl, Nat.le_of_ble_eq_true rfl⟩ rfl (jc.deep (c_Parser_advance (CI.u (CI.u hC_M7 (i := v6) (show kd 420 = 45 from rfl) (show (-2147483648 : Int) ≤ _ ∧ _ ≤ (2147483647 : Int) from by omega) rfl) (i := v6) k16.2 (show (-2147483648 : Int) ≤ _ ∧ _ ≤ (2147483647 : Int) from by omega) rfl) (FR.rfl _ ((ju (ju M7 420 v6 v9) (((v4.toNat) + 3)) v6 v19)))  (by have hq0 : (ju (ju M7 420 v6 v9) (((v4.toNat) + 3)) v6 v19) 413 3 = v1 := ((ju_c _ _ (kd_ne (by rw [(show kd 413 = 44 from rfl), k16.2]; decide))).trans ((ju_c _ _ (by decide)).trans e11)); omega) (fun M21 hC_M21 hf_M21  => ?_)) (by decide))
          have ht_M21 : FR W_c_Parser_chain T M21 := FR.t (FR.o (FR.o ht_M7 (show kd 420 = 45 from rfl) rfl) k16.2 rfl) hf_M21 (kw_sub rfl)
          refine jr.aload_n rfl rfl ?_
          refine jr.iconst rfl ?_
          refine jr.iconst rfl ?_
          have e23 : M21 413 3 = v1 := (hf_M21.g (show kd 413 = 44 from rfl) rfl).trans ((ju_c _ _ (kd_ne (by rw [(show kd 413 = 44 from rfl), k16.2]; decide))).trans ((ju_c _ _ (by decide)).trans e11))
          refine jr_v rfl rfl (Or.inl rfl) rfl rfl (by decide) rfl ⟨rfl, Nat.le_of_ble_eq_true rfl, Nat.le_of_ble_eq_true rfl⟩ rfl (jc.deep ((PX_all (A := A) 300).2.2.2.2.1 hC_M21 (FR.rfl _ M21) (by omega) (by omega) (by have hq0 : M21 413 3 = v1 := e23; omega) (MP.fr (MP.w (MP.n (MP.fr p1 hC_M hf_M7 rfl) hC_M7 (show kd 420 = 45 from rfl) (by decide) (Or.inr (by decide))) (CI.u hC_M7 (i := v6) (show kd 420 = 45 from rfl) (show (-2147483648 : Int) ≤ _ ∧ _ ≤ (2147483647 : Int) from by omega) rfl) ((ju_c _ _ (by decide)).trans e12) ⟨by omega, by omega⟩) (CI.u (CI.u hC_M7 (i := v6) (show kd 420 = 45 from rfl) (show (-2147483648 : Int) ≤ _ ∧ _ ≤ (2147483647 : Int) from by omega) rfl) (i := v6) k16.2 (show (-2147483648 : Int) ≤ _ ∧ _ ≤ (2147483647 : Int) from by omega) rfl) hf_M21 rfl) (by omega) (fun M22 hC_M22 hf_M22 w22_0 => ?_)) (by decide))
          have ht_M22 : FR W_c_Parser_chain T M22 := FR.t ht_M21 hf_M22 (kw_sub rfl)
          refine jr.aload_n rfl rfl ?_
          have e24 : M21 413 2 = v4 := (hf_M21.g (show kd 413 = 44 from rfl) rfl).trans ((ju_c _ _ (kd_ne (by rw [(show kd 413 = 44 from rfl), k16.2]; decide))).trans ((ju_c _ _ (by decide)).trans e12))
          have e25 : M22 413 2 = v4 := (hf_M22.g (show kd 413 = 44 from rfl) rfl).trans e24
          have k26 : kd (v4).toNat = 47 := ((congrArg (fun z : Int => kd z.toNat) (show M22 413 2 = v4 from e25)).symm.trans (CI.x hC_M22 (show kd 413 = 44 from rfl) 2 rfl (by decide)))
          refine jr.getf (i := 2) (x := v4) (v := .ref (v4.toNat)) rfl rfl (by decide) rfl (by decide) rfl rfl e25 rfl ?_
          refine jr.bipush rfl (by decide) ?_
          refine jr.iconst rfl ?_
          refine jr_v rfl rfl (Or.inl rfl) rfl rfl (Nat.lt_trans (kx_47 k26).1 (by decide)) (kx_47 k26).2 ⟨rfl, Nat.le_of_ble_eq_true rfl, Nat.le_of_ble_eq_true rfl⟩ rfl (jc.deep (c_Program_emit_m hC_M22 (FR.rfl _ M22) k26 (by omega) (by omega) (by have hq0 : M22 413 2 = v4 := e25; omega) w22_0 (fun r27 M27 hC_M27 hf_M27 z27 w27_0 => ?_)) (by decide))
          have ht_M27 : FR W_c_Parser_chain T M27 := FR.t ht_M22 hf_M27 (kw_sub rfl)
          refine jr.pop rfl rfl ?_
          refine jr.aload_n rfl rfl ?_
          have e28 : M27 413 2 = v4 := (hf_M27.g (show kd 413 = 44 from rfl) rfl).trans e25
          have k29 : kd (v4).toNat = 47 := ((congrArg (fun z : Int => kd z.toNat) (show M27 413 2 = v4 from e28)).symm.trans (CI.x hC_M27 (show kd 413 = 44 from rfl) 2 rfl (by decide)))
          refine jr.getf (i := 2) (x := v4) (v := .ref (v4.toNat)) rfl rfl (by decide) rfl (by decide) rfl rfl e28 rfl ?_
          have k30 := kf_47_6 k29
          refine jr.getf (i := 6) (v := .ref ((v4.toNat) + 4)) rfl rfl (Nat.lt_trans (kx_47 k29).1 (by decide)) (kx_47 k29).2 (by decide) rfl rfl rfl (jval_ref rfl k30.1) ?_
          refine jr.aload_n rfl rfl ?_
          have k31 : kd (v4).toNat = 47 := ((congrArg (fun z : Int => kd z.toNat) (show M27 413 2 = v4 from e28)).symm.trans (CI.x hC_M27 (show kd 413 = 44 from rfl) 2 rfl (by decide)))
          refine jr.getf (i := 2) (x := v4) (v := .ref (v4.toNat)) rfl rfl (by decide) rfl (by decide) rfl rfl e28 rfl ?_
          have e32 : M21 ((v4.toNat)) 3 = v6 := (hf_M21.g k31 rfl).trans ((ju_c _ _ (kd_ne (by rw [k31, k16.2]; decide))).trans ((ju_c _ _ (kd_ne (by rw [k31, (show kd 420 = 45 from rfl)]; decide))).trans e14))
          have e33 : M22 ((v4.toNat)) 3 = v6 := (hf_M22.g k31 rfl).trans e32
          have e34 : M27 ((v4.toNat)) 3 = v6 := (hf_M27.g k31 rfl).trans e33
          refine jr.getf (i := 3) (x := v6) (v := .int (Int32.ofInt (v6))) rfl rfl (Nat.lt_trans (kx_47 k31).1 (by decide)) (kx_47 k31).2 (by decide) rfl rfl e34 rfl ?_
          refine jr.aload_n rfl rfl ?_
          have k35 : kd (v4).toNat = 47 := ((congrArg (fun z : Int => kd z.toNat) (show M27 413 2 = v4 from e28)).symm.trans (CI.x hC_M27 (show kd 413 = 44 from rfl) 2 rfl (by decide)))
          refine jr.getf (i := 2) (x := v4) (v := .ref (v4.toNat)) rfl rfl (by decide) rfl (by decide) rfl rfl e28 rfl ?_
          obtain ⟨v36, e36⟩ : ∃ z_, M27 ((v4.toNat)) 2 = z_ := ⟨_, rfl⟩
          have b36 : 0 ≤ v36 ∧ v36 ≤ 932 := by rw [← e36]; exact (CI.r hC_M27 k35 (by decide) 2)
          refine jr.getf (i := 2) (x := v36) (v := .int (Int32.ofInt (v36))) rfl rfl (Nat.lt_trans (kx_47 k35).1 (by decide)) (kx_47 k35).2 (by decide) rfl rfl e36 rfl ?_
          refine jr.iast (i := v6) (x := v36) rfl (Nat.lt_trans (kx_49 k30.2).1 (by decide)) (kx_49 k30.2).2 (by decide) (by omega) (by omega) ?_
          refine jr.aload_n rfl rfl ?_
          obtain ⟨v37, e37⟩ : ∃ z_, M22 413 0 = z_ := ⟨_, rfl⟩
          have b37 : (-2147483648) ≤ v37 ∧ v37 ≤ 2147483647 := by rw [← e37]; exact (CI.r hC_M22 (show kd 413 = 44 from rfl) (by decide) 0)
          have e38 : M27 413 0 = v37 := (hf_M27.g (show kd 413 = 44 from rfl) rfl).trans e37
          refine jr.getf (i := 0) (x := v37) (v := .int (Int32.ofInt (v37))) rfl rfl (by decide) rfl (by decide) rfl rfl ((ju_c _ _ (kd_ne (by rw [(show kd 413 = 44 from rfl), k30.2]; decide))).trans e38) rfl ?_
          refine jr.if_ne rfl rfl (by omega) (fun h150 => ?_) (fun h150 => ?_)
          · refine jr.aload_n rfl rfl ?_
            have k39 : kd (v4).toNat = 47 := ((congrArg (fun z : Int => kd z.toNat) (show (ju M27 (((v4.toNat) + 4)) v6 v36) 413 2 = v4 from ((ju_c _ _ (kd_ne (by rw [(show kd 413 = 44 from rfl), k30.2]; decide))).trans e28))).symm.trans (CI.x (CI.u hC_M27 (i := v6) k30.2 (show (-2147483648 : Int) ≤ _ ∧ _ ≤ (2147483647 : Int) from by omega) rfl) (show kd 413 = 44 from rfl) 2 rfl (by decide)))
            refine jr.getf (i := 2) (x := v4) (v := .ref (v4.toNat)) rfl rfl (by decide) rfl (by decide) rfl rfl ((ju_c _ _ (kd_ne (by rw [(show kd 413 = 44 from rfl), k30.2]; decide))).trans e28) rfl ?_
            refine jr.bipush rfl (by decide) ?_
            refine jr.iconst rfl ?_
            refine jr_v rfl rfl (Or.inl rfl) rfl rfl (Nat.lt_trans (kx_47 k39).1 (by decide)) (kx_47 k39).2 ⟨rfl, Nat.le_of_ble_eq_true rfl, Nat.le_of_ble_eq_true rfl⟩ rfl (jc.deep (c_Program_emit_m (CI.u hC_M27 (i := v6) k30.2 (show (-2147483648 : Int) ≤ _ ∧ _ ≤ (2147483647 : Int) from by omega) rfl) (FR.rfl _ ((ju M27 (((v4.toNat) + 4)) v6 v36))) k39 (by omega) (by omega) (by have hq0 : (ju M27 (((v4.toNat) + 4)) v6 v36) 413 2 = v4 := ((ju_c _ _ (kd_ne (by rw [(show kd 413 = 44 from rfl), k30.2]; decide))).trans e28); omega) (MP.w w27_0 hC_M27 e28 ⟨by omega, by omega⟩) (fun r40 M40 hC_M40 hf_M40 z40 w40_0 => ?_)) (by decide))
            have ht_M40 : FR W_c_Parser_chain T M40 := FR.t (FR.o ht_M27 k30.2 rfl) hf_M40 (kw_sub rfl)
            refine jr.pop rfl rfl ?_
            refine jr.aload_n rfl rfl ?_
            have e41 : M40 413 2 = v4 := (hf_M40.g (show kd 413 = 44 from rfl) rfl).trans ((ju_c _ _ (kd_ne (by rw [(show kd 413 = 44 from rfl), k30.2]; decide))).trans e28)
            have k42 : kd (v4).toNat = 47 := ((congrArg (fun z : Int => kd z.toNat) (show M40 413 2 = v4 from e41)).symm.trans (CI.x hC_M40 (show kd 413 = 44 from rfl) 2 rfl (by decide)))
            refine jr.getf (i := 2) (x := v4) (v := .ref (v4.toNat)) rfl rfl (by decide) rfl (by decide) rfl rfl e41 rfl ?_
            refine jr.dup rfl rfl ?_
            have e43 : M40 ((v4.toNat)) 3 = v6 := (hf_M40.g k42 rfl).trans ((ju_c _ _ (kd_ne (by rw [k42, k30.2]; decide))).trans e34)
            refine jr.getf (i := 3) (x := v6) (v := .int (Int32.ofInt (v6))) rfl rfl (Nat.lt_trans (kx_47 k42).1 (by decide)) (kx_47 k42).2 (by decide) rfl rfl e43 rfl ?_
            refine jr.iconst rfl ?_
            refine jr.iadd rfl ?_
            refine jr.putf (i := 3) (x := (v6 + 1)) rfl rfl (Nat.lt_trans (kx_47 k42).1 (by decide)) (kx_47 k42).2 (by decide) rfl rfl rfl rfl rfl ?_
            exact jr.vreturn rfl rfl (q _ (CI.u hC_M40 (i := 3) k42 (show (0 : Int) ≤ _ ∧ _ ≤ (16 : Int) from by omega) rfl) (FR.o ht_M40 k42 rfl)  (MP.w w40_0 hC_M40 e41 ⟨by omega, by omega⟩))
          · refine jr.aload_n rfl rfl ?_
            refine jr.iconst rfl ?_
            refine jr_v rfl rfl (Or.inl rfl) rfl rfl (by decide) rfl ⟨rfl, Nat.le_of_ble_eq_true rfl, Nat.le_of_ble_eq_true rfl⟩ rfl (jc.deep (c_Parser_isWord (CI.u hC_M27 (i := v6) k30.2 (show (-2147483648 : Int) ≤ _ ∧ _ ≤ (2147483647 : Int) from by omega) rfl) (by omega) (fun r44 z44  => ?_)) (by decide))
            refine jr.if_eq rfl rfl (by omega) (fun h158 => ?_) (fun h158 => ?_)
            · refine jr.aload_n rfl rfl ?_
              have k45 : kd (v4).toNat = 47 := ((congrArg (fun z : Int => kd z.toNat) (show (ju M27 (((v4.toNat) + 4)) v6 v36) 413 2 = v4 from ((ju_c _ _ (kd_ne (by rw [(show kd 413 = 44 from rfl), k30.2]; decide))).trans e28))).symm.trans (CI.x (CI.u hC_M27 (i := v6) k30.2 (show (-2147483648 : Int) ≤ _ ∧ _ ≤ (2147483647 : Int) from by omega) rfl) (show kd 413 = 44 from rfl) 2 rfl (by decide)))
              refine jr.getf (i := 2) (x := v4) (v := .ref (v4.toNat)) rfl rfl (by decide) rfl (by decide) rfl rfl ((ju_c _ _ (kd_ne (by rw [(show kd 413 = 44 from rfl), k30.2]; decide))).trans e28) rfl ?_
              refine jr.bipush rfl (by decide) ?_
              refine jr.iconst rfl ?_
              refine jr_v rfl rfl (Or.inl rfl) rfl rfl (Nat.lt_trans (kx_47 k45).1 (by decide)) (kx_47 k45).2 ⟨rfl, Nat.le_of_ble_eq_true rfl, Nat.le_of_ble_eq_true rfl⟩ rfl (jc.deep (c_Program_emit_m (CI.u hC_M27 (i := v6) k30.2 (show (-2147483648 : Int) ≤ _ ∧ _ ≤ (2147483647 : Int) from by omega) rfl) (FR.rfl _ ((ju M27 (((v4.toNat) + 4)) v6 v36))) k45 (by omega) (by omega) (by have hq0 : (ju M27 (((v4.toNat) + 4)) v6 v36) 413 2 = v4 := ((ju_c _ _ (kd_ne (by rw [(show kd 413 = 44 from rfl), k30.2]; decide))).trans e28); omega) (MP.w w27_0 hC_M27 e28 ⟨by omega, by omega⟩) (fun r46 M46 hC_M46 hf_M46 z46 w46_0 => ?_)) (by decide))
              have ht_M46 : FR W_c_Parser_chain T M46 := FR.t (FR.o ht_M27 k30.2 rfl) hf_M46 (kw_sub rfl)
              refine jr.pop rfl rfl ?_
              refine jr.aload_n rfl rfl ?_
              have e47 : M46 413 2 = v4 := (hf_M46.g (show kd 413 = 44 from rfl) rfl).trans ((ju_c _ _ (kd_ne (by rw [(show kd 413 = 44 from rfl), k30.2]; decide))).trans e28)
              have k48 : kd (v4).toNat = 47 := ((congrArg (fun z : Int => kd z.toNat) (show M46 413 2 = v4 from e47)).symm.trans (CI.x hC_M46 (show kd 413 = 44 from rfl) 2 rfl (by decide)))
              refine jr.getf (i := 2) (x := v4) (v := .ref (v4.toNat)) rfl rfl (by decide) rfl (by decide) rfl rfl e47 rfl ?_
              refine jr.dup rfl rfl ?_
              have e49 : M46 ((v4.toNat)) 3 = v6 := (hf_M46.g k48 rfl).trans ((ju_c _ _ (kd_ne (by rw [k48, k30.2]; decide))).trans e34)
              refine jr.getf (i := 3) (x := v6) (v := .int (Int32.ofInt (v6))) rfl rfl (Nat.lt_trans (kx_47 k48).1 (by decide)) (kx_47 k48).2 (by decide) rfl rfl e49 rfl ?_
              refine jr.iconst rfl ?_
              refine jr.iadd rfl ?_
              refine jr.putf (i := 3) (x := (v6 + 1)) rfl rfl (Nat.lt_trans (kx_47 k48).1 (by decide)) (kx_47 k48).2 (by decide) rfl rfl rfl rfl rfl ?_
              exact jr.vreturn rfl rfl (q _ (CI.u hC_M46 (i := 3) k48 (show (0 : Int) ≤ _ ∧ _ ≤ (16 : Int) from by omega) rfl) (FR.o ht_M46 k48 rfl)  (MP.w w46_0 hC_M46 e47 ⟨by omega, by omega⟩))
            · refine jr.aload_n rfl rfl ?_
              have e51 : M22 413 3 = v1 := (hf_M22.g (show kd 413 = 44 from rfl) rfl).trans e23
              have e52 : M27 413 3 = v1 := (hf_M27.g (show kd 413 = 44 from rfl) rfl).trans e51
              refine jr_v rfl rfl (Or.inl rfl) rfl rfl (by decide) rfl ⟨rfl, Nat.le_of_ble_eq_true rfl, Nat.le_of_ble_eq_true rfl⟩ rfl (jc.deep (c_Parser_advance (CI.u hC_M27 (i := v6) k30.2 (show (-2147483648 : Int) ≤ _ ∧ _ ≤ (2147483647 : Int) from by omega) rfl) (FR.rfl _ ((ju M27 (((v4.toNat) + 4)) v6 v36)))  (by have hq0 : (ju M27 (((v4.toNat) + 4)) v6 v36) 413 3 = v1 := ((ju_c _ _ (kd_ne (by rw [(show kd 413 = 44 from rfl), k30.2]; decide))).trans e52); omega) (fun M50 hC_M50 hf_M50  => ?_)) (by decide))
              have ht_M50 : FR W_c_Parser_chain T M50 := FR.t (FR.o ht_M27 k30.2 rfl) hf_M50 (kw_sub rfl)
              refine jr.aload_n rfl rfl ?_
              refine jr.iconst rfl ?_
              refine jr.iconst rfl ?_
              have e54 : M50 413 3 = v1 := (hf_M50.g (show kd 413 = 44 from rfl) rfl).trans ((ju_c _ _ (kd_ne (by rw [(show kd 413 = 44 from rfl), k30.2]; decide))).trans e52)
              refine jr_v rfl rfl (Or.inl rfl) rfl rfl (by decide) rfl ⟨rfl, Nat.le_of_ble_eq_true rfl, Nat.le_of_ble_eq_true rfl⟩ rfl (jc.deep ((PX_all (A := A) 300).2.2.2.2.1 hC_M50 (FR.rfl _ M50) (by omega) (by omega) (by have hq0 : M50 413 3 = v1 := e54; omega) (MP.fr (MP.w w27_0 hC_M27 e28 ⟨by omega, by omega⟩) (CI.u hC_M27 (i := v6) k30.2 (show (-2147483648 : Int) ≤ _ ∧ _ ≤ (2147483647 : Int) from by omega) rfl) hf_M50 rfl) (by omega) (fun M53 hC_M53 hf_M53 w53_0 => ?_)) (by decide))
              have ht_M53 : FR W_c_Parser_chain T M53 := FR.t ht_M50 hf_M53 (kw_sub rfl)
              refine jr.aload_n rfl rfl ?_
              have e55 : M50 413 2 = v4 := (hf_M50.g (show kd 413 = 44 from rfl) rfl).trans ((ju_c _ _ (kd_ne (by rw [(show kd 413 = 44 from rfl), k30.2]; decide))).trans e28)
              have e56 : M53 413 2 = v4 := (hf_M53.g (show kd 413 = 44 from rfl) rfl).trans e55
              have k57 : kd (v4).toNat = 47 := ((congrArg (fun z : Int => kd z.toNat) (show M53 413 2 = v4 from e56)).symm.trans (CI.x hC_M53 (show kd 413 = 44 from rfl) 2 rfl (by decide)))
              refine jr.getf (i := 2) (x := v4) (v := .ref (v4.toNat)) rfl rfl (by decide) rfl (by decide) rfl rfl e56 rfl ?_
              refine jr.bipush rfl (by decide) ?_
              refine jr.iconst rfl ?_
              refine jr_v rfl rfl (Or.inl rfl) rfl rfl (Nat.lt_trans (kx_47 k57).1 (by decide)) (kx_47 k57).2 ⟨rfl, Nat.le_of_ble_eq_true rfl, Nat.le_of_ble_eq_true rfl⟩ rfl (jc.deep (c_Program_emit_m hC_M53 (FR.rfl _ M53) k57 (by omega) (by omega) (by have hq0 : M53 413 2 = v4 := e56; omega) w53_0 (fun r58 M58 hC_M58 hf_M58 z58 w58_0 => ?_)) (by decide))
              have ht_M58 : FR W_c_Parser_chain T M58 := FR.t ht_M53 hf_M58 (kw_sub rfl)
              refine jr.pop rfl rfl ?_
              refine jr.aload_n rfl rfl ?_
              have e59 : M58 413 2 = v4 := (hf_M58.g (show kd 413 = 44 from rfl) rfl).trans e56
              have k60 : kd (v4).toNat = 47 := ((congrArg (fun z : Int => kd z.toNat) (show M58 413 2 = v4 from e59)).symm.trans (CI.x hC_M58 (show kd 413 = 44 from rfl) 2 rfl (by decide)))
              refine jr.getf (i := 2) (x := v4) (v := .ref (v4.toNat)) rfl rfl (by decide) rfl (by decide) rfl rfl e59 rfl ?_
              refine jr.dup rfl rfl ?_
              have e61 : M50 ((v4.toNat)) 3 = v6 := (hf_M50.g k60 rfl).trans ((ju_c _ _ (kd_ne (by rw [k60, k30.2]; decide))).trans e34)
              have e62 : M53 ((v4.toNat)) 3 = v6 := (hf_M53.g k60 rfl).trans e61
              have e63 : M58 ((v4.toNat)) 3 = v6 := (hf_M58.g k60 rfl).trans e62
              refine jr.getf (i := 3) (x := v6) (v := .int (Int32.ofInt (v6))) rfl rfl (Nat.lt_trans (kx_47 k60).1 (by decide)) (kx_47 k60).2 (by decide) rfl rfl e63 rfl ?_
              refine jr.iconst rfl ?_
              refine jr.iadd rfl ?_
              refine jr.putf (i := 3) (x := (v6 + 1)) rfl rfl (Nat.lt_trans (kx_47 k60).1 (by decide)) (kx_47 k60).2 (by decide) rfl rfl rfl rfl rfl ?_
              exact jr.vreturn rfl rfl (q _ (CI.u hC_M58 (i := 3) k60 (show (0 : Int) ≤ _ ∧ _ ≤ (16 : Int) from by omega) rfl) (FR.o ht_M58 k60 rfl)  (MP.w w58_0 hC_M58 e59 ⟨by omega, by omega⟩))
        · refine jr.aload_n rfl rfl ?_
          refine jr.iconst rfl ?_
          refine jr_v rfl rfl (Or.inl rfl) rfl rfl (by decide) rfl ⟨rfl, Nat.le_of_ble_eq_true rfl, Nat.le_of_ble_eq_true rfl⟩ rfl (jc.deep (c_Parser_fail hC_M7 (FR.rfl _ M7) (by omega) (fun M64 hC_M64 hf_M64 w64_0 => ?_)) (by decide))
          have ht_M64 : FR W_c_Parser_chain T M64 := FR.t ht_M7 hf_M64 (kw_sub rfl)
          obtain ⟨v65, e65⟩ : ∃ z_, M64 413 0 = z_ := ⟨_, rfl⟩
          have b65 : (-2147483648) ≤ v65 ∧ v65 ≤ 2147483647 := by rw [← e65]; exact (CI.r hC_M64 (show kd 413 = 44 from rfl) (by decide) 0)
          exact jr.vreturn rfl rfl (q _ hC_M64 ht_M64  (MP.fr (MP.fr p1 hC_M hf_M7 rfl) hC_M7 hf_M64 rfl))
      · refine jr.aload_n rfl rfl ?_
        refine jr_v rfl rfl (Or.inl rfl) rfl rfl (by decide) rfl ⟨rfl, Nat.le_of_ble_eq_true rfl, Nat.le_of_ble_eq_true rfl⟩ rfl (jc.deep (c_Parser_refuse hC_M7 (FR.rfl _ M7)  (fun M66 hC_M66 hf_M66 w66_0 => ?_)) (by decide))
        have ht_M66 : FR W_c_Parser_chain T M66 := FR.t ht_M7 hf_M66 (kw_sub rfl)
        obtain ⟨v67, e67⟩ : ∃ z_, M66 413 0 = z_ := ⟨_, rfl⟩
        have b67 : (-2147483648) ≤ v67 ∧ v67 ≤ 2147483647 := by rw [← e67]; exact (CI.r hC_M66 (show kd 413 = 44 from rfl) (by decide) 0)
        exact jr.vreturn rfl rfl (q _ hC_M66 ht_M66  (MP.fr (MP.fr p1 hC_M hf_M7 rfl) hC_M7 hf_M66 rfl))
    · refine jr.aload_n rfl rfl ?_
      refine jr.iconst rfl ?_
      refine jr_v rfl rfl (Or.inl rfl) rfl rfl (by decide) rfl ⟨rfl, Nat.le_of_ble_eq_true rfl, Nat.le_of_ble_eq_true rfl⟩ rfl (jc.deep (c_Parser_fail hC_M (FR.rfl _ M) (by omega) (fun M68 hC_M68 hf_M68 w68_0 => ?_)) (by decide))
      have ht_M68 : FR W_c_Parser_chain T M68 := FR.t ht_M hf_M68 (kw_sub rfl)
      obtain ⟨v69, e69⟩ : ∃ z_, M68 413 0 = z_ := ⟨_, rfl⟩
      have b69 : (-2147483648) ≤ v69 ∧ v69 ≤ 2147483647 := by rw [← e69]; exact (CI.r hC_M68 (show kd 413 = 44 from rfl) (by decide) 0)
      exact jr.vreturn rfl rfl (q _ hC_M68 ht_M68  (MP.fr p1 hC_M hf_M68 rfl))
  · refine jr.aload_n rfl rfl ?_
    refine jr_v rfl rfl (Or.inl rfl) rfl rfl (by decide) rfl ⟨rfl, Nat.le_of_ble_eq_true rfl, Nat.le_of_ble_eq_true rfl⟩ rfl (jc.deep (c_Parser_refuse hC_M (FR.rfl _ M)  (fun M70 hC_M70 hf_M70 w70_0 => ?_)) (by decide))
    have ht_M70 : FR W_c_Parser_chain T M70 := FR.t ht_M hf_M70 (kw_sub rfl)
    obtain ⟨v71, e71⟩ : ∃ z_, M70 413 0 = z_ := ⟨_, rfl⟩
    have b71 : (-2147483648) ≤ v71 ∧ v71 ≤ 2147483647 := by rw [← e71]; exact (CI.r hC_M70 (show kd 413 = 44 from rfl) (by decide) 0)
    exact jr.vreturn rfl rfl (q _ hC_M70 ht_M70  (MP.fr p1 hC_M hf_M70 rfl))
def W_c_Parser_resolveJumps : List (Nat × Nat) := [(44, 0), (44, 1), (48, 1000)]
theorem c_Parser_resolveJumps_L2 {A : Nat → Option (Nat × (Nat → Int32))} [HA A] {Q : Option Value → jm → Prop} {G : Nat → Int → Int} {T : jm} (q : ∀ (M' : jm), CI M' → FR W_c_Parser_resolveJumps T M' → (MP M' G) → (PR M') → Q none M') : ∀ (nM : Nat) (M : jm) (i : Int), CI M → FR W_c_Parser_resolveJumps T M → 0 ≤ i ∧ i ≤ 932 → (1 ≤ M 413 3 ∧ M 413 3 ≤ 1) → (MP M G) → (JR M i) → 932 - i ≤ nM → jr A 3 xm_208 2 [(1, .int (Int32.ofInt (i))), (0, .ref (413))] [] M Q := by
  intro nM
  induction nM using Nat.strongRecOn with
  | ind nM ih =>
    intro M i hC_M ht_M h_i hy0 hy1 hy2 hm
    obtain ⟨v1, e1⟩ : ∃ z_, M 413 3 = z_ := ⟨_, rfl⟩
    have b1 : 1 ≤ v1 ∧ v1 ≤ 419 := by rw [← e1]; exact (CI.r hC_M (show kd 413 = 44 from rfl) (by decide) 3)
    have b2 : 1 ≤ v1 ∧ v1 ≤ 1 := by rw [← e1]; exact hy0
    refine jr.iload_n rfl rfl ?_
    refine jr.aload_n rfl rfl ?_
    obtain ⟨v3, e3⟩ : ∃ z_, M 413 2 = z_ := ⟨_, rfl⟩
    have b3 : 0 ≤ v3 ∧ v3 ≤ 597 := by rw [← e3]; exact (CI.r hC_M (show kd 413 = 44 from rfl) (by decide) 2)
    have k4 : kd (v3).toNat = 47 := ((congrArg (fun z : Int => kd z.toNat) (show M 413 2 = v3 from e3)).symm.trans (CI.x hC_M (show kd 413 = 44 from rfl) 2 rfl (by decide)))
    refine jr.getf (i := 2) (x := v3) (v := .ref (v3.toNat)) rfl rfl (by decide) rfl (by decide) rfl rfl e3 rfl ?_
    obtain ⟨v5, e5⟩ : ∃ z_, M ((v3.toNat)) 2 = z_ := ⟨_, rfl⟩
    have b5 : 0 ≤ v5 ∧ v5 ≤ 932 := by rw [← e5]; exact (CI.r hC_M k4 (by decide) 2)
    refine jr.getf (i := 2) (x := v5) (v := .int (Int32.ofInt (v5))) rfl rfl (Nat.lt_trans (kx_47 k4).1 (by decide)) (kx_47 k4).2 (by decide) rfl rfl e5 rfl ?_
    refine jr.icmp_ge rfl rfl (by omega) (by omega) (fun h10 => ?_) (fun h10 => ?_)
    · exact jr.vreturn rfl rfl (q _ hC_M ht_M  hy1 (by first | exact PR.f (by omega) | exact JR.e hy2 e3 e5 (by omega)))
    · refine jr.aload_n rfl rfl ?_
      obtain ⟨v6, e6⟩ : ∃ z_, M 413 0 = z_ := ⟨_, rfl⟩
      have b6 : (-2147483648) ≤ v6 ∧ v6 ≤ 2147483647 := by rw [← e6]; exact (CI.r hC_M (show kd 413 = 44 from rfl) (by decide) 0)
      refine jr.getf (i := 0) (x := v6) (v := .int (Int32.ofInt (v6))) rfl rfl (by decide) rfl (by decide) rfl rfl e6 rfl ?_
      refine jr.if_ne rfl rfl (by omega) (fun h17 => ?_) (fun h17 => ?_)
      · exact jr.vreturn rfl rfl (q _ hC_M ht_M  hy1 (by first | exact PR.f (by omega) | exact JR.e hy2 e3 e5 (by omega)))
      · refine jr.aload_n rfl rfl ?_
        have k7 : kd (v3).toNat = 47 := ((congrArg (fun z : Int => kd z.toNat) (show M 413 2 = v3 from e3)).symm.trans (CI.x hC_M (show kd 413 = 44 from rfl) 2 rfl (by decide)))
        refine jr.getf (i := 2) (x := v3) (v := .ref (v3.toNat)) rfl rfl (by decide) rfl (by decide) rfl rfl e3 rfl ?_
        refine jr.iload_n rfl rfl ?_
        refine jr_v rfl rfl (Or.inl rfl) rfl rfl (Nat.lt_trans (kx_47 k7).1 (by decide)) (kx_47 k7).2 ⟨rfl, Nat.le_of_ble_eq_true rfl, Nat.le_of_ble_eq_true rfl⟩ rfl (jc.deep (c_Program_opAt hC_M k7 (by omega) (fun r8 z8 w8_0 w8_1 => ?_)) (by decide))
        refine jr.istore_n rfl (by decide) rfl ?_
        refine jr.iload_n rfl rfl ?_
        refine jr.bipush rfl (by decide) ?_
        refine jr.icmp_eq rfl rfl (by omega) (by omega) (fun h32 => ?_) (fun h32 => ?_)
        · refine jr.aload_n rfl rfl ?_
          refine jr.aload_n rfl rfl ?_
          have k9 : kd (v3).toNat = 47 := ((congrArg (fun z : Int => kd z.toNat) (show M 413 2 = v3 from e3)).symm.trans (CI.x hC_M (show kd 413 = 44 from rfl) 2 rfl (by decide)))
          refine jr.getf (i := 2) (x := v3) (v := .ref (v3.toNat)) rfl rfl (by decide) rfl (by decide) rfl rfl e3 rfl ?_
          have k10 := kf_47_1 k9
          refine jr.getf (i := 1) (v := .ref ((v3.toNat) + 2)) rfl rfl (Nat.lt_trans (kx_47 k9).1 (by decide)) (kx_47 k9).2 (by decide) rfl rfl rfl (jval_ref rfl k10.1) ?_
          refine jr.iload_n rfl rfl ?_
          obtain ⟨v11, e11⟩ : ∃ z_, M (((v3.toNat) + 2)) i = z_ := ⟨_, rfl⟩
          have b11 : (-2147483648) ≤ v11 ∧ v11 ≤ 2147483647 := by rw [← e11]; exact (CI.r hC_M k10.2 (by decide) i)
          refine jr.iald (i := i) (x := v11) rfl (Nat.lt_trans (kx_48 k10.2).1 (by decide)) (kx_48 k10.2).2 (by decide) (by omega) (by omega) e11 ?_
          refine jr_v rfl rfl (Or.inl rfl) rfl rfl (by decide) rfl ⟨rfl, Nat.le_of_ble_eq_true rfl, Nat.le_of_ble_eq_true rfl⟩ rfl (jc.deep (c_Parser_chainNamed hC_M (by omega) (by have hq0 : M 413 3 = v1 := e1; omega) (fun r12 z12  => ?_)) (by decide))
          refine jr.istore_n rfl (by decide) rfl ?_
          refine jr.iload_n rfl rfl ?_
          refine jr.iconst rfl ?_
          refine jr.icmp_ne rfl rfl (by omega) (by omega) (fun h57 => ?_) (fun h57 => ?_)
          · refine jr.aload_n rfl rfl ?_
            have k13 : kd (v3).toNat = 47 := ((congrArg (fun z : Int => kd z.toNat) (show M 413 2 = v3 from e3)).symm.trans (CI.x hC_M (show kd 413 = 44 from rfl) 2 rfl (by decide)))
            refine jr.getf (i := 2) (x := v3) (v := .ref (v3.toNat)) rfl rfl (by decide) rfl (by decide) rfl rfl e3 rfl ?_
            have k14 := kf_47_1 k13
            refine jr.getf (i := 1) (v := .ref ((v3.toNat) + 2)) rfl rfl (Nat.lt_trans (kx_47 k13).1 (by decide)) (kx_47 k13).2 (by decide) rfl rfl rfl (jval_ref rfl k14.1) ?_
            refine jr.iload_n rfl rfl ?_
            refine jr.iload_n rfl rfl ?_
            refine jr.iast (i := i) (x := r12) rfl (Nat.lt_trans (kx_48 k14.2).1 (by decide)) (kx_48 k14.2).2 (by decide) (by omega) (by omega) ?_
            refine jr.iinc rfl rfl (by decide) rfl ?_
            refine jr.goto rfl rfl ?_
            refine jr.pick [0, 3] rfl rfl ?_
            exact ih (nM - 1) (by omega) ((ju M (((v3.toNat) + 2)) i r12)) (i + 1) (CI.u hC_M (i := i) k14.2 (show (-2147483648 : Int) ≤ _ ∧ _ ≤ (2147483647 : Int) from by omega) rfl) (FR.o ht_M k14.2 rfl) (by omega) (by have hq0 : (ju M (((v3.toNat) + 2)) i r12) 413 3 = v1 := ((ju_c _ _ (kd_ne (by rw [(show kd 413 = 44 from rfl), k14.2]; decide))).trans e1); omega) (MP.w hy1 hC_M e3 ⟨by omega, by omega⟩) (JR.w hy2 hC_M e3 (by omega)) (by omega)
          · refine jr.aload_n rfl rfl ?_
            refine jr.bipush rfl (by decide) ?_
            refine jr.putf (i := 0) (x := 7) rfl rfl (by decide) rfl (by decide) rfl rfl rfl rfl rfl ?_
            refine jr.aload_n rfl rfl ?_
            refine jr.aload_n rfl rfl ?_
            have k15 : kd (v3).toNat = 47 := ((congrArg (fun z : Int => kd z.toNat) (show (ju M 413 0 7) 413 2 = v3 from ((ju_i _ _ (by decide)).trans e3))).symm.trans (CI.x (CI.u hC_M (i := 0) (show kd 413 = 44 from rfl) (show (-2147483648 : Int) ≤ _ ∧ _ ≤ (2147483647 : Int) from by omega) rfl) (show kd 413 = 44 from rfl) 2 rfl (by decide)))
            refine jr.getf (i := 2) (x := v3) (v := .ref (v3.toNat)) rfl rfl (by decide) rfl (by decide) rfl rfl ((ju_i _ _ (by decide)).trans e3) rfl ?_
            have k16 := kf_47_1 k15
            refine jr.getf (i := 1) (v := .ref ((v3.toNat) + 2)) rfl rfl (Nat.lt_trans (kx_47 k15).1 (by decide)) (kx_47 k15).2 (by decide) rfl rfl rfl (jval_ref rfl k16.1) ?_
            refine jr.iload_n rfl rfl ?_
            refine jr.iald (i := i) (x := v11) rfl (Nat.lt_trans (kx_48 k16.2).1 (by decide)) (kx_48 k16.2).2 (by decide) (by omega) (by omega) ((ju_c _ _ (kd_ne (by rw [k16.2, (show kd 413 = 44 from rfl)]; decide))).trans e11) ?_
            refine jr.putf (i := 1) (x := v11) rfl rfl (by decide) rfl (by decide) rfl rfl rfl rfl rfl ?_
            refine jr.aload_n rfl rfl ?_
            have k17 : kd (v3).toNat = 47 := ((congrArg (fun z : Int => kd z.toNat) (show (ju (ju M 413 0 7) 413 1 v11) 413 2 = v3 from ((ju_i _ _ (by decide)).trans ((ju_i _ _ (by decide)).trans e3)))).symm.trans (CI.x (CI.u (CI.u hC_M (i := 0) (show kd 413 = 44 from rfl) (show (-2147483648 : Int) ≤ _ ∧ _ ≤ (2147483647 : Int) from by omega) rfl) (i := 1) (show kd 413 = 44 from rfl) (show (-2147483648 : Int) ≤ _ ∧ _ ≤ (2147483647 : Int) from by omega) rfl) (show kd 413 = 44 from rfl) 2 rfl (by decide)))
            refine jr.getf (i := 2) (x := v3) (v := .ref (v3.toNat)) rfl rfl (by decide) rfl (by decide) rfl rfl ((ju_i _ _ (by decide)).trans ((ju_i _ _ (by decide)).trans e3)) rfl ?_
            have k18 := kf_47_1 k17
            refine jr.getf (i := 1) (v := .ref ((v3.toNat) + 2)) rfl rfl (Nat.lt_trans (kx_47 k17).1 (by decide)) (kx_47 k17).2 (by decide) rfl rfl rfl (jval_ref rfl k18.1) ?_
            refine jr.iload_n rfl rfl ?_
            refine jr.iload_n rfl rfl ?_
            refine jr.iast (i := i) (x := r12) rfl (Nat.lt_trans (kx_48 k18.2).1 (by decide)) (kx_48 k18.2).2 (by decide) (by omega) (by omega) ?_
            refine jr.iinc rfl rfl (by decide) rfl ?_
            refine jr.goto rfl rfl ?_
            refine jr.pick [0, 3] rfl rfl ?_
            exact ih (nM - 1) (by omega) ((ju (ju (ju M 413 0 7) 413 1 v11) (((v3.toNat) + 2)) i r12)) (i + 1) (CI.u (CI.u (CI.u hC_M (i := 0) (show kd 413 = 44 from rfl) (show (-2147483648 : Int) ≤ _ ∧ _ ≤ (2147483647 : Int) from by omega) rfl) (i := 1) (show kd 413 = 44 from rfl) (show (-2147483648 : Int) ≤ _ ∧ _ ≤ (2147483647 : Int) from by omega) rfl) (i := i) k18.2 (show (-2147483648 : Int) ≤ _ ∧ _ ≤ (2147483647 : Int) from by omega) rfl) (FR.o (FR.o (FR.o ht_M (show kd 413 = 44 from rfl) rfl) (show kd 413 = 44 from rfl) rfl) k18.2 rfl) (by omega) (by have hq0 : (ju (ju (ju M 413 0 7) 413 1 v11) (((v3.toNat) + 2)) i r12) 413 3 = v1 := ((ju_c _ _ (kd_ne (by rw [(show kd 413 = 44 from rfl), k18.2]; decide))).trans ((ju_i _ _ (by decide)).trans ((ju_i _ _ (by decide)).trans e1))); omega) (MP.w (MP.n (MP.n hy1 hC_M (show kd 413 = 44 from rfl) (by decide) (Or.inl (by decide))) (CI.u hC_M (i := 0) (show kd 413 = 44 from rfl) (show (-2147483648 : Int) ≤ _ ∧ _ ≤ (2147483647 : Int) from by omega) rfl) (show kd 413 = 44 from rfl) (by decide) (Or.inl (by decide))) (CI.u (CI.u hC_M (i := 0) (show kd 413 = 44 from rfl) (show (-2147483648 : Int) ≤ _ ∧ _ ≤ (2147483647 : Int) from by omega) rfl) (i := 1) (show kd 413 = 44 from rfl) (show (-2147483648 : Int) ≤ _ ∧ _ ≤ (2147483647 : Int) from by omega) rfl) ((ju_i _ _ (by decide)).trans ((ju_i _ _ (by decide)).trans e3)) ⟨by omega, by omega⟩) (JR.f (by have hq : (ju (ju (ju M 413 0 7) 413 1 v11) (((v3.toNat) + 2)) i r12) 413 0 = 7 := ((ju_c _ _ (kd_ne (by rw [(show kd 413 = 44 from rfl), k18.2]; decide))).trans ((ju_i _ _ (by decide)).trans (ju_same _ _ _ _))); omega)) (by omega)
        · refine jr.iload_n rfl rfl ?_
          refine jr.bipush rfl (by decide) ?_
          refine jr.icmp_ne rfl rfl (by omega) (by omega) (fun h38 => ?_) (fun h38 => ?_)
          · refine jr.iinc rfl rfl (by decide) rfl ?_
            refine jr.goto rfl rfl ?_
            refine jr.pick [0, 2] rfl rfl ?_
            exact ih (nM - 1) (by omega) M (i + 1) hC_M ht_M (by omega) (by have hq0 : M 413 3 = v1 := e1; omega) hy1 (JR.n (o := r8) hy2 e3 (by omega) (by omega)) (by omega)
          · refine jr.aload_n rfl rfl ?_
            refine jr.aload_n rfl rfl ?_
            have k19 : kd (v3).toNat = 47 := ((congrArg (fun z : Int => kd z.toNat) (show M 413 2 = v3 from e3)).symm.trans (CI.x hC_M (show kd 413 = 44 from rfl) 2 rfl (by decide)))
            refine jr.getf (i := 2) (x := v3) (v := .ref (v3.toNat)) rfl rfl (by decide) rfl (by decide) rfl rfl e3 rfl ?_
            have k20 := kf_47_1 k19
            refine jr.getf (i := 1) (v := .ref ((v3.toNat) + 2)) rfl rfl (Nat.lt_trans (kx_47 k19).1 (by decide)) (kx_47 k19).2 (by decide) rfl rfl rfl (jval_ref rfl k20.1) ?_
            refine jr.iload_n rfl rfl ?_
            obtain ⟨v21, e21⟩ : ∃ z_, M (((v3.toNat) + 2)) i = z_ := ⟨_, rfl⟩
            have b21 : (-2147483648) ≤ v21 ∧ v21 ≤ 2147483647 := by rw [← e21]; exact (CI.r hC_M k20.2 (by decide) i)
            refine jr.iald (i := i) (x := v21) rfl (Nat.lt_trans (kx_48 k20.2).1 (by decide)) (kx_48 k20.2).2 (by decide) (by omega) (by omega) e21 ?_
            refine jr_v rfl rfl (Or.inl rfl) rfl rfl (by decide) rfl ⟨rfl, Nat.le_of_ble_eq_true rfl, Nat.le_of_ble_eq_true rfl⟩ rfl (jc.deep (c_Parser_chainNamed hC_M (by omega) (by have hq0 : M 413 3 = v1 := e1; omega) (fun r22 z22  => ?_)) (by decide))
            refine jr.istore_n rfl (by decide) rfl ?_
            refine jr.iload_n rfl rfl ?_
            refine jr.iconst rfl ?_
            refine jr.icmp_ne rfl rfl (by omega) (by omega) (fun h57 => ?_) (fun h57 => ?_)
            · refine jr.aload_n rfl rfl ?_
              have k23 : kd (v3).toNat = 47 := ((congrArg (fun z : Int => kd z.toNat) (show M 413 2 = v3 from e3)).symm.trans (CI.x hC_M (show kd 413 = 44 from rfl) 2 rfl (by decide)))
              refine jr.getf (i := 2) (x := v3) (v := .ref (v3.toNat)) rfl rfl (by decide) rfl (by decide) rfl rfl e3 rfl ?_
              have k24 := kf_47_1 k23
              refine jr.getf (i := 1) (v := .ref ((v3.toNat) + 2)) rfl rfl (Nat.lt_trans (kx_47 k23).1 (by decide)) (kx_47 k23).2 (by decide) rfl rfl rfl (jval_ref rfl k24.1) ?_
              refine jr.iload_n rfl rfl ?_
              refine jr.iload_n rfl rfl ?_
              refine jr.iast (i := i) (x := r22) rfl (Nat.lt_trans (kx_48 k24.2).1 (by decide)) (kx_48 k24.2).2 (by decide) (by omega) (by omega) ?_
              refine jr.iinc rfl rfl (by decide) rfl ?_
              refine jr.goto rfl rfl ?_
              refine jr.pick [0, 3] rfl rfl ?_
              exact ih (nM - 1) (by omega) ((ju M (((v3.toNat) + 2)) i r22)) (i + 1) (CI.u hC_M (i := i) k24.2 (show (-2147483648 : Int) ≤ _ ∧ _ ≤ (2147483647 : Int) from by omega) rfl) (FR.o ht_M k24.2 rfl) (by omega) (by have hq0 : (ju M (((v3.toNat) + 2)) i r22) 413 3 = v1 := ((ju_c _ _ (kd_ne (by rw [(show kd 413 = 44 from rfl), k24.2]; decide))).trans e1); omega) (MP.w hy1 hC_M e3 ⟨by omega, by omega⟩) (JR.w hy2 hC_M e3 (by omega)) (by omega)
            · refine jr.aload_n rfl rfl ?_
              refine jr.bipush rfl (by decide) ?_
              refine jr.putf (i := 0) (x := 7) rfl rfl (by decide) rfl (by decide) rfl rfl rfl rfl rfl ?_
              refine jr.aload_n rfl rfl ?_
              refine jr.aload_n rfl rfl ?_
              have k25 : kd (v3).toNat = 47 := ((congrArg (fun z : Int => kd z.toNat) (show (ju M 413 0 7) 413 2 = v3 from ((ju_i _ _ (by decide)).trans e3))).symm.trans (CI.x (CI.u hC_M (i := 0) (show kd 413 = 44 from rfl) (show (-2147483648 : Int) ≤ _ ∧ _ ≤ (2147483647 : Int) from by omega) rfl) (show kd 413 = 44 from rfl) 2 rfl (by decide)))
              refine jr.getf (i := 2) (x := v3) (v := .ref (v3.toNat)) rfl rfl (by decide) rfl (by decide) rfl rfl ((ju_i _ _ (by decide)).trans e3) rfl ?_
              have k26 := kf_47_1 k25
              refine jr.getf (i := 1) (v := .ref ((v3.toNat) + 2)) rfl rfl (Nat.lt_trans (kx_47 k25).1 (by decide)) (kx_47 k25).2 (by decide) rfl rfl rfl (jval_ref rfl k26.1) ?_
              refine jr.iload_n rfl rfl ?_
              refine jr.iald (i := i) (x := v21) rfl (Nat.lt_trans (kx_48 k26.2).1 (by decide)) (kx_48 k26.2).2 (by decide) (by omega) (by omega) ((ju_c _ _ (kd_ne (by rw [k26.2, (show kd 413 = 44 from rfl)]; decide))).trans e21) ?_
              refine jr.putf (i := 1) (x := v21) rfl rfl (by decide) rfl (by decide) rfl rfl rfl rfl rfl ?_
              refine jr.aload_n rfl rfl ?_
              have k27 : kd (v3).toNat = 47 := ((congrArg (fun z : Int => kd z.toNat) (show (ju (ju M 413 0 7) 413 1 v21) 413 2 = v3 from ((ju_i _ _ (by decide)).trans ((ju_i _ _ (by decide)).trans e3)))).symm.trans (CI.x (CI.u (CI.u hC_M (i := 0) (show kd 413 = 44 from rfl) (show (-2147483648 : Int) ≤ _ ∧ _ ≤ (2147483647 : Int) from by omega) rfl) (i := 1) (show kd 413 = 44 from rfl) (show (-2147483648 : Int) ≤ _ ∧ _ ≤ (2147483647 : Int) from by omega) rfl) (show kd 413 = 44 from rfl) 2 rfl (by decide)))
              refine jr.getf (i := 2) (x := v3) (v := .ref (v3.toNat)) rfl rfl (by decide) rfl (by decide) rfl rfl ((ju_i _ _ (by decide)).trans ((ju_i _ _ (by decide)).trans e3)) rfl ?_
              have k28 := kf_47_1 k27
              refine jr.getf (i := 1) (v := .ref ((v3.toNat) + 2)) rfl rfl (Nat.lt_trans (kx_47 k27).1 (by decide)) (kx_47 k27).2 (by decide) rfl rfl rfl (jval_ref rfl k28.1) ?_
              refine jr.iload_n rfl rfl ?_
              refine jr.iload_n rfl rfl ?_
              refine jr.iast (i := i) (x := r22) rfl (Nat.lt_trans (kx_48 k28.2).1 (by decide)) (kx_48 k28.2).2 (by decide) (by omega) (by omega) ?_
              refine jr.iinc rfl rfl (by decide) rfl ?_
              refine jr.goto rfl rfl ?_
              refine jr.pick [0, 3] rfl rfl ?_
              exact ih (nM - 1) (by omega) ((ju (ju (ju M 413 0 7) 413 1 v21) (((v3.toNat) + 2)) i r22)) (i + 1) (CI.u (CI.u (CI.u hC_M (i := 0) (show kd 413 = 44 from rfl) (show (-2147483648 : Int) ≤ _ ∧ _ ≤ (2147483647 : Int) from by omega) rfl) (i := 1) (show kd 413 = 44 from rfl) (show (-2147483648 : Int) ≤ _ ∧ _ ≤ (2147483647 : Int) from by omega) rfl) (i := i) k28.2 (show (-2147483648 : Int) ≤ _ ∧ _ ≤ (2147483647 : Int) from by omega) rfl) (FR.o (FR.o (FR.o ht_M (show kd 413 = 44 from rfl) rfl) (show kd 413 = 44 from rfl) rfl) k28.2 rfl) (by omega) (by have hq0 : (ju (ju (ju M 413 0 7) 413 1 v21) (((v3.toNat) + 2)) i r22) 413 3 = v1 := ((ju_c _ _ (kd_ne (by rw [(show kd 413 = 44 from rfl), k28.2]; decide))).trans ((ju_i _ _ (by decide)).trans ((ju_i _ _ (by decide)).trans e1))); omega) (MP.w (MP.n (MP.n hy1 hC_M (show kd 413 = 44 from rfl) (by decide) (Or.inl (by decide))) (CI.u hC_M (i := 0) (show kd 413 = 44 from rfl) (show (-2147483648 : Int) ≤ _ ∧ _ ≤ (2147483647 : Int) from by omega) rfl) (show kd 413 = 44 from rfl) (by decide) (Or.inl (by decide))) (CI.u (CI.u hC_M (i := 0) (show kd 413 = 44 from rfl) (show (-2147483648 : Int) ≤ _ ∧ _ ≤ (2147483647 : Int) from by omega) rfl) (i := 1) (show kd 413 = 44 from rfl) (show (-2147483648 : Int) ≤ _ ∧ _ ≤ (2147483647 : Int) from by omega) rfl) ((ju_i _ _ (by decide)).trans ((ju_i _ _ (by decide)).trans e3)) ⟨by omega, by omega⟩) (JR.f (by have hq : (ju (ju (ju M 413 0 7) 413 1 v21) (((v3.toNat) + 2)) i r22) 413 0 = 7 := ((ju_c _ _ (kd_ne (by rw [(show kd 413 = 44 from rfl), k28.2]; decide))).trans ((ju_i _ _ (by decide)).trans (ju_same _ _ _ _))); omega)) (by omega)
theorem c_Parser_resolveJumps {A : Nat → Option (Nat × (Nat → Int32))} [HA A] {Q : Option Value → jm → Prop} {G : Nat → Int → Int} {T : jm} {M : jm} (hC_M : CI M) (ht_M : FR W_c_Parser_resolveJumps T M) (p0 : 1 ≤ M 413 3 ∧ M 413 3 ≤ 1) (p1 : MP M G) (q : ∀ (M' : jm), CI M' → FR W_c_Parser_resolveJumps T M' → (MP M' G) → (PR M') → Q none M') : jc A 4 208 [.ref (413)] M Q := by
  refine jc_of (m := xm_208) rfl (Nat.le_of_ble_eq_true rfl) rfl ?_
  obtain ⟨v1, e1⟩ : ∃ z_, M 413 3 = z_ := ⟨_, rfl⟩
  have b1 : 1 ≤ v1 ∧ v1 ≤ 419 := by rw [← e1]; exact (CI.r hC_M (show kd 413 = 44 from rfl) (by decide) 3)
  have b2 : 1 ≤ v1 ∧ v1 ≤ 1 := by rw [← e1]; exact p0
  refine jr.iconst rfl ?_
  refine jr.istore_n rfl (by decide) rfl ?_
  refine jr.pick [0, 1] rfl rfl ?_
  exact c_Parser_resolveJumps_L2  q 932 M 0 hC_M ht_M (by omega) (by have hq0 : M 413 3 = v1 := e1; omega) p1 (JR.z _) (by omega)
