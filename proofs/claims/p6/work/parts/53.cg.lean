/-! ===== the class's methods ===== -/
def W_c_Row_listAll : List (Nat × Nat) := [(52, 0), (52, 1), (53, 1000), (54, 1000)]
theorem c_Row_listAll_L33 {A : Nat → Option (Nat × (Nat → Int32))} {Q : Option Value → jm → Prop} {T : jm} {t : Nat} (k_t : kd t = 52) {x : Nat} (k_x : kd x = 18) (q : ∀ (M' : jm), CI M' → FR W_c_Row_listAll T M' → Q none M') {kM : Nat} (hK : ∀ (M : jm) (h : Int), CI M → FR W_c_Row_listAll T M → 0 ≤ h ∧ h ≤ 12 → 12 - h ≤ kM → jr A 2 xm_236 11 [(2, .int (Int32.ofInt (h))), (0, .ref (t)), (1, .ref (x))] [] M Q) : ∀ (nM : Nat) (M : jm) (h : Int) (f : Int), CI M → FR W_c_Row_listAll T M → 0 ≤ h ∧ h ≤ 11 → 0 ≤ f ∧ f ≤ 11 → (12 - (h + 1) ≤ kM) → 11 - f ≤ nM → jr A 2 xm_236 33 [(2, .int (Int32.ofInt (h))), (3, .int (Int32.ofInt (f))), (0, .ref (t)), (1, .ref (x))] [] M Q := by
  intro nM
  induction nM using Nat.strongRecOn with
  | ind nM ih =>
    intro M h f hC_M ht_M h_h h_f hy0 hm
    refine jr.iload_n rfl rfl ?_
    refine jr.bipush rfl (by decide) ?_
    refine jr.icmp_ge rfl rfl (by omega) (by omega) (fun h36 => ?_) (fun h36 => ?_)
    · refine jr.iinc rfl rfl (by decide) rfl ?_
      refine jr.goto rfl rfl ?_
      refine jr.pick [0, 2, 3] rfl rfl ?_
      exact hK M (h + 1) hC_M ht_M (by omega)  (by omega)
    · refine jr.aload_n rfl rfl ?_
      have k1 := kf_52_3 k_t
      refine jr.getf (i := 3) (v := .ref (t + 2)) rfl rfl (Nat.lt_trans (kx_52 k_t).1 (by decide)) (kx_52 k_t).2 (by decide) rfl rfl rfl (jval_ref rfl k1.1) ?_
      refine jr.iload_n rfl rfl ?_
      refine jr.bipush rfl (by decide) ?_
      refine jr.imul rfl ?_
      refine jr.iload_n rfl rfl ?_
      refine jr.iadd rfl ?_
      refine jr.aload_n rfl rfl ?_
      refine jr.iload_n rfl rfl ?_
      refine jr.iload_n rfl rfl ?_
      refine jr_v rfl rfl (Or.inl rfl) rfl rfl (Nat.lt_trans (kx_18 k_x).1 (by decide)) (kx_18 k_x).2 ⟨rfl, Nat.le_of_ble_eq_true rfl, Nat.le_of_ble_eq_true rfl⟩ rfl (jc.deep (c_Headers_valueOf hC_M k_x (by omega) (by omega) (fun r2 z2  => ?_)) (by decide))
      refine jr.last (i := ((h * 11) + f)) (x := r2) rfl (Nat.lt_trans (kx_53 k1.2).1 (by decide)) (kx_53 k1.2).2 (by decide) (by omega) (by omega) ?_
      refine jr.iinc rfl rfl (by decide) rfl ?_
      refine jr.goto rfl rfl ?_
      refine jr.pick [1, 0, 2, 3] rfl rfl ?_
      exact ih (nM - 1) (by omega) ((ju M ((t + 2)) ((h * 11) + f) r2)) h (f + 1) (CI.u hC_M (i := ((h * 11) + f)) k1.2 (show (-9223372036854775808 : Int) ≤ _ ∧ _ ≤ (9223372036854775807 : Int) from by omega) rfl) (FR.o ht_M k1.2 rfl) (by omega) (by omega) (by omega) (by omega)
theorem c_Row_listAll_L11 {A : Nat → Option (Nat × (Nat → Int32))} {Q : Option Value → jm → Prop} {T : jm} {t : Nat} (k_t : kd t = 52) {x : Nat} (k_x : kd x = 18) (q : ∀ (M' : jm), CI M' → FR W_c_Row_listAll T M' → Q none M') : ∀ (nM : Nat) (M : jm) (h : Int), CI M → FR W_c_Row_listAll T M → 0 ≤ h ∧ h ≤ 12 → 12 - h ≤ nM → jr A 2 xm_236 11 [(2, .int (Int32.ofInt (h))), (0, .ref (t)), (1, .ref (x))] [] M Q := by
  intro nM
  induction nM using Nat.strongRecOn with
  | ind nM ih =>
    intro M h hC_M ht_M h_h hm
    refine jr.iload_n rfl rfl ?_
    refine jr.aload_n rfl rfl ?_
    obtain ⟨v1, e1⟩ : ∃ z_, M x 3 = z_ := ⟨_, rfl⟩
    have b1 : 0 ≤ v1 ∧ v1 ≤ 12 := by rw [← e1]; exact (CI.r hC_M k_x (by decide) 3)
    refine jr.getf (i := 3) (x := v1) (v := .int (Int32.ofInt (v1))) rfl rfl (Nat.lt_trans (kx_18 k_x).1 (by decide)) (kx_18 k_x).2 (by decide) rfl rfl e1 rfl ?_
    refine jr.icmp_ge rfl rfl (by omega) (by omega) (fun h16 => ?_) (fun h16 => ?_)
    · exact jr.vreturn rfl rfl (q _ hC_M ht_M  )
    · refine jr.aload_n rfl rfl ?_
      have k2 := kf_52_2 k_t
      refine jr.getf (i := 2) (v := .ref (t + 1)) rfl rfl (Nat.lt_trans (kx_52 k_t).1 (by decide)) (kx_52 k_t).2 (by decide) rfl rfl rfl (jval_ref rfl k2.1) ?_
      refine jr.iload_n rfl rfl ?_
      refine jr.aload_n rfl rfl ?_
      refine jr.iload_n rfl rfl ?_
      refine jr_v rfl rfl (Or.inl rfl) rfl rfl (Nat.lt_trans (kx_18 k_x).1 (by decide)) (kx_18 k_x).2 ⟨rfl, Nat.le_of_ble_eq_true rfl, Nat.le_of_ble_eq_true rfl⟩ rfl (jc.deep (c_Headers_kindAt hC_M k_x (by omega) (fun r3 z3 w3_0 w3_1 => ?_)) (by decide))
      refine jr.i2l rfl (by omega) ?_
      refine jr.last (i := h) (x := r3) rfl (Nat.lt_trans (kx_54 k2.2).1 (by decide)) (kx_54 k2.2).2 (by decide) (by omega) (by omega) ?_
      refine jr.iconst rfl ?_
      refine jr.istore_n rfl (by decide) rfl ?_
      refine jr.pick [1, 0, 2, 3] rfl rfl ?_
      exact c_Row_listAll_L33 k_t k_x q (ih (nM - 1) (by omega)) 11 ((ju M ((t + 1)) h r3)) h 0 (CI.u hC_M (i := h) k2.2 (show (-9223372036854775808 : Int) ≤ _ ∧ _ ≤ (9223372036854775807 : Int) from by omega) rfl) (FR.o ht_M k2.2 rfl) (by omega) (by omega) (by omega) (by omega)
theorem c_Row_listAll {A : Nat → Option (Nat × (Nat → Int32))} {Q : Option Value → jm → Prop} {T : jm} {M : jm} (hC_M : CI M) (ht_M : FR W_c_Row_listAll T M) {t : Nat} (k_t : kd t = 52) {x : Nat} (k_x : kd x = 18) (q : ∀ (M' : jm), CI M' → FR W_c_Row_listAll T M' → Q none M') : jc A 3 236 [.ref (t), .ref (x)] M Q := by
  refine jc_of (m := xm_236) rfl (Nat.le_of_ble_eq_true rfl) rfl ?_
  refine jr.aload_n rfl rfl ?_
  refine jr.iconst rfl ?_
  refine jr.aload_n rfl rfl ?_
  obtain ⟨v1, e1⟩ : ∃ z_, M x 3 = z_ := ⟨_, rfl⟩
  have b1 : 0 ≤ v1 ∧ v1 ≤ 12 := by rw [← e1]; exact (CI.r hC_M k_x (by decide) 3)
  refine jr.getf (i := 3) (x := v1) (v := .int (Int32.ofInt (v1))) rfl rfl (Nat.lt_trans (kx_18 k_x).1 (by decide)) (kx_18 k_x).2 (by decide) rfl rfl e1 rfl ?_
  refine jr_v rfl rfl (Or.inl rfl) rfl rfl (Nat.lt_trans (kx_52 k_t).1 (by decide)) (kx_52 k_t).2 ⟨rfl, Nat.le_of_ble_eq_true rfl, Nat.le_of_ble_eq_true rfl⟩ rfl (jc.deep (c_Row_renew hC_M (FR.rfl _ M) k_t (by omega) (by omega) (fun M2 hC_M2 hf_M2  => ?_)) (by decide))
  have ht_M2 : FR W_c_Row_listAll T M2 := FR.t ht_M hf_M2 (kw_sub rfl)
  refine jr.iconst rfl ?_
  refine jr.istore_n rfl (by decide) rfl ?_
  refine jr.pick [0, 1, 2] rfl rfl ?_
  exact c_Row_listAll_L11 k_t k_x q 12 M2 0 hC_M2 ht_M2 (by omega)  (by omega)
def W_c_Row_copyInto : List (Nat × Nat) := [(53, 1000), (54, 1000)]
theorem c_Row_copyInto_L51 {A : Nat → Option (Nat × (Nat → Int32))} {Q : Option Value → jm → Prop} {T : jm} {t : Nat} (k_t : kd t = 52) {x : Nat} (k_x : kd x = 52) {u : Int} {y : Int} {z : Int} (q : ∀ (r : Int) (M' : jm), CI M' → FR W_c_Row_copyInto T M' → 0 ≤ r ∧ r ≤ 1 → Q (some (.int (Int32.ofInt r))) M') : ∀ (nM : Nat) (M : jm) (i : Int), CI M → FR W_c_Row_copyInto T M → 0 ≤ y ∧ y ≤ 40 → 0 ≤ z ∧ z ≤ 40 → 0 ≤ u ∧ u ≤ 40 → 0 ≤ i ∧ i ≤ 40 → (y + u ≤ 40) → (z + u ≤ 40) → u - i ≤ nM → jr A 2 xm_239 51 [(2, .int (Int32.ofInt (y))), (3, .int (Int32.ofInt (z))), (4, .int (Int32.ofInt (u))), (5, .int (Int32.ofInt (i))), (0, .ref (t)), (1, .ref (x))] [] M Q := by
  intro nM
  induction nM using Nat.strongRecOn with
  | ind nM ih =>
    intro M i hC_M ht_M h_y h_z h_u h_i hy0 hy1 hm
    refine jr.iload rfl rfl ?_
    refine jr.iload rfl rfl ?_
    refine jr.icmp_ge rfl rfl (by omega) (by omega) (fun h55 => ?_) (fun h55 => ?_)
    · refine jr.iconst rfl ?_
      exact jr.ireturn rfl rfl rfl (q _ _ hC_M ht_M (by omega) )
    · refine jr.aload_n rfl rfl ?_
      obtain ⟨v1, e1⟩ : ∃ z_, M x 0 = z_ := ⟨_, rfl⟩
      have b1 : (-2147483648) ≤ v1 ∧ v1 ≤ 2147483647 := by rw [← e1]; exact (CI.r hC_M k_x (by decide) 0)
      refine jr.getf (i := 0) (x := v1) (v := .int (Int32.ofInt (v1))) rfl rfl (Nat.lt_trans (kx_52 k_x).1 (by decide)) (kx_52 k_x).2 (by decide) rfl rfl e1 rfl ?_
      refine jr.bipush rfl (by decide) ?_
      refine jr.icmp_ne rfl rfl (by omega) (by omega) (fun h64 => ?_) (fun h64 => ?_)
      · refine jr.aload_n rfl rfl ?_
        refine jr.aload_n rfl rfl ?_
        refine jr.iload_n rfl rfl ?_
        refine jr.iload rfl rfl ?_
        refine jr.iadd rfl ?_
        refine jr.iload_n rfl rfl ?_
        refine jr.iload rfl rfl ?_
        refine jr.iadd rfl ?_
        refine jr_v rfl rfl (Or.inl rfl) rfl rfl (Nat.lt_trans (kx_52 k_t).1 (by decide)) (kx_52 k_t).2 ⟨rfl, Nat.le_of_ble_eq_true rfl, Nat.le_of_ble_eq_true rfl⟩ rfl (jc.deep (c_Row_copyItem hC_M (FR.rfl _ M) k_t k_x (by omega) (by omega) (fun M2 hC_M2 hf_M2  => ?_)) (by decide))
        have ht_M2 : FR W_c_Row_copyInto T M2 := FR.t ht_M hf_M2 (kw_sub rfl)
        refine jr.iinc rfl rfl (by decide) rfl ?_
        refine jr.goto rfl rfl ?_
        refine jr.pick [1, 2, 3, 0, 4, 5] rfl rfl ?_
        exact ih (nM - 1) (by omega) M2 (i + 1) hC_M2 ht_M2 (by omega) (by omega) (by omega) (by omega) (by omega) (by omega) (by omega)
      · refine jr.aload_n rfl rfl ?_
        have k3 := kf_52_2 k_t
        refine jr.getf (i := 2) (v := .ref (t + 1)) rfl rfl (Nat.lt_trans (kx_52 k_t).1 (by decide)) (kx_52 k_t).2 (by decide) rfl rfl rfl (jval_ref rfl k3.1) ?_
        refine jr.iload_n rfl rfl ?_
        refine jr.iload rfl rfl ?_
        refine jr.iadd rfl ?_
        obtain ⟨v4, e4⟩ : ∃ z_, M ((t + 1)) (y + i) = z_ := ⟨_, rfl⟩
        have b4 : (-9223372036854775808) ≤ v4 ∧ v4 ≤ 9223372036854775807 := by rw [← e4]; exact (CI.r hC_M k3.2 (by decide) (y + i))
        refine jr.lald (i := (y + i)) (x := v4) rfl (Nat.lt_trans (kx_54 k3.2).1 (by decide)) (kx_54 k3.2).2 (by decide) (by omega) (by omega) e4 ?_
        refine jr.ldc2 (x := (-1)) rfl rfl (by decide) ?_
        refine jr.lcmp_eq rfl rfl rfl (by omega) (by omega) (fun h79 => ?_) (fun h79 => ?_)
        · refine jr.aload_n rfl rfl ?_
          refine jr.aload_n rfl rfl ?_
          refine jr.iload_n rfl rfl ?_
          refine jr.iload rfl rfl ?_
          refine jr.iadd rfl ?_
          refine jr.iload_n rfl rfl ?_
          refine jr.iload rfl rfl ?_
          refine jr.iadd rfl ?_
          refine jr_v rfl rfl (Or.inl rfl) rfl rfl (Nat.lt_trans (kx_52 k_t).1 (by decide)) (kx_52 k_t).2 ⟨rfl, Nat.le_of_ble_eq_true rfl, Nat.le_of_ble_eq_true rfl⟩ rfl (jc.deep (c_Row_copyItem hC_M (FR.rfl _ M) k_t k_x (by omega) (by omega) (fun M5 hC_M5 hf_M5  => ?_)) (by decide))
          have ht_M5 : FR W_c_Row_copyInto T M5 := FR.t ht_M hf_M5 (kw_sub rfl)
          refine jr.iinc rfl rfl (by decide) rfl ?_
          refine jr.goto rfl rfl ?_
          refine jr.pick [1, 2, 3, 0, 4, 5] rfl rfl ?_
          exact ih (nM - 1) (by omega) M5 (i + 1) hC_M5 ht_M5 (by omega) (by omega) (by omega) (by omega) (by omega) (by omega) (by omega)
        · refine jr.aload_n rfl rfl ?_
          have k6 := kf_52_2 k_t
          refine jr.getf (i := 2) (v := .ref (t + 1)) rfl rfl (Nat.lt_trans (kx_52 k_t).1 (by decide)) (kx_52 k_t).2 (by decide) rfl rfl rfl (jval_ref rfl k6.1) ?_
          refine jr.iload_n rfl rfl ?_
          refine jr.iload rfl rfl ?_
          refine jr.iadd rfl ?_
          refine jr.lald (i := (y + i)) (x := v4) rfl (Nat.lt_trans (kx_54 k6.2).1 (by decide)) (kx_54 k6.2).2 (by decide) (by omega) (by omega) e4 ?_
          refine jr.l2i rfl ?_
          refine jr.iw (j_w v4) (j_w_eq _) ?_
          have b7 : -2147483648 ≤ j_w v4 ∧ j_w v4 ≤ 2147483647 := jb_any _
          generalize j_w v4 = v7 at b7 ⊢
          refine jr_s rfl rfl (Or.inr rfl) ⟨Nat.le_of_ble_eq_true rfl, Nat.le_of_ble_eq_true rfl⟩ rfl rfl (jc.deep (c_PacketWall_isCarriedKind hC_M (by omega) (fun r8 z8 w8_0 => ?_)) (by decide))
          refine jr.if_ne rfl rfl (by omega) (fun h96 => ?_) (fun h96 => ?_)
          · refine jr.aload_n rfl rfl ?_
            refine jr.aload_n rfl rfl ?_
            refine jr.iload_n rfl rfl ?_
            refine jr.iload rfl rfl ?_
            refine jr.iadd rfl ?_
            refine jr.iload_n rfl rfl ?_
            refine jr.iload rfl rfl ?_
            refine jr.iadd rfl ?_
            refine jr_v rfl rfl (Or.inl rfl) rfl rfl (Nat.lt_trans (kx_52 k_t).1 (by decide)) (kx_52 k_t).2 ⟨rfl, Nat.le_of_ble_eq_true rfl, Nat.le_of_ble_eq_true rfl⟩ rfl (jc.deep (c_Row_copyItem hC_M (FR.rfl _ M) k_t k_x (by omega) (by omega) (fun M9 hC_M9 hf_M9  => ?_)) (by decide))
            have ht_M9 : FR W_c_Row_copyInto T M9 := FR.t ht_M hf_M9 (kw_sub rfl)
            refine jr.iinc rfl rfl (by decide) rfl ?_
            refine jr.goto rfl rfl ?_
            refine jr.pick [1, 2, 3, 0, 4, 5] rfl rfl ?_
            exact ih (nM - 1) (by omega) M9 (i + 1) hC_M9 ht_M9 (by omega) (by omega) (by omega) (by omega) (by omega) (by omega) (by omega)
          · refine jr.iconst rfl ?_
            exact jr.ireturn rfl rfl rfl (q _ _ hC_M ht_M (by omega) )
theorem c_Row_copyInto_L22 {A : Nat → Option (Nat × (Nat → Int32))} {Q : Option Value → jm → Prop} {T : jm} {t : Nat} (k_t : kd t = 52) {x : Nat} (k_x : kd x = 52) {y : Int} {z : Int} (q : ∀ (r : Int) (M' : jm), CI M' → FR W_c_Row_copyInto T M' → 0 ≤ r ∧ r ≤ 1 → Q (some (.int (Int32.ofInt r))) M') : ∀ (nM : Nat) (M : jm) (i : Int), CI M → FR W_c_Row_copyInto T M → 0 ≤ y ∧ y ≤ 40 → 0 ≤ z ∧ z ≤ 40 → (-1) ≤ i ∧ i ≤ 39 → (y + i ≤ 39) → (z + i ≤ 39) → i + 1 ≤ nM → jr A 2 xm_239 22 [(2, .int (Int32.ofInt (y))), (3, .int (Int32.ofInt (z))), (5, .int (Int32.ofInt (i))), (0, .ref (t)), (1, .ref (x))] [] M Q := by
  intro nM
  induction nM using Nat.strongRecOn with
  | ind nM ih =>
    intro M i hC_M ht_M h_y h_z h_i hy0 hy1 hm
    refine jr.iload rfl rfl ?_
    refine jr.if_lt rfl rfl (by omega) (fun h24 => ?_) (fun h24 => ?_)
    · refine jr.iconst rfl ?_
      exact jr.ireturn rfl rfl rfl (q _ _ hC_M ht_M (by omega) )
    · refine jr.aload_n rfl rfl ?_
      refine jr.aload_n rfl rfl ?_
      refine jr.iload_n rfl rfl ?_
      refine jr.iload rfl rfl ?_
      refine jr.iadd rfl ?_
      refine jr.iload_n rfl rfl ?_
      refine jr.iload rfl rfl ?_
      refine jr.iadd rfl ?_
      refine jr_v rfl rfl (Or.inl rfl) rfl rfl (Nat.lt_trans (kx_52 k_t).1 (by decide)) (kx_52 k_t).2 ⟨rfl, Nat.le_of_ble_eq_true rfl, Nat.le_of_ble_eq_true rfl⟩ rfl (jc.deep (c_Row_copyItem hC_M (FR.rfl _ M) k_t k_x (by omega) (by omega) (fun M1 hC_M1 hf_M1  => ?_)) (by decide))
      have ht_M1 : FR W_c_Row_copyInto T M1 := FR.t ht_M hf_M1 (kw_sub rfl)
      refine jr.iinc rfl rfl (by decide) rfl ?_
      refine jr.goto rfl rfl ?_
      refine jr.pick [1, 2, 0, 3, 4] rfl rfl ?_
      exact ih (nM - 1) (by omega) M1 (i + (-1)) hC_M1 ht_M1 (by omega) (by omega) (by omega) (by omega) (by omega) (by omega)
theorem c_Row_copyInto {A : Nat → Option (Nat × (Nat → Int32))} {Q : Option Value → jm → Prop} {T : jm} {M : jm} (hC_M : CI M) (ht_M : FR W_c_Row_copyInto T M) {t : Nat} (k_t : kd t = 52) {x : Nat} (k_x : kd x = 52) {y : Int} (h_y : 0 ≤ y ∧ y ≤ 40) {z : Int} (h_z : 0 ≤ z ∧ z ≤ 40) {u : Int} (h_u : 0 ≤ u ∧ u ≤ 40) (p0 : y + u ≤ 40) (p1 : z + u ≤ 40) (q : ∀ (r : Int) (M' : jm), CI M' → FR W_c_Row_copyInto T M' → 0 ≤ r ∧ r ≤ 1 → Q (some (.int (Int32.ofInt r))) M') : jc A 3 239 [.ref (t), .ref (x), .int (Int32.ofInt (y)), .int (Int32.ofInt (z)), .int (Int32.ofInt (u))] M Q := by
  refine jc_of (m := xm_239) rfl (Nat.le_of_ble_eq_true rfl) rfl ?_
  refine jr.aload_n rfl rfl ?_
  obtain ⟨v1, e1⟩ : ∃ z_, M t 0 = z_ := ⟨_, rfl⟩
  have b1 : (-2147483648) ≤ v1 ∧ v1 ≤ 2147483647 := by rw [← e1]; exact (CI.r hC_M k_t (by decide) 0)
  refine jr.getf (i := 0) (x := v1) (v := .int (Int32.ofInt (v1))) rfl rfl (Nat.lt_trans (kx_52 k_t).1 (by decide)) (kx_52 k_t).2 (by decide) rfl rfl e1 rfl ?_
  refine jr.aload_n rfl rfl ?_
  obtain ⟨v2, e2⟩ : ∃ z_, M x 0 = z_ := ⟨_, rfl⟩
  have b2 : (-2147483648) ≤ v2 ∧ v2 ≤ 2147483647 := by rw [← e2]; exact (CI.r hC_M k_x (by decide) 0)
  refine jr.getf (i := 0) (x := v2) (v := .int (Int32.ofInt (v2))) rfl rfl (Nat.lt_trans (kx_52 k_x).1 (by decide)) (kx_52 k_x).2 (by decide) rfl rfl e2 rfl ?_
  refine jr.icmp_ne rfl rfl (by omega) (by omega) (fun h8 => ?_) (fun h8 => ?_)
  · refine jr.iconst rfl ?_
    refine jr.istore rfl (by decide) rfl ?_
    refine jr.pick [3, 4, 5, 0, 1, 2] rfl rfl ?_
    exact c_Row_copyInto_L51 k_t k_x q 40 M 0 hC_M ht_M (by omega) (by omega) (by omega) (by omega) (by omega) (by omega) (by omega)
  · refine jr.iload_n rfl rfl ?_
    refine jr.iload_n rfl rfl ?_
    refine jr.icmp_ge rfl rfl (by omega) (by omega) (fun h13 => ?_) (fun h13 => ?_)
    · refine jr.iconst rfl ?_
      refine jr.istore rfl (by decide) rfl ?_
      refine jr.pick [3, 4, 5, 0, 1, 2] rfl rfl ?_
      exact c_Row_copyInto_L51 k_t k_x q 40 M 0 hC_M ht_M (by omega) (by omega) (by omega) (by omega) (by omega) (by omega) (by omega)
    · refine jr.iload rfl rfl ?_
      refine jr.iconst rfl ?_
      refine jr.isub rfl ?_
      refine jr.istore rfl (by decide) rfl ?_
      refine jr.pick [3, 4, 0, 1, 2] rfl rfl ?_
      exact c_Row_copyInto_L22 k_t k_x q 40 M (u - 1) hC_M ht_M (by omega) (by omega) (by omega) (by omega) (by omega) (by omega)
def W_c_Machine_copyItems : List (Nat × Nat) := [(22, 4), (24, 1000), (53, 1000), (54, 1000)]
theorem c_Machine_copyItems {A : Nat → Option (Nat × (Nat → Int32))} {Q : Option Value → jm → Prop} {T : jm} {M : jm} (hC_M : CI M) (ht_M : FR W_c_Machine_copyItems T M) (q : ∀ (M' : jm), CI M' → FR W_c_Machine_copyItems T M' → Q none M') : jc A 4 178 [.ref (421)] M Q := by
  refine jc_of (m := xm_178) rfl (Nat.le_of_ble_eq_true rfl) rfl ?_
  refine jr.aload_n rfl rfl ?_
  refine jr.getf (i := 8) (v := .ref 435) rfl rfl (by decide) rfl (by decide) rfl rfl rfl rfl ?_
  refine jr.iconst rfl ?_
  obtain ⟨v1, e1⟩ : ∃ z_, M 435 0 = z_ := ⟨_, rfl⟩
  have b1 : (-9223372036854775808) ≤ v1 ∧ v1 ≤ 9223372036854775807 := by rw [← e1]; exact (CI.r hC_M (show kd 435 = 26 from rfl) (by decide) 0)
  refine jr.lald (i := 0) (x := v1) rfl (by decide) rfl (by decide) (by omega) (by omega) e1 ?_
  refine jr.bipush rfl (by decide) ?_
  refine jr_s rfl rfl (Or.inl rfl) ⟨Nat.le_of_ble_eq_true rfl, Nat.le_of_ble_eq_true rfl⟩ rfl rfl (jc.deep (c_Machine_isNot hC_M (by omega) (by omega) (fun r2 z2 w2_0 => ?_)) (by decide))
  refine jr.if_ne rfl rfl (by omega) (fun h11 => ?_) (fun h11 => ?_)
  · refine jr.aload_n rfl rfl ?_
    refine jr.iconst rfl ?_
    refine jr_v rfl rfl (Or.inl rfl) rfl rfl (by decide) rfl ⟨rfl, Nat.le_of_ble_eq_true rfl, Nat.le_of_ble_eq_true rfl⟩ rfl (jc.deep (c_Machine_fail hC_M (FR.rfl _ M) (by omega) (fun M3 hC_M3 hf_M3  => ?_)) (by decide))
    have ht_M3 : FR W_c_Machine_copyItems T M3 := FR.t ht_M hf_M3 (kw_sub rfl)
    exact jr.vreturn rfl rfl (q _ hC_M3 ht_M3  )
  · refine jr.aload_n rfl rfl ?_
    refine jr.getf (i := 8) (v := .ref 435) rfl rfl (by decide) rfl (by decide) rfl rfl rfl rfl ?_
    refine jr.iconst rfl ?_
    obtain ⟨v4, e4⟩ : ∃ z_, M 435 2 = z_ := ⟨_, rfl⟩
    have b4 : (-9223372036854775808) ≤ v4 ∧ v4 ≤ 9223372036854775807 := by rw [← e4]; exact (CI.r hC_M (show kd 435 = 26 from rfl) (by decide) 2)
    refine jr.lald (i := 2) (x := v4) rfl (by decide) rfl (by decide) (by omega) (by omega) e4 ?_
    refine jr.bipush rfl (by decide) ?_
    refine jr_s rfl rfl (Or.inl rfl) ⟨Nat.le_of_ble_eq_true rfl, Nat.le_of_ble_eq_true rfl⟩ rfl rfl (jc.deep (c_Machine_isNot hC_M (by omega) (by omega) (fun r5 z5 w5_0 => ?_)) (by decide))
    refine jr.if_eq rfl rfl (by omega) (fun h25 => ?_) (fun h25 => ?_)
    · refine jr.aload_n rfl rfl ?_
      refine jr.getf (i := 0) (v := .ref 422) rfl rfl (by decide) rfl (by decide) rfl rfl rfl rfl ?_
      refine jr.aload_n rfl rfl ?_
      refine jr.getf (i := 8) (v := .ref 435) rfl rfl (by decide) rfl (by decide) rfl rfl rfl rfl ?_
      refine jr.iconst rfl ?_
      refine jr.lald (i := 0) (x := v1) rfl (by decide) rfl (by decide) (by omega) (by omega) e1 ?_
      refine jr.l2i rfl ?_
      have k6 := kxe_25 (a := 422) rfl (i := v1) (by omega) (by omega)
      refine jr.aald (c := (xe 422 v1)) rfl (by decide) rfl (by decide) (by decide) rfl (by decide) (by omega) (by omega) k6.1 ?_
      refine jr.astore_n rfl (by decide) rfl ?_
      refine jr.aload_n rfl rfl ?_
      refine jr.getf (i := 0) (v := .ref 422) rfl rfl (by decide) rfl (by decide) rfl rfl rfl rfl ?_
      refine jr.aload_n rfl rfl ?_
      refine jr.getf (i := 8) (v := .ref 435) rfl rfl (by decide) rfl (by decide) rfl rfl rfl rfl ?_
      refine jr.iconst rfl ?_
      refine jr.lald (i := 2) (x := v4) rfl (by decide) rfl (by decide) (by omega) (by omega) e4 ?_
      refine jr.l2i rfl ?_
      have k7 := kxe_25 (a := 422) rfl (i := v4) (by omega) (by omega)
      refine jr.aald (c := (xe 422 v4)) rfl (by decide) rfl (by decide) (by decide) rfl (by decide) (by omega) (by omega) k7.1 ?_
      refine jr.astore_n rfl (by decide) rfl ?_
      refine jr.aload_n rfl rfl ?_
      obtain ⟨v8, e8⟩ : ∃ z_, M ((xe 422 v1)) 0 = z_ := ⟨_, rfl⟩
      have b8 : (-2147483648) ≤ v8 ∧ v8 ≤ 2147483647 := by rw [← e8]; exact (CI.r hC_M k6.2 (by decide) 0)
      refine jr.getf (i := 0) (x := v8) (v := .int (Int32.ofInt (v8))) rfl rfl (Nat.lt_trans (kx_52 k6.2).1 (by decide)) (kx_52 k6.2).2 (by decide) rfl rfl e8 rfl ?_
      refine jr.iconst rfl ?_
      refine jr.icmp_eq rfl rfl (by omega) (by omega) (fun h65 => ?_) (fun h65 => ?_)
      · refine jr.aload_n rfl rfl ?_
        refine jr.iconst rfl ?_
        refine jr_v rfl rfl (Or.inl rfl) rfl rfl (by decide) rfl ⟨rfl, Nat.le_of_ble_eq_true rfl, Nat.le_of_ble_eq_true rfl⟩ rfl (jc.deep (c_Machine_fail hC_M (FR.rfl _ M) (by omega) (fun M9 hC_M9 hf_M9  => ?_)) (by decide))
        have ht_M9 : FR W_c_Machine_copyItems T M9 := FR.t ht_M hf_M9 (kw_sub rfl)
        refine jr.goto rfl rfl ?_
        exact jr.vreturn rfl rfl (q _ hC_M9 ht_M9  )
      · refine jr.aload_n rfl rfl ?_
        obtain ⟨v10, e10⟩ : ∃ z_, M ((xe 422 v4)) 0 = z_ := ⟨_, rfl⟩
        have b10 : (-2147483648) ≤ v10 ∧ v10 ≤ 2147483647 := by rw [← e10]; exact (CI.r hC_M k7.2 (by decide) 0)
        refine jr.getf (i := 0) (x := v10) (v := .int (Int32.ofInt (v10))) rfl rfl (Nat.lt_trans (kx_52 k7.2).1 (by decide)) (kx_52 k7.2).2 (by decide) rfl rfl e10 rfl ?_
        refine jr.iconst rfl ?_
        refine jr.icmp_ne rfl rfl (by omega) (by omega) (fun h73 => ?_) (fun h73 => ?_)
        · refine jr.aload_n rfl rfl ?_
          refine jr.aload_n rfl rfl ?_
          refine jr_v rfl rfl (Or.inl rfl) rfl rfl (Nat.lt_trans (kx_52 k6.2).1 (by decide)) (kx_52 k6.2).2 ⟨rfl, Nat.le_of_ble_eq_true rfl, Nat.le_of_ble_eq_true rfl⟩ rfl (jc.deep (c_Row_isUnlike hC_M k6.2 k7.2 (fun r11 z11  => ?_)) (by decide))
          refine jr.if_eq rfl rfl (by omega) (fun h89 => ?_) (fun h89 => ?_)
          · refine jr.aload_n rfl rfl ?_
            refine jr.aload_n rfl rfl ?_
            refine jr.getf (i := 8) (v := .ref 435) rfl rfl (by decide) rfl (by decide) rfl rfl rfl rfl ?_
            refine jr.iconst rfl ?_
            obtain ⟨v12, e12⟩ : ∃ z_, M 435 1 = z_ := ⟨_, rfl⟩
            have b12 : (-9223372036854775808) ≤ v12 ∧ v12 ≤ 9223372036854775807 := by rw [← e12]; exact (CI.r hC_M (show kd 435 = 26 from rfl) (by decide) 1)
            refine jr.lald (i := 1) (x := v12) rfl (by decide) rfl (by decide) (by omega) (by omega) e12 ?_
            refine jr.aload_n rfl rfl ?_
            refine jr.getf (i := 8) (v := .ref 435) rfl rfl (by decide) rfl (by decide) rfl rfl rfl rfl ?_
            refine jr.iconst rfl ?_
            obtain ⟨v13, e13⟩ : ∃ z_, M 435 4 = z_ := ⟨_, rfl⟩
            have b13 : (-9223372036854775808) ≤ v13 ∧ v13 ≤ 9223372036854775807 := by rw [← e13]; exact (CI.r hC_M (show kd 435 = 26 from rfl) (by decide) 4)
            refine jr.lald (i := 4) (x := v13) rfl (by decide) rfl (by decide) (by omega) (by omega) e13 ?_
            refine jr_s rfl rfl (Or.inl rfl) ⟨Nat.le_of_ble_eq_true rfl, Nat.le_of_ble_eq_true rfl⟩ rfl rfl (jc.deep (c_Machine_isBeyond hC_M k6.2 (by omega) (by omega) (fun r14 z14 w14_0 => ?_)) (by decide))
            refine jr.if_ne rfl rfl (by omega) (fun h116 => ?_) (fun h116 => ?_)
            · refine jr.aload_n rfl rfl ?_
              refine jr.iconst rfl ?_
              refine jr_v rfl rfl (Or.inl rfl) rfl rfl (by decide) rfl ⟨rfl, Nat.le_of_ble_eq_true rfl, Nat.le_of_ble_eq_true rfl⟩ rfl (jc.deep (c_Machine_fail hC_M (FR.rfl _ M) (by omega) (fun M15 hC_M15 hf_M15  => ?_)) (by decide))
              have ht_M15 : FR W_c_Machine_copyItems T M15 := FR.t ht_M hf_M15 (kw_sub rfl)
              refine jr.goto rfl rfl ?_
              exact jr.vreturn rfl rfl (q _ hC_M15 ht_M15  )
            · refine jr.aload_n rfl rfl ?_
              refine jr.aload_n rfl rfl ?_
              refine jr.getf (i := 8) (v := .ref 435) rfl rfl (by decide) rfl (by decide) rfl rfl rfl rfl ?_
              refine jr.iconst rfl ?_
              obtain ⟨v16, e16⟩ : ∃ z_, M 435 3 = z_ := ⟨_, rfl⟩
              have b16 : (-9223372036854775808) ≤ v16 ∧ v16 ≤ 9223372036854775807 := by rw [← e16]; exact (CI.r hC_M (show kd 435 = 26 from rfl) (by decide) 3)
              refine jr.lald (i := 3) (x := v16) rfl (by decide) rfl (by decide) (by omega) (by omega) e16 ?_
              refine jr.aload_n rfl rfl ?_
              refine jr.getf (i := 8) (v := .ref 435) rfl rfl (by decide) rfl (by decide) rfl rfl rfl rfl ?_
              refine jr.iconst rfl ?_
              refine jr.lald (i := 4) (x := v13) rfl (by decide) rfl (by decide) (by omega) (by omega) e13 ?_
              refine jr_s rfl rfl (Or.inl rfl) ⟨Nat.le_of_ble_eq_true rfl, Nat.le_of_ble_eq_true rfl⟩ rfl rfl (jc.deep (c_Machine_isBeyond hC_M k7.2 (by omega) (by omega) (fun r17 z17 w17_0 => ?_)) (by decide))
              refine jr.if_eq rfl rfl (by omega) (fun h135 => ?_) (fun h135 => ?_)
              · refine jr.aload_n rfl rfl ?_
                refine jr.aload_n rfl rfl ?_
                refine jr.aload_n rfl rfl ?_
                refine jr.getf (i := 8) (v := .ref 435) rfl rfl (by decide) rfl (by decide) rfl rfl rfl rfl ?_
                refine jr.iconst rfl ?_
                refine jr.lald (i := 1) (x := v12) rfl (by decide) rfl (by decide) (by omega) (by omega) e12 ?_
                refine jr.l2i rfl ?_
                refine jr.aload_n rfl rfl ?_
                refine jr.getf (i := 8) (v := .ref 435) rfl rfl (by decide) rfl (by decide) rfl rfl rfl rfl ?_
                refine jr.iconst rfl ?_
                refine jr.lald (i := 3) (x := v16) rfl (by decide) rfl (by decide) (by omega) (by omega) e16 ?_
                refine jr.l2i rfl ?_
                refine jr.aload_n rfl rfl ?_
                refine jr.getf (i := 8) (v := .ref 435) rfl rfl (by decide) rfl (by decide) rfl rfl rfl rfl ?_
                refine jr.iconst rfl ?_
                refine jr.lald (i := 4) (x := v13) rfl (by decide) rfl (by decide) (by omega) (by omega) e13 ?_
                refine jr.l2i rfl ?_
                refine jr_v rfl rfl (Or.inl rfl) rfl rfl (Nat.lt_trans (kx_52 k6.2).1 (by decide)) (kx_52 k6.2).2 ⟨rfl, Nat.le_of_ble_eq_true rfl, Nat.le_of_ble_eq_true rfl⟩ rfl (jc.deep (c_Row_copyInto hC_M (FR.rfl _ M) k6.2 k7.2 (by omega) (by omega) (by omega) (by omega) (by omega) (fun r18 M18 hC_M18 hf_M18 z18  => ?_)) (by decide))
                have ht_M18 : FR W_c_Machine_copyItems T M18 := FR.t ht_M hf_M18 (kw_sub rfl)
                refine jr.if_ne rfl rfl (by omega) (fun h172 => ?_) (fun h172 => ?_)
                · exact jr.vreturn rfl rfl (q _ hC_M18 ht_M18  )
                · refine jr.aload_n rfl rfl ?_
                  refine jr.iconst rfl ?_
                  refine jr_v rfl rfl (Or.inl rfl) rfl rfl (by decide) rfl ⟨rfl, Nat.le_of_ble_eq_true rfl, Nat.le_of_ble_eq_true rfl⟩ rfl (jc.deep (c_Machine_fail hC_M18 (FR.rfl _ M18) (by omega) (fun M19 hC_M19 hf_M19  => ?_)) (by decide))
                  have ht_M19 : FR W_c_Machine_copyItems T M19 := FR.t ht_M18 hf_M19 (kw_sub rfl)
                  exact jr.vreturn rfl rfl (q _ hC_M19 ht_M19  )
              · refine jr.aload_n rfl rfl ?_
                refine jr.iconst rfl ?_
                refine jr_v rfl rfl (Or.inl rfl) rfl rfl (by decide) rfl ⟨rfl, Nat.le_of_ble_eq_true rfl, Nat.le_of_ble_eq_true rfl⟩ rfl (jc.deep (c_Machine_fail hC_M (FR.rfl _ M) (by omega) (fun M20 hC_M20 hf_M20  => ?_)) (by decide))
                have ht_M20 : FR W_c_Machine_copyItems T M20 := FR.t ht_M hf_M20 (kw_sub rfl)
                refine jr.goto rfl rfl ?_
                exact jr.vreturn rfl rfl (q _ hC_M20 ht_M20  )
          · refine jr.aload_n rfl rfl ?_
            refine jr.iconst rfl ?_
            refine jr_v rfl rfl (Or.inl rfl) rfl rfl (by decide) rfl ⟨rfl, Nat.le_of_ble_eq_true rfl, Nat.le_of_ble_eq_true rfl⟩ rfl (jc.deep (c_Machine_fail hC_M (FR.rfl _ M) (by omega) (fun M21 hC_M21 hf_M21  => ?_)) (by decide))
            have ht_M21 : FR W_c_Machine_copyItems T M21 := FR.t ht_M hf_M21 (kw_sub rfl)
            refine jr.goto rfl rfl ?_
            exact jr.vreturn rfl rfl (q _ hC_M21 ht_M21  )
        · refine jr.aload_n rfl rfl ?_
          refine jr.iconst rfl ?_
          refine jr_v rfl rfl (Or.inl rfl) rfl rfl (by decide) rfl ⟨rfl, Nat.le_of_ble_eq_true rfl, Nat.le_of_ble_eq_true rfl⟩ rfl (jc.deep (c_Machine_fail hC_M (FR.rfl _ M) (by omega) (fun M22 hC_M22 hf_M22  => ?_)) (by decide))
          have ht_M22 : FR W_c_Machine_copyItems T M22 := FR.t ht_M hf_M22 (kw_sub rfl)
          refine jr.goto rfl rfl ?_
          exact jr.vreturn rfl rfl (q _ hC_M22 ht_M22  )
    · refine jr.aload_n rfl rfl ?_
      refine jr.iconst rfl ?_
      refine jr_v rfl rfl (Or.inl rfl) rfl rfl (by decide) rfl ⟨rfl, Nat.le_of_ble_eq_true rfl, Nat.le_of_ble_eq_true rfl⟩ rfl (jc.deep (c_Machine_fail hC_M (FR.rfl _ M) (by omega) (fun M23 hC_M23 hf_M23  => ?_)) (by decide))
      have ht_M23 : FR W_c_Machine_copyItems T M23 := FR.t ht_M hf_M23 (kw_sub rfl)
      exact jr.vreturn rfl rfl (q _ hC_M23 ht_M23  )
def W_c_Machine_makeList : List (Nat × Nat) := [(22, 4), (22, 5), (24, 1000), (52, 0), (52, 1), (53, 1000), (54, 1000)]
theorem c_Machine_makeList {A : Nat → Option (Nat × (Nat → Int32))} {Q : Option Value → jm → Prop} {T : jm} {M : jm} (hC_M : CI M) (ht_M : FR W_c_Machine_makeList T M) (q : ∀ (M' : jm), CI M' → FR W_c_Machine_makeList T M' → Q none M') : jc A 4 181 [.ref (421)] M Q := by
  refine jc_of (m := xm_181) rfl (Nat.le_of_ble_eq_true rfl) rfl ?_
  refine jr.aload_n rfl rfl ?_
  refine jr.getf (i := 8) (v := .ref 435) rfl rfl (by decide) rfl (by decide) rfl rfl rfl rfl ?_
  refine jr.iconst rfl ?_
  obtain ⟨v1, e1⟩ : ∃ z_, M 435 0 = z_ := ⟨_, rfl⟩
  have b1 : (-9223372036854775808) ≤ v1 ∧ v1 ≤ 9223372036854775807 := by rw [← e1]; exact (CI.r hC_M (show kd 435 = 26 from rfl) (by decide) 0)
  refine jr.lald (i := 0) (x := v1) rfl (by decide) rfl (by decide) (by omega) (by omega) e1 ?_
  refine jr.bipush rfl (by decide) ?_
  refine jr_s rfl rfl (Or.inl rfl) ⟨Nat.le_of_ble_eq_true rfl, Nat.le_of_ble_eq_true rfl⟩ rfl rfl (jc.deep (c_Machine_isNot hC_M (by omega) (by omega) (fun r2 z2 w2_0 => ?_)) (by decide))
  refine jr.if_eq rfl rfl (by omega) (fun h11 => ?_) (fun h11 => ?_)
  · refine jr.aload_n rfl rfl ?_
    obtain ⟨v3, e3⟩ : ∃ z_, M 421 12 = z_ := ⟨_, rfl⟩
    have b3 : 0 ≤ v3 ∧ v3 ≤ 597 := by rw [← e3]; exact (CI.r hC_M (show kd 421 = 22 from rfl) (by decide) 12)
    have k4 : kd (v3).toNat = 18 := ((congrArg (fun z : Int => kd z.toNat) (show M 421 12 = v3 from e3)).symm.trans (CI.x hC_M (show kd 421 = 22 from rfl) 12 rfl (by decide)))
    refine jr.getf (i := 12) (x := v3) (v := .ref (v3.toNat)) rfl rfl (by decide) rfl (by decide) rfl rfl e3 rfl ?_
    obtain ⟨v5, e5⟩ : ∃ z_, M ((v3.toNat)) 7 = z_ := ⟨_, rfl⟩
    have b5 : 0 ≤ v5 ∧ v5 ≤ 597 := by rw [← e5]; exact (CI.r hC_M k4 (by decide) 7)
    have k6 : kd (v5).toNat = 33 := ((congrArg (fun z : Int => kd z.toNat) (show M ((v3.toNat)) 7 = v5 from e5)).symm.trans (CI.x hC_M k4 7 rfl (by decide)))
    refine jr.getf (i := 7) (x := v5) (v := .ref (v5.toNat)) rfl rfl (Nat.lt_trans (kx_18 k4).1 (by decide)) (kx_18 k4).2 (by decide) rfl rfl e5 (jval_mut rfl (kn_18_7 k4)) ?_
    refine jr_v rfl rfl (Or.inl rfl) rfl rfl (Nat.lt_trans (kx_33 k6).1 (by decide)) (kx_33 k6).2 ⟨rfl, Nat.le_of_ble_eq_true rfl, Nat.le_of_ble_eq_true rfl⟩ rfl (jc.deep (c_Packet_isThere hC_M k6 (fun r7 z7 w7_0 => ?_)) (by decide))
    obtain ⟨v8, e8⟩ : ∃ z_, M ((v5.toNat)) 1 = z_ := ⟨_, rfl⟩
    have b8 : (-1) ≤ v8 ∧ v8 ≤ 400 := by rw [← e8]; exact (CI.r hC_M k6 (by decide) 1)
    refine jr.if_ne rfl rfl (by omega) (fun h32 => ?_) (fun h32 => ?_)
    · refine jr.aload_n rfl rfl ?_
      obtain ⟨v9, e9⟩ : ∃ z_, M 421 5 = z_ := ⟨_, rfl⟩
      have b9 : (-2147483648) ≤ v9 ∧ v9 ≤ 2147483647 := by rw [← e9]; exact (CI.r hC_M (show kd 421 = 22 from rfl) (by decide) 5)
      refine jr.getf (i := 5) (x := v9) (v := .int (Int32.ofInt (v9))) rfl rfl (by decide) rfl (by decide) rfl rfl e9 rfl ?_
      refine jr.sipush rfl (by decide) ?_
      refine jr.icmp_lt rfl rfl (by omega) (by omega) (fun h50 => ?_) (fun h50 => ?_)
      · refine jr.aload_n rfl rfl ?_
        refine jr.dup rfl rfl ?_
        refine jr.getf (i := 5) (x := v9) (v := .int (Int32.ofInt (v9))) rfl rfl (by decide) rfl (by decide) rfl rfl e9 rfl ?_
        refine jr.iconst rfl ?_
        refine jr.iadd rfl ?_
        refine jr.putf (i := 5) (x := (v9 + 1)) rfl rfl (by decide) rfl (by decide) rfl rfl rfl rfl rfl ?_
        refine jr.aload_n rfl rfl ?_
        refine jr.getf (i := 0) (v := .ref 422) rfl rfl (by decide) rfl (by decide) rfl rfl rfl rfl ?_
        refine jr.aload_n rfl rfl ?_
        refine jr.getf (i := 8) (v := .ref 435) rfl rfl (by decide) rfl (by decide) rfl rfl rfl rfl ?_
        refine jr.iconst rfl ?_
        refine jr.lald (i := 0) (x := v1) rfl (by decide) rfl (by decide) (by omega) (by omega) ((ju_c _ _ (by decide)).trans e1) ?_
        refine jr.l2i rfl ?_
        have k10 := kxe_25 (a := 422) rfl (i := v1) (by omega) (by omega)
        refine jr.aald (c := (xe 422 v1)) rfl (by decide) rfl (by decide) (by decide) rfl (by decide) (by omega) (by omega) k10.1 ?_
        refine jr.aload_n rfl rfl ?_
        have k11 : kd (v3).toNat = 18 := ((congrArg (fun z : Int => kd z.toNat) (show (ju M 421 5 (v9 + 1)) 421 12 = v3 from ((ju_i _ _ (by decide)).trans e3))).symm.trans (CI.x (CI.u hC_M (i := 5) (show kd 421 = 22 from rfl) (show (-2147483648 : Int) ≤ _ ∧ _ ≤ (2147483647 : Int) from by omega) rfl) (show kd 421 = 22 from rfl) 12 rfl (by decide)))
        refine jr.getf (i := 12) (x := v3) (v := .ref (v3.toNat)) rfl rfl (by decide) rfl (by decide) rfl rfl ((ju_i _ _ (by decide)).trans e3) rfl ?_
        refine jr_v rfl rfl (Or.inl rfl) rfl rfl (Nat.lt_trans (kx_52 k10.2).1 (by decide)) (kx_52 k10.2).2 ⟨rfl, Nat.le_of_ble_eq_true rfl, Nat.le_of_ble_eq_true rfl⟩ rfl (jc.deep (c_Row_listAll (CI.u hC_M (i := 5) (show kd 421 = 22 from rfl) (show (-2147483648 : Int) ≤ _ ∧ _ ≤ (2147483647 : Int) from by omega) rfl) (FR.rfl _ ((ju M 421 5 (v9 + 1)))) k10.2 k11 (fun M12 hC_M12 hf_M12  => ?_)) (by decide))
        have ht_M12 : FR W_c_Machine_makeList T M12 := FR.t (FR.o ht_M (show kd 421 = 22 from rfl) rfl) hf_M12 (kw_sub rfl)
        exact jr.vreturn rfl rfl (q _ hC_M12 ht_M12  )
      · refine jr.aload_n rfl rfl ?_
        refine jr.bipush rfl (by decide) ?_
        refine jr_v rfl rfl (Or.inl rfl) rfl rfl (by decide) rfl ⟨rfl, Nat.le_of_ble_eq_true rfl, Nat.le_of_ble_eq_true rfl⟩ rfl (jc.deep (c_Machine_fail hC_M (FR.rfl _ M) (by omega) (fun M13 hC_M13 hf_M13  => ?_)) (by decide))
        have ht_M13 : FR W_c_Machine_makeList T M13 := FR.t ht_M hf_M13 (kw_sub rfl)
        refine jr.goto rfl rfl ?_
        exact jr.vreturn rfl rfl (q _ hC_M13 ht_M13  )
    · refine jr.aload_n rfl rfl ?_
      refine jr.iconst rfl ?_
      refine jr_v rfl rfl (Or.inl rfl) rfl rfl (by decide) rfl ⟨rfl, Nat.le_of_ble_eq_true rfl, Nat.le_of_ble_eq_true rfl⟩ rfl (jc.deep (c_Machine_fail hC_M (FR.rfl _ M) (by omega) (fun M14 hC_M14 hf_M14  => ?_)) (by decide))
      have ht_M14 : FR W_c_Machine_makeList T M14 := FR.t ht_M hf_M14 (kw_sub rfl)
      refine jr.goto rfl rfl ?_
      exact jr.vreturn rfl rfl (q _ hC_M14 ht_M14  )
  · refine jr.aload_n rfl rfl ?_
    refine jr.iconst rfl ?_
    refine jr_v rfl rfl (Or.inl rfl) rfl rfl (by decide) rfl ⟨rfl, Nat.le_of_ble_eq_true rfl, Nat.le_of_ble_eq_true rfl⟩ rfl (jc.deep (c_Machine_fail hC_M (FR.rfl _ M) (by omega) (fun M15 hC_M15 hf_M15  => ?_)) (by decide))
    have ht_M15 : FR W_c_Machine_makeList T M15 := FR.t ht_M hf_M15 (kw_sub rfl)
    refine jr.goto rfl rfl ?_
    exact jr.vreturn rfl rfl (q _ hC_M15 ht_M15  )
