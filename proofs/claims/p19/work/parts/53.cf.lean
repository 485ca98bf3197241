/-! ===== the class's methods ===== -/
def W_c_Flow_describe : List (Nat × Nat) := [(1, 1), (1, 2), (2, 1000), (7, 1000)]
theorem c_Flow_describe_L57 {A : Nat → Option (Nat × (Nat → Int32))} {Q : Option Value → jm → Prop} {T : jm} {t : Nat} (k_t : kd t = 1) {x : Nat} (k_x : kd x = 18) {y : Int} {z : Int} (q : ∀ (M' : jm), CI M' → FR W_c_Flow_describe T M' → Q none M') : ∀ (nM : Nat) (M : jm) (k : Int) (i : Int), CI M → FR W_c_Flow_describe T M → (-2147483648) ≤ y ∧ y ≤ 2147483647 → (-2147483648) ≤ z ∧ z ≤ 2147483647 → (-1) ≤ k ∧ k ≤ 11 → 0 ≤ i ∧ i ≤ 2 → 2 - i ≤ nM → jr A 3 xm_57 57 [(2, .int (Int32.ofInt (y))), (3, .int (Int32.ofInt (z))), (4, .int (Int32.ofInt (k))), (5, .int (Int32.ofInt (i))), (0, .ref (t)), (1, .ref (x))] [] M Q := by
  intro nM
  induction nM using Nat.strongRecOn with
  | ind nM ih =>
    intro M k i hC_M ht_M h_y h_z h_k h_i hm
    refine jr.iload rfl rfl ?_
    refine jr.iconst rfl ?_
    refine jr.icmp_ge rfl rfl (by omega) (by omega) (fun h60 => ?_) (fun h60 => ?_)
    · exact jr.vreturn rfl rfl (q _ hC_M ht_M  )
    · refine jr.aload_n rfl rfl ?_
      have k1 := kf_1_3 k_t
      refine jr.getf (i := 3) (v := .ref (t + 1)) rfl rfl (Nat.lt_trans (kx_1 k_t).1 (by decide)) (kx_1 k_t).2 (by decide) rfl rfl rfl (jval_ref rfl k1.1) ?_
      refine jr.iload rfl rfl ?_
      refine jr.aload_n rfl rfl ?_
      refine jr.iload_n rfl rfl ?_
      refine jr.iload rfl rfl ?_
      refine jr_v rfl rfl (Or.inl rfl) rfl rfl (Nat.lt_trans (kx_18 k_x).1 (by decide)) (kx_18 k_x).2 ⟨rfl, Nat.le_of_ble_eq_true rfl, Nat.le_of_ble_eq_true rfl⟩ rfl (jc.deep (c_Headers_addressOf hC_M k_x (by omega) (by omega) (fun r2 z2  => ?_)) (by decide))
      refine jr.last (i := i) (x := r2) rfl (Nat.lt_trans (kx_2 k1.2).1 (by decide)) (kx_2 k1.2).2 (by decide) (by omega) (by omega) ?_
      refine jr.aload_n rfl rfl ?_
      have k3 := kf_1_4 k_t
      refine jr.getf (i := 4) (v := .ref (t + 2)) rfl rfl (Nat.lt_trans (kx_1 k_t).1 (by decide)) (kx_1 k_t).2 (by decide) rfl rfl rfl (jval_ref rfl k3.1) ?_
      refine jr.iload rfl rfl ?_
      refine jr.iload rfl rfl ?_
      refine jr.bipush rfl (by decide) ?_
      refine jr.icmp_ne rfl rfl (by omega) (by omega) (fun h87 => ?_) (fun h87 => ?_)
      · refine jr.aload_n rfl rfl ?_
        refine jr.iload_n rfl rfl ?_
        refine jr.iload rfl rfl ?_
        refine jr_v rfl rfl (Or.inl rfl) rfl rfl (Nat.lt_trans (kx_18 k_x).1 (by decide)) (kx_18 k_x).2 ⟨rfl, Nat.le_of_ble_eq_true rfl, Nat.le_of_ble_eq_true rfl⟩ rfl (jc.deep (c_Headers_valueOf (CI.u hC_M (i := i) k1.2 (show (-9223372036854775808 : Int) ≤ _ ∧ _ ≤ (9223372036854775807 : Int) from by omega) rfl) k_x (by omega) (by omega) (fun r4 z4  => ?_)) (by decide))
        refine jr.l2i rfl ?_
        refine jr.iw (j_w r4) (j_w_eq _) ?_
        have b5 : -2147483648 ≤ j_w r4 ∧ j_w r4 ≤ 2147483647 := jb_any _
        generalize j_w r4 = v5 at b5 ⊢
        refine jr.iast (i := i) (x := v5) rfl (Nat.lt_trans (kx_7 k3.2).1 (by decide)) (kx_7 k3.2).2 (by decide) (by omega) (by omega) ?_
        refine jr.iinc rfl rfl (by decide) rfl ?_
        refine jr.goto rfl rfl ?_
        refine jr.pick [1, 2, 3, 0, 4, 5] rfl rfl ?_
        exact ih (nM - 1) (by omega) ((ju (ju M ((t + 1)) i r2) ((t + 2)) i v5)) k (i + 1) (CI.u (CI.u hC_M (i := i) k1.2 (show (-9223372036854775808 : Int) ≤ _ ∧ _ ≤ (9223372036854775807 : Int) from by omega) rfl) (i := i) k3.2 (show (-2147483648 : Int) ≤ _ ∧ _ ≤ (2147483647 : Int) from by omega) rfl) (FR.o (FR.o ht_M k1.2 rfl) k3.2 rfl) (by omega) (by omega) (by omega) (by omega)  (by omega)
      · refine jr.aload_n rfl rfl ?_
        refine jr.iload_n rfl rfl ?_
        refine jr.iconst rfl ?_
        refine jr_v rfl rfl (Or.inl rfl) rfl rfl (Nat.lt_trans (kx_18 k_x).1 (by decide)) (kx_18 k_x).2 ⟨rfl, Nat.le_of_ble_eq_true rfl, Nat.le_of_ble_eq_true rfl⟩ rfl (jc.deep (c_Headers_valueOf (CI.u hC_M (i := i) k1.2 (show (-9223372036854775808 : Int) ≤ _ ∧ _ ≤ (9223372036854775807 : Int) from by omega) rfl) k_x (by omega) (by omega) (fun r6 z6  => ?_)) (by decide))
        refine jr.bipush rfl (by decide) ?_
        refine jr.lushr rfl ?_
        have b7 : -9223372036854775808 ≤ jl_ushr r6 16 ∧ jl_ushr r6 16 ≤ 9223372036854775807 := jbl_any _
        generalize jl_ushr r6 16 = v7 at b7 ⊢
        refine jr.goto rfl rfl ?_
        refine jr.l2i rfl ?_
        refine jr.iw (j_w v7) (j_w_eq _) ?_
        have b8 : -2147483648 ≤ j_w v7 ∧ j_w v7 ≤ 2147483647 := jb_any _
        generalize j_w v7 = v8 at b8 ⊢
        refine jr.iast (i := i) (x := v8) rfl (Nat.lt_trans (kx_7 k3.2).1 (by decide)) (kx_7 k3.2).2 (by decide) (by omega) (by omega) ?_
        refine jr.iinc rfl rfl (by decide) rfl ?_
        refine jr.goto rfl rfl ?_
        refine jr.pick [1, 2, 3, 0, 4, 5] rfl rfl ?_
        exact ih (nM - 1) (by omega) ((ju (ju M ((t + 1)) i r2) ((t + 2)) i v8)) k (i + 1) (CI.u (CI.u hC_M (i := i) k1.2 (show (-9223372036854775808 : Int) ≤ _ ∧ _ ≤ (9223372036854775807 : Int) from by omega) rfl) (i := i) k3.2 (show (-2147483648 : Int) ≤ _ ∧ _ ≤ (2147483647 : Int) from by omega) rfl) (FR.o (FR.o ht_M k1.2 rfl) k3.2 rfl) (by omega) (by omega) (by omega) (by omega)  (by omega)
theorem c_Flow_describe_L54 {A : Nat → Option (Nat × (Nat → Int32))} {Q : Option Value → jm → Prop} {T : jm} {t : Nat} (k_t : kd t = 1) {x : Nat} (k_x : kd x = 18) {y : Int} {z : Int} (q : ∀ (M' : jm), CI M' → FR W_c_Flow_describe T M' → Q none M') : ∀ (nM : Nat) (M : jm) (k : Int), CI M → FR W_c_Flow_describe T M → (-2147483648) ≤ y ∧ y ≤ 2147483647 → (-2147483648) ≤ z ∧ z ≤ 2147483647 → (-1) ≤ k ∧ k ≤ 11 → 0 ≤ nM → jr A 3 xm_57 54 [(2, .int (Int32.ofInt (y))), (3, .int (Int32.ofInt (z))), (4, .int (Int32.ofInt (k))), (0, .ref (t)), (1, .ref (x))] [] M Q := by
  intro nM
  induction nM using Nat.strongRecOn with
  | ind nM ih =>
    intro M k hC_M ht_M h_y h_z h_k hm
    refine jr.iconst rfl ?_
    refine jr.istore rfl (by decide) rfl ?_
    refine jr.pick [1, 2, 3, 0, 4, 5] rfl rfl ?_
    exact c_Flow_describe_L57 k_t k_x q 2 M k 0 hC_M ht_M (by omega) (by omega) (by omega) (by omega)  (by omega)
theorem c_Flow_describe {A : Nat → Option (Nat × (Nat → Int32))} {Q : Option Value → jm → Prop} {T : jm} {M : jm} (hC_M : CI M) (ht_M : FR W_c_Flow_describe T M) {t : Nat} (k_t : kd t = 1) {x : Nat} (k_x : kd x = 18) {y : Int} (h_y : (-2147483648) ≤ y ∧ y ≤ 2147483647) {z : Int} (h_z : (-2147483648) ≤ z ∧ z ≤ 2147483647) (q : ∀ (M' : jm), CI M' → FR W_c_Flow_describe T M' → Q none M') : jc A 4 57 [.ref (t), .ref (x), .int (Int32.ofInt (y)), .int (Int32.ofInt (z))] M Q := by
  refine jc_of (m := xm_57) rfl (Nat.le_of_ble_eq_true rfl) rfl ?_
  refine jr.aload_n rfl rfl ?_
  refine jr.iload_n rfl rfl ?_
  refine jr_v rfl rfl (Or.inl rfl) rfl rfl (Nat.lt_trans (kx_18 k_x).1 (by decide)) (kx_18 k_x).2 ⟨rfl, Nat.le_of_ble_eq_true rfl, Nat.le_of_ble_eq_true rfl⟩ rfl (jc.deep (c_Headers_kindAt hC_M k_x (by omega) (fun r1 z1 w1_0 w1_1 => ?_)) (by decide))
  refine jr.istore rfl (by decide) rfl ?_
  refine jr.aload_n rfl rfl ?_
  refine jr.aload_n rfl rfl ?_
  refine jr.iload_n rfl rfl ?_
  refine jr_v rfl rfl (Or.inl rfl) rfl rfl (Nat.lt_trans (kx_18 k_x).1 (by decide)) (kx_18 k_x).2 ⟨rfl, Nat.le_of_ble_eq_true rfl, Nat.le_of_ble_eq_true rfl⟩ rfl (jc.deep (c_Headers_kindAt hC_M k_x (by omega) (fun r2 z2 w2_0 w2_1 => ?_)) (by decide))
  refine jr.iconst rfl ?_
  refine jr.icmp_ne rfl rfl (by omega) (by omega) (fun h14 => ?_) (fun h14 => ?_)
  · refine jr.iconst rfl ?_
    refine jr.putf (i := 1) (x := 0) rfl rfl (Nat.lt_trans (kx_1 k_t).1 (by decide)) (kx_1 k_t).2 (by decide) rfl rfl rfl rfl rfl ?_
    refine jr.aload_n rfl rfl ?_
    refine jr.iload rfl rfl ?_
    refine jr.bipush rfl (by decide) ?_
    refine jr.icmp_ne rfl rfl (by omega) (by omega) (fun h30 => ?_) (fun h30 => ?_)
    · refine jr.iload rfl rfl ?_
      refine jr.bipush rfl (by decide) ?_
      refine jr.icmp_ne rfl rfl (by omega) (by omega) (fun h41 => ?_) (fun h41 => ?_)
      · refine jr.bipush rfl (by decide) ?_
        refine jr.putf (i := 2) (x := 17) rfl rfl (Nat.lt_trans (kx_1 k_t).1 (by decide)) (kx_1 k_t).2 (by decide) rfl rfl rfl rfl rfl ?_
        refine jr.pick [3, 4, 0, 1, 2] rfl rfl ?_
        exact c_Flow_describe_L54 k_t k_x q 0 ((ju (ju M t 1 0) t 2 17)) r1 (CI.u (CI.u hC_M (i := 1) k_t (show (0 : Int) ≤ _ ∧ _ ≤ (1 : Int) from by omega) rfl) (i := 2) k_t (show (-2147483648 : Int) ≤ _ ∧ _ ≤ (2147483647 : Int) from by omega) rfl) (FR.o (FR.o ht_M k_t rfl) k_t rfl) (by omega) (by omega) (by omega)  (by omega)
      · refine jr.bipush rfl (by decide) ?_
        refine jr.goto rfl rfl ?_
        refine jr.putf (i := 2) (x := 6) rfl rfl (Nat.lt_trans (kx_1 k_t).1 (by decide)) (kx_1 k_t).2 (by decide) rfl rfl rfl rfl rfl ?_
        refine jr.pick [3, 4, 0, 1, 2] rfl rfl ?_
        exact c_Flow_describe_L54 k_t k_x q 0 ((ju (ju M t 1 0) t 2 6)) r1 (CI.u (CI.u hC_M (i := 1) k_t (show (0 : Int) ≤ _ ∧ _ ≤ (1 : Int) from by omega) rfl) (i := 2) k_t (show (-2147483648 : Int) ≤ _ ∧ _ ≤ (2147483647 : Int) from by omega) rfl) (FR.o (FR.o ht_M k_t rfl) k_t rfl) (by omega) (by omega) (by omega)  (by omega)
    · refine jr.iconst rfl ?_
      refine jr.goto rfl rfl ?_
      refine jr.putf (i := 2) (x := 1) rfl rfl (Nat.lt_trans (kx_1 k_t).1 (by decide)) (kx_1 k_t).2 (by decide) rfl rfl rfl rfl rfl ?_
      refine jr.pick [3, 4, 0, 1, 2] rfl rfl ?_
      exact c_Flow_describe_L54 k_t k_x q 0 ((ju (ju M t 1 0) t 2 1)) r1 (CI.u (CI.u hC_M (i := 1) k_t (show (0 : Int) ≤ _ ∧ _ ≤ (1 : Int) from by omega) rfl) (i := 2) k_t (show (-2147483648 : Int) ≤ _ ∧ _ ≤ (2147483647 : Int) from by omega) rfl) (FR.o (FR.o ht_M k_t rfl) k_t rfl) (by omega) (by omega) (by omega)  (by omega)
  · refine jr.iconst rfl ?_
    refine jr.goto rfl rfl ?_
    refine jr.putf (i := 1) (x := 1) rfl rfl (Nat.lt_trans (kx_1 k_t).1 (by decide)) (kx_1 k_t).2 (by decide) rfl rfl rfl rfl rfl ?_
    refine jr.aload_n rfl rfl ?_
    refine jr.iload rfl rfl ?_
    refine jr.bipush rfl (by decide) ?_
    refine jr.icmp_ne rfl rfl (by omega) (by omega) (fun h30 => ?_) (fun h30 => ?_)
    · refine jr.iload rfl rfl ?_
      refine jr.bipush rfl (by decide) ?_
      refine jr.icmp_ne rfl rfl (by omega) (by omega) (fun h41 => ?_) (fun h41 => ?_)
      · refine jr.bipush rfl (by decide) ?_
        refine jr.putf (i := 2) (x := 17) rfl rfl (Nat.lt_trans (kx_1 k_t).1 (by decide)) (kx_1 k_t).2 (by decide) rfl rfl rfl rfl rfl ?_
        refine jr.pick [3, 4, 0, 1, 2] rfl rfl ?_
        exact c_Flow_describe_L54 k_t k_x q 0 ((ju (ju M t 1 1) t 2 17)) r1 (CI.u (CI.u hC_M (i := 1) k_t (show (0 : Int) ≤ _ ∧ _ ≤ (1 : Int) from by omega) rfl) (i := 2) k_t (show (-2147483648 : Int) ≤ _ ∧ _ ≤ (2147483647 : Int) from by omega) rfl) (FR.o (FR.o ht_M k_t rfl) k_t rfl) (by omega) (by omega) (by omega)  (by omega)
      · refine jr.bipush rfl (by decide) ?_
        refine jr.goto rfl rfl ?_
        refine jr.putf (i := 2) (x := 6) rfl rfl (Nat.lt_trans (kx_1 k_t).1 (by decide)) (kx_1 k_t).2 (by decide) rfl rfl rfl rfl rfl ?_
        refine jr.pick [3, 4, 0, 1, 2] rfl rfl ?_
        exact c_Flow_describe_L54 k_t k_x q 0 ((ju (ju M t 1 1) t 2 6)) r1 (CI.u (CI.u hC_M (i := 1) k_t (show (0 : Int) ≤ _ ∧ _ ≤ (1 : Int) from by omega) rfl) (i := 2) k_t (show (-2147483648 : Int) ≤ _ ∧ _ ≤ (2147483647 : Int) from by omega) rfl) (FR.o (FR.o ht_M k_t rfl) k_t rfl) (by omega) (by omega) (by omega)  (by omega)
    · refine jr.iconst rfl ?_
      refine jr.goto rfl rfl ?_
      refine jr.putf (i := 2) (x := 1) rfl rfl (Nat.lt_trans (kx_1 k_t).1 (by decide)) (kx_1 k_t).2 (by decide) rfl rfl rfl rfl rfl ?_
      refine jr.pick [3, 4, 0, 1, 2] rfl rfl ?_
      exact c_Flow_describe_L54 k_t k_x q 0 ((ju (ju M t 1 1) t 2 1)) r1 (CI.u (CI.u hC_M (i := 1) k_t (show (0 : Int) ≤ _ ∧ _ ≤ (1 : Int) from by omega) rfl) (i := 2) k_t (show (-2147483648 : Int) ≤ _ ∧ _ ≤ (2147483647 : Int) from by omega) rfl) (FR.o (FR.o ht_M k_t rfl) k_t rfl) (by omega) (by omega) (by omega)  (by omega)
def W_c_Flow_layRow : List (Nat × Nat) := [(43, 1000)]
theorem c_Flow_layRow_L92 {A : Nat → Option (Nat × (Nat → Int32))} {Q : Option Value → jm → Prop} {T : jm} {t : Nat} (k_t : kd t = 1) {x : Nat} (k_x : kd x = 43) {y : Int} {z : Int} (q : ∀ (M' : jm), CI M' → FR W_c_Flow_layRow T M' → Q none M') : ∀ (nM : Nat) (M : jm) (i : Int), CI M → FR W_c_Flow_layRow T M → 0 ≤ y ∧ y ≤ 2000 → (-2147483648) ≤ z ∧ z ≤ 2147483647 → 0 ≤ i ∧ i ≤ 2 → 2 - i ≤ nM → jr A 2 xm_64 92 [(2, .int (Int32.ofInt (y))), (3, .int (Int32.ofInt (z))), (5, .int (Int32.ofInt (i))), (0, .ref (t)), (1, .ref (x))] [] M Q := by
  intro nM
  induction nM using Nat.strongRecOn with
  | ind nM ih =>
    intro M i hC_M ht_M h_y h_z h_i hm
    refine jr.iload rfl rfl ?_
    refine jr.iconst rfl ?_
    refine jr.icmp_ge rfl rfl (by omega) (by omega) (fun h95 => ?_) (fun h95 => ?_)
    · refine jr.aload_n rfl rfl ?_
      refine jr.iload_n rfl rfl ?_
      refine jr.bipush rfl (by decide) ?_
      refine jr.iadd rfl ?_
      refine jr.iconst rfl ?_
      refine jr.aload_n rfl rfl ?_
      obtain ⟨v1, e1⟩ : ∃ z_, M t 6 = z_ := ⟨_, rfl⟩
      have b1 : (-2147483648) ≤ v1 ∧ v1 ≤ 2147483647 := by rw [← e1]; exact (CI.r hC_M k_t (by decide) 6)
      refine jr.getf (i := 6) (x := v1) (v := .int (Int32.ofInt (v1))) rfl rfl (Nat.lt_trans (kx_1 k_t).1 (by decide)) (kx_1 k_t).2 (by decide) rfl rfl e1 rfl ?_
      refine jr.iload_n rfl rfl ?_
      refine jr.isub rfl ?_
      refine jr.iw (j_w (v1 - z)) (j_w_eq _) ?_
      have b2 : -2147483648 ≤ j_w (v1 - z) ∧ j_w (v1 - z) ≤ 2147483647 := jb_any _
      generalize j_w (v1 - z) = v2 at b2 ⊢
      refine jr.i2l rfl (by omega) ?_
      refine jr_s rfl rfl (Or.inr rfl) ⟨Nat.le_of_ble_eq_true rfl, Nat.le_of_ble_eq_true rfl⟩ rfl rfl (jc.deep (c_PacketWall_putNumber_t hC_M (FR.rfl _ M) k_x (by omega) (by omega) (by omega) (fun M3 hC_M3 hf_M3  => ?_)) (by decide))
      have ht_M3 : FR W_c_Flow_layRow T M3 := FR.t ht_M hf_M3 (kw_sub rfl)
      refine jr.aload_n rfl rfl ?_
      refine jr.iload_n rfl rfl ?_
      refine jr.bipush rfl (by decide) ?_
      refine jr.iadd rfl ?_
      refine jr.iconst rfl ?_
      refine jr.aload_n rfl rfl ?_
      have k4 := kf_1_10 k_t
      refine jr.getf (i := 10) (v := .ref (t + 6)) rfl rfl (Nat.lt_trans (kx_1 k_t).1 (by decide)) (kx_1 k_t).2 (by decide) rfl rfl rfl (jval_ref rfl k4.1) ?_
      refine jr.iconst rfl ?_
      obtain ⟨v5, e5⟩ : ∃ z_, M ((t + 6)) 0 = z_ := ⟨_, rfl⟩
      have b5 : (-9223372036854775808) ≤ v5 ∧ v5 ≤ 9223372036854775807 := by rw [← e5]; exact (CI.r hC_M k4.2 (by decide) 0)
      have e6 : M3 ((t + 6)) 0 = v5 := (hf_M3.g k4.2 rfl).trans e5
      refine jr.lald (i := 0) (x := v5) rfl (Nat.lt_trans (kx_6 k4.2).1 (by decide)) (kx_6 k4.2).2 (by decide) (by omega) (by omega) e6 ?_
      refine jr.aload_n rfl rfl ?_
      have k7 := kf_1_10 k_t
      refine jr.getf (i := 10) (v := .ref (t + 6)) rfl rfl (Nat.lt_trans (kx_1 k_t).1 (by decide)) (kx_1 k_t).2 (by decide) rfl rfl rfl (jval_ref rfl k7.1) ?_
      refine jr.iconst rfl ?_
      obtain ⟨v8, e8⟩ : ∃ z_, M ((t + 6)) 1 = z_ := ⟨_, rfl⟩
      have b8 : (-9223372036854775808) ≤ v8 ∧ v8 ≤ 9223372036854775807 := by rw [← e8]; exact (CI.r hC_M k7.2 (by decide) 1)
      have e9 : M3 ((t + 6)) 1 = v8 := (hf_M3.g k7.2 rfl).trans e8
      refine jr.lald (i := 1) (x := v8) rfl (Nat.lt_trans (kx_6 k7.2).1 (by decide)) (kx_6 k7.2).2 (by decide) (by omega) (by omega) e9 ?_
      refine jr.ladd rfl ?_
      refine jr.lw (jl_w (v5 + v8)) (jl_w_eq _) ?_
      have b10 : -9223372036854775808 ≤ jl_w (v5 + v8) ∧ jl_w (v5 + v8) ≤ 9223372036854775807 := jbl_any _
      generalize jl_w (v5 + v8) = v10 at b10 ⊢
      refine jr_s rfl rfl (Or.inr rfl) ⟨Nat.le_of_ble_eq_true rfl, Nat.le_of_ble_eq_true rfl⟩ rfl rfl (jc.deep (c_PacketWall_putNumber_t hC_M3 (FR.rfl _ M3) k_x (by omega) (by omega) (by omega) (fun M11 hC_M11 hf_M11  => ?_)) (by decide))
      have ht_M11 : FR W_c_Flow_layRow T M11 := FR.t ht_M3 hf_M11 (kw_sub rfl)
      refine jr.aload_n rfl rfl ?_
      refine jr.iload_n rfl rfl ?_
      refine jr.bipush rfl (by decide) ?_
      refine jr.iadd rfl ?_
      refine jr.iconst rfl ?_
      refine jr.aload_n rfl rfl ?_
      have k12 := kf_1_11 k_t
      refine jr.getf (i := 11) (v := .ref (t + 7)) rfl rfl (Nat.lt_trans (kx_1 k_t).1 (by decide)) (kx_1 k_t).2 (by decide) rfl rfl rfl (jval_ref rfl k12.1) ?_
      refine jr.iconst rfl ?_
      obtain ⟨v13, e13⟩ : ∃ z_, M ((t + 7)) 0 = z_ := ⟨_, rfl⟩
      have b13 : (-9223372036854775808) ≤ v13 ∧ v13 ≤ 9223372036854775807 := by rw [← e13]; exact (CI.r hC_M k12.2 (by decide) 0)
      have e14 : M3 ((t + 7)) 0 = v13 := (hf_M3.g k12.2 rfl).trans e13
      have e15 : M11 ((t + 7)) 0 = v13 := (hf_M11.g k12.2 rfl).trans e14
      refine jr.lald (i := 0) (x := v13) rfl (Nat.lt_trans (kx_3 k12.2).1 (by decide)) (kx_3 k12.2).2 (by decide) (by omega) (by omega) e15 ?_
      refine jr.aload_n rfl rfl ?_
      have k16 := kf_1_11 k_t
      refine jr.getf (i := 11) (v := .ref (t + 7)) rfl rfl (Nat.lt_trans (kx_1 k_t).1 (by decide)) (kx_1 k_t).2 (by decide) rfl rfl rfl (jval_ref rfl k16.1) ?_
      refine jr.iconst rfl ?_
      obtain ⟨v17, e17⟩ : ∃ z_, M ((t + 7)) 1 = z_ := ⟨_, rfl⟩
      have b17 : (-9223372036854775808) ≤ v17 ∧ v17 ≤ 9223372036854775807 := by rw [← e17]; exact (CI.r hC_M k16.2 (by decide) 1)
      have e18 : M3 ((t + 7)) 1 = v17 := (hf_M3.g k16.2 rfl).trans e17
      have e19 : M11 ((t + 7)) 1 = v17 := (hf_M11.g k16.2 rfl).trans e18
      refine jr.lald (i := 1) (x := v17) rfl (Nat.lt_trans (kx_3 k16.2).1 (by decide)) (kx_3 k16.2).2 (by decide) (by omega) (by omega) e19 ?_
      refine jr.ladd rfl ?_
      refine jr.lw (jl_w (v13 + v17)) (jl_w_eq _) ?_
      have b20 : -9223372036854775808 ≤ jl_w (v13 + v17) ∧ jl_w (v13 + v17) ≤ 9223372036854775807 := jbl_any _
      generalize jl_w (v13 + v17) = v20 at b20 ⊢
      refine jr_s rfl rfl (Or.inr rfl) ⟨Nat.le_of_ble_eq_true rfl, Nat.le_of_ble_eq_true rfl⟩ rfl rfl (jc.deep (c_PacketWall_putNumber_t hC_M11 (FR.rfl _ M11) k_x (by omega) (by omega) (by omega) (fun M21 hC_M21 hf_M21  => ?_)) (by decide))
      have ht_M21 : FR W_c_Flow_layRow T M21 := FR.t ht_M11 hf_M21 (kw_sub rfl)
      refine jr.aload_n rfl rfl ?_
      refine jr.iload_n rfl rfl ?_
      refine jr.bipush rfl (by decide) ?_
      refine jr.iadd rfl ?_
      refine jr.iconst rfl ?_
      refine jr.aload_n rfl rfl ?_
      refine jr.iload_n rfl rfl ?_
      refine jr.iload_n rfl rfl ?_
      refine jr.bipush rfl (by decide) ?_
      refine jr.iadd rfl ?_
      refine jr_s rfl rfl (Or.inr rfl) ⟨Nat.le_of_ble_eq_true rfl, Nat.le_of_ble_eq_true rfl⟩ rfl rfl (jc.deep (c_PacketWall_addedTwos_t hC_M21 k_x (by omega) (by omega) (fun r22 z22  => ?_)) (by decide))
      refine jr_s rfl rfl (Or.inr rfl) ⟨Nat.le_of_ble_eq_true rfl, Nat.le_of_ble_eq_true rfl⟩ rfl rfl (jc.deep (c_PacketWall_foldedSum hC_M21 (by omega) (fun r23 z23  => ?_)) (by decide))
      refine jr.i2l rfl (by omega) ?_
      refine jr_s rfl rfl (Or.inr rfl) ⟨Nat.le_of_ble_eq_true rfl, Nat.le_of_ble_eq_true rfl⟩ rfl rfl (jc.deep (c_PacketWall_putNumber_t hC_M21 (FR.rfl _ M21) k_x (by omega) (by omega) (by omega) (fun M24 hC_M24 hf_M24  => ?_)) (by decide))
      have ht_M24 : FR W_c_Flow_layRow T M24 := FR.t ht_M21 hf_M24 (kw_sub rfl)
      exact jr.vreturn rfl rfl (q _ hC_M24 ht_M24  )
    · refine jr.aload_n rfl rfl ?_
      refine jr.iload_n rfl rfl ?_
      refine jr.iconst rfl ?_
      refine jr.iadd rfl ?_
      refine jr.iconst rfl ?_
      refine jr.iload rfl rfl ?_
      refine jr.imul rfl ?_
      refine jr.iadd rfl ?_
      refine jr.iconst rfl ?_
      refine jr.aload_n rfl rfl ?_
      have k25 := kf_1_4 k_t
      refine jr.getf (i := 4) (v := .ref (t + 2)) rfl rfl (Nat.lt_trans (kx_1 k_t).1 (by decide)) (kx_1 k_t).2 (by decide) rfl rfl rfl (jval_ref rfl k25.1) ?_
      refine jr.iload rfl rfl ?_
      obtain ⟨v26, e26⟩ : ∃ z_, M ((t + 2)) i = z_ := ⟨_, rfl⟩
      have b26 : (-2147483648) ≤ v26 ∧ v26 ≤ 2147483647 := by rw [← e26]; exact (CI.r hC_M k25.2 (by decide) i)
      refine jr.iald (i := i) (x := v26) rfl (Nat.lt_trans (kx_7 k25.2).1 (by decide)) (kx_7 k25.2).2 (by decide) (by omega) (by omega) e26 ?_
      refine jr.i2l rfl (by omega) ?_
      refine jr_s rfl rfl (Or.inr rfl) ⟨Nat.le_of_ble_eq_true rfl, Nat.le_of_ble_eq_true rfl⟩ rfl rfl (jc.deep (c_PacketWall_putNumber_t hC_M (FR.rfl _ M) k_x (by omega) (by omega) (by omega) (fun M27 hC_M27 hf_M27  => ?_)) (by decide))
      have ht_M27 : FR W_c_Flow_layRow T M27 := FR.t ht_M hf_M27 (kw_sub rfl)
      refine jr.aload_n rfl rfl ?_
      refine jr.iload_n rfl rfl ?_
      refine jr.bipush rfl (by decide) ?_
      refine jr.iadd rfl ?_
      refine jr.iconst rfl ?_
      refine jr.iload rfl rfl ?_
      refine jr.imul rfl ?_
      refine jr.iadd rfl ?_
      refine jr.iconst rfl ?_
      refine jr.aload_n rfl rfl ?_
      have k28 := kf_1_9 k_t
      refine jr.getf (i := 9) (v := .ref (t + 5)) rfl rfl (Nat.lt_trans (kx_1 k_t).1 (by decide)) (kx_1 k_t).2 (by decide) rfl rfl rfl (jval_ref rfl k28.1) ?_
      refine jr.iload rfl rfl ?_
      obtain ⟨v29, e29⟩ : ∃ z_, M ((t + 5)) i = z_ := ⟨_, rfl⟩
      have b29 : (-2147483648) ≤ v29 ∧ v29 ≤ 2147483647 := by rw [← e29]; exact (CI.r hC_M k28.2 (by decide) i)
      have e30 : M27 ((t + 5)) i = v29 := (hf_M27.g k28.2 rfl).trans e29
      refine jr.iald (i := i) (x := v29) rfl (Nat.lt_trans (kx_8 k28.2).1 (by decide)) (kx_8 k28.2).2 (by decide) (by omega) (by omega) e30 ?_
      refine jr.i2l rfl (by omega) ?_
      refine jr_s rfl rfl (Or.inr rfl) ⟨Nat.le_of_ble_eq_true rfl, Nat.le_of_ble_eq_true rfl⟩ rfl rfl (jc.deep (c_PacketWall_putNumber_t hC_M27 (FR.rfl _ M27) k_x (by omega) (by omega) (by omega) (fun M31 hC_M31 hf_M31  => ?_)) (by decide))
      have ht_M31 : FR W_c_Flow_layRow T M31 := FR.t ht_M27 hf_M31 (kw_sub rfl)
      refine jr.aload_n rfl rfl ?_
      refine jr.iload_n rfl rfl ?_
      refine jr.bipush rfl (by decide) ?_
      refine jr.iadd rfl ?_
      refine jr.bipush rfl (by decide) ?_
      refine jr.iload rfl rfl ?_
      refine jr.imul rfl ?_
      refine jr.iadd rfl ?_
      refine jr.bipush rfl (by decide) ?_
      refine jr.aload_n rfl rfl ?_
      have k32 := kf_1_3 k_t
      refine jr.getf (i := 3) (v := .ref (t + 1)) rfl rfl (Nat.lt_trans (kx_1 k_t).1 (by decide)) (kx_1 k_t).2 (by decide) rfl rfl rfl (jval_ref rfl k32.1) ?_
      refine jr.iload rfl rfl ?_
      obtain ⟨v33, e33⟩ : ∃ z_, M ((t + 1)) i = z_ := ⟨_, rfl⟩
      have b33 : (-9223372036854775808) ≤ v33 ∧ v33 ≤ 9223372036854775807 := by rw [← e33]; exact (CI.r hC_M k32.2 (by decide) i)
      have e34 : M27 ((t + 1)) i = v33 := (hf_M27.g k32.2 rfl).trans e33
      have e35 : M31 ((t + 1)) i = v33 := (hf_M31.g k32.2 rfl).trans e34
      refine jr.lald (i := i) (x := v33) rfl (Nat.lt_trans (kx_2 k32.2).1 (by decide)) (kx_2 k32.2).2 (by decide) (by omega) (by omega) e35 ?_
      refine jr_s rfl rfl (Or.inr rfl) ⟨Nat.le_of_ble_eq_true rfl, Nat.le_of_ble_eq_true rfl⟩ rfl rfl (jc.deep (c_PacketWall_putNumber_t hC_M31 (FR.rfl _ M31) k_x (by omega) (by omega) (by omega) (fun M36 hC_M36 hf_M36  => ?_)) (by decide))
      have ht_M36 : FR W_c_Flow_layRow T M36 := FR.t ht_M31 hf_M36 (kw_sub rfl)
      refine jr.aload_n rfl rfl ?_
      refine jr.iload_n rfl rfl ?_
      refine jr.bipush rfl (by decide) ?_
      refine jr.iadd rfl ?_
      refine jr.iconst rfl ?_
      refine jr.iload rfl rfl ?_
      refine jr.imul rfl ?_
      refine jr.iadd rfl ?_
      refine jr.iconst rfl ?_
      refine jr.aload_n rfl rfl ?_
      have k37 := kf_1_7 k_t
      refine jr.getf (i := 7) (v := .ref (t + 3)) rfl rfl (Nat.lt_trans (kx_1 k_t).1 (by decide)) (kx_1 k_t).2 (by decide) rfl rfl rfl (jval_ref rfl k37.1) ?_
      refine jr.iload rfl rfl ?_
      obtain ⟨v38, e38⟩ : ∃ z_, M ((t + 3)) i = z_ := ⟨_, rfl⟩
      have b38 : (-2147483648) ≤ v38 ∧ v38 ≤ 2147483647 := by rw [← e38]; exact (CI.r hC_M k37.2 (by decide) i)
      have e39 : M27 ((t + 3)) i = v38 := (hf_M27.g k37.2 rfl).trans e38
      have e40 : M31 ((t + 3)) i = v38 := (hf_M31.g k37.2 rfl).trans e39
      have e41 : M36 ((t + 3)) i = v38 := (hf_M36.g k37.2 rfl).trans e40
      refine jr.iald (i := i) (x := v38) rfl (Nat.lt_trans (kx_5 k37.2).1 (by decide)) (kx_5 k37.2).2 (by decide) (by omega) (by omega) e41 ?_
      refine jr.i2l rfl (by omega) ?_
      refine jr_s rfl rfl (Or.inr rfl) ⟨Nat.le_of_ble_eq_true rfl, Nat.le_of_ble_eq_true rfl⟩ rfl rfl (jc.deep (c_PacketWall_putNumber_t hC_M36 (FR.rfl _ M36) k_x (by omega) (by omega) (by omega) (fun M42 hC_M42 hf_M42  => ?_)) (by decide))
      have ht_M42 : FR W_c_Flow_layRow T M42 := FR.t ht_M36 hf_M42 (kw_sub rfl)
      refine jr.iinc rfl rfl (by decide) rfl ?_
      refine jr.goto rfl rfl ?_
      refine jr.pick [1, 2, 0, 3, 4] rfl rfl ?_
      exact ih (nM - 1) (by omega) M42 (i + 1) hC_M42 ht_M42 (by omega) (by omega) (by omega)  (by omega)
theorem c_Flow_layRow_L62 {A : Nat → Option (Nat × (Nat → Int32))} {Q : Option Value → jm → Prop} {T : jm} {t : Nat} (k_t : kd t = 1) {x : Nat} (k_x : kd x = 43) {y : Int} {z : Int} (q : ∀ (M' : jm), CI M' → FR W_c_Flow_layRow T M' → Q none M') : ∀ (nM : Nat) (M : jm) (f : Int), CI M → FR W_c_Flow_layRow T M → 0 ≤ y ∧ y ≤ 2000 → (-2147483648) ≤ z ∧ z ≤ 2147483647 → 0 ≤ f ∧ f ≤ 240 → 0 ≤ nM → jr A 2 xm_64 62 [(2, .int (Int32.ofInt (y))), (3, .int (Int32.ofInt (z))), (4, .int (Int32.ofInt (f))), (0, .ref (t)), (1, .ref (x))] [] M Q := by
  intro nM
  induction nM using Nat.strongRecOn with
  | ind nM ih =>
    intro M f hC_M ht_M h_y h_z h_f hm
    refine jr.aload_n rfl rfl ?_
    refine jr.iload_n rfl rfl ?_
    refine jr.iconst rfl ?_
    refine jr.aload_n rfl rfl ?_
    obtain ⟨v1, e1⟩ : ∃ z_, M t 2 = z_ := ⟨_, rfl⟩
    have b1 : (-2147483648) ≤ v1 ∧ v1 ≤ 2147483647 := by rw [← e1]; exact (CI.r hC_M k_t (by decide) 2)
    refine jr.getf (i := 2) (x := v1) (v := .int (Int32.ofInt (v1))) rfl rfl (Nat.lt_trans (kx_1 k_t).1 (by decide)) (kx_1 k_t).2 (by decide) rfl rfl e1 rfl ?_
    refine jr.i2l rfl (by omega) ?_
    refine jr_s rfl rfl (Or.inr rfl) ⟨Nat.le_of_ble_eq_true rfl, Nat.le_of_ble_eq_true rfl⟩ rfl rfl (jc.deep (c_PacketWall_putNumber_t hC_M (FR.rfl _ M) k_x (by omega) (by omega) (by omega) (fun M2 hC_M2 hf_M2  => ?_)) (by decide))
    have ht_M2 : FR W_c_Flow_layRow T M2 := FR.t ht_M hf_M2 (kw_sub rfl)
    refine jr.aload_n rfl rfl ?_
    refine jr.iload_n rfl rfl ?_
    refine jr.iconst rfl ?_
    refine jr.iadd rfl ?_
    refine jr.iconst rfl ?_
    refine jr.aload_n rfl rfl ?_
    obtain ⟨v3, e3⟩ : ∃ z_, M t 5 = z_ := ⟨_, rfl⟩
    have b3 : (-2147483648) ≤ v3 ∧ v3 ≤ 2147483647 := by rw [← e3]; exact (CI.r hC_M k_t (by decide) 5)
    have e4 : M2 t 5 = v3 := (hf_M2.g k_t rfl).trans e3
    refine jr.getf (i := 5) (x := v3) (v := .int (Int32.ofInt (v3))) rfl rfl (Nat.lt_trans (kx_1 k_t).1 (by decide)) (kx_1 k_t).2 (by decide) rfl rfl e4 rfl ?_
    refine jr.iload rfl rfl ?_
    refine jr.iadd rfl ?_
    refine jr.iw (j_w (v3 + f)) (j_w_eq _) ?_
    have b5 : -2147483648 ≤ j_w (v3 + f) ∧ j_w (v3 + f) ≤ 2147483647 := jb_any _
    generalize j_w (v3 + f) = v5 at b5 ⊢
    refine jr.i2l rfl (by omega) ?_
    refine jr_s rfl rfl (Or.inr rfl) ⟨Nat.le_of_ble_eq_true rfl, Nat.le_of_ble_eq_true rfl⟩ rfl rfl (jc.deep (c_PacketWall_putNumber_t hC_M2 (FR.rfl _ M2) k_x (by omega) (by omega) (by omega) (fun M6 hC_M6 hf_M6  => ?_)) (by decide))
    have ht_M6 : FR W_c_Flow_layRow T M6 := FR.t ht_M2 hf_M6 (kw_sub rfl)
    refine jr.iconst rfl ?_
    refine jr.istore rfl (by decide) rfl ?_
    refine jr.pick [1, 2, 0, 4, 5] rfl rfl ?_
    exact c_Flow_layRow_L92 k_t k_x q 2 M6 0 hC_M6 ht_M6 (by omega) (by omega) (by omega)  (by omega)
theorem c_Flow_layRow {A : Nat → Option (Nat × (Nat → Int32))} {Q : Option Value → jm → Prop} {T : jm} {M : jm} (hC_M : CI M) (ht_M : FR W_c_Flow_layRow T M) {t : Nat} (k_t : kd t = 1) {x : Nat} (k_x : kd x = 43) {y : Int} (h_y : 0 ≤ y ∧ y ≤ 2000) {z : Int} (h_z : (-2147483648) ≤ z ∧ z ≤ 2147483647) (q : ∀ (M' : jm), CI M' → FR W_c_Flow_layRow T M' → Q none M') : jc A 3 64 [.ref (t), .ref (x), .int (Int32.ofInt (y)), .int (Int32.ofInt (z))] M Q := by
  refine jc_of (m := xm_64) rfl (Nat.le_of_ble_eq_true rfl) rfl ?_
  refine jr.aload_n rfl rfl ?_
  obtain ⟨v1, e1⟩ : ∃ z_, M t 1 = z_ := ⟨_, rfl⟩
  have b1 : 0 ≤ v1 ∧ v1 ≤ 1 := by rw [← e1]; exact (CI.r hC_M k_t (by decide) 1)
  refine jr.getf (i := 1) (x := v1) (v := .int (Int32.ofInt (v1))) rfl rfl (Nat.lt_trans (kx_1 k_t).1 (by decide)) (kx_1 k_t).2 (by decide) rfl rfl e1 rfl ?_
  refine jr.if_eq rfl rfl (by omega) (fun h4 => ?_) (fun h4 => ?_)
  · refine jr.iconst rfl ?_
    refine jr.aload_n rfl rfl ?_
    have k2 := kf_1_8 k_t
    refine jr.getf (i := 8) (v := .ref (t + 4)) rfl rfl (Nat.lt_trans (kx_1 k_t).1 (by decide)) (kx_1 k_t).2 (by decide) rfl rfl rfl (jval_ref rfl k2.1) ?_
    refine jr.iconst rfl ?_
    obtain ⟨v3, e3⟩ : ∃ z_, M ((t + 4)) 0 = z_ := ⟨_, rfl⟩
    have b3 : 0 ≤ v3 ∧ v3 ≤ 1 := by rw [← e3]; exact (CI.r hC_M k2.2 (by decide) 0)
    refine jr.zald (i := 0) (x := v3) rfl (Nat.lt_trans (kx_4 k2.2).1 (by decide)) (kx_4 k2.2).2 (by decide) (by omega) (by omega) e3 ?_
    refine jr.if_eq rfl rfl (by omega) (fun h19 => ?_) (fun h19 => ?_)
    · refine jr.iconst rfl ?_
      refine jr.iadd rfl ?_
      refine jr.aload_n rfl rfl ?_
      have k4 := kf_1_8 k_t
      refine jr.getf (i := 8) (v := .ref (t + 4)) rfl rfl (Nat.lt_trans (kx_1 k_t).1 (by decide)) (kx_1 k_t).2 (by decide) rfl rfl rfl (jval_ref rfl k4.1) ?_
      refine jr.iconst rfl ?_
      obtain ⟨v5, e5⟩ : ∃ z_, M ((t + 4)) 1 = z_ := ⟨_, rfl⟩
      have b5 : 0 ≤ v5 ∧ v5 ≤ 1 := by rw [← e5]; exact (CI.r hC_M k4.2 (by decide) 1)
      refine jr.zald (i := 1) (x := v5) rfl (Nat.lt_trans (kx_4 k4.2).1 (by decide)) (kx_4 k4.2).2 (by decide) (by omega) (by omega) e5 ?_
      refine jr.if_eq rfl rfl (by omega) (fun h35 => ?_) (fun h35 => ?_)
      · refine jr.iconst rfl ?_
        refine jr.iadd rfl ?_
        refine jr.aload_n rfl rfl ?_
        obtain ⟨v6, e6⟩ : ∃ z_, M t 12 = z_ := ⟨_, rfl⟩
        have b6 : 0 ≤ v6 ∧ v6 ≤ 1 := by rw [← e6]; exact (CI.r hC_M k_t (by decide) 12)
        refine jr.getf (i := 12) (x := v6) (v := .int (Int32.ofInt (v6))) rfl rfl (Nat.lt_trans (kx_1 k_t).1 (by decide)) (kx_1 k_t).2 (by decide) rfl rfl e6 rfl ?_
        refine jr.if_eq rfl rfl (by omega) (fun h49 => ?_) (fun h49 => ?_)
        · refine jr.iconst rfl ?_
          refine jr.iadd rfl ?_
          refine jr.istore rfl (by decide) rfl ?_
          refine jr.pick [3, 4, 0, 1, 2] rfl rfl ?_
          exact c_Flow_layRow_L62 k_t k_x q 0 M (((0 + 0) + 0) + 0) hC_M ht_M (by omega) (by omega) (by omega)  (by omega)
        · refine jr.sipush rfl (by decide) ?_
          refine jr.goto rfl rfl ?_
          refine jr.iadd rfl ?_
          refine jr.istore rfl (by decide) rfl ?_
          refine jr.pick [3, 4, 0, 1, 2] rfl rfl ?_
          exact c_Flow_layRow_L62 k_t k_x q 0 M (((0 + 0) + 0) + 128) hC_M ht_M (by omega) (by omega) (by omega)  (by omega)
      · refine jr.bipush rfl (by decide) ?_
        refine jr.goto rfl rfl ?_
        refine jr.iadd rfl ?_
        refine jr.aload_n rfl rfl ?_
        obtain ⟨v7, e7⟩ : ∃ z_, M t 12 = z_ := ⟨_, rfl⟩
        have b7 : 0 ≤ v7 ∧ v7 ≤ 1 := by rw [← e7]; exact (CI.r hC_M k_t (by decide) 12)
        refine jr.getf (i := 12) (x := v7) (v := .int (Int32.ofInt (v7))) rfl rfl (Nat.lt_trans (kx_1 k_t).1 (by decide)) (kx_1 k_t).2 (by decide) rfl rfl e7 rfl ?_
        refine jr.if_eq rfl rfl (by omega) (fun h49 => ?_) (fun h49 => ?_)
        · refine jr.iconst rfl ?_
          refine jr.iadd rfl ?_
          refine jr.istore rfl (by decide) rfl ?_
          refine jr.pick [3, 4, 0, 1, 2] rfl rfl ?_
          exact c_Flow_layRow_L62 k_t k_x q 0 M (((0 + 0) + 64) + 0) hC_M ht_M (by omega) (by omega) (by omega)  (by omega)
        · refine jr.sipush rfl (by decide) ?_
          refine jr.goto rfl rfl ?_
          refine jr.iadd rfl ?_
          refine jr.istore rfl (by decide) rfl ?_
          refine jr.pick [3, 4, 0, 1, 2] rfl rfl ?_
          exact c_Flow_layRow_L62 k_t k_x q 0 M (((0 + 0) + 64) + 128) hC_M ht_M (by omega) (by omega) (by omega)  (by omega)
    · refine jr.bipush rfl (by decide) ?_
      refine jr.goto rfl rfl ?_
      refine jr.iadd rfl ?_
      refine jr.aload_n rfl rfl ?_
      have k8 := kf_1_8 k_t
      refine jr.getf (i := 8) (v := .ref (t + 4)) rfl rfl (Nat.lt_trans (kx_1 k_t).1 (by decide)) (kx_1 k_t).2 (by decide) rfl rfl rfl (jval_ref rfl k8.1) ?_
      refine jr.iconst rfl ?_
      obtain ⟨v9, e9⟩ : ∃ z_, M ((t + 4)) 1 = z_ := ⟨_, rfl⟩
      have b9 : 0 ≤ v9 ∧ v9 ≤ 1 := by rw [← e9]; exact (CI.r hC_M k8.2 (by decide) 1)
      refine jr.zald (i := 1) (x := v9) rfl (Nat.lt_trans (kx_4 k8.2).1 (by decide)) (kx_4 k8.2).2 (by decide) (by omega) (by omega) e9 ?_
      refine jr.if_eq rfl rfl (by omega) (fun h35 => ?_) (fun h35 => ?_)
      · refine jr.iconst rfl ?_
        refine jr.iadd rfl ?_
        refine jr.aload_n rfl rfl ?_
        obtain ⟨v10, e10⟩ : ∃ z_, M t 12 = z_ := ⟨_, rfl⟩
        have b10 : 0 ≤ v10 ∧ v10 ≤ 1 := by rw [← e10]; exact (CI.r hC_M k_t (by decide) 12)
        refine jr.getf (i := 12) (x := v10) (v := .int (Int32.ofInt (v10))) rfl rfl (Nat.lt_trans (kx_1 k_t).1 (by decide)) (kx_1 k_t).2 (by decide) rfl rfl e10 rfl ?_
        refine jr.if_eq rfl rfl (by omega) (fun h49 => ?_) (fun h49 => ?_)
        · refine jr.iconst rfl ?_
          refine jr.iadd rfl ?_
          refine jr.istore rfl (by decide) rfl ?_
          refine jr.pick [3, 4, 0, 1, 2] rfl rfl ?_
          exact c_Flow_layRow_L62 k_t k_x q 0 M (((0 + 32) + 0) + 0) hC_M ht_M (by omega) (by omega) (by omega)  (by omega)
        · refine jr.sipush rfl (by decide) ?_
          refine jr.goto rfl rfl ?_
          refine jr.iadd rfl ?_
          refine jr.istore rfl (by decide) rfl ?_
          refine jr.pick [3, 4, 0, 1, 2] rfl rfl ?_
          exact c_Flow_layRow_L62 k_t k_x q 0 M (((0 + 32) + 0) + 128) hC_M ht_M (by omega) (by omega) (by omega)  (by omega)
      · refine jr.bipush rfl (by decide) ?_
        refine jr.goto rfl rfl ?_
        refine jr.iadd rfl ?_
        refine jr.aload_n rfl rfl ?_
        obtain ⟨v11, e11⟩ : ∃ z_, M t 12 = z_ := ⟨_, rfl⟩
        have b11 : 0 ≤ v11 ∧ v11 ≤ 1 := by rw [← e11]; exact (CI.r hC_M k_t (by decide) 12)
        refine jr.getf (i := 12) (x := v11) (v := .int (Int32.ofInt (v11))) rfl rfl (Nat.lt_trans (kx_1 k_t).1 (by decide)) (kx_1 k_t).2 (by decide) rfl rfl e11 rfl ?_
        refine jr.if_eq rfl rfl (by omega) (fun h49 => ?_) (fun h49 => ?_)
        · refine jr.iconst rfl ?_
          refine jr.iadd rfl ?_
          refine jr.istore rfl (by decide) rfl ?_
          refine jr.pick [3, 4, 0, 1, 2] rfl rfl ?_
          exact c_Flow_layRow_L62 k_t k_x q 0 M (((0 + 32) + 64) + 0) hC_M ht_M (by omega) (by omega) (by omega)  (by omega)
        · refine jr.sipush rfl (by decide) ?_
          refine jr.goto rfl rfl ?_
          refine jr.iadd rfl ?_
          refine jr.istore rfl (by decide) rfl ?_
          refine jr.pick [3, 4, 0, 1, 2] rfl rfl ?_
          exact c_Flow_layRow_L62 k_t k_x q 0 M (((0 + 32) + 64) + 128) hC_M ht_M (by omega) (by omega) (by omega)  (by omega)
  · refine jr.bipush rfl (by decide) ?_
    refine jr.goto rfl rfl ?_
    refine jr.aload_n rfl rfl ?_
    have k12 := kf_1_8 k_t
    refine jr.getf (i := 8) (v := .ref (t + 4)) rfl rfl (Nat.lt_trans (kx_1 k_t).1 (by decide)) (kx_1 k_t).2 (by decide) rfl rfl rfl (jval_ref rfl k12.1) ?_
    refine jr.iconst rfl ?_
    obtain ⟨v13, e13⟩ : ∃ z_, M ((t + 4)) 0 = z_ := ⟨_, rfl⟩
    have b13 : 0 ≤ v13 ∧ v13 ≤ 1 := by rw [← e13]; exact (CI.r hC_M k12.2 (by decide) 0)
    refine jr.zald (i := 0) (x := v13) rfl (Nat.lt_trans (kx_4 k12.2).1 (by decide)) (kx_4 k12.2).2 (by decide) (by omega) (by omega) e13 ?_
    refine jr.if_eq rfl rfl (by omega) (fun h19 => ?_) (fun h19 => ?_)
    · refine jr.iconst rfl ?_
      refine jr.iadd rfl ?_
      refine jr.aload_n rfl rfl ?_
      have k14 := kf_1_8 k_t
      refine jr.getf (i := 8) (v := .ref (t + 4)) rfl rfl (Nat.lt_trans (kx_1 k_t).1 (by decide)) (kx_1 k_t).2 (by decide) rfl rfl rfl (jval_ref rfl k14.1) ?_
      refine jr.iconst rfl ?_
      obtain ⟨v15, e15⟩ : ∃ z_, M ((t + 4)) 1 = z_ := ⟨_, rfl⟩
      have b15 : 0 ≤ v15 ∧ v15 ≤ 1 := by rw [← e15]; exact (CI.r hC_M k14.2 (by decide) 1)
      refine jr.zald (i := 1) (x := v15) rfl (Nat.lt_trans (kx_4 k14.2).1 (by decide)) (kx_4 k14.2).2 (by decide) (by omega) (by omega) e15 ?_
      refine jr.if_eq rfl rfl (by omega) (fun h35 => ?_) (fun h35 => ?_)
      · refine jr.iconst rfl ?_
        refine jr.iadd rfl ?_
        refine jr.aload_n rfl rfl ?_
        obtain ⟨v16, e16⟩ : ∃ z_, M t 12 = z_ := ⟨_, rfl⟩
        have b16 : 0 ≤ v16 ∧ v16 ≤ 1 := by rw [← e16]; exact (CI.r hC_M k_t (by decide) 12)
        refine jr.getf (i := 12) (x := v16) (v := .int (Int32.ofInt (v16))) rfl rfl (Nat.lt_trans (kx_1 k_t).1 (by decide)) (kx_1 k_t).2 (by decide) rfl rfl e16 rfl ?_
        refine jr.if_eq rfl rfl (by omega) (fun h49 => ?_) (fun h49 => ?_)
        · refine jr.iconst rfl ?_
          refine jr.iadd rfl ?_
          refine jr.istore rfl (by decide) rfl ?_
          refine jr.pick [3, 4, 0, 1, 2] rfl rfl ?_
          exact c_Flow_layRow_L62 k_t k_x q 0 M (((16 + 0) + 0) + 0) hC_M ht_M (by omega) (by omega) (by omega)  (by omega)
        · refine jr.sipush rfl (by decide) ?_
          refine jr.goto rfl rfl ?_
          refine jr.iadd rfl ?_
          refine jr.istore rfl (by decide) rfl ?_
          refine jr.pick [3, 4, 0, 1, 2] rfl rfl ?_
          exact c_Flow_layRow_L62 k_t k_x q 0 M (((16 + 0) + 0) + 128) hC_M ht_M (by omega) (by omega) (by omega)  (by omega)
      · refine jr.bipush rfl (by decide) ?_
        refine jr.goto rfl rfl ?_
        refine jr.iadd rfl ?_
        refine jr.aload_n rfl rfl ?_
        obtain ⟨v17, e17⟩ : ∃ z_, M t 12 = z_ := ⟨_, rfl⟩
        have b17 : 0 ≤ v17 ∧ v17 ≤ 1 := by rw [← e17]; exact (CI.r hC_M k_t (by decide) 12)
        refine jr.getf (i := 12) (x := v17) (v := .int (Int32.ofInt (v17))) rfl rfl (Nat.lt_trans (kx_1 k_t).1 (by decide)) (kx_1 k_t).2 (by decide) rfl rfl e17 rfl ?_
        refine jr.if_eq rfl rfl (by omega) (fun h49 => ?_) (fun h49 => ?_)
        · refine jr.iconst rfl ?_
          refine jr.iadd rfl ?_
          refine jr.istore rfl (by decide) rfl ?_
          refine jr.pick [3, 4, 0, 1, 2] rfl rfl ?_
          exact c_Flow_layRow_L62 k_t k_x q 0 M (((16 + 0) + 64) + 0) hC_M ht_M (by omega) (by omega) (by omega)  (by omega)
        · refine jr.sipush rfl (by decide) ?_
          refine jr.goto rfl rfl ?_
          refine jr.iadd rfl ?_
          refine jr.istore rfl (by decide) rfl ?_
          refine jr.pick [3, 4, 0, 1, 2] rfl rfl ?_
          exact c_Flow_layRow_L62 k_t k_x q 0 M (((16 + 0) + 64) + 128) hC_M ht_M (by omega) (by omega) (by omega)  (by omega)
    · refine jr.bipush rfl (by decide) ?_
      refine jr.goto rfl rfl ?_
      refine jr.iadd rfl ?_
      refine jr.aload_n rfl rfl ?_
      have k18 := kf_1_8 k_t
      refine jr.getf (i := 8) (v := .ref (t + 4)) rfl rfl (Nat.lt_trans (kx_1 k_t).1 (by decide)) (kx_1 k_t).2 (by decide) rfl rfl rfl (jval_ref rfl k18.1) ?_
      refine jr.iconst rfl ?_
      obtain ⟨v19, e19⟩ : ∃ z_, M ((t + 4)) 1 = z_ := ⟨_, rfl⟩
      have b19 : 0 ≤ v19 ∧ v19 ≤ 1 := by rw [← e19]; exact (CI.r hC_M k18.2 (by decide) 1)
      refine jr.zald (i := 1) (x := v19) rfl (Nat.lt_trans (kx_4 k18.2).1 (by decide)) (kx_4 k18.2).2 (by decide) (by omega) (by omega) e19 ?_
      refine jr.if_eq rfl rfl (by omega) (fun h35 => ?_) (fun h35 => ?_)
      · refine jr.iconst rfl ?_
        refine jr.iadd rfl ?_
        refine jr.aload_n rfl rfl ?_
        obtain ⟨v20, e20⟩ : ∃ z_, M t 12 = z_ := ⟨_, rfl⟩
        have b20 : 0 ≤ v20 ∧ v20 ≤ 1 := by rw [← e20]; exact (CI.r hC_M k_t (by decide) 12)
        refine jr.getf (i := 12) (x := v20) (v := .int (Int32.ofInt (v20))) rfl rfl (Nat.lt_trans (kx_1 k_t).1 (by decide)) (kx_1 k_t).2 (by decide) rfl rfl e20 rfl ?_
        refine jr.if_eq rfl rfl (by omega) (fun h49 => ?_) (fun h49 => ?_)
        · refine jr.iconst rfl ?_
          refine jr.iadd rfl ?_
          refine jr.istore rfl (by decide) rfl ?_
          refine jr.pick [3, 4, 0, 1, 2] rfl rfl ?_
          exact c_Flow_layRow_L62 k_t k_x q 0 M (((16 + 32) + 0) + 0) hC_M ht_M (by omega) (by omega) (by omega)  (by omega)
        · refine jr.sipush rfl (by decide) ?_
          refine jr.goto rfl rfl ?_
          refine jr.iadd rfl ?_
          refine jr.istore rfl (by decide) rfl ?_
          refine jr.pick [3, 4, 0, 1, 2] rfl rfl ?_
          exact c_Flow_layRow_L62 k_t k_x q 0 M (((16 + 32) + 0) + 128) hC_M ht_M (by omega) (by omega) (by omega)  (by omega)
      · refine jr.bipush rfl (by decide) ?_
        refine jr.goto rfl rfl ?_
        refine jr.iadd rfl ?_
        refine jr.aload_n rfl rfl ?_
        obtain ⟨v21, e21⟩ : ∃ z_, M t 12 = z_ := ⟨_, rfl⟩
        have b21 : 0 ≤ v21 ∧ v21 ≤ 1 := by rw [← e21]; exact (CI.r hC_M k_t (by decide) 12)
        refine jr.getf (i := 12) (x := v21) (v := .int (Int32.ofInt (v21))) rfl rfl (Nat.lt_trans (kx_1 k_t).1 (by decide)) (kx_1 k_t).2 (by decide) rfl rfl e21 rfl ?_
        refine jr.if_eq rfl rfl (by omega) (fun h49 => ?_) (fun h49 => ?_)
        · refine jr.iconst rfl ?_
          refine jr.iadd rfl ?_
          refine jr.istore rfl (by decide) rfl ?_
          refine jr.pick [3, 4, 0, 1, 2] rfl rfl ?_
          exact c_Flow_layRow_L62 k_t k_x q 0 M (((16 + 32) + 64) + 0) hC_M ht_M (by omega) (by omega) (by omega)  (by omega)
        · refine jr.sipush rfl (by decide) ?_
          refine jr.goto rfl rfl ?_
          refine jr.iadd rfl ?_
          refine jr.istore rfl (by decide) rfl ?_
          refine jr.pick [3, 4, 0, 1, 2] rfl rfl ?_
          exact c_Flow_layRow_L62 k_t k_x q 0 M (((16 + 32) + 64) + 128) hC_M ht_M (by omega) (by omega) (by omega)  (by omega)
def W_c_Flow_readRow : List (Nat × Nat) := [(1, 0), (1, 1), (1, 2), (1, 5), (1, 6), (1, 12), (1, 13), (1, 15), (2, 1000), (3, 1000), (4, 1000), (5, 1000), (6, 1000), (7, 1000), (8, 1000)]
theorem c_Flow_readRow_L271 {A : Nat → Option (Nat × (Nat → Int32))} {Q : Option Value → jm → Prop} {T : jm} {t : Nat} (k_t : kd t = 1) {x : Nat} (k_x : kd x = 43) {y : Int} {z : Int} (q : ∀ (r : Int) (M' : jm), CI M' → FR W_c_Flow_readRow T M' → 0 ≤ r ∧ r ≤ 1 → Q (some (.int (Int32.ofInt r))) M') : ∀ (nM : Nat) (M : jm), CI M → FR W_c_Flow_readRow T M → 0 ≤ y ∧ y ≤ 2000 → (-2147483648) ≤ z ∧ z ≤ 2147483647 → 0 ≤ nM → jr A 2 xm_65 271 [(2, .int (Int32.ofInt (y))), (3, .int (Int32.ofInt (z))), (0, .ref (t)), (1, .ref (x))] [] M Q := by
  intro nM
  induction nM using Nat.strongRecOn with
  | ind nM ih =>
    intro M  hC_M ht_M h_y h_z hm
    refine jr.aload_n rfl rfl ?_
    refine jr.iload_n rfl rfl ?_
    refine jr.bipush rfl (by decide) ?_
    refine jr.iadd rfl ?_
    refine jr.iconst rfl ?_
    refine jr_s rfl rfl (Or.inr rfl) ⟨Nat.le_of_ble_eq_true rfl, Nat.le_of_ble_eq_true rfl⟩ rfl rfl (jc.deep (c_PacketWall_numberAt_t hC_M k_x (by omega) (by omega) (fun r1 z1  => ?_)) (by decide))
    refine jr.lstore rfl (by decide) rfl ?_
    refine jr.aload_n rfl rfl ?_
    refine jr.iload_n rfl rfl ?_
    refine jr.lload rfl rfl ?_
    refine jr.ldc2 (x := 200) rfl rfl (by decide) ?_
    refine jr.lmin rfl rfl (Nat.le_of_ble_eq_true rfl) (by omega) (by omega) ?_
    intro v2 d2 b2 c2
    refine jr.l2i rfl ?_
    refine jr.iw (j_w v2) (j_w_eq _) ?_
    have b3 : -2147483648 ≤ j_w v2 ∧ j_w v2 ≤ 2147483647 := jb_any _
    generalize j_w v2 = v3 at b3 ⊢
    refine jr.iadd rfl ?_
    refine jr.iw (j_w (z + v3)) (j_w_eq _) ?_
    have b4 : -2147483648 ≤ j_w (z + v3) ∧ j_w (z + v3) ≤ 2147483647 := jb_any _
    generalize j_w (z + v3) = v4 at b4 ⊢
    refine jr.putf (i := 6) (x := v4) rfl rfl (Nat.lt_trans (kx_1 k_t).1 (by decide)) (kx_1 k_t).2 (by decide) rfl rfl rfl rfl rfl ?_
    refine jr.aload_n rfl rfl ?_
    refine jr.iload_n rfl rfl ?_
    refine jr.bipush rfl (by decide) ?_
    refine jr.iadd rfl ?_
    refine jr.iconst rfl ?_
    refine jr_s rfl rfl (Or.inr rfl) ⟨Nat.le_of_ble_eq_true rfl, Nat.le_of_ble_eq_true rfl⟩ rfl rfl (jc.deep (c_PacketWall_numberAt_t (CI.u hC_M (i := 6) k_t (show (-2147483648 : Int) ≤ _ ∧ _ ≤ (2147483647 : Int) from by omega) rfl) k_x (by omega) (by omega) (fun r5 z5  => ?_)) (by decide))
    refine jr.aload_n rfl rfl ?_
    refine jr.iload_n rfl rfl ?_
    refine jr.iload_n rfl rfl ?_
    refine jr.bipush rfl (by decide) ?_
    refine jr.iadd rfl ?_
    refine jr_s rfl rfl (Or.inr rfl) ⟨Nat.le_of_ble_eq_true rfl, Nat.le_of_ble_eq_true rfl⟩ rfl rfl (jc.deep (c_PacketWall_addedTwos_t (CI.u hC_M (i := 6) k_t (show (-2147483648 : Int) ≤ _ ∧ _ ≤ (2147483647 : Int) from by omega) rfl) k_x (by omega) (by omega) (fun r6 z6  => ?_)) (by decide))
    refine jr_s rfl rfl (Or.inr rfl) ⟨Nat.le_of_ble_eq_true rfl, Nat.le_of_ble_eq_true rfl⟩ rfl rfl (jc.deep (c_PacketWall_foldedSum (CI.u hC_M (i := 6) k_t (show (-2147483648 : Int) ≤ _ ∧ _ ≤ (2147483647 : Int) from by omega) rfl) (by omega) (fun r7 z7  => ?_)) (by decide))
    refine jr.i2l rfl (by omega) ?_
    refine jr.lcmp_ne rfl rfl rfl (by omega) (by omega) (fun h319 => ?_) (fun h319 => ?_)
    · refine jr.iconst rfl ?_
      refine jr.istore rfl (by decide) rfl ?_
      refine jr.iload rfl rfl ?_
      refine jr.if_eq rfl rfl (by omega) (fun _ => ?_) (fun h => absurd (by decide) h)
      refine jr.iconst rfl ?_
      exact jr.ireturn rfl rfl rfl (q _ _ (CI.u hC_M (i := 6) k_t (show (-2147483648 : Int) ≤ _ ∧ _ ≤ (2147483647 : Int) from by omega) rfl) (FR.o ht_M k_t rfl) (by omega) )
    · refine jr.iconst rfl ?_
      refine jr.goto rfl rfl ?_
      refine jr.istore rfl (by decide) rfl ?_
      refine jr.iload rfl rfl ?_
      refine jr.if_eq rfl rfl (by omega) (fun h => absurd h (by decide)) (fun _ => ?_)
      refine jr.aload_n rfl rfl ?_
      refine jr_v rfl rfl (Or.inl rfl) rfl rfl (Nat.lt_trans (kx_1 k_t).1 (by decide)) (kx_1 k_t).2 ⟨rfl, Nat.le_of_ble_eq_true rfl, Nat.le_of_ble_eq_true rfl⟩ rfl (jc.deep (c_Flow_hasRightState (CI.u hC_M (i := 6) k_t (show (-2147483648 : Int) ≤ _ ∧ _ ≤ (2147483647 : Int) from by omega) rfl) k_t (fun r8 z8  => ?_)) (by decide))
      refine jr.if_eq rfl rfl (by omega) (fun h339 => ?_) (fun h339 => ?_)
      · refine jr.iconst rfl ?_
        exact jr.ireturn rfl rfl rfl (q _ _ (CI.u hC_M (i := 6) k_t (show (-2147483648 : Int) ≤ _ ∧ _ ≤ (2147483647 : Int) from by omega) rfl) (FR.o ht_M k_t rfl) (by omega) )
      · refine jr.aload_n rfl rfl ?_
        refine jr_v rfl rfl (Or.inl rfl) rfl rfl (Nat.lt_trans (kx_1 k_t).1 (by decide)) (kx_1 k_t).2 ⟨rfl, Nat.le_of_ble_eq_true rfl, Nat.le_of_ble_eq_true rfl⟩ rfl (jc.deep (c_Flow_hasRightAddresses (CI.u hC_M (i := 6) k_t (show (-2147483648 : Int) ≤ _ ∧ _ ≤ (2147483647 : Int) from by omega) rfl) k_t (fun r9 z9  => ?_)) (by decide))
        refine jr.if_eq rfl rfl (by omega) (fun h346 => ?_) (fun h346 => ?_)
        · refine jr.iconst rfl ?_
          exact jr.ireturn rfl rfl rfl (q _ _ (CI.u hC_M (i := 6) k_t (show (-2147483648 : Int) ≤ _ ∧ _ ≤ (2147483647 : Int) from by omega) rfl) (FR.o ht_M k_t rfl) (by omega) )
        · refine jr.lload rfl rfl ?_
          refine jr.lconst (x := 1) rfl (by decide) ?_
          refine jr.lcmp_lt rfl rfl rfl (by omega) (by omega) (fun h352 => ?_) (fun h352 => ?_)
          · refine jr.iconst rfl ?_
            exact jr.ireturn rfl rfl rfl (q _ _ (CI.u hC_M (i := 6) k_t (show (-2147483648 : Int) ≤ _ ∧ _ ≤ (2147483647 : Int) from by omega) rfl) (FR.o ht_M k_t rfl) (by omega) )
          · refine jr.lload rfl rfl ?_
            refine jr.ldc2 (x := 200) rfl rfl (by decide) ?_
            refine jr.lcmp_gt rfl rfl rfl (by omega) (by omega) (fun h361 => ?_) (fun h361 => ?_)
            · refine jr.iconst rfl ?_
              exact jr.ireturn rfl rfl rfl (q _ _ (CI.u hC_M (i := 6) k_t (show (-2147483648 : Int) ≤ _ ∧ _ ≤ (2147483647 : Int) from by omega) rfl) (FR.o ht_M k_t rfl) (by omega) )
            · refine jr.iconst rfl ?_
              refine jr.goto rfl rfl ?_
              exact jr.ireturn rfl rfl rfl (q _ _ (CI.u hC_M (i := 6) k_t (show (-2147483648 : Int) ≤ _ ∧ _ ≤ (2147483647 : Int) from by omega) rfl) (FR.o ht_M k_t rfl) (by omega) )
theorem c_Flow_readRow_L247 {A : Nat → Option (Nat × (Nat → Int32))} {Q : Option Value → jm → Prop} {T : jm} {t : Nat} (k_t : kd t = 1) {x : Nat} (k_x : kd x = 43) {y : Int} {z : Int} (q : ∀ (r : Int) (M' : jm), CI M' → FR W_c_Flow_readRow T M' → 0 ≤ r ∧ r ≤ 1 → Q (some (.int (Int32.ofInt r))) M') : ∀ (nM : Nat) (M : jm) (f : Int) (i : Int), CI M → FR W_c_Flow_readRow T M → 0 ≤ y ∧ y ≤ 2000 → (-2147483648) ≤ z ∧ z ≤ 2147483647 → (-2147483648) ≤ f ∧ f ≤ 2147483647 → 0 ≤ i ∧ i ≤ 1 → 1 - i ≤ nM → jr A 2 xm_65 247 [(2, .int (Int32.ofInt (y))), (3, .int (Int32.ofInt (z))), (4, .int (Int32.ofInt (f))), (5, .int (Int32.ofInt (i))), (0, .ref (t)), (1, .ref (x))] [] M Q := by
  intro nM
  induction nM using Nat.strongRecOn with
  | ind nM ih =>
    intro M f i hC_M ht_M h_y h_z h_f h_i hm
    refine jr.iinc rfl rfl (by decide) rfl ?_
    refine jr.goto rfl rfl ?_
    refine jr.iload rfl rfl ?_
    refine jr.iconst rfl ?_
    refine jr.icmp_ge rfl rfl (by omega) (by omega) (fun h69 => ?_) (fun h69 => ?_)
    · refine jr.aload_n rfl rfl ?_
      refine jr.iload rfl rfl ?_
      refine jr.sipush rfl (by decide) ?_
      refine jr.iand rfl ?_
      have b1 : 0 ≤ j_and f 128 ∧ j_and f 128 ≤ 128 := j_and_le (by decide)
      generalize j_and f 128 = v1 at b1 ⊢
      refine jr.if_eq rfl rfl (by omega) (fun h260 => ?_) (fun h260 => ?_)
      · refine jr.iconst rfl ?_
        refine jr.putf (i := 12) (x := 0) rfl rfl (Nat.lt_trans (kx_1 k_t).1 (by decide)) (kx_1 k_t).2 (by decide) rfl rfl rfl rfl rfl ?_
        refine jr.pick [1, 2, 4, 5] rfl rfl ?_
        exact c_Flow_readRow_L271 k_t k_x q 0 ((ju M t 12 0))  (CI.u hC_M (i := 12) k_t (show (0 : Int) ≤ _ ∧ _ ≤ (1 : Int) from by omega) rfl) (FR.o ht_M k_t rfl) (by omega) (by omega)  (by omega)
      · refine jr.iconst rfl ?_
        refine jr.goto rfl rfl ?_
        refine jr.putf (i := 12) (x := 1) rfl rfl (Nat.lt_trans (kx_1 k_t).1 (by decide)) (kx_1 k_t).2 (by decide) rfl rfl rfl rfl rfl ?_
        refine jr.pick [1, 2, 4, 5] rfl rfl ?_
        exact c_Flow_readRow_L271 k_t k_x q 0 ((ju M t 12 1))  (CI.u hC_M (i := 12) k_t (show (0 : Int) ≤ _ ∧ _ ≤ (1 : Int) from by omega) rfl) (FR.o ht_M k_t rfl) (by omega) (by omega)  (by omega)
    · refine jr.aload_n rfl rfl ?_
      have k2 := kf_1_4 k_t
      refine jr.getf (i := 4) (v := .ref (t + 2)) rfl rfl (Nat.lt_trans (kx_1 k_t).1 (by decide)) (kx_1 k_t).2 (by decide) rfl rfl rfl (jval_ref rfl k2.1) ?_
      refine jr.iload rfl rfl ?_
      refine jr.aload_n rfl rfl ?_
      refine jr.iload_n rfl rfl ?_
      refine jr.iconst rfl ?_
      refine jr.iadd rfl ?_
      refine jr.iconst rfl ?_
      refine jr.iload rfl rfl ?_
      refine jr.imul rfl ?_
      refine jr.iadd rfl ?_
      refine jr.iconst rfl ?_
      refine jr_s rfl rfl (Or.inr rfl) ⟨Nat.le_of_ble_eq_true rfl, Nat.le_of_ble_eq_true rfl⟩ rfl rfl (jc.deep (c_PacketWall_numberAt_t hC_M k_x (by omega) (by omega) (fun r3 z3  => ?_)) (by decide))
      refine jr.l2i rfl ?_
      refine jr.iw (j_w r3) (j_w_eq _) ?_
      have b4 : -2147483648 ≤ j_w r3 ∧ j_w r3 ≤ 2147483647 := jb_any _
      generalize j_w r3 = v4 at b4 ⊢
      refine jr.iast (i := (i + 1)) (x := v4) rfl (Nat.lt_trans (kx_7 k2.2).1 (by decide)) (kx_7 k2.2).2 (by decide) (by omega) (by omega) ?_
      refine jr.aload_n rfl rfl ?_
      have k5 := kf_1_9 k_t
      refine jr.getf (i := 9) (v := .ref (t + 5)) rfl rfl (Nat.lt_trans (kx_1 k_t).1 (by decide)) (kx_1 k_t).2 (by decide) rfl rfl rfl (jval_ref rfl k5.1) ?_
      refine jr.iload rfl rfl ?_
      refine jr.aload_n rfl rfl ?_
      refine jr.iload_n rfl rfl ?_
      refine jr.bipush rfl (by decide) ?_
      refine jr.iadd rfl ?_
      refine jr.iconst rfl ?_
      refine jr.iload rfl rfl ?_
      refine jr.imul rfl ?_
      refine jr.iadd rfl ?_
      refine jr.iconst rfl ?_
      refine jr_s rfl rfl (Or.inr rfl) ⟨Nat.le_of_ble_eq_true rfl, Nat.le_of_ble_eq_true rfl⟩ rfl rfl (jc.deep (c_PacketWall_numberAt_t (CI.u hC_M (i := (i + 1)) k2.2 (show (-2147483648 : Int) ≤ _ ∧ _ ≤ (2147483647 : Int) from by omega) rfl) k_x (by omega) (by omega) (fun r6 z6  => ?_)) (by decide))
      refine jr.l2i rfl ?_
      refine jr.iw (j_w r6) (j_w_eq _) ?_
      have b7 : -2147483648 ≤ j_w r6 ∧ j_w r6 ≤ 2147483647 := jb_any _
      generalize j_w r6 = v7 at b7 ⊢
      refine jr.iast (i := (i + 1)) (x := v7) rfl (Nat.lt_trans (kx_8 k5.2).1 (by decide)) (kx_8 k5.2).2 (by decide) (by omega) (by omega) ?_
      refine jr.aload_n rfl rfl ?_
      have k8 := kf_1_3 k_t
      refine jr.getf (i := 3) (v := .ref (t + 1)) rfl rfl (Nat.lt_trans (kx_1 k_t).1 (by decide)) (kx_1 k_t).2 (by decide) rfl rfl rfl (jval_ref rfl k8.1) ?_
      refine jr.iload rfl rfl ?_
      refine jr.aload_n rfl rfl ?_
      refine jr.iload_n rfl rfl ?_
      refine jr.bipush rfl (by decide) ?_
      refine jr.iadd rfl ?_
      refine jr.bipush rfl (by decide) ?_
      refine jr.iload rfl rfl ?_
      refine jr.imul rfl ?_
      refine jr.iadd rfl ?_
      refine jr.bipush rfl (by decide) ?_
      refine jr_s rfl rfl (Or.inr rfl) ⟨Nat.le_of_ble_eq_true rfl, Nat.le_of_ble_eq_true rfl⟩ rfl rfl (jc.deep (c_PacketWall_numberAt_t (CI.u (CI.u hC_M (i := (i + 1)) k2.2 (show (-2147483648 : Int) ≤ _ ∧ _ ≤ (2147483647 : Int) from by omega) rfl) (i := (i + 1)) k5.2 (show (-2147483648 : Int) ≤ _ ∧ _ ≤ (2147483647 : Int) from by omega) rfl) k_x (by omega) (by omega) (fun r9 z9  => ?_)) (by decide))
      refine jr.last (i := (i + 1)) (x := r9) rfl (Nat.lt_trans (kx_2 k8.2).1 (by decide)) (kx_2 k8.2).2 (by decide) (by omega) (by omega) ?_
      refine jr.aload_n rfl rfl ?_
      have k10 := kf_1_8 k_t
      refine jr.getf (i := 8) (v := .ref (t + 4)) rfl rfl (Nat.lt_trans (kx_1 k_t).1 (by decide)) (kx_1 k_t).2 (by decide) rfl rfl rfl (jval_ref rfl k10.1) ?_
      refine jr.iload rfl rfl ?_
      refine jr.iload rfl rfl ?_
      refine jr.bipush rfl (by decide) ?_
      refine jr.iload rfl rfl ?_
      refine jr.ishl rfl ?_
      have b11 : -2147483648 ≤ j_shl 32 (i + 1) ∧ j_shl 32 (i + 1) ≤ 2147483647 := jb_any _
      generalize j_shl 32 (i + 1) = v11 at b11 ⊢
      refine jr.iand rfl ?_
      have b12 : -2147483648 ≤ j_and f v11 ∧ j_and f v11 ≤ 2147483647 := jb_any _
      generalize j_and f v11 = v12 at b12 ⊢
      refine jr.if_eq rfl rfl (by omega) (fun h152 => ?_) (fun h152 => ?_)
      · refine jr.iconst rfl ?_
        refine jr.zast (i := (i + 1)) (x := 0) rfl (Nat.lt_trans (kx_4 k10.2).1 (by decide)) (kx_4 k10.2).2 (by decide) (by omega) (by omega) (j_zn (by omega)) ?_
        refine jr.aload_n rfl rfl ?_
        have k13 := kf_1_7 k_t
        refine jr.getf (i := 7) (v := .ref (t + 3)) rfl rfl (Nat.lt_trans (kx_1 k_t).1 (by decide)) (kx_1 k_t).2 (by decide) rfl rfl rfl (jval_ref rfl k13.1) ?_
        refine jr.iload rfl rfl ?_
        refine jr.aload_n rfl rfl ?_
        have k14 := kf_1_8 k_t
        refine jr.getf (i := 8) (v := .ref (t + 4)) rfl rfl (Nat.lt_trans (kx_1 k_t).1 (by decide)) (kx_1 k_t).2 (by decide) rfl rfl rfl (jval_ref rfl k14.1) ?_
        refine jr.iload rfl rfl ?_
        refine jr.zald (i := (i + 1)) (x := 0) rfl (Nat.lt_trans (kx_4 k14.2).1 (by decide)) (kx_4 k14.2).2 (by decide) (by omega) (by omega) (ju_same _ _ _ _) ?_
        refine jr.if_eq rfl rfl (by omega) (fun h174 => ?_) (fun h174 => ?_)
        · refine jr.iconst rfl ?_
          refine jr.iast (i := (i + 1)) (x := 0) rfl (Nat.lt_trans (kx_5 k13.2).1 (by decide)) (kx_5 k13.2).2 (by decide) (by omega) (by omega) ?_
          refine jr.aload_n rfl rfl ?_
          have k15 := kf_1_10 k_t
          refine jr.getf (i := 10) (v := .ref (t + 6)) rfl rfl (Nat.lt_trans (kx_1 k_t).1 (by decide)) (kx_1 k_t).2 (by decide) rfl rfl rfl (jval_ref rfl k15.1) ?_
          refine jr.iload rfl rfl ?_
          refine jr.iload rfl rfl ?_
          refine jr.if_ne rfl rfl (by omega) (fun h205 => ?_) (fun h205 => ?_)
          · refine jr.lconst (x := 0) rfl (by decide) ?_
            refine jr.last (i := (i + 1)) (x := 0) rfl (Nat.lt_trans (kx_6 k15.2).1 (by decide)) (kx_6 k15.2).2 (by decide) (by omega) (by omega) ?_
            refine jr.aload_n rfl rfl ?_
            have k16 := kf_1_11 k_t
            refine jr.getf (i := 11) (v := .ref (t + 7)) rfl rfl (Nat.lt_trans (kx_1 k_t).1 (by decide)) (kx_1 k_t).2 (by decide) rfl rfl rfl (jval_ref rfl k16.1) ?_
            refine jr.iload rfl rfl ?_
            refine jr.iload rfl rfl ?_
            refine jr.if_ne rfl rfl (by omega) (fun h230 => ?_) (fun h230 => ?_)
            · refine jr.lconst (x := 0) rfl (by decide) ?_
              refine jr.last (i := (i + 1)) (x := 0) rfl (Nat.lt_trans (kx_3 k16.2).1 (by decide)) (kx_3 k16.2).2 (by decide) (by omega) (by omega) ?_
              refine jr.pick [1, 2, 3, 0, 4, 5] rfl rfl ?_
              exact ih (nM - 1) (by omega) ((ju (ju (ju (ju (ju (ju (ju M ((t + 2)) (i + 1) v4) ((t + 5)) (i + 1) v7) ((t + 1)) (i + 1) r9) ((t + 4)) (i + 1) 0) ((t + 3)) (i + 1) 0) ((t + 6)) (i + 1) 0) ((t + 7)) (i + 1) 0)) f (i + 1) (CI.u (CI.u (CI.u (CI.u (CI.u (CI.u (CI.u hC_M (i := (i + 1)) k2.2 (show (-2147483648 : Int) ≤ _ ∧ _ ≤ (2147483647 : Int) from by omega) rfl) (i := (i + 1)) k5.2 (show (-2147483648 : Int) ≤ _ ∧ _ ≤ (2147483647 : Int) from by omega) rfl) (i := (i + 1)) k8.2 (show (-9223372036854775808 : Int) ≤ _ ∧ _ ≤ (9223372036854775807 : Int) from by omega) rfl) (i := (i + 1)) k14.2 (show (0 : Int) ≤ _ ∧ _ ≤ (1 : Int) from by omega) rfl) (i := (i + 1)) k13.2 (show (-2147483648 : Int) ≤ _ ∧ _ ≤ (2147483647 : Int) from by omega) rfl) (i := (i + 1)) k15.2 (show (-9223372036854775808 : Int) ≤ _ ∧ _ ≤ (9223372036854775807 : Int) from by omega) rfl) (i := (i + 1)) k16.2 (show (-9223372036854775808 : Int) ≤ _ ∧ _ ≤ (9223372036854775807 : Int) from by omega) rfl) (FR.o (FR.o (FR.o (FR.o (FR.o (FR.o (FR.o ht_M k2.2 rfl) k5.2 rfl) k8.2 rfl) k14.2 rfl) k13.2 rfl) k15.2 rfl) k16.2 rfl) (by omega) (by omega) (by omega) (by omega)  (by omega)
            · exact absurd (by omega) h230
          · exact absurd (by omega) h205
        · refine jr.aload_n rfl rfl ?_
          refine jr.iload_n rfl rfl ?_
          refine jr.bipush rfl (by decide) ?_
          refine jr.iadd rfl ?_
          refine jr.iconst rfl ?_
          refine jr.iload rfl rfl ?_
          refine jr.imul rfl ?_
          refine jr.iadd rfl ?_
          refine jr.iconst rfl ?_
          refine jr_s rfl rfl (Or.inr rfl) ⟨Nat.le_of_ble_eq_true rfl, Nat.le_of_ble_eq_true rfl⟩ rfl rfl (jc.deep (c_PacketWall_numberAt_t (CI.u (CI.u (CI.u (CI.u hC_M (i := (i + 1)) k2.2 (show (-2147483648 : Int) ≤ _ ∧ _ ≤ (2147483647 : Int) from by omega) rfl) (i := (i + 1)) k5.2 (show (-2147483648 : Int) ≤ _ ∧ _ ≤ (2147483647 : Int) from by omega) rfl) (i := (i + 1)) k8.2 (show (-9223372036854775808 : Int) ≤ _ ∧ _ ≤ (9223372036854775807 : Int) from by omega) rfl) (i := (i + 1)) k14.2 (show (0 : Int) ≤ _ ∧ _ ≤ (1 : Int) from by omega) rfl) k_x (by omega) (by omega) (fun r17 z17  => ?_)) (by decide))
          refine jr.l2i rfl ?_
          refine jr.iw (j_w r17) (j_w_eq _) ?_
          have b18 : -2147483648 ≤ j_w r17 ∧ j_w r17 ≤ 2147483647 := jb_any _
          generalize j_w r17 = v18 at b18 ⊢
          refine jr.goto rfl rfl ?_
          refine jr.iast (i := (i + 1)) (x := v18) rfl (Nat.lt_trans (kx_5 k13.2).1 (by decide)) (kx_5 k13.2).2 (by decide) (by omega) (by omega) ?_
          refine jr.aload_n rfl rfl ?_
          have k19 := kf_1_10 k_t
          refine jr.getf (i := 10) (v := .ref (t + 6)) rfl rfl (Nat.lt_trans (kx_1 k_t).1 (by decide)) (kx_1 k_t).2 (by decide) rfl rfl rfl (jval_ref rfl k19.1) ?_
          refine jr.iload rfl rfl ?_
          refine jr.iload rfl rfl ?_
          refine jr.if_ne rfl rfl (by omega) (fun h205 => ?_) (fun h205 => ?_)
          · refine jr.lconst (x := 0) rfl (by decide) ?_
            refine jr.last (i := (i + 1)) (x := 0) rfl (Nat.lt_trans (kx_6 k19.2).1 (by decide)) (kx_6 k19.2).2 (by decide) (by omega) (by omega) ?_
            refine jr.aload_n rfl rfl ?_
            have k20 := kf_1_11 k_t
            refine jr.getf (i := 11) (v := .ref (t + 7)) rfl rfl (Nat.lt_trans (kx_1 k_t).1 (by decide)) (kx_1 k_t).2 (by decide) rfl rfl rfl (jval_ref rfl k20.1) ?_
            refine jr.iload rfl rfl ?_
            refine jr.iload rfl rfl ?_
            refine jr.if_ne rfl rfl (by omega) (fun h230 => ?_) (fun h230 => ?_)
            · refine jr.lconst (x := 0) rfl (by decide) ?_
              refine jr.last (i := (i + 1)) (x := 0) rfl (Nat.lt_trans (kx_3 k20.2).1 (by decide)) (kx_3 k20.2).2 (by decide) (by omega) (by omega) ?_
              refine jr.pick [1, 2, 3, 0, 4, 5] rfl rfl ?_
              exact ih (nM - 1) (by omega) ((ju (ju (ju (ju (ju (ju (ju M ((t + 2)) (i + 1) v4) ((t + 5)) (i + 1) v7) ((t + 1)) (i + 1) r9) ((t + 4)) (i + 1) 0) ((t + 3)) (i + 1) v18) ((t + 6)) (i + 1) 0) ((t + 7)) (i + 1) 0)) f (i + 1) (CI.u (CI.u (CI.u (CI.u (CI.u (CI.u (CI.u hC_M (i := (i + 1)) k2.2 (show (-2147483648 : Int) ≤ _ ∧ _ ≤ (2147483647 : Int) from by omega) rfl) (i := (i + 1)) k5.2 (show (-2147483648 : Int) ≤ _ ∧ _ ≤ (2147483647 : Int) from by omega) rfl) (i := (i + 1)) k8.2 (show (-9223372036854775808 : Int) ≤ _ ∧ _ ≤ (9223372036854775807 : Int) from by omega) rfl) (i := (i + 1)) k14.2 (show (0 : Int) ≤ _ ∧ _ ≤ (1 : Int) from by omega) rfl) (i := (i + 1)) k13.2 (show (-2147483648 : Int) ≤ _ ∧ _ ≤ (2147483647 : Int) from by omega) rfl) (i := (i + 1)) k19.2 (show (-9223372036854775808 : Int) ≤ _ ∧ _ ≤ (9223372036854775807 : Int) from by omega) rfl) (i := (i + 1)) k20.2 (show (-9223372036854775808 : Int) ≤ _ ∧ _ ≤ (9223372036854775807 : Int) from by omega) rfl) (FR.o (FR.o (FR.o (FR.o (FR.o (FR.o (FR.o ht_M k2.2 rfl) k5.2 rfl) k8.2 rfl) k14.2 rfl) k13.2 rfl) k19.2 rfl) k20.2 rfl) (by omega) (by omega) (by omega) (by omega)  (by omega)
            · exact absurd (by omega) h230
          · exact absurd (by omega) h205
      · refine jr.iconst rfl ?_
        refine jr.goto rfl rfl ?_
        refine jr.zast (i := (i + 1)) (x := 1) rfl (Nat.lt_trans (kx_4 k10.2).1 (by decide)) (kx_4 k10.2).2 (by decide) (by omega) (by omega) (j_zn (by omega)) ?_
        refine jr.aload_n rfl rfl ?_
        have k21 := kf_1_7 k_t
        refine jr.getf (i := 7) (v := .ref (t + 3)) rfl rfl (Nat.lt_trans (kx_1 k_t).1 (by decide)) (kx_1 k_t).2 (by decide) rfl rfl rfl (jval_ref rfl k21.1) ?_
        refine jr.iload rfl rfl ?_
        refine jr.aload_n rfl rfl ?_
        have k22 := kf_1_8 k_t
        refine jr.getf (i := 8) (v := .ref (t + 4)) rfl rfl (Nat.lt_trans (kx_1 k_t).1 (by decide)) (kx_1 k_t).2 (by decide) rfl rfl rfl (jval_ref rfl k22.1) ?_
        refine jr.iload rfl rfl ?_
        refine jr.zald (i := (i + 1)) (x := 1) rfl (Nat.lt_trans (kx_4 k22.2).1 (by decide)) (kx_4 k22.2).2 (by decide) (by omega) (by omega) (ju_same _ _ _ _) ?_
        refine jr.if_eq rfl rfl (by omega) (fun h174 => ?_) (fun h174 => ?_)
        · refine jr.iconst rfl ?_
          refine jr.iast (i := (i + 1)) (x := 0) rfl (Nat.lt_trans (kx_5 k21.2).1 (by decide)) (kx_5 k21.2).2 (by decide) (by omega) (by omega) ?_
          refine jr.aload_n rfl rfl ?_
          have k23 := kf_1_10 k_t
          refine jr.getf (i := 10) (v := .ref (t + 6)) rfl rfl (Nat.lt_trans (kx_1 k_t).1 (by decide)) (kx_1 k_t).2 (by decide) rfl rfl rfl (jval_ref rfl k23.1) ?_
          refine jr.iload rfl rfl ?_
          refine jr.iload rfl rfl ?_
          refine jr.if_ne rfl rfl (by omega) (fun h205 => ?_) (fun h205 => ?_)
          · refine jr.lconst (x := 0) rfl (by decide) ?_
            refine jr.last (i := (i + 1)) (x := 0) rfl (Nat.lt_trans (kx_6 k23.2).1 (by decide)) (kx_6 k23.2).2 (by decide) (by omega) (by omega) ?_
            refine jr.aload_n rfl rfl ?_
            have k24 := kf_1_11 k_t
            refine jr.getf (i := 11) (v := .ref (t + 7)) rfl rfl (Nat.lt_trans (kx_1 k_t).1 (by decide)) (kx_1 k_t).2 (by decide) rfl rfl rfl (jval_ref rfl k24.1) ?_
            refine jr.iload rfl rfl ?_
            refine jr.iload rfl rfl ?_
            refine jr.if_ne rfl rfl (by omega) (fun h230 => ?_) (fun h230 => ?_)
            · refine jr.lconst (x := 0) rfl (by decide) ?_
              refine jr.last (i := (i + 1)) (x := 0) rfl (Nat.lt_trans (kx_3 k24.2).1 (by decide)) (kx_3 k24.2).2 (by decide) (by omega) (by omega) ?_
              refine jr.pick [1, 2, 3, 0, 4, 5] rfl rfl ?_
              exact ih (nM - 1) (by omega) ((ju (ju (ju (ju (ju (ju (ju M ((t + 2)) (i + 1) v4) ((t + 5)) (i + 1) v7) ((t + 1)) (i + 1) r9) ((t + 4)) (i + 1) 1) ((t + 3)) (i + 1) 0) ((t + 6)) (i + 1) 0) ((t + 7)) (i + 1) 0)) f (i + 1) (CI.u (CI.u (CI.u (CI.u (CI.u (CI.u (CI.u hC_M (i := (i + 1)) k2.2 (show (-2147483648 : Int) ≤ _ ∧ _ ≤ (2147483647 : Int) from by omega) rfl) (i := (i + 1)) k5.2 (show (-2147483648 : Int) ≤ _ ∧ _ ≤ (2147483647 : Int) from by omega) rfl) (i := (i + 1)) k8.2 (show (-9223372036854775808 : Int) ≤ _ ∧ _ ≤ (9223372036854775807 : Int) from by omega) rfl) (i := (i + 1)) k22.2 (show (0 : Int) ≤ _ ∧ _ ≤ (1 : Int) from by omega) rfl) (i := (i + 1)) k21.2 (show (-2147483648 : Int) ≤ _ ∧ _ ≤ (2147483647 : Int) from by omega) rfl) (i := (i + 1)) k23.2 (show (-9223372036854775808 : Int) ≤ _ ∧ _ ≤ (9223372036854775807 : Int) from by omega) rfl) (i := (i + 1)) k24.2 (show (-9223372036854775808 : Int) ≤ _ ∧ _ ≤ (9223372036854775807 : Int) from by omega) rfl) (FR.o (FR.o (FR.o (FR.o (FR.o (FR.o (FR.o ht_M k2.2 rfl) k5.2 rfl) k8.2 rfl) k22.2 rfl) k21.2 rfl) k23.2 rfl) k24.2 rfl) (by omega) (by omega) (by omega) (by omega)  (by omega)
            · exact absurd (by omega) h230
          · exact absurd (by omega) h205
        · refine jr.aload_n rfl rfl ?_
          refine jr.iload_n rfl rfl ?_
          refine jr.bipush rfl (by decide) ?_
          refine jr.iadd rfl ?_
          refine jr.iconst rfl ?_
          refine jr.iload rfl rfl ?_
          refine jr.imul rfl ?_
          refine jr.iadd rfl ?_
          refine jr.iconst rfl ?_
          refine jr_s rfl rfl (Or.inr rfl) ⟨Nat.le_of_ble_eq_true rfl, Nat.le_of_ble_eq_true rfl⟩ rfl rfl (jc.deep (c_PacketWall_numberAt_t (CI.u (CI.u (CI.u (CI.u hC_M (i := (i + 1)) k2.2 (show (-2147483648 : Int) ≤ _ ∧ _ ≤ (2147483647 : Int) from by omega) rfl) (i := (i + 1)) k5.2 (show (-2147483648 : Int) ≤ _ ∧ _ ≤ (2147483647 : Int) from by omega) rfl) (i := (i + 1)) k8.2 (show (-9223372036854775808 : Int) ≤ _ ∧ _ ≤ (9223372036854775807 : Int) from by omega) rfl) (i := (i + 1)) k22.2 (show (0 : Int) ≤ _ ∧ _ ≤ (1 : Int) from by omega) rfl) k_x (by omega) (by omega) (fun r25 z25  => ?_)) (by decide))
          refine jr.l2i rfl ?_
          refine jr.iw (j_w r25) (j_w_eq _) ?_
          have b26 : -2147483648 ≤ j_w r25 ∧ j_w r25 ≤ 2147483647 := jb_any _
          generalize j_w r25 = v26 at b26 ⊢
          refine jr.goto rfl rfl ?_
          refine jr.iast (i := (i + 1)) (x := v26) rfl (Nat.lt_trans (kx_5 k21.2).1 (by decide)) (kx_5 k21.2).2 (by decide) (by omega) (by omega) ?_
          refine jr.aload_n rfl rfl ?_
          have k27 := kf_1_10 k_t
          refine jr.getf (i := 10) (v := .ref (t + 6)) rfl rfl (Nat.lt_trans (kx_1 k_t).1 (by decide)) (kx_1 k_t).2 (by decide) rfl rfl rfl (jval_ref rfl k27.1) ?_
          refine jr.iload rfl rfl ?_
          refine jr.iload rfl rfl ?_
          refine jr.if_ne rfl rfl (by omega) (fun h205 => ?_) (fun h205 => ?_)
          · refine jr.lconst (x := 0) rfl (by decide) ?_
            refine jr.last (i := (i + 1)) (x := 0) rfl (Nat.lt_trans (kx_6 k27.2).1 (by decide)) (kx_6 k27.2).2 (by decide) (by omega) (by omega) ?_
            refine jr.aload_n rfl rfl ?_
            have k28 := kf_1_11 k_t
            refine jr.getf (i := 11) (v := .ref (t + 7)) rfl rfl (Nat.lt_trans (kx_1 k_t).1 (by decide)) (kx_1 k_t).2 (by decide) rfl rfl rfl (jval_ref rfl k28.1) ?_
            refine jr.iload rfl rfl ?_
            refine jr.iload rfl rfl ?_
            refine jr.if_ne rfl rfl (by omega) (fun h230 => ?_) (fun h230 => ?_)
            · refine jr.lconst (x := 0) rfl (by decide) ?_
              refine jr.last (i := (i + 1)) (x := 0) rfl (Nat.lt_trans (kx_3 k28.2).1 (by decide)) (kx_3 k28.2).2 (by decide) (by omega) (by omega) ?_
              refine jr.pick [1, 2, 3, 0, 4, 5] rfl rfl ?_
              exact ih (nM - 1) (by omega) ((ju (ju (ju (ju (ju (ju (ju M ((t + 2)) (i + 1) v4) ((t + 5)) (i + 1) v7) ((t + 1)) (i + 1) r9) ((t + 4)) (i + 1) 1) ((t + 3)) (i + 1) v26) ((t + 6)) (i + 1) 0) ((t + 7)) (i + 1) 0)) f (i + 1) (CI.u (CI.u (CI.u (CI.u (CI.u (CI.u (CI.u hC_M (i := (i + 1)) k2.2 (show (-2147483648 : Int) ≤ _ ∧ _ ≤ (2147483647 : Int) from by omega) rfl) (i := (i + 1)) k5.2 (show (-2147483648 : Int) ≤ _ ∧ _ ≤ (2147483647 : Int) from by omega) rfl) (i := (i + 1)) k8.2 (show (-9223372036854775808 : Int) ≤ _ ∧ _ ≤ (9223372036854775807 : Int) from by omega) rfl) (i := (i + 1)) k22.2 (show (0 : Int) ≤ _ ∧ _ ≤ (1 : Int) from by omega) rfl) (i := (i + 1)) k21.2 (show (-2147483648 : Int) ≤ _ ∧ _ ≤ (2147483647 : Int) from by omega) rfl) (i := (i + 1)) k27.2 (show (-9223372036854775808 : Int) ≤ _ ∧ _ ≤ (9223372036854775807 : Int) from by omega) rfl) (i := (i + 1)) k28.2 (show (-9223372036854775808 : Int) ≤ _ ∧ _ ≤ (9223372036854775807 : Int) from by omega) rfl) (FR.o (FR.o (FR.o (FR.o (FR.o (FR.o (FR.o ht_M k2.2 rfl) k5.2 rfl) k8.2 rfl) k22.2 rfl) k21.2 rfl) k27.2 rfl) k28.2 rfl) (by omega) (by omega) (by omega) (by omega)  (by omega)
            · exact absurd (by omega) h230
          · exact absurd (by omega) h205
theorem c_Flow_readRow_L222 {A : Nat → Option (Nat × (Nat → Int32))} {Q : Option Value → jm → Prop} {T : jm} {t : Nat} (k_t : kd t = 1) {x : Nat} (k_x : kd x = 43) {y : Int} {z : Int} (q : ∀ (r : Int) (M' : jm), CI M' → FR W_c_Flow_readRow T M' → 0 ≤ r ∧ r ≤ 1 → Q (some (.int (Int32.ofInt r))) M') : ∀ (nM : Nat) (M : jm) (f : Int) (i : Int), CI M → FR W_c_Flow_readRow T M → 0 ≤ y ∧ y ≤ 2000 → (-2147483648) ≤ z ∧ z ≤ 2147483647 → (-2147483648) ≤ f ∧ f ≤ 2147483647 → 0 ≤ i ∧ i ≤ 1 → 0 ≤ nM → jr A 2 xm_65 222 [(2, .int (Int32.ofInt (y))), (3, .int (Int32.ofInt (z))), (4, .int (Int32.ofInt (f))), (5, .int (Int32.ofInt (i))), (0, .ref (t)), (1, .ref (x))] [] M Q := by
  intro nM
  induction nM using Nat.strongRecOn with
  | ind nM ih =>
    intro M f i hC_M ht_M h_y h_z h_f h_i hm
    refine jr.aload_n rfl rfl ?_
    have k1 := kf_1_11 k_t
    refine jr.getf (i := 11) (v := .ref (t + 7)) rfl rfl (Nat.lt_trans (kx_1 k_t).1 (by decide)) (kx_1 k_t).2 (by decide) rfl rfl rfl (jval_ref rfl k1.1) ?_
    refine jr.iload rfl rfl ?_
    refine jr.iload rfl rfl ?_
    refine jr.if_ne rfl rfl (by omega) (fun h230 => ?_) (fun h230 => ?_)
    · refine jr.lconst (x := 0) rfl (by decide) ?_
      refine jr.last (i := i) (x := 0) rfl (Nat.lt_trans (kx_3 k1.2).1 (by decide)) (kx_3 k1.2).2 (by decide) (by omega) (by omega) ?_
      refine jr.pick [0, 1, 2, 3, 4, 5] rfl rfl ?_
      exact c_Flow_readRow_L247 k_t k_x q 1 ((ju M ((t + 7)) i 0)) f i (CI.u hC_M (i := i) k1.2 (show (-9223372036854775808 : Int) ≤ _ ∧ _ ≤ (9223372036854775807 : Int) from by omega) rfl) (FR.o ht_M k1.2 rfl) (by omega) (by omega) (by omega) (by omega)  (by omega)
    · refine jr.aload_n rfl rfl ?_
      refine jr.iload_n rfl rfl ?_
      refine jr.bipush rfl (by decide) ?_
      refine jr.iadd rfl ?_
      refine jr.iconst rfl ?_
      refine jr_s rfl rfl (Or.inr rfl) ⟨Nat.le_of_ble_eq_true rfl, Nat.le_of_ble_eq_true rfl⟩ rfl rfl (jc.deep (c_PacketWall_numberAt_t hC_M k_x (by omega) (by omega) (fun r2 z2  => ?_)) (by decide))
      refine jr.goto rfl rfl ?_
      refine jr.last (i := i) (x := r2) rfl (Nat.lt_trans (kx_3 k1.2).1 (by decide)) (kx_3 k1.2).2 (by decide) (by omega) (by omega) ?_
      refine jr.pick [0, 1, 2, 3, 4, 5] rfl rfl ?_
      exact c_Flow_readRow_L247 k_t k_x q 1 ((ju M ((t + 7)) i r2)) f i (CI.u hC_M (i := i) k1.2 (show (-9223372036854775808 : Int) ≤ _ ∧ _ ≤ (9223372036854775807 : Int) from by omega) rfl) (FR.o ht_M k1.2 rfl) (by omega) (by omega) (by omega) (by omega)  (by omega)
theorem c_Flow_readRow_L197 {A : Nat → Option (Nat × (Nat → Int32))} {Q : Option Value → jm → Prop} {T : jm} {t : Nat} (k_t : kd t = 1) {x : Nat} (k_x : kd x = 43) {y : Int} {z : Int} (q : ∀ (r : Int) (M' : jm), CI M' → FR W_c_Flow_readRow T M' → 0 ≤ r ∧ r ≤ 1 → Q (some (.int (Int32.ofInt r))) M') : ∀ (nM : Nat) (M : jm) (f : Int) (i : Int), CI M → FR W_c_Flow_readRow T M → 0 ≤ y ∧ y ≤ 2000 → (-2147483648) ≤ z ∧ z ≤ 2147483647 → (-2147483648) ≤ f ∧ f ≤ 2147483647 → 0 ≤ i ∧ i ≤ 1 → 0 ≤ nM → jr A 2 xm_65 197 [(2, .int (Int32.ofInt (y))), (3, .int (Int32.ofInt (z))), (4, .int (Int32.ofInt (f))), (5, .int (Int32.ofInt (i))), (0, .ref (t)), (1, .ref (x))] [] M Q := by
  intro nM
  induction nM using Nat.strongRecOn with
  | ind nM ih =>
    intro M f i hC_M ht_M h_y h_z h_f h_i hm
    refine jr.aload_n rfl rfl ?_
    have k1 := kf_1_10 k_t
    refine jr.getf (i := 10) (v := .ref (t + 6)) rfl rfl (Nat.lt_trans (kx_1 k_t).1 (by decide)) (kx_1 k_t).2 (by decide) rfl rfl rfl (jval_ref rfl k1.1) ?_
    refine jr.iload rfl rfl ?_
    refine jr.iload rfl rfl ?_
    refine jr.if_ne rfl rfl (by omega) (fun h205 => ?_) (fun h205 => ?_)
    · refine jr.lconst (x := 0) rfl (by decide) ?_
      refine jr.last (i := i) (x := 0) rfl (Nat.lt_trans (kx_6 k1.2).1 (by decide)) (kx_6 k1.2).2 (by decide) (by omega) (by omega) ?_
      refine jr.pick [0, 1, 2, 3, 4, 5] rfl rfl ?_
      exact c_Flow_readRow_L222 k_t k_x q 0 ((ju M ((t + 6)) i 0)) f i (CI.u hC_M (i := i) k1.2 (show (-9223372036854775808 : Int) ≤ _ ∧ _ ≤ (9223372036854775807 : Int) from by omega) rfl) (FR.o ht_M k1.2 rfl) (by omega) (by omega) (by omega) (by omega)  (by omega)
    · refine jr.aload_n rfl rfl ?_
      refine jr.iload_n rfl rfl ?_
      refine jr.bipush rfl (by decide) ?_
      refine jr.iadd rfl ?_
      refine jr.iconst rfl ?_
      refine jr_s rfl rfl (Or.inr rfl) ⟨Nat.le_of_ble_eq_true rfl, Nat.le_of_ble_eq_true rfl⟩ rfl rfl (jc.deep (c_PacketWall_numberAt_t hC_M k_x (by omega) (by omega) (fun r2 z2  => ?_)) (by decide))
      refine jr.goto rfl rfl ?_
      refine jr.last (i := i) (x := r2) rfl (Nat.lt_trans (kx_6 k1.2).1 (by decide)) (kx_6 k1.2).2 (by decide) (by omega) (by omega) ?_
      refine jr.pick [0, 1, 2, 3, 4, 5] rfl rfl ?_
      exact c_Flow_readRow_L222 k_t k_x q 0 ((ju M ((t + 6)) i r2)) f i (CI.u hC_M (i := i) k1.2 (show (-9223372036854775808 : Int) ≤ _ ∧ _ ≤ (9223372036854775807 : Int) from by omega) rfl) (FR.o ht_M k1.2 rfl) (by omega) (by omega) (by omega) (by omega)  (by omega)
theorem c_Flow_readRow_L161 {A : Nat → Option (Nat × (Nat → Int32))} {Q : Option Value → jm → Prop} {T : jm} {t : Nat} (k_t : kd t = 1) {x : Nat} (k_x : kd x = 43) {y : Int} {z : Int} (q : ∀ (r : Int) (M' : jm), CI M' → FR W_c_Flow_readRow T M' → 0 ≤ r ∧ r ≤ 1 → Q (some (.int (Int32.ofInt r))) M') : ∀ (nM : Nat) (M : jm) (f : Int) (i : Int), CI M → FR W_c_Flow_readRow T M → 0 ≤ y ∧ y ≤ 2000 → (-2147483648) ≤ z ∧ z ≤ 2147483647 → (-2147483648) ≤ f ∧ f ≤ 2147483647 → 0 ≤ i ∧ i ≤ 1 → 0 ≤ nM → jr A 2 xm_65 161 [(2, .int (Int32.ofInt (y))), (3, .int (Int32.ofInt (z))), (4, .int (Int32.ofInt (f))), (5, .int (Int32.ofInt (i))), (0, .ref (t)), (1, .ref (x))] [] M Q := by
  intro nM
  induction nM using Nat.strongRecOn with
  | ind nM ih =>
    intro M f i hC_M ht_M h_y h_z h_f h_i hm
    refine jr.aload_n rfl rfl ?_
    have k1 := kf_1_7 k_t
    refine jr.getf (i := 7) (v := .ref (t + 3)) rfl rfl (Nat.lt_trans (kx_1 k_t).1 (by decide)) (kx_1 k_t).2 (by decide) rfl rfl rfl (jval_ref rfl k1.1) ?_
    refine jr.iload rfl rfl ?_
    refine jr.aload_n rfl rfl ?_
    have k2 := kf_1_8 k_t
    refine jr.getf (i := 8) (v := .ref (t + 4)) rfl rfl (Nat.lt_trans (kx_1 k_t).1 (by decide)) (kx_1 k_t).2 (by decide) rfl rfl rfl (jval_ref rfl k2.1) ?_
    refine jr.iload rfl rfl ?_
    obtain ⟨v3, e3⟩ : ∃ z_, M ((t + 4)) i = z_ := ⟨_, rfl⟩
    have b3 : 0 ≤ v3 ∧ v3 ≤ 1 := by rw [← e3]; exact (CI.r hC_M k2.2 (by decide) i)
    refine jr.zald (i := i) (x := v3) rfl (Nat.lt_trans (kx_4 k2.2).1 (by decide)) (kx_4 k2.2).2 (by decide) (by omega) (by omega) e3 ?_
    refine jr.if_eq rfl rfl (by omega) (fun h174 => ?_) (fun h174 => ?_)
    · refine jr.iconst rfl ?_
      refine jr.iast (i := i) (x := 0) rfl (Nat.lt_trans (kx_5 k1.2).1 (by decide)) (kx_5 k1.2).2 (by decide) (by omega) (by omega) ?_
      refine jr.pick [0, 1, 2, 3, 4, 5] rfl rfl ?_
      exact c_Flow_readRow_L197 k_t k_x q 0 ((ju M ((t + 3)) i 0)) f i (CI.u hC_M (i := i) k1.2 (show (-2147483648 : Int) ≤ _ ∧ _ ≤ (2147483647 : Int) from by omega) rfl) (FR.o ht_M k1.2 rfl) (by omega) (by omega) (by omega) (by omega)  (by omega)
    · refine jr.aload_n rfl rfl ?_
      refine jr.iload_n rfl rfl ?_
      refine jr.bipush rfl (by decide) ?_
      refine jr.iadd rfl ?_
      refine jr.iconst rfl ?_
      refine jr.iload rfl rfl ?_
      refine jr.imul rfl ?_
      refine jr.iadd rfl ?_
      refine jr.iconst rfl ?_
      refine jr_s rfl rfl (Or.inr rfl) ⟨Nat.le_of_ble_eq_true rfl, Nat.le_of_ble_eq_true rfl⟩ rfl rfl (jc.deep (c_PacketWall_numberAt_t hC_M k_x (by omega) (by omega) (fun r4 z4  => ?_)) (by decide))
      refine jr.l2i rfl ?_
      refine jr.iw (j_w r4) (j_w_eq _) ?_
      have b5 : -2147483648 ≤ j_w r4 ∧ j_w r4 ≤ 2147483647 := jb_any _
      generalize j_w r4 = v5 at b5 ⊢
      refine jr.goto rfl rfl ?_
      refine jr.iast (i := i) (x := v5) rfl (Nat.lt_trans (kx_5 k1.2).1 (by decide)) (kx_5 k1.2).2 (by decide) (by omega) (by omega) ?_
      refine jr.pick [0, 1, 2, 3, 4, 5] rfl rfl ?_
      exact c_Flow_readRow_L197 k_t k_x q 0 ((ju M ((t + 3)) i v5)) f i (CI.u hC_M (i := i) k1.2 (show (-2147483648 : Int) ≤ _ ∧ _ ≤ (2147483647 : Int) from by omega) rfl) (FR.o ht_M k1.2 rfl) (by omega) (by omega) (by omega) (by omega)  (by omega)
theorem c_Flow_readRow_L66 {A : Nat → Option (Nat × (Nat → Int32))} {Q : Option Value → jm → Prop} {T : jm} {t : Nat} (k_t : kd t = 1) {x : Nat} (k_x : kd x = 43) {y : Int} {z : Int} (q : ∀ (r : Int) (M' : jm), CI M' → FR W_c_Flow_readRow T M' → 0 ≤ r ∧ r ≤ 1 → Q (some (.int (Int32.ofInt r))) M') : ∀ (nM : Nat) (M : jm) (f : Int) (i : Int), CI M → FR W_c_Flow_readRow T M → 0 ≤ y ∧ y ≤ 2000 → (-2147483648) ≤ z ∧ z ≤ 2147483647 → (-2147483648) ≤ f ∧ f ≤ 2147483647 → 0 ≤ i ∧ i ≤ 2 → 2 - i ≤ nM → jr A 2 xm_65 66 [(2, .int (Int32.ofInt (y))), (3, .int (Int32.ofInt (z))), (4, .int (Int32.ofInt (f))), (5, .int (Int32.ofInt (i))), (0, .ref (t)), (1, .ref (x))] [] M Q := by
  intro nM
  induction nM using Nat.strongRecOn with
  | ind nM ih =>
    intro M f i hC_M ht_M h_y h_z h_f h_i hm
    refine jr.iload rfl rfl ?_
    refine jr.iconst rfl ?_
    refine jr.icmp_ge rfl rfl (by omega) (by omega) (fun h69 => ?_) (fun h69 => ?_)
    · refine jr.aload_n rfl rfl ?_
      refine jr.iload rfl rfl ?_
      refine jr.sipush rfl (by decide) ?_
      refine jr.iand rfl ?_
      have b1 : 0 ≤ j_and f 128 ∧ j_and f 128 ≤ 128 := j_and_le (by decide)
      generalize j_and f 128 = v1 at b1 ⊢
      refine jr.if_eq rfl rfl (by omega) (fun h260 => ?_) (fun h260 => ?_)
      · refine jr.iconst rfl ?_
        refine jr.putf (i := 12) (x := 0) rfl rfl (Nat.lt_trans (kx_1 k_t).1 (by decide)) (kx_1 k_t).2 (by decide) rfl rfl rfl rfl rfl ?_
        refine jr.pick [0, 1, 4, 5] rfl rfl ?_
        exact c_Flow_readRow_L271 k_t k_x q 0 ((ju M t 12 0))  (CI.u hC_M (i := 12) k_t (show (0 : Int) ≤ _ ∧ _ ≤ (1 : Int) from by omega) rfl) (FR.o ht_M k_t rfl) (by omega) (by omega)  (by omega)
      · refine jr.iconst rfl ?_
        refine jr.goto rfl rfl ?_
        refine jr.putf (i := 12) (x := 1) rfl rfl (Nat.lt_trans (kx_1 k_t).1 (by decide)) (kx_1 k_t).2 (by decide) rfl rfl rfl rfl rfl ?_
        refine jr.pick [0, 1, 4, 5] rfl rfl ?_
        exact c_Flow_readRow_L271 k_t k_x q 0 ((ju M t 12 1))  (CI.u hC_M (i := 12) k_t (show (0 : Int) ≤ _ ∧ _ ≤ (1 : Int) from by omega) rfl) (FR.o ht_M k_t rfl) (by omega) (by omega)  (by omega)
    · refine jr.aload_n rfl rfl ?_
      have k2 := kf_1_4 k_t
      refine jr.getf (i := 4) (v := .ref (t + 2)) rfl rfl (Nat.lt_trans (kx_1 k_t).1 (by decide)) (kx_1 k_t).2 (by decide) rfl rfl rfl (jval_ref rfl k2.1) ?_
      refine jr.iload rfl rfl ?_
      refine jr.aload_n rfl rfl ?_
      refine jr.iload_n rfl rfl ?_
      refine jr.iconst rfl ?_
      refine jr.iadd rfl ?_
      refine jr.iconst rfl ?_
      refine jr.iload rfl rfl ?_
      refine jr.imul rfl ?_
      refine jr.iadd rfl ?_
      refine jr.iconst rfl ?_
      refine jr_s rfl rfl (Or.inr rfl) ⟨Nat.le_of_ble_eq_true rfl, Nat.le_of_ble_eq_true rfl⟩ rfl rfl (jc.deep (c_PacketWall_numberAt_t hC_M k_x (by omega) (by omega) (fun r3 z3  => ?_)) (by decide))
      refine jr.l2i rfl ?_
      refine jr.iw (j_w r3) (j_w_eq _) ?_
      have b4 : -2147483648 ≤ j_w r3 ∧ j_w r3 ≤ 2147483647 := jb_any _
      generalize j_w r3 = v4 at b4 ⊢
      refine jr.iast (i := i) (x := v4) rfl (Nat.lt_trans (kx_7 k2.2).1 (by decide)) (kx_7 k2.2).2 (by decide) (by omega) (by omega) ?_
      refine jr.aload_n rfl rfl ?_
      have k5 := kf_1_9 k_t
      refine jr.getf (i := 9) (v := .ref (t + 5)) rfl rfl (Nat.lt_trans (kx_1 k_t).1 (by decide)) (kx_1 k_t).2 (by decide) rfl rfl rfl (jval_ref rfl k5.1) ?_
      refine jr.iload rfl rfl ?_
      refine jr.aload_n rfl rfl ?_
      refine jr.iload_n rfl rfl ?_
      refine jr.bipush rfl (by decide) ?_
      refine jr.iadd rfl ?_
      refine jr.iconst rfl ?_
      refine jr.iload rfl rfl ?_
      refine jr.imul rfl ?_
      refine jr.iadd rfl ?_
      refine jr.iconst rfl ?_
      refine jr_s rfl rfl (Or.inr rfl) ⟨Nat.le_of_ble_eq_true rfl, Nat.le_of_ble_eq_true rfl⟩ rfl rfl (jc.deep (c_PacketWall_numberAt_t (CI.u hC_M (i := i) k2.2 (show (-2147483648 : Int) ≤ _ ∧ _ ≤ (2147483647 : Int) from by omega) rfl) k_x (by omega) (by omega) (fun r6 z6  => ?_)) (by decide))
      refine jr.l2i rfl ?_
      refine jr.iw (j_w r6) (j_w_eq _) ?_
      have b7 : -2147483648 ≤ j_w r6 ∧ j_w r6 ≤ 2147483647 := jb_any _
      generalize j_w r6 = v7 at b7 ⊢
      refine jr.iast (i := i) (x := v7) rfl (Nat.lt_trans (kx_8 k5.2).1 (by decide)) (kx_8 k5.2).2 (by decide) (by omega) (by omega) ?_
      refine jr.aload_n rfl rfl ?_
      have k8 := kf_1_3 k_t
      refine jr.getf (i := 3) (v := .ref (t + 1)) rfl rfl (Nat.lt_trans (kx_1 k_t).1 (by decide)) (kx_1 k_t).2 (by decide) rfl rfl rfl (jval_ref rfl k8.1) ?_
      refine jr.iload rfl rfl ?_
      refine jr.aload_n rfl rfl ?_
      refine jr.iload_n rfl rfl ?_
      refine jr.bipush rfl (by decide) ?_
      refine jr.iadd rfl ?_
      refine jr.bipush rfl (by decide) ?_
      refine jr.iload rfl rfl ?_
      refine jr.imul rfl ?_
      refine jr.iadd rfl ?_
      refine jr.bipush rfl (by decide) ?_
      refine jr_s rfl rfl (Or.inr rfl) ⟨Nat.le_of_ble_eq_true rfl, Nat.le_of_ble_eq_true rfl⟩ rfl rfl (jc.deep (c_PacketWall_numberAt_t (CI.u (CI.u hC_M (i := i) k2.2 (show (-2147483648 : Int) ≤ _ ∧ _ ≤ (2147483647 : Int) from by omega) rfl) (i := i) k5.2 (show (-2147483648 : Int) ≤ _ ∧ _ ≤ (2147483647 : Int) from by omega) rfl) k_x (by omega) (by omega) (fun r9 z9  => ?_)) (by decide))
      refine jr.last (i := i) (x := r9) rfl (Nat.lt_trans (kx_2 k8.2).1 (by decide)) (kx_2 k8.2).2 (by decide) (by omega) (by omega) ?_
      refine jr.aload_n rfl rfl ?_
      have k10 := kf_1_8 k_t
      refine jr.getf (i := 8) (v := .ref (t + 4)) rfl rfl (Nat.lt_trans (kx_1 k_t).1 (by decide)) (kx_1 k_t).2 (by decide) rfl rfl rfl (jval_ref rfl k10.1) ?_
      refine jr.iload rfl rfl ?_
      refine jr.iload rfl rfl ?_
      refine jr.bipush rfl (by decide) ?_
      refine jr.iload rfl rfl ?_
      refine jr.ishl rfl ?_
      have b11 : -2147483648 ≤ j_shl 32 i ∧ j_shl 32 i ≤ 2147483647 := jb_any _
      generalize j_shl 32 i = v11 at b11 ⊢
      refine jr.iand rfl ?_
      have b12 : -2147483648 ≤ j_and f v11 ∧ j_and f v11 ≤ 2147483647 := jb_any _
      generalize j_and f v11 = v12 at b12 ⊢
      refine jr.if_eq rfl rfl (by omega) (fun h152 => ?_) (fun h152 => ?_)
      · refine jr.iconst rfl ?_
        refine jr.zast (i := i) (x := 0) rfl (Nat.lt_trans (kx_4 k10.2).1 (by decide)) (kx_4 k10.2).2 (by decide) (by omega) (by omega) (j_zn (by omega)) ?_
        refine jr.pick [0, 1, 2, 3, 4, 5] rfl rfl ?_
        exact c_Flow_readRow_L161 k_t k_x q 0 ((ju (ju (ju (ju M ((t + 2)) i v4) ((t + 5)) i v7) ((t + 1)) i r9) ((t + 4)) i 0)) f i (CI.u (CI.u (CI.u (CI.u hC_M (i := i) k2.2 (show (-2147483648 : Int) ≤ _ ∧ _ ≤ (2147483647 : Int) from by omega) rfl) (i := i) k5.2 (show (-2147483648 : Int) ≤ _ ∧ _ ≤ (2147483647 : Int) from by omega) rfl) (i := i) k8.2 (show (-9223372036854775808 : Int) ≤ _ ∧ _ ≤ (9223372036854775807 : Int) from by omega) rfl) (i := i) k10.2 (show (0 : Int) ≤ _ ∧ _ ≤ (1 : Int) from by omega) rfl) (FR.o (FR.o (FR.o (FR.o ht_M k2.2 rfl) k5.2 rfl) k8.2 rfl) k10.2 rfl) (by omega) (by omega) (by omega) (by omega)  (by omega)
      · refine jr.iconst rfl ?_
        refine jr.goto rfl rfl ?_
        refine jr.zast (i := i) (x := 1) rfl (Nat.lt_trans (kx_4 k10.2).1 (by decide)) (kx_4 k10.2).2 (by decide) (by omega) (by omega) (j_zn (by omega)) ?_
        refine jr.pick [0, 1, 2, 3, 4, 5] rfl rfl ?_
        exact c_Flow_readRow_L161 k_t k_x q 0 ((ju (ju (ju (ju M ((t + 2)) i v4) ((t + 5)) i v7) ((t + 1)) i r9) ((t + 4)) i 1)) f i (CI.u (CI.u (CI.u (CI.u hC_M (i := i) k2.2 (show (-2147483648 : Int) ≤ _ ∧ _ ≤ (2147483647 : Int) from by omega) rfl) (i := i) k5.2 (show (-2147483648 : Int) ≤ _ ∧ _ ≤ (2147483647 : Int) from by omega) rfl) (i := i) k8.2 (show (-9223372036854775808 : Int) ≤ _ ∧ _ ≤ (9223372036854775807 : Int) from by omega) rfl) (i := i) k10.2 (show (0 : Int) ≤ _ ∧ _ ≤ (1 : Int) from by omega) rfl) (FR.o (FR.o (FR.o (FR.o ht_M k2.2 rfl) k5.2 rfl) k8.2 rfl) k10.2 rfl) (by omega) (by omega) (by omega) (by omega)  (by omega)
theorem c_Flow_readRow_L39 {A : Nat → Option (Nat × (Nat → Int32))} {Q : Option Value → jm → Prop} {T : jm} {t : Nat} (k_t : kd t = 1) {x : Nat} (k_x : kd x = 43) {y : Int} {z : Int} (q : ∀ (r : Int) (M' : jm), CI M' → FR W_c_Flow_readRow T M' → 0 ≤ r ∧ r ≤ 1 → Q (some (.int (Int32.ofInt r))) M') : ∀ (nM : Nat) (M : jm) (f : Int), CI M → FR W_c_Flow_readRow T M → 0 ≤ y ∧ y ≤ 2000 → (-2147483648) ≤ z ∧ z ≤ 2147483647 → (-2147483648) ≤ f ∧ f ≤ 2147483647 → 0 ≤ nM → jr A 2 xm_65 39 [(2, .int (Int32.ofInt (y))), (3, .int (Int32.ofInt (z))), (4, .int (Int32.ofInt (f))), (0, .ref (t)), (1, .ref (x))] [] M Q := by
  intro nM
  induction nM using Nat.strongRecOn with
  | ind nM ih =>
    intro M f hC_M ht_M h_y h_z h_f hm
    refine jr.aload_n rfl rfl ?_
    refine jr.iload rfl rfl ?_
    refine jr.bipush rfl (by decide) ?_
    refine jr.iand rfl ?_
    have b1 : 0 ≤ j_and f 15 ∧ j_and f 15 ≤ 15 := j_and_le (by decide)
    generalize j_and f 15 = v1 at b1 ⊢
    refine jr.putf (i := 5) (x := v1) rfl rfl (Nat.lt_trans (kx_1 k_t).1 (by decide)) (kx_1 k_t).2 (by decide) rfl rfl rfl rfl rfl ?_
    refine jr.aload_n rfl rfl ?_
    refine jr.iconst rfl ?_
    refine jr.putf (i := 0) (x := 1) rfl rfl (Nat.lt_trans (kx_1 k_t).1 (by decide)) (kx_1 k_t).2 (by decide) rfl rfl rfl rfl rfl ?_
    refine jr.aload_n rfl rfl ?_
    refine jr.iconst rfl ?_
    refine jr.putf (i := 13) (x := (-1)) rfl rfl (Nat.lt_trans (kx_1 k_t).1 (by decide)) (kx_1 k_t).2 (by decide) rfl rfl rfl rfl rfl ?_
    refine jr.aload_n rfl rfl ?_
    refine jr.iconst rfl ?_
    refine jr.putf (i := 15) (x := (-1)) rfl rfl (Nat.lt_trans (kx_1 k_t).1 (by decide)) (kx_1 k_t).2 (by decide) rfl rfl rfl rfl rfl ?_
    refine jr.iconst rfl ?_
    refine jr.istore rfl (by decide) rfl ?_
    refine jr.pick [1, 2, 3, 0, 4, 5] rfl rfl ?_
    exact c_Flow_readRow_L66 k_t k_x q 2 ((ju (ju (ju (ju M t 5 v1) t 0 1) t 13 (-1)) t 15 (-1))) f 0 (CI.u (CI.u (CI.u (CI.u hC_M (i := 5) k_t (show (-2147483648 : Int) ≤ _ ∧ _ ≤ (2147483647 : Int) from by omega) rfl) (i := 0) k_t (show (0 : Int) ≤ _ ∧ _ ≤ (1 : Int) from by omega) rfl) (i := 13) k_t (show (-2147483648 : Int) ≤ _ ∧ _ ≤ (2147483647 : Int) from by omega) rfl) (i := 15) k_t (show (-2147483648 : Int) ≤ _ ∧ _ ≤ (2147483647 : Int) from by omega) rfl) (FR.o (FR.o (FR.o (FR.o ht_M k_t rfl) k_t rfl) k_t rfl) k_t rfl) (by omega) (by omega) (by omega) (by omega)  (by omega)
theorem c_Flow_readRow {A : Nat → Option (Nat × (Nat → Int32))} {Q : Option Value → jm → Prop} {T : jm} {M : jm} (hC_M : CI M) (ht_M : FR W_c_Flow_readRow T M) {t : Nat} (k_t : kd t = 1) {x : Nat} (k_x : kd x = 43) {y : Int} (h_y : 0 ≤ y ∧ y ≤ 2000) {z : Int} (h_z : (-2147483648) ≤ z ∧ z ≤ 2147483647) (q : ∀ (r : Int) (M' : jm), CI M' → FR W_c_Flow_readRow T M' → 0 ≤ r ∧ r ≤ 1 → Q (some (.int (Int32.ofInt r))) M') : jc A 3 65 [.ref (t), .ref (x), .int (Int32.ofInt (y)), .int (Int32.ofInt (z))] M Q := by
  refine jc_of (m := xm_65) rfl (Nat.le_of_ble_eq_true rfl) rfl ?_
  refine jr.aload_n rfl rfl ?_
  refine jr.iload_n rfl rfl ?_
  refine jr.iconst rfl ?_
  refine jr.iadd rfl ?_
  refine jr.iconst rfl ?_
  refine jr_s rfl rfl (Or.inr rfl) ⟨Nat.le_of_ble_eq_true rfl, Nat.le_of_ble_eq_true rfl⟩ rfl rfl (jc.deep (c_PacketWall_numberAt_t hC_M k_x (by omega) (by omega) (fun r1 z1  => ?_)) (by decide))
  refine jr.l2i rfl ?_
  refine jr.iw (j_w r1) (j_w_eq _) ?_
  have b2 : -2147483648 ≤ j_w r1 ∧ j_w r1 ≤ 2147483647 := jb_any _
  generalize j_w r1 = v2 at b2 ⊢
  refine jr.istore rfl (by decide) rfl ?_
  refine jr.aload_n rfl rfl ?_
  refine jr.aload_n rfl rfl ?_
  refine jr.iload_n rfl rfl ?_
  refine jr.iconst rfl ?_
  refine jr_s rfl rfl (Or.inr rfl) ⟨Nat.le_of_ble_eq_true rfl, Nat.le_of_ble_eq_true rfl⟩ rfl rfl (jc.deep (c_PacketWall_numberAt_t hC_M k_x (by omega) (by omega) (fun r3 z3  => ?_)) (by decide))
  refine jr.l2i rfl ?_
  refine jr.iw (j_w r3) (j_w_eq _) ?_
  have b4 : -2147483648 ≤ j_w r3 ∧ j_w r3 ≤ 2147483647 := jb_any _
  generalize j_w r3 = v4 at b4 ⊢
  refine jr.putf (i := 2) (x := v4) rfl rfl (Nat.lt_trans (kx_1 k_t).1 (by decide)) (kx_1 k_t).2 (by decide) rfl rfl rfl rfl rfl ?_
  refine jr.aload_n rfl rfl ?_
  refine jr.iload rfl rfl ?_
  refine jr.bipush rfl (by decide) ?_
  refine jr.iand rfl ?_
  have b5 : 0 ≤ j_and v2 16 ∧ j_and v2 16 ≤ 16 := j_and_le (by decide)
  generalize j_and v2 16 = v5 at b5 ⊢
  refine jr.if_eq rfl rfl (by omega) (fun h28 => ?_) (fun h28 => ?_)
  · refine jr.iconst rfl ?_
    refine jr.putf (i := 1) (x := 0) rfl rfl (Nat.lt_trans (kx_1 k_t).1 (by decide)) (kx_1 k_t).2 (by decide) rfl rfl rfl rfl rfl ?_
    refine jr.pick [3, 4, 0, 1, 2] rfl rfl ?_
    exact c_Flow_readRow_L39 k_t k_x q 0 ((ju (ju M t 2 v4) t 1 0)) v2 (CI.u (CI.u hC_M (i := 2) k_t (show (-2147483648 : Int) ≤ _ ∧ _ ≤ (2147483647 : Int) from by omega) rfl) (i := 1) k_t (show (0 : Int) ≤ _ ∧ _ ≤ (1 : Int) from by omega) rfl) (FR.o (FR.o ht_M k_t rfl) k_t rfl) (by omega) (by omega) (by omega)  (by omega)
  · refine jr.iconst rfl ?_
    refine jr.goto rfl rfl ?_
    refine jr.putf (i := 1) (x := 1) rfl rfl (Nat.lt_trans (kx_1 k_t).1 (by decide)) (kx_1 k_t).2 (by decide) rfl rfl rfl rfl rfl ?_
    refine jr.pick [3, 4, 0, 1, 2] rfl rfl ?_
    exact c_Flow_readRow_L39 k_t k_x q 0 ((ju (ju M t 2 v4) t 1 1)) v2 (CI.u (CI.u hC_M (i := 2) k_t (show (-2147483648 : Int) ≤ _ ∧ _ ≤ (2147483647 : Int) from by omega) rfl) (i := 1) k_t (show (0 : Int) ≤ _ ∧ _ ≤ (1 : Int) from by omega) rfl) (FR.o (FR.o ht_M k_t rfl) k_t rfl) (by omega) (by omega) (by omega)  (by omega)
def W_c_Flows_findEnds : List (Nat × Nat) := [(1, 1), (1, 2), (2, 1000), (7, 1000), (9, 3), (9, 4), (9, 5)]
theorem c_Flows_findEnds {A : Nat → Option (Nat × (Nat → Int32))} {Q : Option Value → jm → Prop} {T : jm} {M : jm} (hC_M : CI M) (ht_M : FR W_c_Flows_findEnds T M) {x : Nat} (k_x : kd x = 18) (q : ∀ (r : Int) (M' : jm), CI M' → FR W_c_Flows_findEnds T M' → 0 ≤ r ∧ r ≤ 1 → Q (some (.int (Int32.ofInt r))) M') : jc A 5 89 [.ref (15), .ref (x)] M Q := by
  refine jc_of (m := xm_89) rfl (Nat.le_of_ble_eq_true rfl) rfl ?_
  refine jr.aload_n rfl rfl ?_
  refine jr.iconst rfl ?_
  refine jr.putf (i := 5) (x := 0) rfl rfl (by decide) rfl (by decide) rfl rfl rfl rfl rfl ?_
  refine jr.aload_n rfl rfl ?_
  refine jr.aload_n rfl rfl ?_
  refine jr.bipush rfl (by decide) ?_
  refine jr_v rfl rfl (Or.inl rfl) rfl rfl (Nat.lt_trans (kx_18 k_x).1 (by decide)) (kx_18 k_x).2 ⟨rfl, Nat.le_of_ble_eq_true rfl, Nat.le_of_ble_eq_true rfl⟩ rfl (jc.deep (c_Headers_firstOf (CI.u hC_M (i := 5) (show kd 15 = 9 from rfl) (show (0 : Int) ≤ _ ∧ _ ≤ (1 : Int) from by omega) rfl) k_x (by omega) (fun r1 z1 w1_0 => ?_)) (by decide))
  refine jr.putf (i := 3) (x := r1) rfl rfl (by decide) rfl (by decide) rfl rfl rfl rfl rfl ?_
  refine jr.aload_n rfl rfl ?_
  obtain ⟨v2, e2⟩ : ∃ z_, M x 4 = z_ := ⟨_, rfl⟩
  have b2 : (-2147483648) ≤ v2 ∧ v2 ≤ 2147483647 := by rw [← e2]; exact (CI.r hC_M k_x (by decide) 4)
  refine jr.getf (i := 4) (x := v2) (v := .int (Int32.ofInt (v2))) rfl rfl (Nat.lt_trans (kx_18 k_x).1 (by decide)) (kx_18 k_x).2 (by decide) rfl rfl ((ju_i _ _ (by decide)).trans ((ju_i _ _ (by decide)).trans e2)) rfl ?_
  refine jr.if_ne rfl rfl (by omega) (fun h19 => ?_) (fun h19 => ?_)
  · refine jr.iconst rfl ?_
    exact jr.ireturn rfl rfl rfl (q _ _ (CI.u (CI.u hC_M (i := 5) (show kd 15 = 9 from rfl) (show (0 : Int) ≤ _ ∧ _ ≤ (1 : Int) from by omega) rfl) (i := 3) (show kd 15 = 9 from rfl) (show (-2147483648 : Int) ≤ _ ∧ _ ≤ (2147483647 : Int) from by omega) rfl) (FR.o (FR.o ht_M (show kd 15 = 9 from rfl) rfl) (show kd 15 = 9 from rfl) rfl) (by omega) )
  · refine jr.aload_n rfl rfl ?_
    refine jr.getf (i := 3) (x := r1) (v := .int (Int32.ofInt (r1))) rfl rfl (by decide) rfl (by decide) rfl rfl (ju_same _ _ _ _) rfl ?_
    refine jr.iconst rfl ?_
    refine jr.icmp_eq rfl rfl (by omega) (by omega) (fun h27 => ?_) (fun h27 => ?_)
    · refine jr.iconst rfl ?_
      exact jr.ireturn rfl rfl rfl (q _ _ (CI.u (CI.u hC_M (i := 5) (show kd 15 = 9 from rfl) (show (0 : Int) ≤ _ ∧ _ ≤ (1 : Int) from by omega) rfl) (i := 3) (show kd 15 = 9 from rfl) (show (-2147483648 : Int) ≤ _ ∧ _ ≤ (2147483647 : Int) from by omega) rfl) (FR.o (FR.o ht_M (show kd 15 = 9 from rfl) rfl) (show kd 15 = 9 from rfl) rfl) (by omega) )
    · refine jr.aload_n rfl rfl ?_
      refine jr_v rfl rfl (Or.inl rfl) rfl rfl (Nat.lt_trans (kx_18 k_x).1 (by decide)) (kx_18 k_x).2 ⟨rfl, Nat.le_of_ble_eq_true rfl, Nat.le_of_ble_eq_true rfl⟩ rfl (jc.deep (c_Headers_pieceHeader (CI.u (CI.u hC_M (i := 5) (show kd 15 = 9 from rfl) (show (0 : Int) ≤ _ ∧ _ ≤ (1 : Int) from by omega) rfl) (i := 3) (show kd 15 = 9 from rfl) (show (-2147483648 : Int) ≤ _ ∧ _ ≤ (2147483647 : Int) from by omega) rfl) k_x (fun r3 z3 w3_0 => ?_)) (by decide))
      refine jr.iconst rfl ?_
      refine jr.icmp_eq rfl rfl (by omega) (by omega) (fun h35 => ?_) (fun h35 => ?_)
      · refine jr.aload_n rfl rfl ?_
        refine jr.aload_n rfl rfl ?_
        refine jr.aload_n rfl rfl ?_
        refine jr.getf (i := 3) (x := r1) (v := .int (Int32.ofInt (r1))) rfl rfl (by decide) rfl (by decide) rfl rfl (ju_same _ _ _ _) rfl ?_
        refine jr_v rfl rfl (Or.inl rfl) rfl rfl (Nat.lt_trans (kx_18 k_x).1 (by decide)) (kx_18 k_x).2 ⟨rfl, Nat.le_of_ble_eq_true rfl, Nat.le_of_ble_eq_true rfl⟩ rfl (jc.deep (c_Headers_innerOf (CI.u (CI.u hC_M (i := 5) (show kd 15 = 9 from rfl) (show (0 : Int) ≤ _ ∧ _ ≤ (1 : Int) from by omega) rfl) (i := 3) (show kd 15 = 9 from rfl) (show (-2147483648 : Int) ≤ _ ∧ _ ≤ (2147483647 : Int) from by omega) rfl) k_x (by omega) (fun r4 z4 w4_0 => ?_)) (by decide))
        refine jr.putf (i := 4) (x := r4) rfl rfl (by decide) rfl (by decide) rfl rfl rfl rfl rfl ?_
        refine jr.aload_n rfl rfl ?_
        refine jr.aload_n rfl rfl ?_
        refine jr.getf (i := 4) (x := r4) (v := .int (Int32.ofInt (r4))) rfl rfl (by decide) rfl (by decide) rfl rfl (ju_same _ _ _ _) rfl ?_
        refine jr_v rfl rfl (Or.inl rfl) rfl rfl (Nat.lt_trans (kx_18 k_x).1 (by decide)) (kx_18 k_x).2 ⟨rfl, Nat.le_of_ble_eq_true rfl, Nat.le_of_ble_eq_true rfl⟩ rfl (jc.deep (c_Headers_kindAt (CI.u (CI.u (CI.u hC_M (i := 5) (show kd 15 = 9 from rfl) (show (0 : Int) ≤ _ ∧ _ ≤ (1 : Int) from by omega) rfl) (i := 3) (show kd 15 = 9 from rfl) (show (-2147483648 : Int) ≤ _ ∧ _ ≤ (2147483647 : Int) from by omega) rfl) (i := 4) (show kd 15 = 9 from rfl) (show (-2147483648 : Int) ≤ _ ∧ _ ≤ (2147483647 : Int) from by omega) rfl) k_x (by omega) (fun r5 z5 w5_0 w5_1 => ?_)) (by decide))
        refine jr_s rfl rfl (Or.inr rfl) ⟨Nat.le_of_ble_eq_true rfl, Nat.le_of_ble_eq_true rfl⟩ rfl rfl (jc.deep (c_PacketWall_isCarriedKind (CI.u (CI.u (CI.u hC_M (i := 5) (show kd 15 = 9 from rfl) (show (0 : Int) ≤ _ ∧ _ ≤ (1 : Int) from by omega) rfl) (i := 3) (show kd 15 = 9 from rfl) (show (-2147483648 : Int) ≤ _ ∧ _ ≤ (2147483647 : Int) from by omega) rfl) (i := 4) (show kd 15 = 9 from rfl) (show (-2147483648 : Int) ≤ _ ∧ _ ≤ (2147483647 : Int) from by omega) rfl) (by omega) (fun r6 z6 w6_0 => ?_)) (by decide))
        refine jr.if_ne rfl rfl (by omega) (fun h63 => ?_) (fun h63 => ?_)
        · refine jr.aload_n rfl rfl ?_
          refine jr.aload_n rfl rfl ?_
          refine jr.aload_n rfl rfl ?_
          refine jr_v rfl rfl (Or.inl rfl) rfl rfl (by decide) rfl ⟨rfl, Nat.le_of_ble_eq_true rfl, Nat.le_of_ble_eq_true rfl⟩ rfl (jc.deep (c_Flows_isQuoting (CI.u (CI.u (CI.u hC_M (i := 5) (show kd 15 = 9 from rfl) (show (0 : Int) ≤ _ ∧ _ ≤ (1 : Int) from by omega) rfl) (i := 3) (show kd 15 = 9 from rfl) (show (-2147483648 : Int) ≤ _ ∧ _ ≤ (2147483647 : Int) from by omega) rfl) (i := 4) (show kd 15 = 9 from rfl) (show (-2147483648 : Int) ≤ _ ∧ _ ≤ (2147483647 : Int) from by omega) rfl) k_x (fun r7 z7  => ?_)) (by decide))
          refine jr.putf (i := 5) (x := r7) rfl rfl (by decide) rfl (by decide) rfl rfl rfl (j_zr (by omega)) (j_fz (by omega)) ?_
          refine jr.aload_n rfl rfl ?_
          refine jr.getf (i := 5) (x := r7) (v := .int (Int32.ofInt (r7))) rfl rfl (by decide) rfl (by decide) rfl rfl (ju_same _ _ _ _) rfl ?_
          refine jr.if_eq rfl rfl (by omega) (fun h81 => ?_) (fun h81 => ?_)
          · refine jr.aload_n rfl rfl ?_
            refine jr.getf (i := 2) (v := .ref 18) rfl rfl (by decide) rfl (by decide) rfl rfl rfl rfl ?_
            refine jr.aload_n rfl rfl ?_
            refine jr.aload_n rfl rfl ?_
            refine jr.getf (i := 3) (x := r1) (v := .int (Int32.ofInt (r1))) rfl rfl (by decide) rfl (by decide) rfl rfl ((ju_i _ _ (by decide)).trans ((ju_i _ _ (by decide)).trans (ju_same _ _ _ _))) rfl ?_
            refine jr.aload_n rfl rfl ?_
            refine jr.getf (i := 4) (x := r4) (v := .int (Int32.ofInt (r4))) rfl rfl (by decide) rfl (by decide) rfl rfl ((ju_i _ _ (by decide)).trans (ju_same _ _ _ _)) rfl ?_
            refine jr_v rfl rfl (Or.inl rfl) rfl rfl (by decide) rfl ⟨rfl, Nat.le_of_ble_eq_true rfl, Nat.le_of_ble_eq_true rfl⟩ rfl (jc.deep (c_Flow_describe (CI.u (CI.u (CI.u (CI.u hC_M (i := 5) (show kd 15 = 9 from rfl) (show (0 : Int) ≤ _ ∧ _ ≤ (1 : Int) from by omega) rfl) (i := 3) (show kd 15 = 9 from rfl) (show (-2147483648 : Int) ≤ _ ∧ _ ≤ (2147483647 : Int) from by omega) rfl) (i := 4) (show kd 15 = 9 from rfl) (show (-2147483648 : Int) ≤ _ ∧ _ ≤ (2147483647 : Int) from by omega) rfl) (i := 5) (show kd 15 = 9 from rfl) (show (0 : Int) ≤ _ ∧ _ ≤ (1 : Int) from by omega) rfl) (FR.rfl _ ((ju (ju (ju (ju M 15 5 0) 15 3 r1) 15 4 r4) 15 5 r7))) (show kd 18 = 1 from rfl) k_x (by omega) (by omega) (fun M8 hC_M8 hf_M8  => ?_)) (by decide))
            have ht_M8 : FR W_c_Flows_findEnds T M8 := FR.t (FR.o (FR.o (FR.o (FR.o ht_M (show kd 15 = 9 from rfl) rfl) (show kd 15 = 9 from rfl) rfl) (show kd 15 = 9 from rfl) rfl) (show kd 15 = 9 from rfl) rfl) hf_M8 (kw_sub rfl)
            refine jr.iconst rfl ?_
            exact jr.ireturn rfl rfl rfl (q _ _ hC_M8 ht_M8 (by omega) )
          · refine jr.aload_n rfl rfl ?_
            refine jr.getf (i := 2) (v := .ref 18) rfl rfl (by decide) rfl (by decide) rfl rfl rfl rfl ?_
            refine jr.aload_n rfl rfl ?_
            refine jr.aload_n rfl rfl ?_
            refine jr.getf (i := 4) (x := r4) (v := .int (Int32.ofInt (r4))) rfl rfl (by decide) rfl (by decide) rfl rfl ((ju_i _ _ (by decide)).trans (ju_same _ _ _ _)) rfl ?_
            refine jr.iconst rfl ?_
            refine jr.iadd rfl ?_
            refine jr.aload_n rfl rfl ?_
            refine jr.getf (i := 4) (x := r4) (v := .int (Int32.ofInt (r4))) rfl rfl (by decide) rfl (by decide) rfl rfl ((ju_i _ _ (by decide)).trans (ju_same _ _ _ _)) rfl ?_
            refine jr.iconst rfl ?_
            refine jr.iadd rfl ?_
            refine jr_v rfl rfl (Or.inl rfl) rfl rfl (by decide) rfl ⟨rfl, Nat.le_of_ble_eq_true rfl, Nat.le_of_ble_eq_true rfl⟩ rfl (jc.deep (c_Flow_describe (CI.u (CI.u (CI.u (CI.u hC_M (i := 5) (show kd 15 = 9 from rfl) (show (0 : Int) ≤ _ ∧ _ ≤ (1 : Int) from by omega) rfl) (i := 3) (show kd 15 = 9 from rfl) (show (-2147483648 : Int) ≤ _ ∧ _ ≤ (2147483647 : Int) from by omega) rfl) (i := 4) (show kd 15 = 9 from rfl) (show (-2147483648 : Int) ≤ _ ∧ _ ≤ (2147483647 : Int) from by omega) rfl) (i := 5) (show kd 15 = 9 from rfl) (show (0 : Int) ≤ _ ∧ _ ≤ (1 : Int) from by omega) rfl) (FR.rfl _ ((ju (ju (ju (ju M 15 5 0) 15 3 r1) 15 4 r4) 15 5 r7))) (show kd 18 = 1 from rfl) k_x (by omega) (by omega) (fun M9 hC_M9 hf_M9  => ?_)) (by decide))
            have ht_M9 : FR W_c_Flows_findEnds T M9 := FR.t (FR.o (FR.o (FR.o (FR.o ht_M (show kd 15 = 9 from rfl) rfl) (show kd 15 = 9 from rfl) rfl) (show kd 15 = 9 from rfl) rfl) (show kd 15 = 9 from rfl) rfl) hf_M9 (kw_sub rfl)
            refine jr.goto rfl rfl ?_
            refine jr.iconst rfl ?_
            exact jr.ireturn rfl rfl rfl (q _ _ hC_M9 ht_M9 (by omega) )
        · refine jr.iconst rfl ?_
          exact jr.ireturn rfl rfl rfl (q _ _ (CI.u (CI.u (CI.u hC_M (i := 5) (show kd 15 = 9 from rfl) (show (0 : Int) ≤ _ ∧ _ ≤ (1 : Int) from by omega) rfl) (i := 3) (show kd 15 = 9 from rfl) (show (-2147483648 : Int) ≤ _ ∧ _ ≤ (2147483647 : Int) from by omega) rfl) (i := 4) (show kd 15 = 9 from rfl) (show (-2147483648 : Int) ≤ _ ∧ _ ≤ (2147483647 : Int) from by omega) rfl) (FR.o (FR.o (FR.o ht_M (show kd 15 = 9 from rfl) rfl) (show kd 15 = 9 from rfl) rfl) (show kd 15 = 9 from rfl) rfl) (by omega) )
      · refine jr.iconst rfl ?_
        exact jr.ireturn rfl rfl rfl (q _ _ (CI.u (CI.u hC_M (i := 5) (show kd 15 = 9 from rfl) (show (0 : Int) ≤ _ ∧ _ ≤ (1 : Int) from by omega) rfl) (i := 3) (show kd 15 = 9 from rfl) (show (-2147483648 : Int) ≤ _ ∧ _ ≤ (2147483647 : Int) from by omega) rfl) (FR.o (FR.o ht_M (show kd 15 = 9 from rfl) rfl) (show kd 15 = 9 from rfl) rfl) (by omega) )
def W_c_Machine_ask : List (Nat × Nat) := [(22, 4), (22, 9), (24, 1000), (26, 1000), (28, 1000)]
theorem c_Machine_ask {A : Nat → Option (Nat × (Nat → Int32))} {Q : Option Value → jm → Prop} {T : jm} {M : jm} (hC_M : CI M) (ht_M : FR W_c_Machine_ask T M) {x : Int} (h_x : (-2147483648) ≤ x ∧ x ≤ 2147483647) (q : ∀ (M' : jm), CI M' → FR W_c_Machine_ask T M' → Q none M') : jc A 5 159 [.ref (421), .int (Int32.ofInt (x))] M Q := by
  refine jc_of (m := xm_159) rfl (Nat.le_of_ble_eq_true rfl) rfl ?_
  refine jr.iload_n rfl rfl ?_
  refine jr.bipush rfl (by decide) ?_
  refine jr.icmp_ne rfl rfl (by omega) (by omega) (fun h3 => ?_) (fun h3 => ?_)
  · refine jr.lconst (x := 0) rfl (by decide) ?_
    refine jr.lstore_n rfl (by decide) rfl ?_
    refine jr.iload_n rfl rfl ?_
    refine jr.bipush rfl (by decide) ?_
    refine jr.icmp_lt rfl rfl (by omega) (by omega) (fun h18 => ?_) (fun h18 => ?_)
    · refine jr.lconst (x := 0) rfl (by decide) ?_
      refine jr.lstore rfl (by decide) rfl ?_
      refine jr.aload_n rfl rfl ?_
      refine jr_v rfl rfl (Or.inl rfl) rfl rfl (by decide) rfl ⟨rfl, Nat.le_of_ble_eq_true rfl, Nat.le_of_ble_eq_true rfl⟩ rfl (jc.deep (c_Machine_pop hC_M (FR.rfl _ M)  (fun r1 M1 hC_M1 hf_M1 z1  => ?_)) (by decide))
      have ht_M1 : FR W_c_Machine_ask T M1 := FR.t ht_M hf_M1 (kw_sub rfl)
      refine jr.lstore rfl (by decide) rfl ?_
      refine jr.iload_n rfl rfl ?_
      rcases (show x = 25 ∨ x = 26 ∨ x = 27 ∨ (x ≠ 25 ∧ x ≠ 26 ∧ x ≠ 27 ∧ x ≠ 28 ∧ x ≠ 29) by omega) with h38 | h38 | h38 | h38
      · refine jr.tsw_k 25 rfl h38 rfl ?_
        refine jr.aload_n rfl rfl ?_
        refine jr.lload rfl rfl ?_
        refine jr_v rfl rfl (Or.inl rfl) rfl rfl (by decide) rfl ⟨rfl, Nat.le_of_ble_eq_true rfl, Nat.le_of_ble_eq_true rfl⟩ rfl (jc.deep (c_Machine_askByte hC_M1 (FR.rfl _ M1) (by omega) (fun M2 hC_M2 hf_M2  => ?_)) (by decide))
        have ht_M2 : FR W_c_Machine_ask T M2 := FR.t ht_M1 hf_M2 (kw_sub rfl)
        exact jr.vreturn rfl rfl (q _ hC_M2 ht_M2  )
      · refine jr.tsw_k 26 rfl h38 rfl ?_
        refine jr.aload_n rfl rfl ?_
        refine jr.lload rfl rfl ?_
        refine jr_v rfl rfl (Or.inl rfl) rfl rfl (by decide) rfl ⟨rfl, Nat.le_of_ble_eq_true rfl, Nat.le_of_ble_eq_true rfl⟩ rfl (jc.deep (c_Machine_spend hC_M1 (FR.rfl _ M1) (by omega) (fun M3 hC_M3 hf_M3  => ?_)) (by decide))
        have ht_M3 : FR W_c_Machine_ask T M3 := FR.t ht_M1 hf_M3 (kw_sub rfl)
        exact jr.vreturn rfl rfl (q _ hC_M3 ht_M3  )
      · refine jr.tsw_k 27 rfl h38 rfl ?_
        refine jr.aload_n rfl rfl ?_
        refine jr.lload rfl rfl ?_
        refine jr_v rfl rfl (Or.inl rfl) rfl rfl (by decide) rfl ⟨rfl, Nat.le_of_ble_eq_true rfl, Nat.le_of_ble_eq_true rfl⟩ rfl (jc.deep (c_Machine_askLong hC_M1 (FR.rfl _ M1) (by omega) (fun M4 hC_M4 hf_M4  => ?_)) (by decide))
        have ht_M4 : FR W_c_Machine_ask T M4 := FR.t ht_M1 hf_M4 (kw_sub rfl)
        exact jr.vreturn rfl rfl (q _ hC_M4 ht_M4  )
      · refine jr.tsw_d rfl (by omega) (by omega) rfl ?_
        refine jr.aload_n rfl rfl ?_
        refine jr.lload rfl rfl ?_
        refine jr.lload rfl rfl ?_
        refine jr.lload_n rfl rfl ?_
        refine jr_v rfl rfl (Or.inl rfl) rfl rfl (by decide) rfl ⟨rfl, Nat.le_of_ble_eq_true rfl, Nat.le_of_ble_eq_true rfl⟩ rfl (jc.deep (c_Machine_askHead hC_M1 (FR.rfl _ M1) (by omega) (by omega) (by omega) (fun M5 hC_M5 hf_M5  => ?_)) (by decide))
        have ht_M5 : FR W_c_Machine_ask T M5 := FR.t ht_M1 hf_M5 (kw_sub rfl)
        exact jr.vreturn rfl rfl (q _ hC_M5 ht_M5  )
    · refine jr.aload_n rfl rfl ?_
      refine jr_v rfl rfl (Or.inl rfl) rfl rfl (by decide) rfl ⟨rfl, Nat.le_of_ble_eq_true rfl, Nat.le_of_ble_eq_true rfl⟩ rfl (jc.deep (c_Machine_pop hC_M (FR.rfl _ M)  (fun r6 M6 hC_M6 hf_M6 z6  => ?_)) (by decide))
      have ht_M6 : FR W_c_Machine_ask T M6 := FR.t ht_M hf_M6 (kw_sub rfl)
      refine jr.goto rfl rfl ?_
      refine jr.lstore rfl (by decide) rfl ?_
      refine jr.aload_n rfl rfl ?_
      refine jr_v rfl rfl (Or.inl rfl) rfl rfl (by decide) rfl ⟨rfl, Nat.le_of_ble_eq_true rfl, Nat.le_of_ble_eq_true rfl⟩ rfl (jc.deep (c_Machine_pop hC_M6 (FR.rfl _ M6)  (fun r7 M7 hC_M7 hf_M7 z7  => ?_)) (by decide))
      have ht_M7 : FR W_c_Machine_ask T M7 := FR.t ht_M6 hf_M7 (kw_sub rfl)
      refine jr.lstore rfl (by decide) rfl ?_
      refine jr.iload_n rfl rfl ?_
      rcases (show x = 28 ∨ x = 29 ∨ (x ≠ 25 ∧ x ≠ 26 ∧ x ≠ 27 ∧ x ≠ 28 ∧ x ≠ 29) by omega) with h38 | h38 | h38
      · refine jr.tsw_k 28 rfl h38 rfl ?_
        refine jr.aload_n rfl rfl ?_
        refine jr.lload rfl rfl ?_
        refine jr.lload rfl rfl ?_
        refine jr_v rfl rfl (Or.inl rfl) rfl rfl (by decide) rfl ⟨rfl, Nat.le_of_ble_eq_true rfl, Nat.le_of_ble_eq_true rfl⟩ rfl (jc.deep (c_Machine_askSet hC_M7 (FR.rfl _ M7) (by omega) (by omega) (fun M8 hC_M8 hf_M8  => ?_)) (by decide))
        have ht_M8 : FR W_c_Machine_ask T M8 := FR.t ht_M7 hf_M8 (kw_sub rfl)
        exact jr.vreturn rfl rfl (q _ hC_M8 ht_M8  )
      · refine jr.tsw_k 29 rfl h38 rfl ?_
        refine jr.aload_n rfl rfl ?_
        refine jr.lload rfl rfl ?_
        refine jr.lload rfl rfl ?_
        refine jr_v rfl rfl (Or.inl rfl) rfl rfl (by decide) rfl ⟨rfl, Nat.le_of_ble_eq_true rfl, Nat.le_of_ble_eq_true rfl⟩ rfl (jc.deep (c_Machine_askRow hC_M7 (FR.rfl _ M7) (by omega) (by omega) (fun M9 hC_M9 hf_M9  => ?_)) (by decide))
        have ht_M9 : FR W_c_Machine_ask T M9 := FR.t ht_M7 hf_M9 (kw_sub rfl)
        exact jr.vreturn rfl rfl (q _ hC_M9 ht_M9  )
      · refine jr.tsw_d rfl (by omega) (by omega) rfl ?_
        refine jr.aload_n rfl rfl ?_
        refine jr.lload rfl rfl ?_
        refine jr.lload rfl rfl ?_
        refine jr.lload_n rfl rfl ?_
        refine jr_v rfl rfl (Or.inl rfl) rfl rfl (by decide) rfl ⟨rfl, Nat.le_of_ble_eq_true rfl, Nat.le_of_ble_eq_true rfl⟩ rfl (jc.deep (c_Machine_askHead hC_M7 (FR.rfl _ M7) (by omega) (by omega) (by omega) (fun M10 hC_M10 hf_M10  => ?_)) (by decide))
        have ht_M10 : FR W_c_Machine_ask T M10 := FR.t ht_M7 hf_M10 (kw_sub rfl)
        exact jr.vreturn rfl rfl (q _ hC_M10 ht_M10  )
  · refine jr.aload_n rfl rfl ?_
    refine jr_v rfl rfl (Or.inl rfl) rfl rfl (by decide) rfl ⟨rfl, Nat.le_of_ble_eq_true rfl, Nat.le_of_ble_eq_true rfl⟩ rfl (jc.deep (c_Machine_pop hC_M (FR.rfl _ M)  (fun r11 M11 hC_M11 hf_M11 z11  => ?_)) (by decide))
    have ht_M11 : FR W_c_Machine_ask T M11 := FR.t ht_M hf_M11 (kw_sub rfl)
    refine jr.goto rfl rfl ?_
    refine jr.lstore_n rfl (by decide) rfl ?_
    refine jr.iload_n rfl rfl ?_
    refine jr.bipush rfl (by decide) ?_
    refine jr.icmp_lt rfl rfl (by omega) (by omega) (fun h18 => ?_) (fun h18 => ?_)
    · exact absurd h18 (by omega)
    · refine jr.aload_n rfl rfl ?_
      refine jr_v rfl rfl (Or.inl rfl) rfl rfl (by decide) rfl ⟨rfl, Nat.le_of_ble_eq_true rfl, Nat.le_of_ble_eq_true rfl⟩ rfl (jc.deep (c_Machine_pop hC_M11 (FR.rfl _ M11)  (fun r12 M12 hC_M12 hf_M12 z12  => ?_)) (by decide))
      have ht_M12 : FR W_c_Machine_ask T M12 := FR.t ht_M11 hf_M12 (kw_sub rfl)
      refine jr.goto rfl rfl ?_
      refine jr.lstore rfl (by decide) rfl ?_
      refine jr.aload_n rfl rfl ?_
      refine jr_v rfl rfl (Or.inl rfl) rfl rfl (by decide) rfl ⟨rfl, Nat.le_of_ble_eq_true rfl, Nat.le_of_ble_eq_true rfl⟩ rfl (jc.deep (c_Machine_pop hC_M12 (FR.rfl _ M12)  (fun r13 M13 hC_M13 hf_M13 z13  => ?_)) (by decide))
      have ht_M13 : FR W_c_Machine_ask T M13 := FR.t ht_M12 hf_M13 (kw_sub rfl)
      refine jr.lstore rfl (by decide) rfl ?_
      refine jr.iload_n rfl rfl ?_
      rcases (show (x ≠ 25 ∧ x ≠ 26 ∧ x ≠ 27 ∧ x ≠ 28 ∧ x ≠ 29) by omega) with h38
      · refine jr.tsw_d rfl (by omega) (by omega) rfl ?_
        refine jr.aload_n rfl rfl ?_
        refine jr.lload rfl rfl ?_
        refine jr.lload rfl rfl ?_
        refine jr.lload_n rfl rfl ?_
        refine jr_v rfl rfl (Or.inl rfl) rfl rfl (by decide) rfl ⟨rfl, Nat.le_of_ble_eq_true rfl, Nat.le_of_ble_eq_true rfl⟩ rfl (jc.deep (c_Machine_askHead hC_M13 (FR.rfl _ M13) (by omega) (by omega) (by omega) (fun M14 hC_M14 hf_M14  => ?_)) (by decide))
        have ht_M14 : FR W_c_Machine_ask T M14 := FR.t ht_M13 hf_M14 (kw_sub rfl)
        exact jr.vreturn rfl rfl (q _ hC_M14 ht_M14  )
def W_c_Flows_flowOf : List (Nat × Nat) := [(1, 1), (1, 2), (2, 1000), (7, 1000), (9, 3), (9, 4), (9, 5)]
theorem c_Flows_flowOf {A : Nat → Option (Nat × (Nat → Int32))} {Q : Option Value → jm → Prop} {T : jm} {M : jm} (hC_M : CI M) (ht_M : FR W_c_Flows_flowOf T M) {x : Nat} (k_x : kd x = 18) (q : ∀ (r : Int) (M' : jm), CI M' → FR W_c_Flows_flowOf T M' → (-2147483648) ≤ r ∧ r ≤ 2147483647 → Q (some (.int (Int32.ofInt r))) M') : jc A 6 78 [.ref (15), .ref (x)] M Q := by
  refine jc_of (m := xm_78) rfl (Nat.le_of_ble_eq_true rfl) rfl ?_
  refine jr.aload_n rfl rfl ?_
  refine jr.aload_n rfl rfl ?_
  refine jr_v rfl rfl (Or.inl rfl) rfl rfl (by decide) rfl ⟨rfl, Nat.le_of_ble_eq_true rfl, Nat.le_of_ble_eq_true rfl⟩ rfl (jc.deep (c_Flows_findEnds hC_M (FR.rfl _ M) k_x (fun r1 M1 hC_M1 hf_M1 z1  => ?_)) (by decide))
  have ht_M1 : FR W_c_Flows_flowOf T M1 := FR.t ht_M hf_M1 (kw_sub rfl)
  refine jr.if_eq rfl rfl (by omega) (fun h5 => ?_) (fun h5 => ?_)
  · refine jr.iconst rfl ?_
    exact jr.ireturn rfl rfl rfl (q _ _ hC_M1 ht_M1 (by omega) )
  · refine jr.aload_n rfl rfl ?_
    obtain ⟨v3, e3⟩ : ∃ z_, M 15 0 = z_ := ⟨_, rfl⟩
    have b3 : 16 ≤ v3 ∧ v3 ≤ 17 := by rw [← e3]; exact (CI.r hC_M (show kd 15 = 9 from rfl) (by decide) 0)
    have e4 : M1 15 0 = v3 := (hf_M1.g (show kd 15 = 9 from rfl) rfl).trans e3
    refine jr_v rfl rfl (Or.inl rfl) rfl rfl (by decide) rfl ⟨rfl, Nat.le_of_ble_eq_true rfl, Nat.le_of_ble_eq_true rfl⟩ rfl (jc.deep (c_Flows_flowOfEnds hC_M1  e4 (fun r2 z2 w2_0 => ?_)) (by decide))
    refine jr.goto rfl rfl ?_
    exact jr.ireturn rfl rfl rfl (q _ _ hC_M1 ht_M1 (by omega) )
def W_c_Flows_rewrite : List (Nat × Nat) := [(1, 1), (1, 2), (2, 1000), (7, 1000), (9, 3), (9, 4), (9, 5), (34, 1000)]
theorem c_Flows_rewrite {A : Nat → Option (Nat × (Nat → Int32))} {Q : Option Value → jm → Prop} {T : jm} {M : jm} (hC_M : CI M) (ht_M : FR W_c_Flows_rewrite T M) {x : Nat} (k_x : kd x = 18) (q : ∀ (r : Int) (M' : jm), CI M' → FR W_c_Flows_rewrite T M' → (-2147483648) ≤ r ∧ r ≤ 2147483647 → Q (some (.int (Int32.ofInt r))) M') : jc A 6 82 [.ref (15), .ref (x)] M Q := by
  refine jc_of (m := xm_82) rfl (Nat.le_of_ble_eq_true rfl) rfl ?_
  refine jr.aload_n rfl rfl ?_
  refine jr.aload_n rfl rfl ?_
  refine jr_v rfl rfl (Or.inl rfl) rfl rfl (by decide) rfl ⟨rfl, Nat.le_of_ble_eq_true rfl, Nat.le_of_ble_eq_true rfl⟩ rfl (jc.deep (c_Flows_findEnds hC_M (FR.rfl _ M) k_x (fun r1 M1 hC_M1 hf_M1 z1  => ?_)) (by decide))
  have ht_M1 : FR W_c_Flows_rewrite T M1 := FR.t ht_M hf_M1 (kw_sub rfl)
  refine jr.if_eq rfl rfl (by omega) (fun h5 => ?_) (fun h5 => ?_)
  · refine jr.bipush rfl (by decide) ?_
    exact jr.ireturn rfl rfl rfl (q _ _ hC_M1 ht_M1 (by omega) )
  · refine jr.aload_n rfl rfl ?_
    obtain ⟨v2, e2⟩ : ∃ z_, M1 15 5 = z_ := ⟨_, rfl⟩
    have b2 : 0 ≤ v2 ∧ v2 ≤ 1 := by rw [← e2]; exact (CI.r hC_M1 (show kd 15 = 9 from rfl) (by decide) 5)
    refine jr.getf (i := 5) (x := v2) (v := .int (Int32.ofInt (v2))) rfl rfl (by decide) rfl (by decide) rfl rfl e2 rfl ?_
    refine jr.if_eq rfl rfl (by omega) (fun h12 => ?_) (fun h12 => ?_)
    · refine jr.aload_n rfl rfl ?_
      obtain ⟨v4, e4⟩ : ∃ z_, M 15 0 = z_ := ⟨_, rfl⟩
      have b4 : 16 ≤ v4 ∧ v4 ≤ 17 := by rw [← e4]; exact (CI.r hC_M (show kd 15 = 9 from rfl) (by decide) 0)
      have e5 : M1 15 0 = v4 := (hf_M1.g (show kd 15 = 9 from rfl) rfl).trans e4
      refine jr_v rfl rfl (Or.inl rfl) rfl rfl (by decide) rfl ⟨rfl, Nat.le_of_ble_eq_true rfl, Nat.le_of_ble_eq_true rfl⟩ rfl (jc.deep (c_Flows_flowOfEnds hC_M1  e5 (fun r3 z3 w3_0 => ?_)) (by decide))
      refine jr.istore_n rfl (by decide) rfl ?_
      refine jr.iload_n rfl rfl ?_
      refine jr.iconst rfl ?_
      refine jr.icmp_eq rfl rfl (by omega) (by omega) (fun h25 => ?_) (fun h25 => ?_)
      · refine jr.bipush rfl (by decide) ?_
        exact jr.ireturn rfl rfl rfl (q _ _ hC_M1 ht_M1 (by omega) )
      · refine jr.aload_n rfl rfl ?_
        have k6 : kd (v4).toNat = 13 := by rcases (show v4 = 16 ∨ v4 = 17 by omega) with h | h <;> (rw [h]; rfl)
        refine jr.getf (i := 0) (x := v4) (v := .ref (v4.toNat)) rfl rfl (by decide) rfl (by decide) rfl rfl e5 rfl ?_
        refine jr.iload_n rfl rfl ?_
        have k7 := kxe_13 k6 (i := r3) (by omega) (by omega)
        refine jr.aald (c := (xe ((v4.toNat)) r3)) rfl (Nat.lt_trans (kx_13 k6).1 (by decide)) (kx_13 k6).2 (by decide) (by decide) rfl (by decide) (by omega) (by omega) k7.1 ?_
        obtain ⟨v8, e8⟩ : ∃ z_, M ((xe ((v4.toNat)) r3)) 13 = z_ := ⟨_, rfl⟩
        have b8 : (-2147483648) ≤ v8 ∧ v8 ≤ 2147483647 := by rw [← e8]; exact (CI.r hC_M k7.2 (by decide) 13)
        have e9 : M1 ((xe ((v4.toNat)) r3)) 13 = v8 := (hf_M1.g k7.2 rfl).trans e8
        refine jr.getf (i := 13) (x := v8) (v := .int (Int32.ofInt (v8))) rfl rfl (Nat.lt_trans (kx_1 k7.2).1 (by decide)) (kx_1 k7.2).2 (by decide) rfl rfl e9 rfl ?_
        refine jr.iconst rfl ?_
        refine jr.icmp_ne rfl rfl (by omega) (by omega) (fun h38 => ?_) (fun h38 => ?_)
        · refine jr.aload_n rfl rfl ?_
          have k10 : kd (v4).toNat = 13 := by rcases (show v4 = 16 ∨ v4 = 17 by omega) with h | h <;> (rw [h]; rfl)
          refine jr.getf (i := 0) (x := v4) (v := .ref (v4.toNat)) rfl rfl (by decide) rfl (by decide) rfl rfl e5 rfl ?_
          refine jr.iload_n rfl rfl ?_
          have k11 := kxe_13 k10 (i := r3) (by omega) (by omega)
          refine jr.aald (c := (xe ((v4.toNat)) r3)) rfl (Nat.lt_trans (kx_13 k10).1 (by decide)) (kx_13 k10).2 (by decide) (by decide) rfl (by decide) (by omega) (by omega) k11.1 ?_
          refine jr.astore_n rfl (by decide) rfl ?_
          refine jr.aload_n rfl rfl ?_
          refine jr.aload_n rfl rfl ?_
          refine jr.getf (i := 2) (v := .ref 18) rfl rfl (by decide) rfl (by decide) rfl rfl rfl rfl ?_
          refine jr_v rfl rfl (Or.inl rfl) rfl rfl (Nat.lt_trans (kx_1 k11.2).1 (by decide)) (kx_1 k11.2).2 ⟨rfl, Nat.le_of_ble_eq_true rfl, Nat.le_of_ble_eq_true rfl⟩ rfl (jc.deep (c_Flow_sideOf_d hC_M1 k11.2 (show kd 18 = 1 from rfl) (fun r12 z12 w12_0 => ?_)) (by decide))
          refine jr.istore rfl (by decide) rfl ?_
          refine jr.aload_n rfl rfl ?_
          obtain ⟨v13, e13⟩ : ∃ z_, M x 7 = z_ := ⟨_, rfl⟩
          have b13 : 0 ≤ v13 ∧ v13 ≤ 597 := by rw [← e13]; exact (CI.r hC_M k_x (by decide) 7)
          have e14 : M1 x 7 = v13 := (hf_M1.g k_x rfl).trans e13
          have k15 : kd (v13).toNat = 33 := ((congrArg (fun z : Int => kd z.toNat) (show M1 x 7 = v13 from e14)).symm.trans (CI.x hC_M1 k_x 7 rfl (by decide)))
          refine jr.getf (i := 7) (x := v13) (v := .ref (v13.toNat)) rfl rfl (Nat.lt_trans (kx_18 k_x).1 (by decide)) (kx_18 k_x).2 (by decide) rfl rfl e14 (jval_mut rfl (kn_18_7 k_x)) ?_
          have k16 := kf_33_0 k15
          refine jr.getf (i := 0) (v := .ref ((v13.toNat) + 1)) rfl rfl (Nat.lt_trans (kx_33 k15).1 (by decide)) (kx_33 k15).2 (by decide) rfl rfl rfl (jval_ref rfl k16.1) ?_
          refine jr.astore rfl (by decide) rfl ?_
          refine jr.aload_n rfl rfl ?_
          refine jr.aload_n rfl rfl ?_
          obtain ⟨v17, e17⟩ : ∃ z_, M1 15 3 = z_ := ⟨_, rfl⟩
          have b17 : (-2147483648) ≤ v17 ∧ v17 ≤ 2147483647 := by rw [← e17]; exact (CI.r hC_M1 (show kd 15 = 9 from rfl) (by decide) 3)
          refine jr.getf (i := 3) (x := v17) (v := .int (Int32.ofInt (v17))) rfl rfl (by decide) rfl (by decide) rfl rfl e17 rfl ?_
          refine jr_v rfl rfl (Or.inl rfl) rfl rfl (Nat.lt_trans (kx_18 k_x).1 (by decide)) (kx_18 k_x).2 ⟨rfl, Nat.le_of_ble_eq_true rfl, Nat.le_of_ble_eq_true rfl⟩ rfl (jc.deep (c_Headers_placeAt hC_M1 k_x (by omega) (fun r18 z18 w18_0 => ?_)) (by decide))
          refine jr.iload rfl rfl ?_
          refine jr.if_ne rfl rfl (by omega) (fun h80 => ?_) (fun h80 => ?_)
          · refine jr.bipush rfl (by decide) ?_
            refine jr.iadd rfl ?_
            refine jr.istore rfl (by decide) rfl ?_
            refine jr.aload_n rfl rfl ?_
            refine jr.aload_n rfl rfl ?_
            obtain ⟨v19, e19⟩ : ∃ z_, M1 15 4 = z_ := ⟨_, rfl⟩
            have b19 : (-2147483648) ≤ v19 ∧ v19 ≤ 2147483647 := by rw [← e19]; exact (CI.r hC_M1 (show kd 15 = 9 from rfl) (by decide) 4)
            refine jr.getf (i := 4) (x := v19) (v := .int (Int32.ofInt (v19))) rfl rfl (by decide) rfl (by decide) rfl rfl e19 rfl ?_
            refine jr_v rfl rfl (Or.inl rfl) rfl rfl (Nat.lt_trans (kx_18 k_x).1 (by decide)) (kx_18 k_x).2 ⟨rfl, Nat.le_of_ble_eq_true rfl, Nat.le_of_ble_eq_true rfl⟩ rfl (jc.deep (c_Headers_placeAt hC_M1 k_x (by omega) (fun r20 z20 w20_0 => ?_)) (by decide))
            refine jr.iload rfl rfl ?_
            refine jr.if_ne rfl rfl (by omega) (fun h103 => ?_) (fun h103 => ?_)
            · refine jr.iconst rfl ?_
              refine jr.iadd rfl ?_
              refine jr.istore rfl (by decide) rfl ?_
              refine jr.aload rfl rfl ?_
              refine jr.iload rfl rfl ?_
              refine jr.iconst rfl ?_
              refine jr.iload rfl rfl ?_
              refine jr.if_ne rfl rfl (by omega) (fun h121 => ?_) (fun h121 => ?_)
              · refine jr.aload_n rfl rfl ?_
                have k21 := kf_1_3 k11.2
                refine jr.getf (i := 3) (v := .ref ((xe ((v4.toNat)) r3) + 1)) rfl rfl (Nat.lt_trans (kx_1 k11.2).1 (by decide)) (kx_1 k11.2).2 (by decide) rfl rfl rfl (jval_ref rfl k21.1) ?_
                refine jr.iconst rfl ?_
                obtain ⟨v22, e22⟩ : ∃ z_, M1 (((xe ((v4.toNat)) r3) + 1)) 0 = z_ := ⟨_, rfl⟩
                have b22 : (-9223372036854775808) ≤ v22 ∧ v22 ≤ 9223372036854775807 := by rw [← e22]; exact (CI.r hC_M1 k21.2 (by decide) 0)
                refine jr.lald (i := 0) (x := v22) rfl (Nat.lt_trans (kx_2 k21.2).1 (by decide)) (kx_2 k21.2).2 (by decide) (by omega) (by omega) e22 ?_
                refine jr_s rfl rfl (Or.inr rfl) ⟨Nat.le_of_ble_eq_true rfl, Nat.le_of_ble_eq_true rfl⟩ rfl rfl (jc.deep (c_PacketWall_putNumber_p hC_M1 (FR.rfl _ M1) k16.2 (by omega) (by omega) (by omega) (fun M23 hC_M23 hf_M23  => ?_)) (by decide))
                have ht_M23 : FR W_c_Flows_rewrite T M23 := FR.t ht_M1 hf_M23 (kw_sub rfl)
                refine jr.aload rfl rfl ?_
                refine jr.iload rfl rfl ?_
                refine jr.iconst rfl ?_
                refine jr.iload rfl rfl ?_
                refine jr.if_ne rfl rfl (by omega) (fun h147 => ?_) (fun h147 => ?_)
                · refine jr.aload_n rfl rfl ?_
                  have k24 := kf_1_4 k11.2
                  refine jr.getf (i := 4) (v := .ref ((xe ((v4.toNat)) r3) + 2)) rfl rfl (Nat.lt_trans (kx_1 k11.2).1 (by decide)) (kx_1 k11.2).2 (by decide) rfl rfl rfl (jval_ref rfl k24.1) ?_
                  refine jr.iconst rfl ?_
                  obtain ⟨v25, e25⟩ : ∃ z_, M1 (((xe ((v4.toNat)) r3) + 2)) 0 = z_ := ⟨_, rfl⟩
                  have b25 : (-2147483648) ≤ v25 ∧ v25 ≤ 2147483647 := by rw [← e25]; exact (CI.r hC_M1 k24.2 (by decide) 0)
                  have e26 : M23 (((xe ((v4.toNat)) r3) + 2)) 0 = v25 := (hf_M23.g k24.2 rfl).trans e25
                  refine jr.iald (i := 0) (x := v25) rfl (Nat.lt_trans (kx_7 k24.2).1 (by decide)) (kx_7 k24.2).2 (by decide) (by omega) (by omega) e26 ?_
                  refine jr.i2l rfl (by omega) ?_
                  refine jr_s rfl rfl (Or.inr rfl) ⟨Nat.le_of_ble_eq_true rfl, Nat.le_of_ble_eq_true rfl⟩ rfl rfl (jc.deep (c_PacketWall_putNumber_p hC_M23 (FR.rfl _ M23) k16.2 (by omega) (by omega) (by omega) (fun M27 hC_M27 hf_M27  => ?_)) (by decide))
                  have ht_M27 : FR W_c_Flows_rewrite T M27 := FR.t ht_M23 hf_M27 (kw_sub rfl)
                  refine jr.aload_n rfl rfl ?_
                  refine jr.aload_n rfl rfl ?_
                  have e28 : M23 15 4 = v19 := (hf_M23.g (show kd 15 = 9 from rfl) rfl).trans e19
                  have e29 : M27 15 4 = v19 := (hf_M27.g (show kd 15 = 9 from rfl) rfl).trans e28
                  refine jr.getf (i := 4) (x := v19) (v := .int (Int32.ofInt (v19))) rfl rfl (by decide) rfl (by decide) rfl rfl e29 rfl ?_
                  refine jr_v rfl rfl (Or.inl rfl) rfl rfl (Nat.lt_trans (kx_18 k_x).1 (by decide)) (kx_18 k_x).2 ⟨rfl, Nat.le_of_ble_eq_true rfl, Nat.le_of_ble_eq_true rfl⟩ rfl (jc.deep (c_Headers_mend hC_M27 (FR.rfl _ M27) k_x (by omega) (fun r30 M30 hC_M30 hf_M30 z30  => ?_)) (by decide))
                  have ht_M30 : FR W_c_Flows_rewrite T M30 := FR.t ht_M27 hf_M30 (kw_sub rfl)
                  refine jr.pop rfl rfl ?_
                  refine jr.aload_n rfl rfl ?_
                  refine jr.aload_n rfl rfl ?_
                  have e31 : M23 15 3 = v17 := (hf_M23.g (show kd 15 = 9 from rfl) rfl).trans e17
                  have e32 : M27 15 3 = v17 := (hf_M27.g (show kd 15 = 9 from rfl) rfl).trans e31
                  have e33 : M30 15 3 = v17 := (hf_M30.g (show kd 15 = 9 from rfl) rfl).trans e32
                  refine jr.getf (i := 3) (x := v17) (v := .int (Int32.ofInt (v17))) rfl rfl (by decide) rfl (by decide) rfl rfl e33 rfl ?_
                  refine jr_v rfl rfl (Or.inl rfl) rfl rfl (Nat.lt_trans (kx_18 k_x).1 (by decide)) (kx_18 k_x).2 ⟨rfl, Nat.le_of_ble_eq_true rfl, Nat.le_of_ble_eq_true rfl⟩ rfl (jc.deep (c_Headers_mend hC_M30 (FR.rfl _ M30) k_x (by omega) (fun r34 M34 hC_M34 hf_M34 z34  => ?_)) (by decide))
                  have ht_M34 : FR W_c_Flows_rewrite T M34 := FR.t ht_M30 hf_M34 (kw_sub rfl)
                  refine jr.pop rfl rfl ?_
                  refine jr.iload rfl rfl ?_
                  exact jr.ireturn rfl rfl rfl (q _ _ hC_M34 ht_M34 (by omega) )
                · refine jr.aload_n rfl rfl ?_
                  obtain ⟨v35, e35⟩ : ∃ z_, M ((xe ((v4.toNat)) r3)) 15 = z_ := ⟨_, rfl⟩
                  have b35 : (-2147483648) ≤ v35 ∧ v35 ≤ 2147483647 := by rw [← e35]; exact (CI.r hC_M k11.2 (by decide) 15)
                  have e36 : M1 ((xe ((v4.toNat)) r3)) 15 = v35 := (hf_M1.g k11.2 rfl).trans e35
                  have e37 : M23 ((xe ((v4.toNat)) r3)) 15 = v35 := (hf_M23.g k11.2 rfl).trans e36
                  refine jr.getf (i := 15) (x := v35) (v := .int (Int32.ofInt (v35))) rfl rfl (Nat.lt_trans (kx_1 k11.2).1 (by decide)) (kx_1 k11.2).2 (by decide) rfl rfl e37 rfl ?_
                  refine jr.i2l rfl (by omega) ?_
                  refine jr.goto rfl rfl ?_
                  refine jr_s rfl rfl (Or.inr rfl) ⟨Nat.le_of_ble_eq_true rfl, Nat.le_of_ble_eq_true rfl⟩ rfl rfl (jc.deep (c_PacketWall_putNumber_p hC_M23 (FR.rfl _ M23) k16.2 (by omega) (by omega) (by omega) (fun M38 hC_M38 hf_M38  => ?_)) (by decide))
                  have ht_M38 : FR W_c_Flows_rewrite T M38 := FR.t ht_M23 hf_M38 (kw_sub rfl)
                  refine jr.aload_n rfl rfl ?_
                  refine jr.aload_n rfl rfl ?_
                  have e39 : M23 15 4 = v19 := (hf_M23.g (show kd 15 = 9 from rfl) rfl).trans e19
                  have e40 : M38 15 4 = v19 := (hf_M38.g (show kd 15 = 9 from rfl) rfl).trans e39
                  refine jr.getf (i := 4) (x := v19) (v := .int (Int32.ofInt (v19))) rfl rfl (by decide) rfl (by decide) rfl rfl e40 rfl ?_
                  refine jr_v rfl rfl (Or.inl rfl) rfl rfl (Nat.lt_trans (kx_18 k_x).1 (by decide)) (kx_18 k_x).2 ⟨rfl, Nat.le_of_ble_eq_true rfl, Nat.le_of_ble_eq_true rfl⟩ rfl (jc.deep (c_Headers_mend hC_M38 (FR.rfl _ M38) k_x (by omega) (fun r41 M41 hC_M41 hf_M41 z41  => ?_)) (by decide))
                  have ht_M41 : FR W_c_Flows_rewrite T M41 := FR.t ht_M38 hf_M41 (kw_sub rfl)
                  refine jr.pop rfl rfl ?_
                  refine jr.aload_n rfl rfl ?_
                  refine jr.aload_n rfl rfl ?_
                  have e42 : M23 15 3 = v17 := (hf_M23.g (show kd 15 = 9 from rfl) rfl).trans e17
                  have e43 : M38 15 3 = v17 := (hf_M38.g (show kd 15 = 9 from rfl) rfl).trans e42
                  have e44 : M41 15 3 = v17 := (hf_M41.g (show kd 15 = 9 from rfl) rfl).trans e43
                  refine jr.getf (i := 3) (x := v17) (v := .int (Int32.ofInt (v17))) rfl rfl (by decide) rfl (by decide) rfl rfl e44 rfl ?_
                  refine jr_v rfl rfl (Or.inl rfl) rfl rfl (Nat.lt_trans (kx_18 k_x).1 (by decide)) (kx_18 k_x).2 ⟨rfl, Nat.le_of_ble_eq_true rfl, Nat.le_of_ble_eq_true rfl⟩ rfl (jc.deep (c_Headers_mend hC_M41 (FR.rfl _ M41) k_x (by omega) (fun r45 M45 hC_M45 hf_M45 z45  => ?_)) (by decide))
                  have ht_M45 : FR W_c_Flows_rewrite T M45 := FR.t ht_M41 hf_M45 (kw_sub rfl)
                  refine jr.pop rfl rfl ?_
                  refine jr.iload rfl rfl ?_
                  exact jr.ireturn rfl rfl rfl (q _ _ hC_M45 ht_M45 (by omega) )
              · refine jr.aload_n rfl rfl ?_
                obtain ⟨v46, e46⟩ : ∃ z_, M ((xe ((v4.toNat)) r3)) 14 = z_ := ⟨_, rfl⟩
                have b46 : (-9223372036854775808) ≤ v46 ∧ v46 ≤ 9223372036854775807 := by rw [← e46]; exact (CI.r hC_M k11.2 (by decide) 14)
                have e47 : M1 ((xe ((v4.toNat)) r3)) 14 = v46 := (hf_M1.g k11.2 rfl).trans e46
                refine jr.getf (i := 14) (x := v46) (v := .long (Int64.ofInt (v46))) rfl rfl (Nat.lt_trans (kx_1 k11.2).1 (by decide)) (kx_1 k11.2).2 (by decide) rfl rfl e47 rfl ?_
                refine jr.goto rfl rfl ?_
                refine jr_s rfl rfl (Or.inr rfl) ⟨Nat.le_of_ble_eq_true rfl, Nat.le_of_ble_eq_true rfl⟩ rfl rfl (jc.deep (c_PacketWall_putNumber_p hC_M1 (FR.rfl _ M1) k16.2 (by omega) (by omega) (by omega) (fun M48 hC_M48 hf_M48  => ?_)) (by decide))
                have ht_M48 : FR W_c_Flows_rewrite T M48 := FR.t ht_M1 hf_M48 (kw_sub rfl)
                refine jr.aload rfl rfl ?_
                refine jr.iload rfl rfl ?_
                refine jr.iconst rfl ?_
                refine jr.iload rfl rfl ?_
                refine jr.if_ne rfl rfl (by omega) (fun h147 => ?_) (fun h147 => ?_)
                · exact absurd h147 (by omega)
                · refine jr.aload_n rfl rfl ?_
                  obtain ⟨v49, e49⟩ : ∃ z_, M ((xe ((v4.toNat)) r3)) 15 = z_ := ⟨_, rfl⟩
                  have b49 : (-2147483648) ≤ v49 ∧ v49 ≤ 2147483647 := by rw [← e49]; exact (CI.r hC_M k11.2 (by decide) 15)
                  have e50 : M1 ((xe ((v4.toNat)) r3)) 15 = v49 := (hf_M1.g k11.2 rfl).trans e49
                  have e51 : M48 ((xe ((v4.toNat)) r3)) 15 = v49 := (hf_M48.g k11.2 rfl).trans e50
                  refine jr.getf (i := 15) (x := v49) (v := .int (Int32.ofInt (v49))) rfl rfl (Nat.lt_trans (kx_1 k11.2).1 (by decide)) (kx_1 k11.2).2 (by decide) rfl rfl e51 rfl ?_
                  refine jr.i2l rfl (by omega) ?_
                  refine jr.goto rfl rfl ?_
                  refine jr_s rfl rfl (Or.inr rfl) ⟨Nat.le_of_ble_eq_true rfl, Nat.le_of_ble_eq_true rfl⟩ rfl rfl (jc.deep (c_PacketWall_putNumber_p hC_M48 (FR.rfl _ M48) k16.2 (by omega) (by omega) (by omega) (fun M52 hC_M52 hf_M52  => ?_)) (by decide))
                  have ht_M52 : FR W_c_Flows_rewrite T M52 := FR.t ht_M48 hf_M52 (kw_sub rfl)
                  refine jr.aload_n rfl rfl ?_
                  refine jr.aload_n rfl rfl ?_
                  have e53 : M48 15 4 = v19 := (hf_M48.g (show kd 15 = 9 from rfl) rfl).trans e19
                  have e54 : M52 15 4 = v19 := (hf_M52.g (show kd 15 = 9 from rfl) rfl).trans e53
                  refine jr.getf (i := 4) (x := v19) (v := .int (Int32.ofInt (v19))) rfl rfl (by decide) rfl (by decide) rfl rfl e54 rfl ?_
                  refine jr_v rfl rfl (Or.inl rfl) rfl rfl (Nat.lt_trans (kx_18 k_x).1 (by decide)) (kx_18 k_x).2 ⟨rfl, Nat.le_of_ble_eq_true rfl, Nat.le_of_ble_eq_true rfl⟩ rfl (jc.deep (c_Headers_mend hC_M52 (FR.rfl _ M52) k_x (by omega) (fun r55 M55 hC_M55 hf_M55 z55  => ?_)) (by decide))
                  have ht_M55 : FR W_c_Flows_rewrite T M55 := FR.t ht_M52 hf_M55 (kw_sub rfl)
                  refine jr.pop rfl rfl ?_
                  refine jr.aload_n rfl rfl ?_
                  refine jr.aload_n rfl rfl ?_
                  have e56 : M48 15 3 = v17 := (hf_M48.g (show kd 15 = 9 from rfl) rfl).trans e17
                  have e57 : M52 15 3 = v17 := (hf_M52.g (show kd 15 = 9 from rfl) rfl).trans e56
                  have e58 : M55 15 3 = v17 := (hf_M55.g (show kd 15 = 9 from rfl) rfl).trans e57
                  refine jr.getf (i := 3) (x := v17) (v := .int (Int32.ofInt (v17))) rfl rfl (by decide) rfl (by decide) rfl rfl e58 rfl ?_
                  refine jr_v rfl rfl (Or.inl rfl) rfl rfl (Nat.lt_trans (kx_18 k_x).1 (by decide)) (kx_18 k_x).2 ⟨rfl, Nat.le_of_ble_eq_true rfl, Nat.le_of_ble_eq_true rfl⟩ rfl (jc.deep (c_Headers_mend hC_M55 (FR.rfl _ M55) k_x (by omega) (fun r59 M59 hC_M59 hf_M59 z59  => ?_)) (by decide))
                  have ht_M59 : FR W_c_Flows_rewrite T M59 := FR.t ht_M55 hf_M59 (kw_sub rfl)
                  refine jr.pop rfl rfl ?_
                  refine jr.iload rfl rfl ?_
                  exact jr.ireturn rfl rfl rfl (q _ _ hC_M59 ht_M59 (by omega) )
            · refine jr.iconst rfl ?_
              refine jr.goto rfl rfl ?_
              refine jr.iadd rfl ?_
              refine jr.istore rfl (by decide) rfl ?_
              refine jr.aload rfl rfl ?_
              refine jr.iload rfl rfl ?_
              refine jr.iconst rfl ?_
              refine jr.iload rfl rfl ?_
              refine jr.if_ne rfl rfl (by omega) (fun h121 => ?_) (fun h121 => ?_)
              · exact absurd h121 (by omega)
              · refine jr.aload_n rfl rfl ?_
                obtain ⟨v60, e60⟩ : ∃ z_, M ((xe ((v4.toNat)) r3)) 14 = z_ := ⟨_, rfl⟩
                have b60 : (-9223372036854775808) ≤ v60 ∧ v60 ≤ 9223372036854775807 := by rw [← e60]; exact (CI.r hC_M k11.2 (by decide) 14)
                have e61 : M1 ((xe ((v4.toNat)) r3)) 14 = v60 := (hf_M1.g k11.2 rfl).trans e60
                refine jr.getf (i := 14) (x := v60) (v := .long (Int64.ofInt (v60))) rfl rfl (Nat.lt_trans (kx_1 k11.2).1 (by decide)) (kx_1 k11.2).2 (by decide) rfl rfl e61 rfl ?_
                refine jr.goto rfl rfl ?_
                refine jr_s rfl rfl (Or.inr rfl) ⟨Nat.le_of_ble_eq_true rfl, Nat.le_of_ble_eq_true rfl⟩ rfl rfl (jc.deep (c_PacketWall_putNumber_p hC_M1 (FR.rfl _ M1) k16.2 (by omega) (by omega) (by omega) (fun M62 hC_M62 hf_M62  => ?_)) (by decide))
                have ht_M62 : FR W_c_Flows_rewrite T M62 := FR.t ht_M1 hf_M62 (kw_sub rfl)
                refine jr.aload rfl rfl ?_
                refine jr.iload rfl rfl ?_
                refine jr.iconst rfl ?_
                refine jr.iload rfl rfl ?_
                refine jr.if_ne rfl rfl (by omega) (fun h147 => ?_) (fun h147 => ?_)
                · exact absurd h147 (by omega)
                · refine jr.aload_n rfl rfl ?_
                  obtain ⟨v63, e63⟩ : ∃ z_, M ((xe ((v4.toNat)) r3)) 15 = z_ := ⟨_, rfl⟩
                  have b63 : (-2147483648) ≤ v63 ∧ v63 ≤ 2147483647 := by rw [← e63]; exact (CI.r hC_M k11.2 (by decide) 15)
                  have e64 : M1 ((xe ((v4.toNat)) r3)) 15 = v63 := (hf_M1.g k11.2 rfl).trans e63
                  have e65 : M62 ((xe ((v4.toNat)) r3)) 15 = v63 := (hf_M62.g k11.2 rfl).trans e64
                  refine jr.getf (i := 15) (x := v63) (v := .int (Int32.ofInt (v63))) rfl rfl (Nat.lt_trans (kx_1 k11.2).1 (by decide)) (kx_1 k11.2).2 (by decide) rfl rfl e65 rfl ?_
                  refine jr.i2l rfl (by omega) ?_
                  refine jr.goto rfl rfl ?_
                  refine jr_s rfl rfl (Or.inr rfl) ⟨Nat.le_of_ble_eq_true rfl, Nat.le_of_ble_eq_true rfl⟩ rfl rfl (jc.deep (c_PacketWall_putNumber_p hC_M62 (FR.rfl _ M62) k16.2 (by omega) (by omega) (by omega) (fun M66 hC_M66 hf_M66  => ?_)) (by decide))
                  have ht_M66 : FR W_c_Flows_rewrite T M66 := FR.t ht_M62 hf_M66 (kw_sub rfl)
                  refine jr.aload_n rfl rfl ?_
                  refine jr.aload_n rfl rfl ?_
                  have e67 : M62 15 4 = v19 := (hf_M62.g (show kd 15 = 9 from rfl) rfl).trans e19
                  have e68 : M66 15 4 = v19 := (hf_M66.g (show kd 15 = 9 from rfl) rfl).trans e67
                  refine jr.getf (i := 4) (x := v19) (v := .int (Int32.ofInt (v19))) rfl rfl (by decide) rfl (by decide) rfl rfl e68 rfl ?_
                  refine jr_v rfl rfl (Or.inl rfl) rfl rfl (Nat.lt_trans (kx_18 k_x).1 (by decide)) (kx_18 k_x).2 ⟨rfl, Nat.le_of_ble_eq_true rfl, Nat.le_of_ble_eq_true rfl⟩ rfl (jc.deep (c_Headers_mend hC_M66 (FR.rfl _ M66) k_x (by omega) (fun r69 M69 hC_M69 hf_M69 z69  => ?_)) (by decide))
                  have ht_M69 : FR W_c_Flows_rewrite T M69 := FR.t ht_M66 hf_M69 (kw_sub rfl)
                  refine jr.pop rfl rfl ?_
                  refine jr.aload_n rfl rfl ?_
                  refine jr.aload_n rfl rfl ?_
                  have e70 : M62 15 3 = v17 := (hf_M62.g (show kd 15 = 9 from rfl) rfl).trans e17
                  have e71 : M66 15 3 = v17 := (hf_M66.g (show kd 15 = 9 from rfl) rfl).trans e70
                  have e72 : M69 15 3 = v17 := (hf_M69.g (show kd 15 = 9 from rfl) rfl).trans e71
                  refine jr.getf (i := 3) (x := v17) (v := .int (Int32.ofInt (v17))) rfl rfl (by decide) rfl (by decide) rfl rfl e72 rfl ?_
                  refine jr_v rfl rfl (Or.inl rfl) rfl rfl (Nat.lt_trans (kx_18 k_x).1 (by decide)) (kx_18 k_x).2 ⟨rfl, Nat.le_of_ble_eq_true rfl, Nat.le_of_ble_eq_true rfl⟩ rfl (jc.deep (c_Headers_mend hC_M69 (FR.rfl _ M69) k_x (by omega) (fun r73 M73 hC_M73 hf_M73 z73  => ?_)) (by decide))
                  have ht_M73 : FR W_c_Flows_rewrite T M73 := FR.t ht_M69 hf_M73 (kw_sub rfl)
                  refine jr.pop rfl rfl ?_
                  refine jr.iload rfl rfl ?_
                  exact jr.ireturn rfl rfl rfl (q _ _ hC_M73 ht_M73 (by omega) )
          · refine jr.bipush rfl (by decide) ?_
            refine jr.goto rfl rfl ?_
            refine jr.iadd rfl ?_
            refine jr.istore rfl (by decide) rfl ?_
            refine jr.aload_n rfl rfl ?_
            refine jr.aload_n rfl rfl ?_
            obtain ⟨v74, e74⟩ : ∃ z_, M1 15 4 = z_ := ⟨_, rfl⟩
            have b74 : (-2147483648) ≤ v74 ∧ v74 ≤ 2147483647 := by rw [← e74]; exact (CI.r hC_M1 (show kd 15 = 9 from rfl) (by decide) 4)
            refine jr.getf (i := 4) (x := v74) (v := .int (Int32.ofInt (v74))) rfl rfl (by decide) rfl (by decide) rfl rfl e74 rfl ?_
            refine jr_v rfl rfl (Or.inl rfl) rfl rfl (Nat.lt_trans (kx_18 k_x).1 (by decide)) (kx_18 k_x).2 ⟨rfl, Nat.le_of_ble_eq_true rfl, Nat.le_of_ble_eq_true rfl⟩ rfl (jc.deep (c_Headers_placeAt hC_M1 k_x (by omega) (fun r75 z75 w75_0 => ?_)) (by decide))
            refine jr.iload rfl rfl ?_
            refine jr.if_ne rfl rfl (by omega) (fun h103 => ?_) (fun h103 => ?_)
            · exact absurd h103 (by omega)
            · refine jr.iconst rfl ?_
              refine jr.goto rfl rfl ?_
              refine jr.iadd rfl ?_
              refine jr.istore rfl (by decide) rfl ?_
              refine jr.aload rfl rfl ?_
              refine jr.iload rfl rfl ?_
              refine jr.iconst rfl ?_
              refine jr.iload rfl rfl ?_
              refine jr.if_ne rfl rfl (by omega) (fun h121 => ?_) (fun h121 => ?_)
              · exact absurd h121 (by omega)
              · refine jr.aload_n rfl rfl ?_
                obtain ⟨v76, e76⟩ : ∃ z_, M ((xe ((v4.toNat)) r3)) 14 = z_ := ⟨_, rfl⟩
                have b76 : (-9223372036854775808) ≤ v76 ∧ v76 ≤ 9223372036854775807 := by rw [← e76]; exact (CI.r hC_M k11.2 (by decide) 14)
                have e77 : M1 ((xe ((v4.toNat)) r3)) 14 = v76 := (hf_M1.g k11.2 rfl).trans e76
                refine jr.getf (i := 14) (x := v76) (v := .long (Int64.ofInt (v76))) rfl rfl (Nat.lt_trans (kx_1 k11.2).1 (by decide)) (kx_1 k11.2).2 (by decide) rfl rfl e77 rfl ?_
                refine jr.goto rfl rfl ?_
                refine jr_s rfl rfl (Or.inr rfl) ⟨Nat.le_of_ble_eq_true rfl, Nat.le_of_ble_eq_true rfl⟩ rfl rfl (jc.deep (c_PacketWall_putNumber_p hC_M1 (FR.rfl _ M1) k16.2 (by omega) (by omega) (by omega) (fun M78 hC_M78 hf_M78  => ?_)) (by decide))
                have ht_M78 : FR W_c_Flows_rewrite T M78 := FR.t ht_M1 hf_M78 (kw_sub rfl)
                refine jr.aload rfl rfl ?_
                refine jr.iload rfl rfl ?_
                refine jr.iconst rfl ?_
                refine jr.iload rfl rfl ?_
                refine jr.if_ne rfl rfl (by omega) (fun h147 => ?_) (fun h147 => ?_)
                · exact absurd h147 (by omega)
                · refine jr.aload_n rfl rfl ?_
                  obtain ⟨v79, e79⟩ : ∃ z_, M ((xe ((v4.toNat)) r3)) 15 = z_ := ⟨_, rfl⟩
                  have b79 : (-2147483648) ≤ v79 ∧ v79 ≤ 2147483647 := by rw [← e79]; exact (CI.r hC_M k11.2 (by decide) 15)
                  have e80 : M1 ((xe ((v4.toNat)) r3)) 15 = v79 := (hf_M1.g k11.2 rfl).trans e79
                  have e81 : M78 ((xe ((v4.toNat)) r3)) 15 = v79 := (hf_M78.g k11.2 rfl).trans e80
                  refine jr.getf (i := 15) (x := v79) (v := .int (Int32.ofInt (v79))) rfl rfl (Nat.lt_trans (kx_1 k11.2).1 (by decide)) (kx_1 k11.2).2 (by decide) rfl rfl e81 rfl ?_
                  refine jr.i2l rfl (by omega) ?_
                  refine jr.goto rfl rfl ?_
                  refine jr_s rfl rfl (Or.inr rfl) ⟨Nat.le_of_ble_eq_true rfl, Nat.le_of_ble_eq_true rfl⟩ rfl rfl (jc.deep (c_PacketWall_putNumber_p hC_M78 (FR.rfl _ M78) k16.2 (by omega) (by omega) (by omega) (fun M82 hC_M82 hf_M82  => ?_)) (by decide))
                  have ht_M82 : FR W_c_Flows_rewrite T M82 := FR.t ht_M78 hf_M82 (kw_sub rfl)
                  refine jr.aload_n rfl rfl ?_
                  refine jr.aload_n rfl rfl ?_
                  have e83 : M78 15 4 = v74 := (hf_M78.g (show kd 15 = 9 from rfl) rfl).trans e74
                  have e84 : M82 15 4 = v74 := (hf_M82.g (show kd 15 = 9 from rfl) rfl).trans e83
                  refine jr.getf (i := 4) (x := v74) (v := .int (Int32.ofInt (v74))) rfl rfl (by decide) rfl (by decide) rfl rfl e84 rfl ?_
                  refine jr_v rfl rfl (Or.inl rfl) rfl rfl (Nat.lt_trans (kx_18 k_x).1 (by decide)) (kx_18 k_x).2 ⟨rfl, Nat.le_of_ble_eq_true rfl, Nat.le_of_ble_eq_true rfl⟩ rfl (jc.deep (c_Headers_mend hC_M82 (FR.rfl _ M82) k_x (by omega) (fun r85 M85 hC_M85 hf_M85 z85  => ?_)) (by decide))
                  have ht_M85 : FR W_c_Flows_rewrite T M85 := FR.t ht_M82 hf_M85 (kw_sub rfl)
                  refine jr.pop rfl rfl ?_
                  refine jr.aload_n rfl rfl ?_
                  refine jr.aload_n rfl rfl ?_
                  have e86 : M78 15 3 = v17 := (hf_M78.g (show kd 15 = 9 from rfl) rfl).trans e17
                  have e87 : M82 15 3 = v17 := (hf_M82.g (show kd 15 = 9 from rfl) rfl).trans e86
                  have e88 : M85 15 3 = v17 := (hf_M85.g (show kd 15 = 9 from rfl) rfl).trans e87
                  refine jr.getf (i := 3) (x := v17) (v := .int (Int32.ofInt (v17))) rfl rfl (by decide) rfl (by decide) rfl rfl e88 rfl ?_
                  refine jr_v rfl rfl (Or.inl rfl) rfl rfl (Nat.lt_trans (kx_18 k_x).1 (by decide)) (kx_18 k_x).2 ⟨rfl, Nat.le_of_ble_eq_true rfl, Nat.le_of_ble_eq_true rfl⟩ rfl (jc.deep (c_Headers_mend hC_M85 (FR.rfl _ M85) k_x (by omega) (fun r89 M89 hC_M89 hf_M89 z89  => ?_)) (by decide))
                  have ht_M89 : FR W_c_Flows_rewrite T M89 := FR.t ht_M85 hf_M89 (kw_sub rfl)
                  refine jr.pop rfl rfl ?_
                  refine jr.iload rfl rfl ?_
                  exact jr.ireturn rfl rfl rfl (q _ _ hC_M89 ht_M89 (by omega) )
        · refine jr.bipush rfl (by decide) ?_
          exact jr.ireturn rfl rfl rfl (q _ _ hC_M1 ht_M1 (by omega) )
    · refine jr.bipush rfl (by decide) ?_
      exact jr.ireturn rfl rfl rfl (q _ _ hC_M1 ht_M1 (by omega) )
def W_c_PacketWall_turn : List (Nat × Nat) := [(1, 1), (1, 2), (2, 1000), (7, 1000), (9, 3), (9, 4), (9, 5), (18, 3), (18, 4), (18, 5), (18, 6), (18, 7), (19, 1000), (20, 1000), (21, 1000), (34, 1000)]
theorem c_PacketWall_turn {A : Nat → Option (Nat × (Nat → Int32))} {Q : Option Value → jm → Prop} {T : jm} {M : jm} (hC_M : CI M) (ht_M : FR W_c_PacketWall_turn T M) {x : Int} (h_x : (-2147483648) ≤ x ∧ x ≤ 2147483647) (q : ∀ (r : Int) (M' : jm), CI M' → FR W_c_PacketWall_turn T M' → (-2147483648) ≤ r ∧ r ≤ 2147483647 → Q (some (.int (Int32.ofInt r))) M') : jc A 7 25 [.ref (0), .int (Int32.ofInt (x))] M Q := by
  refine jc_of (m := xm_25) rfl (Nat.le_of_ble_eq_true rfl) rfl ?_
  refine jr.aload_n rfl rfl ?_
  refine jr.iload_n rfl rfl ?_
  refine jr_v rfl rfl (Or.inl rfl) rfl rfl (by decide) rfl ⟨rfl, Nat.le_of_ble_eq_true rfl, Nat.le_of_ble_eq_true rfl⟩ rfl (jc.deep (c_PacketWall_isPacket hC_M (by omega) (fun r1 z1 w1_0 => ?_)) (by decide))
  refine jr.if_ne rfl rfl (by omega) (fun h5 => ?_) (fun h5 => ?_)
  · refine jr.aload_n rfl rfl ?_
    refine jr.getf (i := 3) (v := .ref 3) rfl rfl (by decide) rfl (by decide) rfl rfl rfl rfl ?_
    refine jr.aload_n rfl rfl ?_
    refine jr.getf (i := 2) (v := .ref 2) rfl rfl (by decide) rfl (by decide) rfl rfl rfl rfl ?_
    refine jr.iload_n rfl rfl ?_
    have k2 := kxe_42 (a := 2) rfl (i := x) (by omega) (by omega)
    refine jr.aald (c := (xe 2 x)) rfl (by decide) rfl (by decide) (by decide) rfl (by decide) (by omega) (by omega) k2.1 ?_
    refine jr_v rfl rfl (Or.inl rfl) rfl rfl (by decide) rfl ⟨rfl, Nat.le_of_ble_eq_true rfl, Nat.le_of_ble_eq_true rfl⟩ rfl (jc.deep (c_Headers_readAll hC_M (FR.rfl _ M) (show kd 3 = 18 from rfl) k2.2 (fun M3 hC_M3 hf_M3 w3_0 => ?_)) (by decide))
    have ht_M3 : FR W_c_PacketWall_turn T M3 := FR.t ht_M hf_M3 (kw_sub rfl)
    refine jr.aload_n rfl rfl ?_
    refine jr.getf (i := 9) (v := .ref 15) rfl rfl (by decide) rfl (by decide) rfl rfl rfl rfl ?_
    refine jr.aload_n rfl rfl ?_
    refine jr.getf (i := 3) (v := .ref 3) rfl rfl (by decide) rfl (by decide) rfl rfl rfl rfl ?_
    refine jr_v rfl rfl (Or.inl rfl) rfl rfl (by decide) rfl ⟨rfl, Nat.le_of_ble_eq_true rfl, Nat.le_of_ble_eq_true rfl⟩ rfl (jc.deep (c_Flows_rewrite hC_M3 (FR.rfl _ M3) (show kd 3 = 18 from rfl) (fun r4 M4 hC_M4 hf_M4 z4  => ?_)) (by decide))
    have ht_M4 : FR W_c_PacketWall_turn T M4 := FR.t ht_M3 hf_M4 (kw_sub rfl)
    exact jr.ireturn rfl rfl rfl (q _ _ hC_M4 ht_M4 (by omega) )
  · refine jr.bipush rfl (by decide) ?_
    exact jr.ireturn rfl rfl rfl (q _ _ hC_M ht_M (by omega) )
def W_c_Flow_takeStream : List (Nat × Nat) := [(1, 5), (1, 12), (3, 1000), (4, 1000), (5, 1000), (6, 1000), (8, 1000)]
theorem c_Flow_takeStream_L208 {A : Nat → Option (Nat × (Nat → Int32))} {Q : Option Value → jm → Prop} {T : jm} {t : Nat} (k_t : kd t = 1) {x : Nat} (k_x : kd x = 18) {y : Int} {z : Int} (q : ∀ (r : Int) (M' : jm), CI M' → FR W_c_Flow_takeStream T M' → (-2147483648) ≤ r ∧ r ≤ 2147483647 → Q (some (.int (Int32.ofInt r))) M') : ∀ (nM : Nat) (M : jm), CI M → FR W_c_Flow_takeStream T M → (-2147483648) ≤ y ∧ y ≤ 2147483647 → 0 ≤ z ∧ z ≤ 1 → 0 ≤ nM → jr A 3 xm_71 208 [(2, .int (Int32.ofInt (y))), (3, .int (Int32.ofInt (z))), (0, .ref (t)), (1, .ref (x))] [] M Q := by
  intro nM
  induction nM using Nat.strongRecOn with
  | ind nM ih =>
    intro M  hC_M ht_M h_y h_z hm
    refine jr.aload_n rfl rfl ?_
    have k1 := kf_1_9 k_t
    refine jr.getf (i := 9) (v := .ref (t + 5)) rfl rfl (Nat.lt_trans (kx_1 k_t).1 (by decide)) (kx_1 k_t).2 (by decide) rfl rfl rfl (jval_ref rfl k1.1) ?_
    refine jr.iload_n rfl rfl ?_
    refine jr.aload_n rfl rfl ?_
    refine jr.iload_n rfl rfl ?_
    refine jr.bipush rfl (by decide) ?_
    refine jr_v rfl rfl (Or.inl rfl) rfl rfl (Nat.lt_trans (kx_18 k_x).1 (by decide)) (kx_18 k_x).2 ⟨rfl, Nat.le_of_ble_eq_true rfl, Nat.le_of_ble_eq_true rfl⟩ rfl (jc.deep (c_Headers_valueOf hC_M k_x (by omega) (by omega) (fun r2 z2  => ?_)) (by decide))
    refine jr.l2i rfl ?_
    refine jr.iw (j_w r2) (j_w_eq _) ?_
    have b3 : -2147483648 ≤ j_w r2 ∧ j_w r2 ≤ 2147483647 := jb_any _
    generalize j_w r2 = v3 at b3 ⊢
    refine jr.iast (i := z) (x := v3) rfl (Nat.lt_trans (kx_8 k1.2).1 (by decide)) (kx_8 k1.2).2 (by decide) (by omega) (by omega) ?_
    refine jr.iconst rfl ?_
    exact jr.ireturn rfl rfl rfl (q _ _ (CI.u hC_M (i := z) k1.2 (show (-2147483648 : Int) ≤ _ ∧ _ ≤ (2147483647 : Int) from by omega) rfl) (FR.o ht_M k1.2 rfl) (by omega) )
theorem c_Flow_takeStream_L160 {A : Nat → Option (Nat × (Nat → Int32))} {Q : Option Value → jm → Prop} {T : jm} {t : Nat} (k_t : kd t = 1) {x : Nat} (k_x : kd x = 18) {y : Int} {z : Int} (q : ∀ (r : Int) (M' : jm), CI M' → FR W_c_Flow_takeStream T M' → (-2147483648) ≤ r ∧ r ≤ 2147483647 → Q (some (.int (Int32.ofInt r))) M') : ∀ (nM : Nat) (M : jm) (b : Int) (sq : Int) (sp : Int), CI M → FR W_c_Flow_takeStream T M → (-2147483648) ≤ y ∧ y ≤ 2147483647 → 0 ≤ z ∧ z ≤ 1 → 0 ≤ b ∧ b ≤ 10 → (-2147483648) ≤ sq ∧ sq ≤ 2147483647 → (-2147483648) ≤ sp ∧ sp ≤ 2147483647 → 0 ≤ nM → jr A 3 xm_71 160 [(2, .int (Int32.ofInt (y))), (3, .int (Int32.ofInt (z))), (6, .int (Int32.ofInt (b))), (7, .int (Int32.ofInt (sq))), (8, .int (Int32.ofInt (sp))), (0, .ref (t)), (1, .ref (x))] [] M Q := by
  intro nM
  induction nM using Nat.strongRecOn with
  | ind nM ih =>
    intro M b sq sp hC_M ht_M h_y h_z h_b h_sq h_sp hm
    refine jr.aload_n rfl rfl ?_
    refine jr.iload rfl rfl ?_
    refine jr.putf (i := 5) (x := b) rfl rfl (Nat.lt_trans (kx_1 k_t).1 (by decide)) (kx_1 k_t).2 (by decide) rfl rfl rfl rfl rfl ?_
    refine jr.aload_n rfl rfl ?_
    have k1 := kf_1_8 k_t
    refine jr.getf (i := 8) (v := .ref (t + 4)) rfl rfl (Nat.lt_trans (kx_1 k_t).1 (by decide)) (kx_1 k_t).2 (by decide) rfl rfl rfl (jval_ref rfl k1.1) ?_
    refine jr.iload_n rfl rfl ?_
    obtain ⟨v2, e2⟩ : ∃ z_, M ((t + 4)) z = z_ := ⟨_, rfl⟩
    have b2 : 0 ≤ v2 ∧ v2 ≤ 1 := by rw [← e2]; exact (CI.r hC_M k1.2 (by decide) z)
    refine jr.zald (i := z) (x := v2) rfl (Nat.lt_trans (kx_4 k1.2).1 (by decide)) (kx_4 k1.2).2 (by decide) (by omega) (by omega) ((ju_c _ _ (kd_ne (by rw [k1.2, k_t]; decide))).trans e2) ?_
    refine jr.if_eq rfl rfl (by omega) (fun h172 => ?_) (fun h172 => ?_)
    · refine jr.aload_n rfl rfl ?_
      have k3 := kf_1_7 k_t
      refine jr.getf (i := 7) (v := .ref (t + 3)) rfl rfl (Nat.lt_trans (kx_1 k_t).1 (by decide)) (kx_1 k_t).2 (by decide) rfl rfl rfl (jval_ref rfl k3.1) ?_
      refine jr.iload_n rfl rfl ?_
      refine jr.iload rfl rfl ?_
      refine jr.iload rfl rfl ?_
      refine jr.iadd rfl ?_
      refine jr.iw (j_w (sq + sp)) (j_w_eq _) ?_
      have b4 : -2147483648 ≤ j_w (sq + sp) ∧ j_w (sq + sp) ≤ 2147483647 := jb_any _
      generalize j_w (sq + sp) = v4 at b4 ⊢
      refine jr.iast (i := z) (x := v4) rfl (Nat.lt_trans (kx_5 k3.2).1 (by decide)) (kx_5 k3.2).2 (by decide) (by omega) (by omega) ?_
      refine jr.aload_n rfl rfl ?_
      have k5 := kf_1_8 k_t
      refine jr.getf (i := 8) (v := .ref (t + 4)) rfl rfl (Nat.lt_trans (kx_1 k_t).1 (by decide)) (kx_1 k_t).2 (by decide) rfl rfl rfl (jval_ref rfl k5.1) ?_
      refine jr.iload_n rfl rfl ?_
      refine jr.iconst rfl ?_
      refine jr.zast (i := z) (x := 1) rfl (Nat.lt_trans (kx_4 k5.2).1 (by decide)) (kx_4 k5.2).2 (by decide) (by omega) (by omega) (j_zn (by omega)) ?_
      refine jr.pick [0, 1, 5, 6] rfl rfl ?_
      exact c_Flow_takeStream_L208 k_t k_x q 0 ((ju (ju (ju M t 5 b) ((t + 3)) z v4) ((t + 4)) z 1))  (CI.u (CI.u (CI.u hC_M (i := 5) k_t (show (-2147483648 : Int) ≤ _ ∧ _ ≤ (2147483647 : Int) from by omega) rfl) (i := z) k3.2 (show (-2147483648 : Int) ≤ _ ∧ _ ≤ (2147483647 : Int) from by omega) rfl) (i := z) k5.2 (show (0 : Int) ≤ _ ∧ _ ≤ (1 : Int) from by omega) rfl) (FR.o (FR.o (FR.o ht_M k_t rfl) k3.2 rfl) k5.2 rfl) (by omega) (by omega)  (by omega)
    · refine jr.iload rfl rfl ?_
      refine jr.iload rfl rfl ?_
      refine jr.iadd rfl ?_
      refine jr.iw (j_w (sq + sp)) (j_w_eq _) ?_
      have b6 : -2147483648 ≤ j_w (sq + sp) ∧ j_w (sq + sp) ≤ 2147483647 := jb_any _
      generalize j_w (sq + sp) = v6 at b6 ⊢
      refine jr.aload_n rfl rfl ?_
      have k7 := kf_1_7 k_t
      refine jr.getf (i := 7) (v := .ref (t + 3)) rfl rfl (Nat.lt_trans (kx_1 k_t).1 (by decide)) (kx_1 k_t).2 (by decide) rfl rfl rfl (jval_ref rfl k7.1) ?_
      refine jr.iload_n rfl rfl ?_
      obtain ⟨v8, e8⟩ : ∃ z_, M ((t + 3)) z = z_ := ⟨_, rfl⟩
      have b8 : (-2147483648) ≤ v8 ∧ v8 ≤ 2147483647 := by rw [← e8]; exact (CI.r hC_M k7.2 (by decide) z)
      refine jr.iald (i := z) (x := v8) rfl (Nat.lt_trans (kx_5 k7.2).1 (by decide)) (kx_5 k7.2).2 (by decide) (by omega) (by omega) ((ju_c _ _ (kd_ne (by rw [k7.2, k_t]; decide))).trans e8) ?_
      refine jr.isub rfl ?_
      refine jr.iw (j_w (v6 - v8)) (j_w_eq _) ?_
      have b9 : -2147483648 ≤ j_w (v6 - v8) ∧ j_w (v6 - v8) ≤ 2147483647 := jb_any _
      generalize j_w (v6 - v8) = v9 at b9 ⊢
      refine jr.if_le rfl rfl (by omega) (fun h187 => ?_) (fun h187 => ?_)
      · refine jr.pick [0, 1, 5, 6] rfl rfl ?_
        exact c_Flow_takeStream_L208 k_t k_x q 0 ((ju M t 5 b))  (CI.u hC_M (i := 5) k_t (show (-2147483648 : Int) ≤ _ ∧ _ ≤ (2147483647 : Int) from by omega) rfl) (FR.o ht_M k_t rfl) (by omega) (by omega)  (by omega)
      · refine jr.aload_n rfl rfl ?_
        have k10 := kf_1_7 k_t
        refine jr.getf (i := 7) (v := .ref (t + 3)) rfl rfl (Nat.lt_trans (kx_1 k_t).1 (by decide)) (kx_1 k_t).2 (by decide) rfl rfl rfl (jval_ref rfl k10.1) ?_
        refine jr.iload_n rfl rfl ?_
        refine jr.iload rfl rfl ?_
        refine jr.iload rfl rfl ?_
        refine jr.iadd rfl ?_
        refine jr.iw (j_w (sq + sp)) (j_w_eq _) ?_
        have b11 : -2147483648 ≤ j_w (sq + sp) ∧ j_w (sq + sp) ≤ 2147483647 := jb_any _
        generalize j_w (sq + sp) = v11 at b11 ⊢
        refine jr.iast (i := z) (x := v11) rfl (Nat.lt_trans (kx_5 k10.2).1 (by decide)) (kx_5 k10.2).2 (by decide) (by omega) (by omega) ?_
        refine jr.aload_n rfl rfl ?_
        have k12 := kf_1_8 k_t
        refine jr.getf (i := 8) (v := .ref (t + 4)) rfl rfl (Nat.lt_trans (kx_1 k_t).1 (by decide)) (kx_1 k_t).2 (by decide) rfl rfl rfl (jval_ref rfl k12.1) ?_
        refine jr.iload_n rfl rfl ?_
        refine jr.iconst rfl ?_
        refine jr.zast (i := z) (x := 1) rfl (Nat.lt_trans (kx_4 k12.2).1 (by decide)) (kx_4 k12.2).2 (by decide) (by omega) (by omega) (j_zn (by omega)) ?_
        refine jr.pick [0, 1, 5, 6] rfl rfl ?_
        exact c_Flow_takeStream_L208 k_t k_x q 0 ((ju (ju (ju M t 5 b) ((t + 3)) z v11) ((t + 4)) z 1))  (CI.u (CI.u (CI.u hC_M (i := 5) k_t (show (-2147483648 : Int) ≤ _ ∧ _ ≤ (2147483647 : Int) from by omega) rfl) (i := z) k10.2 (show (-2147483648 : Int) ≤ _ ∧ _ ≤ (2147483647 : Int) from by omega) rfl) (i := z) k12.2 (show (0 : Int) ≤ _ ∧ _ ≤ (1 : Int) from by omega) rfl) (FR.o (FR.o (FR.o ht_M k_t rfl) k10.2 rfl) k12.2 rfl) (by omega) (by omega)  (by omega)
theorem c_Flow_takeStream_L142 {A : Nat → Option (Nat × (Nat → Int32))} {Q : Option Value → jm → Prop} {T : jm} {t : Nat} (k_t : kd t = 1) {x : Nat} (k_x : kd x = 18) {y : Int} {z : Int} (q : ∀ (r : Int) (M' : jm), CI M' → FR W_c_Flow_takeStream T M' → (-2147483648) ≤ r ∧ r ≤ 2147483647 → Q (some (.int (Int32.ofInt r))) M') : ∀ (nM : Nat) (M : jm) (s : Int) (b : Int) (sq : Int) (sp : Int), CI M → FR W_c_Flow_takeStream T M → (-2147483648) ≤ y ∧ y ≤ 2147483647 → 0 ≤ z ∧ z ≤ 1 → 0 ≤ s ∧ s ≤ 5 → 0 ≤ b ∧ b ≤ 10 → (-2147483648) ≤ sq ∧ sq ≤ 2147483647 → (-2147483648) ≤ sp ∧ sp ≤ 2147483647 → 0 ≤ nM → jr A 3 xm_71 142 [(2, .int (Int32.ofInt (y))), (3, .int (Int32.ofInt (z))), (5, .int (Int32.ofInt (s))), (6, .int (Int32.ofInt (b))), (7, .int (Int32.ofInt (sq))), (8, .int (Int32.ofInt (sp))), (0, .ref (t)), (1, .ref (x))] [] M Q := by
  intro nM
  induction nM using Nat.strongRecOn with
  | ind nM ih =>
    intro M s b sq sp hC_M ht_M h_y h_z h_s h_b h_sq h_sp hm
    refine jr.iload rfl rfl ?_
    refine jr.if_ne rfl rfl (by omega) (fun h144 => ?_) (fun h144 => ?_)
    · refine jr.pick [0, 1, 3, 4, 5, 6, 7] rfl rfl ?_
      exact c_Flow_takeStream_L160 k_t k_x q 0 M b sq sp hC_M ht_M (by omega) (by omega) (by omega) (by omega) (by omega)  (by omega)
    · refine jr.aload_n rfl rfl ?_
      obtain ⟨v1, e1⟩ : ∃ z_, M t 5 = z_ := ⟨_, rfl⟩
      have b1 : (-2147483648) ≤ v1 ∧ v1 ≤ 2147483647 := by rw [← e1]; exact (CI.r hC_M k_t (by decide) 5)
      refine jr.getf (i := 5) (x := v1) (v := .int (Int32.ofInt (v1))) rfl rfl (Nat.lt_trans (kx_1 k_t).1 (by decide)) (kx_1 k_t).2 (by decide) rfl rfl e1 rfl ?_
      refine jr.bipush rfl (by decide) ?_
      refine jr.icmp_lt rfl rfl (by omega) (by omega) (fun h153 => ?_) (fun h153 => ?_)
      · refine jr.pick [0, 1, 3, 4, 5, 6, 7] rfl rfl ?_
        exact c_Flow_takeStream_L160 k_t k_x q 0 M b sq sp hC_M ht_M (by omega) (by omega) (by omega) (by omega) (by omega)  (by omega)
      · refine jr.aload_n rfl rfl ?_
        refine jr_v rfl rfl (Or.inl rfl) rfl rfl (Nat.lt_trans (kx_1 k_t).1 (by decide)) (kx_1 k_t).2 ⟨rfl, Nat.le_of_ble_eq_true rfl, Nat.le_of_ble_eq_true rfl⟩ rfl (jc.deep (c_Flow_forget hC_M (FR.rfl _ M) k_t (fun M2 hC_M2 hf_M2  => ?_)) (by decide))
        have ht_M2 : FR W_c_Flow_takeStream T M2 := FR.t ht_M hf_M2 (kw_sub rfl)
        refine jr.pick [0, 1, 3, 4, 5, 6, 7] rfl rfl ?_
        exact c_Flow_takeStream_L160 k_t k_x q 0 M2 b sq sp hC_M2 ht_M2 (by omega) (by omega) (by omega) (by omega) (by omega)  (by omega)
theorem c_Flow_takeStream_L115 {A : Nat → Option (Nat × (Nat → Int32))} {Q : Option Value → jm → Prop} {T : jm} {t : Nat} (k_t : kd t = 1) {x : Nat} (k_x : kd x = 18) {y : Int} {z : Int} (q : ∀ (r : Int) (M' : jm), CI M' → FR W_c_Flow_takeStream T M' → (-2147483648) ≤ r ∧ r ≤ 2147483647 → Q (some (.int (Int32.ofInt r))) M') : ∀ (nM : Nat) (M : jm) (s : Int) (b : Int) (sq : Int) (sp : Int), CI M → FR W_c_Flow_takeStream T M → (-2147483648) ≤ y ∧ y ≤ 2147483647 → 0 ≤ z ∧ z ≤ 1 → 0 ≤ s ∧ s ≤ 5 → 0 ≤ b ∧ b ≤ 10 → (-2147483648) ≤ sq ∧ sq ≤ 2147483647 → (-2147483648) ≤ sp ∧ sp ≤ 2147483647 → 0 ≤ nM → jr A 3 xm_71 115 [(2, .int (Int32.ofInt (y))), (3, .int (Int32.ofInt (z))), (5, .int (Int32.ofInt (s))), (6, .int (Int32.ofInt (b))), (7, .int (Int32.ofInt (sq))), (8, .int (Int32.ofInt (sp))), (0, .ref (t)), (1, .ref (x))] [] M Q := by
  intro nM
  induction nM using Nat.strongRecOn with
  | ind nM ih =>
    intro M s b sq sp hC_M ht_M h_y h_z h_s h_b h_sq h_sp hm
    refine jr.iload rfl rfl ?_
    refine jr.iconst rfl ?_
    refine jr.icmp_eq rfl rfl (by omega) (by omega) (fun h118 => ?_) (fun h118 => ?_)
    · refine jr.aload_n rfl rfl ?_
      refine jr.iload_n rfl rfl ?_
      refine jr.iload rfl rfl ?_
      refine jr.iload rfl rfl ?_
      refine jr_v rfl rfl (Or.inl rfl) rfl rfl (Nat.lt_trans (kx_1 k_t).1 (by decide)) (kx_1 k_t).2 ⟨rfl, Nat.le_of_ble_eq_true rfl, Nat.le_of_ble_eq_true rfl⟩ rfl (jc.deep (c_Flow_isOut hC_M k_t (by omega) (by omega) (by omega) (fun r1 z1  => ?_)) (by decide))
      refine jr.if_eq rfl rfl (by omega) (fun h136 => ?_) (fun h136 => ?_)
      · refine jr.pick [0, 1, 2, 3, 4, 5, 6, 7] rfl rfl ?_
        exact c_Flow_takeStream_L142 k_t k_x q 0 M s b sq sp hC_M ht_M (by omega) (by omega) (by omega) (by omega) (by omega) (by omega)  (by omega)
      · refine jr.bipush rfl (by decide) ?_
        exact jr.ireturn rfl rfl rfl (q _ _ hC_M ht_M (by omega) )
    · refine jr.iload rfl rfl ?_
      refine jr.iconst rfl ?_
      refine jr.icmp_ne rfl rfl (by omega) (by omega) (fun h124 => ?_) (fun h124 => ?_)
      · refine jr.pick [0, 1, 2, 3, 4, 5, 6, 7] rfl rfl ?_
        exact c_Flow_takeStream_L142 k_t k_x q 0 M s b sq sp hC_M ht_M (by omega) (by omega) (by omega) (by omega) (by omega) (by omega)  (by omega)
      · refine jr.aload_n rfl rfl ?_
        refine jr.iload_n rfl rfl ?_
        refine jr.iload rfl rfl ?_
        refine jr.iload rfl rfl ?_
        refine jr_v rfl rfl (Or.inl rfl) rfl rfl (Nat.lt_trans (kx_1 k_t).1 (by decide)) (kx_1 k_t).2 ⟨rfl, Nat.le_of_ble_eq_true rfl, Nat.le_of_ble_eq_true rfl⟩ rfl (jc.deep (c_Flow_isOut hC_M k_t (by omega) (by omega) (by omega) (fun r2 z2  => ?_)) (by decide))
        refine jr.if_eq rfl rfl (by omega) (fun h136 => ?_) (fun h136 => ?_)
        · refine jr.pick [0, 1, 2, 3, 4, 5, 6, 7] rfl rfl ?_
          exact c_Flow_takeStream_L142 k_t k_x q 0 M s b sq sp hC_M ht_M (by omega) (by omega) (by omega) (by omega) (by omega) (by omega)  (by omega)
        · refine jr.bipush rfl (by decide) ?_
          exact jr.ireturn rfl rfl rfl (q _ _ hC_M ht_M (by omega) )
theorem c_Flow_takeStream_L65 {A : Nat → Option (Nat × (Nat → Int32))} {Q : Option Value → jm → Prop} {T : jm} {t : Nat} (k_t : kd t = 1) {x : Nat} (k_x : kd x = 18) {y : Int} {z : Int} (q : ∀ (r : Int) (M' : jm), CI M' → FR W_c_Flow_takeStream T M' → (-2147483648) ≤ r ∧ r ≤ 2147483647 → Q (some (.int (Int32.ofInt r))) M') : ∀ (nM : Nat) (M : jm) (f : Int) (s : Int) (b : Int), CI M → FR W_c_Flow_takeStream T M → (-2147483648) ≤ y ∧ y ≤ 2147483647 → 0 ≤ z ∧ z ≤ 1 → (-2147483648) ≤ f ∧ f ≤ 2147483647 → 0 ≤ s ∧ s ≤ 5 → 0 ≤ b ∧ b ≤ 10 → 0 ≤ nM → jr A 3 xm_71 65 [(2, .int (Int32.ofInt (y))), (3, .int (Int32.ofInt (z))), (4, .int (Int32.ofInt (f))), (5, .int (Int32.ofInt (s))), (6, .int (Int32.ofInt (b))), (0, .ref (t)), (1, .ref (x))] [] M Q := by
  intro nM
  induction nM using Nat.strongRecOn with
  | ind nM ih =>
    intro M f s b hC_M ht_M h_y h_z h_f h_s h_b hm
    refine jr.iload rfl rfl ?_
    refine jr.if_ne rfl rfl (by omega) (fun h67 => ?_) (fun h67 => ?_)
    · refine jr.aload_n rfl rfl ?_
      refine jr.iload_n rfl rfl ?_
      refine jr.iconst rfl ?_
      refine jr_v rfl rfl (Or.inl rfl) rfl rfl (Nat.lt_trans (kx_18 k_x).1 (by decide)) (kx_18 k_x).2 ⟨rfl, Nat.le_of_ble_eq_true rfl, Nat.le_of_ble_eq_true rfl⟩ rfl (jc.deep (c_Headers_valueOf hC_M k_x (by omega) (by omega) (fun r1 z1  => ?_)) (by decide))
      refine jr.l2i rfl ?_
      refine jr.iw (j_w r1) (j_w_eq _) ?_
      have b2 : -2147483648 ≤ j_w r1 ∧ j_w r1 ≤ 2147483647 := jb_any _
      generalize j_w r1 = v2 at b2 ⊢
      refine jr.istore rfl (by decide) rfl ?_
      refine jr.aload_n rfl rfl ?_
      refine jr.iload_n rfl rfl ?_
      obtain ⟨v4, e4⟩ : ∃ z_, M x 7 = z_ := ⟨_, rfl⟩
      have b4 : 0 ≤ v4 ∧ v4 ≤ 597 := by rw [← e4]; exact (CI.r hC_M k_x (by decide) 7)
      have k3_S : kd (v4).toNat = 33 := (congrArg (fun z : Int => kd z.toNat) e4).symm.trans (CI.x hC_M k_x 7 rfl (by decide))
      refine jr_v rfl rfl (Or.inl rfl) rfl rfl (Nat.lt_trans (kx_18 k_x).1 (by decide)) (kx_18 k_x).2 ⟨rfl, Nat.le_of_ble_eq_true rfl, Nat.le_of_ble_eq_true rfl⟩ rfl (jc.deep (c_Headers_dataBehind hC_M k_x (by omega) e4 (fun r3 z3 w3_0 => ?_)) (by decide))
      obtain ⟨v5, e5⟩ : ∃ z_, M ((v4.toNat)) 1 = z_ := ⟨_, rfl⟩
      have b5 : (-1) ≤ v5 ∧ v5 ≤ 400 := by rw [← e5]; exact (CI.r hC_M k3_S (by decide) 1)
      refine jr.iload rfl rfl ?_
      refine jr.iconst rfl ?_
      refine jr.iand rfl ?_
      have b6 : 0 ≤ j_and f 2 ∧ j_and f 2 ≤ 2 := j_and_le (by decide)
      generalize j_and f 2 = v6 at b6 ⊢
      refine jr.if_eq rfl rfl (by omega) (fun h91 => ?_) (fun h91 => ?_)
      · refine jr.iconst rfl ?_
        refine jr.iadd rfl ?_
        refine jr.iload rfl rfl ?_
        refine jr.iconst rfl ?_
        refine jr.iand rfl ?_
        have b7 : 0 ≤ j_and f 1 ∧ j_and f 1 ≤ 1 := j_and_le (by decide)
        generalize j_and f 1 = v7 at b7 ⊢
        refine jr.if_eq rfl rfl (by omega) (fun h104 => ?_) (fun h104 => ?_)
        · refine jr.iconst rfl ?_
          refine jr.iadd rfl ?_
          refine jr.istore rfl (by decide) rfl ?_
          refine jr.pick [2, 3, 5, 6, 1, 0, 7, 8] rfl rfl ?_
          exact c_Flow_takeStream_L115 k_t k_x q 0 M s b v2 ((r3 + 0) + 0) hC_M ht_M (by omega) (by omega) (by omega) (by omega) (by omega) (by omega)  (by omega)
        · refine jr.iconst rfl ?_
          refine jr.goto rfl rfl ?_
          refine jr.iadd rfl ?_
          refine jr.istore rfl (by decide) rfl ?_
          refine jr.pick [2, 3, 5, 6, 1, 0, 7, 8] rfl rfl ?_
          exact c_Flow_takeStream_L115 k_t k_x q 0 M s b v2 ((r3 + 0) + 1) hC_M ht_M (by omega) (by omega) (by omega) (by omega) (by omega) (by omega)  (by omega)
      · refine jr.iconst rfl ?_
        refine jr.goto rfl rfl ?_
        refine jr.iadd rfl ?_
        refine jr.iload rfl rfl ?_
        refine jr.iconst rfl ?_
        refine jr.iand rfl ?_
        have b8 : 0 ≤ j_and f 1 ∧ j_and f 1 ≤ 1 := j_and_le (by decide)
        generalize j_and f 1 = v8 at b8 ⊢
        refine jr.if_eq rfl rfl (by omega) (fun h104 => ?_) (fun h104 => ?_)
        · refine jr.iconst rfl ?_
          refine jr.iadd rfl ?_
          refine jr.istore rfl (by decide) rfl ?_
          refine jr.pick [2, 3, 5, 6, 1, 0, 7, 8] rfl rfl ?_
          exact c_Flow_takeStream_L115 k_t k_x q 0 M s b v2 ((r3 + 1) + 0) hC_M ht_M (by omega) (by omega) (by omega) (by omega) (by omega) (by omega)  (by omega)
        · refine jr.iconst rfl ?_
          refine jr.goto rfl rfl ?_
          refine jr.iadd rfl ?_
          refine jr.istore rfl (by decide) rfl ?_
          refine jr.pick [2, 3, 5, 6, 1, 0, 7, 8] rfl rfl ?_
          exact c_Flow_takeStream_L115 k_t k_x q 0 M s b v2 ((r3 + 1) + 1) hC_M ht_M (by omega) (by omega) (by omega) (by omega) (by omega) (by omega)  (by omega)
    · refine jr.bipush rfl (by decide) ?_
      exact jr.ireturn rfl rfl rfl (q _ _ hC_M ht_M (by omega) )
theorem c_Flow_takeStream {A : Nat → Option (Nat × (Nat → Int32))} {Q : Option Value → jm → Prop} {T : jm} {M : jm} (hC_M : CI M) (ht_M : FR W_c_Flow_takeStream T M) {t : Nat} (k_t : kd t = 1) {x : Nat} (k_x : kd x = 18) {y : Int} (h_y : (-2147483648) ≤ y ∧ y ≤ 2147483647) {z : Int} (h_z : 0 ≤ z ∧ z ≤ 1) (q : ∀ (r : Int) (M' : jm), CI M' → FR W_c_Flow_takeStream T M' → (-2147483648) ≤ r ∧ r ≤ 2147483647 → Q (some (.int (Int32.ofInt r))) M') : jc A 4 71 [.ref (t), .ref (x), .int (Int32.ofInt (y)), .int (Int32.ofInt (z))] M Q := by
  refine jc_of (m := xm_71) rfl (Nat.le_of_ble_eq_true rfl) rfl ?_
  refine jr.aload_n rfl rfl ?_
  refine jr.iload_n rfl rfl ?_
  refine jr.iconst rfl ?_
  refine jr_v rfl rfl (Or.inl rfl) rfl rfl (Nat.lt_trans (kx_18 k_x).1 (by decide)) (kx_18 k_x).2 ⟨rfl, Nat.le_of_ble_eq_true rfl, Nat.le_of_ble_eq_true rfl⟩ rfl (jc.deep (c_Headers_valueOf hC_M k_x (by omega) (by omega) (fun r1 z1  => ?_)) (by decide))
  refine jr.l2i rfl ?_
  refine jr.iw (j_w r1) (j_w_eq _) ?_
  have b2 : -2147483648 ≤ j_w r1 ∧ j_w r1 ≤ 2147483647 := jb_any _
  generalize j_w r1 = v2 at b2 ⊢
  refine jr.istore rfl (by decide) rfl ?_
  refine jr.iload rfl rfl ?_
  refine jr_s rfl rfl (Or.inl rfl) ⟨Nat.le_of_ble_eq_true rfl, Nat.le_of_ble_eq_true rfl⟩ rfl rfl (jc.deep (c_Flow_streamClass hC_M (by omega) (fun r3 z3  => ?_)) (by decide))
  refine jr.istore rfl (by decide) rfl ?_
  refine jr.iload rfl rfl ?_
  refine jr.iconst rfl ?_
  refine jr.icmp_ge rfl rfl (by omega) (by omega) (fun h19 => ?_) (fun h19 => ?_)
  · refine jr.iconst rfl ?_
    refine jr.istore rfl (by decide) rfl ?_
    refine jr.pick [5, 6, 2, 1, 0, 3, 4] rfl rfl ?_
    exact c_Flow_takeStream_L65 k_t k_x q 0 M v2 r3 0 hC_M ht_M (by omega) (by omega) (by omega) (by omega) (by omega)  (by omega)
  · refine jr.aload_n rfl rfl ?_
    obtain ⟨v4, e4⟩ : ∃ z_, M t 5 = z_ := ⟨_, rfl⟩
    have b4 : (-2147483648) ≤ v4 ∧ v4 ≤ 2147483647 := by rw [← e4]; exact (CI.r hC_M k_t (by decide) 5)
    refine jr.getf (i := 5) (x := v4) (v := .int (Int32.ofInt (v4))) rfl rfl (Nat.lt_trans (kx_1 k_t).1 (by decide)) (kx_1 k_t).2 (by decide) rfl rfl e4 rfl ?_
    refine jr.iconst rfl ?_
    refine jr.icmp_lt rfl rfl (by omega) (by omega) (fun h27 => ?_) (fun h27 => ?_)
    · refine jr.iconst rfl ?_
      refine jr.istore rfl (by decide) rfl ?_
      refine jr.pick [5, 6, 2, 1, 0, 3, 4] rfl rfl ?_
      exact c_Flow_takeStream_L65 k_t k_x q 0 M v2 r3 0 hC_M ht_M (by omega) (by omega) (by omega) (by omega) (by omega)  (by omega)
    · refine jr.aload_n rfl rfl ?_
      refine jr.getf (i := 5) (x := v4) (v := .int (Int32.ofInt (v4))) rfl rfl (Nat.lt_trans (kx_1 k_t).1 (by decide)) (kx_1 k_t).2 (by decide) rfl rfl e4 rfl ?_
      refine jr.bipush rfl (by decide) ?_
      refine jr.icmp_gt rfl rfl (by omega) (by omega) (fun h36 => ?_) (fun h36 => ?_)
      · refine jr.iconst rfl ?_
        refine jr.istore rfl (by decide) rfl ?_
        refine jr.pick [5, 6, 2, 1, 0, 3, 4] rfl rfl ?_
        exact c_Flow_takeStream_L65 k_t k_x q 0 M v2 r3 0 hC_M ht_M (by omega) (by omega) (by omega) (by omega) (by omega)  (by omega)
      · refine jr.gst (v := .ref 1000005) rfl rfl ?_
        refine jr.bipush rfl (by decide) ?_
        refine jr.aload_n rfl rfl ?_
        refine jr.getf (i := 5) (x := v4) (v := .int (Int32.ofInt (v4))) rfl rfl (Nat.lt_trans (kx_1 k_t).1 (by decide)) (kx_1 k_t).2 (by decide) rfl rfl e4 rfl ?_
        refine jr.iconst rfl ?_
        refine jr.isub rfl ?_
        refine jr.imul rfl ?_
        refine jr.iconst rfl ?_
        refine jr.iload_n rfl rfl ?_
        refine jr.imul rfl ?_
        refine jr.iadd rfl ?_
        refine jr.iload rfl rfl ?_
        refine jr.iadd rfl ?_
        obtain ⟨v5, e5⟩ : ∃ z_, xcv_5 (((10 * (v4 - 1)) + (5 * z)) + r3) = z_ := ⟨_, rfl⟩
        have b5 : 0 ≤ v5 ∧ v5 ≤ 10 := by rw [← e5]; exact xcr_5 (by omega) (by omega)
        refine jr.ials (i := (((10 * (v4 - 1)) + (5 * z)) + r3)) v5 rfl (by decide) rfl (by decide) (by omega) (by omega) (by rw [← e5]; exact (Int32.ofInt_toInt _).symm) ?_
        refine jr.goto rfl rfl ?_
        refine jr.istore rfl (by decide) rfl ?_
        refine jr.pick [5, 6, 2, 1, 0, 3, 4] rfl rfl ?_
        exact c_Flow_takeStream_L65 k_t k_x q 0 M v2 r3 v5 hC_M ht_M (by omega) (by omega) (by omega) (by omega) (by omega)  (by omega)
def W_c_Flow_takeIn : List (Nat × Nat) := [(1, 5), (1, 6), (1, 12), (3, 1000), (4, 1000), (5, 1000), (6, 1000), (8, 1000)]
theorem c_Flow_takeIn_L48 {A : Nat → Option (Nat × (Nat → Int32))} {Q : Option Value → jm → Prop} {T : jm} {t : Nat} (k_t : kd t = 1) {x : Nat} (k_x : kd x = 18) {u : Int} {z : Int} (q : ∀ (r : Int) (M' : jm), CI M' → FR W_c_Flow_takeIn T M' → (-2147483648) ≤ r ∧ r ≤ 2147483647 → Q (some (.int (Int32.ofInt r))) M') : ∀ (nM : Nat) (M : jm), CI M → FR W_c_Flow_takeIn T M → 0 ≤ z ∧ z ≤ 1 → (-2147483648) ≤ u ∧ u ≤ 2147483647 → 0 ≤ nM → jr A 4 xm_61 48 [(3, .int (Int32.ofInt (z))), (4, .int (Int32.ofInt (u))), (0, .ref (t)), (1, .ref (x))] [] M Q := by
  intro nM
  induction nM using Nat.strongRecOn with
  | ind nM ih =>
    intro M  hC_M ht_M h_z h_u hm
    refine jr.aload_n rfl rfl ?_
    have k1 := kf_1_10 k_t
    refine jr.getf (i := 10) (v := .ref (t + 6)) rfl rfl (Nat.lt_trans (kx_1 k_t).1 (by decide)) (kx_1 k_t).2 (by decide) rfl rfl rfl (jval_ref rfl k1.1) ?_
    refine jr.iload_n rfl rfl ?_
    refine jr.dup2 rfl ⟨rfl, rfl⟩ ?_
    obtain ⟨v2, e2⟩ : ∃ z_, M ((t + 6)) z = z_ := ⟨_, rfl⟩
    have b2 : (-9223372036854775808) ≤ v2 ∧ v2 ≤ 9223372036854775807 := by rw [← e2]; exact (CI.r hC_M k1.2 (by decide) z)
    refine jr.lald (i := z) (x := v2) rfl (Nat.lt_trans (kx_6 k1.2).1 (by decide)) (kx_6 k1.2).2 (by decide) (by omega) (by omega) e2 ?_
    refine jr.lconst (x := 1) rfl (by decide) ?_
    refine jr.ladd rfl ?_
    refine jr.lw (jl_w (v2 + 1)) (jl_w_eq _) ?_
    have b3 : -9223372036854775808 ≤ jl_w (v2 + 1) ∧ jl_w (v2 + 1) ≤ 9223372036854775807 := jbl_any _
    generalize jl_w (v2 + 1) = v3 at b3 ⊢
    refine jr.last (i := z) (x := v3) rfl (Nat.lt_trans (kx_6 k1.2).1 (by decide)) (kx_6 k1.2).2 (by decide) (by omega) (by omega) ?_
    refine jr.aload_n rfl rfl ?_
    have k4 := kf_1_11 k_t
    refine jr.getf (i := 11) (v := .ref (t + 7)) rfl rfl (Nat.lt_trans (kx_1 k_t).1 (by decide)) (kx_1 k_t).2 (by decide) rfl rfl rfl (jval_ref rfl k4.1) ?_
    refine jr.iload_n rfl rfl ?_
    refine jr.dup2 rfl ⟨rfl, rfl⟩ ?_
    obtain ⟨v5, e5⟩ : ∃ z_, M ((t + 7)) z = z_ := ⟨_, rfl⟩
    have b5 : (-9223372036854775808) ≤ v5 ∧ v5 ≤ 9223372036854775807 := by rw [← e5]; exact (CI.r hC_M k4.2 (by decide) z)
    refine jr.lald (i := z) (x := v5) rfl (Nat.lt_trans (kx_3 k4.2).1 (by decide)) (kx_3 k4.2).2 (by decide) (by omega) (by omega) ((ju_c _ _ (kd_ne (by rw [k4.2, k1.2]; decide))).trans e5) ?_
    refine jr.aload_n rfl rfl ?_
    obtain ⟨v6, e6⟩ : ∃ z_, M x 7 = z_ := ⟨_, rfl⟩
    have b6 : 0 ≤ v6 ∧ v6 ≤ 597 := by rw [← e6]; exact (CI.r hC_M k_x (by decide) 7)
    have k7 : kd (v6).toNat = 33 := ((congrArg (fun z : Int => kd z.toNat) (show (ju M ((t + 6)) z v3) x 7 = v6 from ((ju_c _ _ (kd_ne (by rw [k_x, k1.2]; decide))).trans e6))).symm.trans (CI.x (CI.u hC_M (i := z) k1.2 (show (-9223372036854775808 : Int) ≤ _ ∧ _ ≤ (9223372036854775807 : Int) from by omega) rfl) k_x 7 rfl (by decide)))
    refine jr.getf (i := 7) (x := v6) (v := .ref (v6.toNat)) rfl rfl (Nat.lt_trans (kx_18 k_x).1 (by decide)) (kx_18 k_x).2 (by decide) rfl rfl ((ju_c _ _ (kd_ne (by rw [k_x, k1.2]; decide))).trans e6) (jval_mut rfl (kn_18_7 k_x)) ?_
    obtain ⟨v8, e8⟩ : ∃ z_, M ((v6.toNat)) 1 = z_ := ⟨_, rfl⟩
    have b8 : (-1) ≤ v8 ∧ v8 ≤ 400 := by rw [← e8]; exact (CI.r hC_M k7 (by decide) 1)
    refine jr.getf (i := 1) (x := v8) (v := .int (Int32.ofInt (v8))) rfl rfl (Nat.lt_trans (kx_33 k7).1 (by decide)) (kx_33 k7).2 (by decide) rfl rfl ((ju_c _ _ (kd_ne (by rw [k7, k1.2]; decide))).trans e8) rfl ?_
    refine jr.i2l rfl (by omega) ?_
    refine jr.ladd rfl ?_
    refine jr.lw (jl_w (v5 + v8)) (jl_w_eq _) ?_
    have b9 : -9223372036854775808 ≤ jl_w (v5 + v8) ∧ jl_w (v5 + v8) ≤ 9223372036854775807 := jbl_any _
    generalize jl_w (v5 + v8) = v9 at b9 ⊢
    refine jr.last (i := z) (x := v9) rfl (Nat.lt_trans (kx_3 k4.2).1 (by decide)) (kx_3 k4.2).2 (by decide) (by omega) (by omega) ?_
    refine jr.aload_n rfl rfl ?_
    refine jr.aload_n rfl rfl ?_
    obtain ⟨v10, e10⟩ : ∃ z_, M t 12 = z_ := ⟨_, rfl⟩
    have b10 : 0 ≤ v10 ∧ v10 ≤ 1 := by rw [← e10]; exact (CI.r hC_M k_t (by decide) 12)
    refine jr.getf (i := 12) (x := v10) (v := .int (Int32.ofInt (v10))) rfl rfl (Nat.lt_trans (kx_1 k_t).1 (by decide)) (kx_1 k_t).2 (by decide) rfl rfl ((ju_c _ _ (kd_ne (by rw [k_t, k4.2]; decide))).trans ((ju_c _ _ (kd_ne (by rw [k_t, k1.2]; decide))).trans e10)) rfl ?_
    refine jr.if_ne rfl rfl (by omega) (fun h80 => ?_) (fun h80 => ?_)
    · refine jr.iconst rfl ?_
      refine jr.goto rfl rfl ?_
      refine jr.putf (i := 12) (x := 1) rfl rfl (Nat.lt_trans (kx_1 k_t).1 (by decide)) (kx_1 k_t).2 (by decide) rfl rfl rfl rfl rfl ?_
      refine jr.aload_n rfl rfl ?_
      refine jr.iload rfl rfl ?_
      refine jr.aload_n rfl rfl ?_
      refine jr_v rfl rfl (Or.inl rfl) rfl rfl (Nat.lt_trans (kx_1 k_t).1 (by decide)) (kx_1 k_t).2 ⟨rfl, Nat.le_of_ble_eq_true rfl, Nat.le_of_ble_eq_true rfl⟩ rfl (jc.deep (c_Flow_lifeNow (CI.u (CI.u (CI.u hC_M (i := z) k1.2 (show (-9223372036854775808 : Int) ≤ _ ∧ _ ≤ (9223372036854775807 : Int) from by omega) rfl) (i := z) k4.2 (show (-9223372036854775808 : Int) ≤ _ ∧ _ ≤ (9223372036854775807 : Int) from by omega) rfl) (i := 12) k_t (show (0 : Int) ≤ _ ∧ _ ≤ (1 : Int) from by omega) rfl) k_t (fun r11 z11  => ?_)) (by decide))
      refine jr.iadd rfl ?_
      refine jr.iw (j_w (u + r11)) (j_w_eq _) ?_
      have b12 : -2147483648 ≤ j_w (u + r11) ∧ j_w (u + r11) ≤ 2147483647 := jb_any _
      generalize j_w (u + r11) = v12 at b12 ⊢
      refine jr.putf (i := 6) (x := v12) rfl rfl (Nat.lt_trans (kx_1 k_t).1 (by decide)) (kx_1 k_t).2 (by decide) rfl rfl rfl rfl rfl ?_
      refine jr.iconst rfl ?_
      exact jr.ireturn rfl rfl rfl (q _ _ (CI.u (CI.u (CI.u (CI.u hC_M (i := z) k1.2 (show (-9223372036854775808 : Int) ≤ _ ∧ _ ≤ (9223372036854775807 : Int) from by omega) rfl) (i := z) k4.2 (show (-9223372036854775808 : Int) ≤ _ ∧ _ ≤ (9223372036854775807 : Int) from by omega) rfl) (i := 12) k_t (show (0 : Int) ≤ _ ∧ _ ≤ (1 : Int) from by omega) rfl) (i := 6) k_t (show (-2147483648 : Int) ≤ _ ∧ _ ≤ (2147483647 : Int) from by omega) rfl) (FR.o (FR.o (FR.o (FR.o ht_M k1.2 rfl) k4.2 rfl) k_t rfl) k_t rfl) (by omega) )
    · refine jr.iload_n rfl rfl ?_
      refine jr.iconst rfl ?_
      refine jr.icmp_ne rfl rfl (by omega) (by omega) (fun h85 => ?_) (fun h85 => ?_)
      · refine jr.iconst rfl ?_
        refine jr.putf (i := 12) (x := 0) rfl rfl (Nat.lt_trans (kx_1 k_t).1 (by decide)) (kx_1 k_t).2 (by decide) rfl rfl rfl rfl rfl ?_
        refine jr.aload_n rfl rfl ?_
        refine jr.iload rfl rfl ?_
        refine jr.aload_n rfl rfl ?_
        refine jr_v rfl rfl (Or.inl rfl) rfl rfl (Nat.lt_trans (kx_1 k_t).1 (by decide)) (kx_1 k_t).2 ⟨rfl, Nat.le_of_ble_eq_true rfl, Nat.le_of_ble_eq_true rfl⟩ rfl (jc.deep (c_Flow_lifeNow (CI.u (CI.u (CI.u hC_M (i := z) k1.2 (show (-9223372036854775808 : Int) ≤ _ ∧ _ ≤ (9223372036854775807 : Int) from by omega) rfl) (i := z) k4.2 (show (-9223372036854775808 : Int) ≤ _ ∧ _ ≤ (9223372036854775807 : Int) from by omega) rfl) (i := 12) k_t (show (0 : Int) ≤ _ ∧ _ ≤ (1 : Int) from by omega) rfl) k_t (fun r13 z13  => ?_)) (by decide))
        refine jr.iadd rfl ?_
        refine jr.iw (j_w (u + r13)) (j_w_eq _) ?_
        have b14 : -2147483648 ≤ j_w (u + r13) ∧ j_w (u + r13) ≤ 2147483647 := jb_any _
        generalize j_w (u + r13) = v14 at b14 ⊢
        refine jr.putf (i := 6) (x := v14) rfl rfl (Nat.lt_trans (kx_1 k_t).1 (by decide)) (kx_1 k_t).2 (by decide) rfl rfl rfl rfl rfl ?_
        refine jr.iconst rfl ?_
        exact jr.ireturn rfl rfl rfl (q _ _ (CI.u (CI.u (CI.u (CI.u hC_M (i := z) k1.2 (show (-9223372036854775808 : Int) ≤ _ ∧ _ ≤ (9223372036854775807 : Int) from by omega) rfl) (i := z) k4.2 (show (-9223372036854775808 : Int) ≤ _ ∧ _ ≤ (9223372036854775807 : Int) from by omega) rfl) (i := 12) k_t (show (0 : Int) ≤ _ ∧ _ ≤ (1 : Int) from by omega) rfl) (i := 6) k_t (show (-2147483648 : Int) ≤ _ ∧ _ ≤ (2147483647 : Int) from by omega) rfl) (FR.o (FR.o (FR.o (FR.o ht_M k1.2 rfl) k4.2 rfl) k_t rfl) k_t rfl) (by omega) )
      · refine jr.iconst rfl ?_
        refine jr.goto rfl rfl ?_
        refine jr.putf (i := 12) (x := 1) rfl rfl (Nat.lt_trans (kx_1 k_t).1 (by decide)) (kx_1 k_t).2 (by decide) rfl rfl rfl rfl rfl ?_
        refine jr.aload_n rfl rfl ?_
        refine jr.iload rfl rfl ?_
        refine jr.aload_n rfl rfl ?_
        refine jr_v rfl rfl (Or.inl rfl) rfl rfl (Nat.lt_trans (kx_1 k_t).1 (by decide)) (kx_1 k_t).2 ⟨rfl, Nat.le_of_ble_eq_true rfl, Nat.le_of_ble_eq_true rfl⟩ rfl (jc.deep (c_Flow_lifeNow (CI.u (CI.u (CI.u hC_M (i := z) k1.2 (show (-9223372036854775808 : Int) ≤ _ ∧ _ ≤ (9223372036854775807 : Int) from by omega) rfl) (i := z) k4.2 (show (-9223372036854775808 : Int) ≤ _ ∧ _ ≤ (9223372036854775807 : Int) from by omega) rfl) (i := 12) k_t (show (0 : Int) ≤ _ ∧ _ ≤ (1 : Int) from by omega) rfl) k_t (fun r15 z15  => ?_)) (by decide))
        refine jr.iadd rfl ?_
        refine jr.iw (j_w (u + r15)) (j_w_eq _) ?_
        have b16 : -2147483648 ≤ j_w (u + r15) ∧ j_w (u + r15) ≤ 2147483647 := jb_any _
        generalize j_w (u + r15) = v16 at b16 ⊢
        refine jr.putf (i := 6) (x := v16) rfl rfl (Nat.lt_trans (kx_1 k_t).1 (by decide)) (kx_1 k_t).2 (by decide) rfl rfl rfl rfl rfl ?_
        refine jr.iconst rfl ?_
        exact jr.ireturn rfl rfl rfl (q _ _ (CI.u (CI.u (CI.u (CI.u hC_M (i := z) k1.2 (show (-9223372036854775808 : Int) ≤ _ ∧ _ ≤ (9223372036854775807 : Int) from by omega) rfl) (i := z) k4.2 (show (-9223372036854775808 : Int) ≤ _ ∧ _ ≤ (9223372036854775807 : Int) from by omega) rfl) (i := 12) k_t (show (0 : Int) ≤ _ ∧ _ ≤ (1 : Int) from by omega) rfl) (i := 6) k_t (show (-2147483648 : Int) ≤ _ ∧ _ ≤ (2147483647 : Int) from by omega) rfl) (FR.o (FR.o (FR.o (FR.o ht_M k1.2 rfl) k4.2 rfl) k_t rfl) k_t rfl) (by omega) )
theorem c_Flow_takeIn {A : Nat → Option (Nat × (Nat → Int32))} {Q : Option Value → jm → Prop} {T : jm} {M : jm} (hC_M : CI M) (ht_M : FR W_c_Flow_takeIn T M) {t : Nat} (k_t : kd t = 1) {x : Nat} (k_x : kd x = 18) {y : Int} (h_y : (-2147483648) ≤ y ∧ y ≤ 2147483647) {z : Int} (h_z : 0 ≤ z ∧ z ≤ 1) {u : Int} (h_u : (-2147483648) ≤ u ∧ u ≤ 2147483647) (q : ∀ (r : Int) (M' : jm), CI M' → FR W_c_Flow_takeIn T M' → (-2147483648) ≤ r ∧ r ≤ 2147483647 → Q (some (.int (Int32.ofInt r))) M') : jc A 5 61 [.ref (t), .ref (x), .int (Int32.ofInt (y)), .int (Int32.ofInt (z)), .int (Int32.ofInt (u))] M Q := by
  refine jc_of (m := xm_61) rfl (Nat.le_of_ble_eq_true rfl) rfl ?_
  refine jr.aload_n rfl rfl ?_
  obtain ⟨v1, e1⟩ : ∃ z_, M t 2 = z_ := ⟨_, rfl⟩
  have b1 : (-2147483648) ≤ v1 ∧ v1 ≤ 2147483647 := by rw [← e1]; exact (CI.r hC_M k_t (by decide) 2)
  refine jr.getf (i := 2) (x := v1) (v := .int (Int32.ofInt (v1))) rfl rfl (Nat.lt_trans (kx_1 k_t).1 (by decide)) (kx_1 k_t).2 (by decide) rfl rfl e1 rfl ?_
  refine jr.bipush rfl (by decide) ?_
  refine jr.icmp_ne rfl rfl (by omega) (by omega) (fun h6 => ?_) (fun h6 => ?_)
  · refine jr.aload_n rfl rfl ?_
    refine jr.getf (i := 2) (x := v1) (v := .int (Int32.ofInt (v1))) rfl rfl (Nat.lt_trans (kx_1 k_t).1 (by decide)) (kx_1 k_t).2 (by decide) rfl rfl e1 rfl ?_
    refine jr.bipush rfl (by decide) ?_
    refine jr.icmp_ne rfl rfl (by omega) (by omega) (fun h35 => ?_) (fun h35 => ?_)
    · refine jr.pick [3, 4, 0, 1] rfl rfl ?_
      exact c_Flow_takeIn_L48 k_t k_x q 0 M  hC_M ht_M (by omega) (by omega)  (by omega)
    · refine jr.iload_n rfl rfl ?_
      refine jr.iconst rfl ?_
      refine jr.icmp_ne rfl rfl (by omega) (by omega) (fun h40 => ?_) (fun h40 => ?_)
      · refine jr.pick [3, 4, 0, 1] rfl rfl ?_
        exact c_Flow_takeIn_L48 k_t k_x q 0 M  hC_M ht_M (by omega) (by omega)  (by omega)
      · refine jr.aload_n rfl rfl ?_
        refine jr.iconst rfl ?_
        refine jr.putf (i := 5) (x := 1) rfl rfl (Nat.lt_trans (kx_1 k_t).1 (by decide)) (kx_1 k_t).2 (by decide) rfl rfl rfl rfl rfl ?_
        refine jr.pick [3, 4, 0, 1] rfl rfl ?_
        exact c_Flow_takeIn_L48 k_t k_x q 0 ((ju M t 5 1))  (CI.u hC_M (i := 5) k_t (show (-2147483648 : Int) ≤ _ ∧ _ ≤ (2147483647 : Int) from by omega) rfl) (FR.o ht_M k_t rfl) (by omega) (by omega)  (by omega)
  · refine jr.aload_n rfl rfl ?_
    refine jr.aload_n rfl rfl ?_
    refine jr.iload_n rfl rfl ?_
    refine jr.iload_n rfl rfl ?_
    refine jr_v rfl rfl (Or.inl rfl) rfl rfl (Nat.lt_trans (kx_1 k_t).1 (by decide)) (kx_1 k_t).2 ⟨rfl, Nat.le_of_ble_eq_true rfl, Nat.le_of_ble_eq_true rfl⟩ rfl (jc.deep (c_Flow_takeStream hC_M (FR.rfl _ M) k_t k_x (by omega) (by omega) (fun r2 M2 hC_M2 hf_M2 z2  => ?_)) (by decide))
    have ht_M2 : FR W_c_Flow_takeIn T M2 := FR.t ht_M hf_M2 (kw_sub rfl)
    refine jr.istore rfl (by decide) rfl ?_
    refine jr.iload rfl rfl ?_
    refine jr.if_eq rfl rfl (by omega) (fun h20 => ?_) (fun h20 => ?_)
    · refine jr.goto rfl rfl ?_
      refine jr.pick [4, 5, 1, 2] rfl rfl ?_
      exact c_Flow_takeIn_L48 k_t k_x q 0 M2  hC_M2 ht_M2 (by omega) (by omega)  (by omega)
    · refine jr.iload rfl rfl ?_
      exact jr.ireturn rfl rfl rfl (q _ _ hC_M2 ht_M2 (by omega) )
def W_c_Flows_begin : List (Nat × Nat) := [(1, 0), (1, 1), (1, 2), (1, 5), (1, 6), (1, 12), (1, 13), (1, 15), (2, 1000), (3, 1000), (4, 1000), (5, 1000), (6, 1000), (7, 1000), (8, 1000)]
theorem c_Flows_begin_L63 {A : Nat → Option (Nat × (Nat → Int32))} {Q : Option Value → jm → Prop} {T : jm} {x : Nat} (k_x : kd x = 18) {y : Int} (q : ∀ (r : Int) (M' : jm), CI M' → FR W_c_Flows_begin T M' → (-2147483648) ≤ r ∧ r ≤ 2147483647 → Q (some (.int (Int32.ofInt r))) M') : ∀ (nM : Nat) (M : jm) (i : Int), CI M → FR W_c_Flows_begin T M → (-2147483648) ≤ y ∧ y ≤ 2147483647 → 0 ≤ i ∧ i ≤ 24 → 24 - i ≤ nM → jr A 5 xm_87 63 [(2, .int (Int32.ofInt (y))), (3, .int (Int32.ofInt (i))), (0, .ref (15)), (1, .ref (x))] [] M Q := by
  intro nM
  induction nM using Nat.strongRecOn with
  | ind nM ih =>
    intro M i hC_M ht_M h_y h_i hm
    refine jr.iload_n rfl rfl ?_
    refine jr.bipush rfl (by decide) ?_
    refine jr.icmp_ge rfl rfl (by omega) (by omega) (fun h66 => ?_) (fun h66 => ?_)
    · refine jr.bipush rfl (by decide) ?_
      exact jr.ireturn rfl rfl rfl (q _ _ hC_M ht_M (by omega) )
    · refine jr.aload_n rfl rfl ?_
      obtain ⟨v1, e1⟩ : ∃ z_, M 15 0 = z_ := ⟨_, rfl⟩
      have b1 : 16 ≤ v1 ∧ v1 ≤ 17 := by rw [← e1]; exact (CI.r hC_M (show kd 15 = 9 from rfl) (by decide) 0)
      have k2 : kd (v1).toNat = 13 := by rcases (show v1 = 16 ∨ v1 = 17 by omega) with h | h <;> (rw [h]; rfl)
      refine jr.getf (i := 0) (x := v1) (v := .ref (v1.toNat)) rfl rfl (by decide) rfl (by decide) rfl rfl e1 rfl ?_
      refine jr.iload_n rfl rfl ?_
      have k3 := kxe_13 k2 (i := i) (by omega) (by omega)
      refine jr.aald (c := (xe ((v1.toNat)) i)) rfl (Nat.lt_trans (kx_13 k2).1 (by decide)) (kx_13 k2).2 (by decide) (by decide) rfl (by decide) (by omega) (by omega) k3.1 ?_
      obtain ⟨v4, e4⟩ : ∃ z_, M ((xe ((v1.toNat)) i)) 0 = z_ := ⟨_, rfl⟩
      have b4 : 0 ≤ v4 ∧ v4 ≤ 1 := by rw [← e4]; exact (CI.r hC_M k3.2 (by decide) 0)
      refine jr.getf (i := 0) (x := v4) (v := .int (Int32.ofInt (v4))) rfl rfl (Nat.lt_trans (kx_1 k3.2).1 (by decide)) (kx_1 k3.2).2 (by decide) rfl rfl e4 rfl ?_
      refine jr.if_ne rfl rfl (by omega) (fun h78 => ?_) (fun h78 => ?_)
      · refine jr.iinc rfl rfl (by decide) rfl ?_
        refine jr.goto rfl rfl ?_
        refine jr.pick [1, 0, 2, 3] rfl rfl ?_
        exact ih (nM - 1) (by omega) M (i + 1) hC_M ht_M (by omega) (by omega)  (by omega)
      · refine jr.aload_n rfl rfl ?_
        have k5 : kd (v1).toNat = 13 := by rcases (show v1 = 16 ∨ v1 = 17 by omega) with h | h <;> (rw [h]; rfl)
        refine jr.getf (i := 0) (x := v1) (v := .ref (v1.toNat)) rfl rfl (by decide) rfl (by decide) rfl rfl e1 rfl ?_
        refine jr.iload_n rfl rfl ?_
        have k6 := kxe_13 k5 (i := i) (by omega) (by omega)
        refine jr.aald (c := (xe ((v1.toNat)) i)) rfl (Nat.lt_trans (kx_13 k5).1 (by decide)) (kx_13 k5).2 (by decide) (by decide) rfl (by decide) (by omega) (by omega) k6.1 ?_
        refine jr.aload_n rfl rfl ?_
        refine jr.getf (i := 2) (v := .ref 18) rfl rfl (by decide) rfl (by decide) rfl rfl rfl rfl ?_
        refine jr_v rfl rfl (Or.inl rfl) rfl rfl (Nat.lt_trans (kx_1 k6.2).1 (by decide)) (kx_1 k6.2).2 ⟨rfl, Nat.le_of_ble_eq_true rfl, Nat.le_of_ble_eq_true rfl⟩ rfl (jc.deep (c_Flow_beginAs hC_M (FR.rfl _ M) k6.2 (show kd 18 = 1 from rfl) (fun M7 hC_M7 hf_M7  => ?_)) (by decide))
        have ht_M7 : FR W_c_Flows_begin T M7 := FR.t ht_M hf_M7 (kw_sub rfl)
        refine jr.aload_n rfl rfl ?_
        have e8 : M7 15 0 = v1 := (hf_M7.g (show kd 15 = 9 from rfl) rfl).trans e1
        have k9 : kd (v1).toNat = 13 := by rcases (show v1 = 16 ∨ v1 = 17 by omega) with h | h <;> (rw [h]; rfl)
        refine jr.getf (i := 0) (x := v1) (v := .ref (v1.toNat)) rfl rfl (by decide) rfl (by decide) rfl rfl e8 rfl ?_
        refine jr.iload_n rfl rfl ?_
        have k10 := kxe_13 k9 (i := i) (by omega) (by omega)
        refine jr.aald (c := (xe ((v1.toNat)) i)) rfl (Nat.lt_trans (kx_13 k9).1 (by decide)) (kx_13 k9).2 (by decide) (by decide) rfl (by decide) (by omega) (by omega) k10.1 ?_
        refine jr.aload_n rfl rfl ?_
        refine jr.aload_n rfl rfl ?_
        obtain ⟨v11, e11⟩ : ∃ z_, M 15 4 = z_ := ⟨_, rfl⟩
        have b11 : (-2147483648) ≤ v11 ∧ v11 ≤ 2147483647 := by rw [← e11]; exact (CI.r hC_M (show kd 15 = 9 from rfl) (by decide) 4)
        have e12 : M7 15 4 = v11 := (hf_M7.g (show kd 15 = 9 from rfl) rfl).trans e11
        refine jr.getf (i := 4) (x := v11) (v := .int (Int32.ofInt (v11))) rfl rfl (by decide) rfl (by decide) rfl rfl e12 rfl ?_
        refine jr.iconst rfl ?_
        refine jr.iload_n rfl rfl ?_
        refine jr_v rfl rfl (Or.inl rfl) rfl rfl (Nat.lt_trans (kx_1 k10.2).1 (by decide)) (kx_1 k10.2).2 ⟨rfl, Nat.le_of_ble_eq_true rfl, Nat.le_of_ble_eq_true rfl⟩ rfl (jc.deep (c_Flow_takeIn hC_M7 (FR.rfl _ M7) k10.2 k_x (by omega) (by omega) (by omega) (fun r13 M13 hC_M13 hf_M13 z13  => ?_)) (by decide))
        have ht_M13 : FR W_c_Flows_begin T M13 := FR.t ht_M7 hf_M13 (kw_sub rfl)
        refine jr.pop rfl rfl ?_
        refine jr.iload_n rfl rfl ?_
        exact jr.ireturn rfl rfl rfl (q _ _ hC_M13 ht_M13 (by omega) )
theorem c_Flows_begin {A : Nat → Option (Nat × (Nat → Int32))} {Q : Option Value → jm → Prop} {T : jm} {M : jm} (hC_M : CI M) (ht_M : FR W_c_Flows_begin T M) {x : Nat} (k_x : kd x = 18) {y : Int} (h_y : (-2147483648) ≤ y ∧ y ≤ 2147483647) (q : ∀ (r : Int) (M' : jm), CI M' → FR W_c_Flows_begin T M' → (-2147483648) ≤ r ∧ r ≤ 2147483647 → Q (some (.int (Int32.ofInt r))) M') : jc A 6 87 [.ref (15), .ref (x), .int (Int32.ofInt (y))] M Q := by
  refine jc_of (m := xm_87) rfl (Nat.le_of_ble_eq_true rfl) rfl ?_
  refine jr.aload_n rfl rfl ?_
  refine jr.getf (i := 2) (v := .ref 18) rfl rfl (by decide) rfl (by decide) rfl rfl rfl rfl ?_
  obtain ⟨v1, e1⟩ : ∃ z_, M 18 2 = z_ := ⟨_, rfl⟩
  have b1 : (-2147483648) ≤ v1 ∧ v1 ≤ 2147483647 := by rw [← e1]; exact (CI.r hC_M (show kd 18 = 1 from rfl) (by decide) 2)
  refine jr.getf (i := 2) (x := v1) (v := .int (Int32.ofInt (v1))) rfl rfl (by decide) rfl (by decide) rfl rfl e1 rfl ?_
  refine jr.bipush rfl (by decide) ?_
  refine jr.icmp_ne rfl rfl (by omega) (by omega) (fun h9 => ?_) (fun h9 => ?_)
  · refine jr.aload_n rfl rfl ?_
    refine jr.getf (i := 2) (v := .ref 18) rfl rfl (by decide) rfl (by decide) rfl rfl rfl rfl ?_
    refine jr.getf (i := 2) (x := v1) (v := .int (Int32.ofInt (v1))) rfl rfl (by decide) rfl (by decide) rfl rfl e1 rfl ?_
    refine jr.iconst rfl ?_
    refine jr.icmp_ne rfl rfl (by omega) (by omega) (fun h39 => ?_) (fun h39 => ?_)
    · refine jr.iconst rfl ?_
      refine jr.istore_n rfl (by decide) rfl ?_
      refine jr.pick [3, 0, 1, 2] rfl rfl ?_
      exact c_Flows_begin_L63 k_x q 24 M 0 hC_M ht_M (by omega) (by omega)  (by omega)
    · refine jr.aload_n rfl rfl ?_
      refine jr.aload_n rfl rfl ?_
      obtain ⟨v2, e2⟩ : ∃ z_, M 15 4 = z_ := ⟨_, rfl⟩
      have b2 : (-2147483648) ≤ v2 ∧ v2 ≤ 2147483647 := by rw [← e2]; exact (CI.r hC_M (show kd 15 = 9 from rfl) (by decide) 4)
      refine jr.getf (i := 4) (x := v2) (v := .int (Int32.ofInt (v2))) rfl rfl (by decide) rfl (by decide) rfl rfl e2 rfl ?_
      refine jr.iconst rfl ?_
      refine jr_v rfl rfl (Or.inl rfl) rfl rfl (Nat.lt_trans (kx_18 k_x).1 (by decide)) (kx_18 k_x).2 ⟨rfl, Nat.le_of_ble_eq_true rfl, Nat.le_of_ble_eq_true rfl⟩ rfl (jc.deep (c_Headers_valueOf hC_M k_x (by omega) (by omega) (fun r3 z3  => ?_)) (by decide))
      refine jr.ldc2 (x := 8) rfl rfl (by decide) ?_
      refine jr.lcmp_eq rfl rfl rfl (by omega) (by omega) (fun h54 => ?_) (fun h54 => ?_)
      · refine jr.iconst rfl ?_
        refine jr.istore_n rfl (by decide) rfl ?_
        refine jr.pick [3, 0, 1, 2] rfl rfl ?_
        exact c_Flows_begin_L63 k_x q 24 M 0 hC_M ht_M (by omega) (by omega)  (by omega)
      · refine jr.bipush rfl (by decide) ?_
        exact jr.ireturn rfl rfl rfl (q _ _ hC_M ht_M (by omega) )
  · refine jr.aload_n rfl rfl ?_
    refine jr.aload_n rfl rfl ?_
    obtain ⟨v4, e4⟩ : ∃ z_, M 15 4 = z_ := ⟨_, rfl⟩
    have b4 : (-2147483648) ≤ v4 ∧ v4 ≤ 2147483647 := by rw [← e4]; exact (CI.r hC_M (show kd 15 = 9 from rfl) (by decide) 4)
    refine jr.getf (i := 4) (x := v4) (v := .int (Int32.ofInt (v4))) rfl rfl (by decide) rfl (by decide) rfl rfl e4 rfl ?_
    refine jr.iconst rfl ?_
    refine jr_v rfl rfl (Or.inl rfl) rfl rfl (Nat.lt_trans (kx_18 k_x).1 (by decide)) (kx_18 k_x).2 ⟨rfl, Nat.le_of_ble_eq_true rfl, Nat.le_of_ble_eq_true rfl⟩ rfl (jc.deep (c_Headers_valueOf hC_M k_x (by omega) (by omega) (fun r5 z5  => ?_)) (by decide))
    refine jr.l2i rfl ?_
    refine jr.iw (j_w r5) (j_w_eq _) ?_
    have b6 : -2147483648 ≤ j_w r5 ∧ j_w r5 ≤ 2147483647 := jb_any _
    generalize j_w r5 = v6 at b6 ⊢
    refine jr_s rfl rfl (Or.inl rfl) ⟨Nat.le_of_ble_eq_true rfl, Nat.le_of_ble_eq_true rfl⟩ rfl rfl (jc.deep (c_Flow_streamClass hC_M (by omega) (fun r7 z7  => ?_)) (by decide))
    refine jr.if_eq rfl rfl (by omega) (fun h25 => ?_) (fun h25 => ?_)
    · refine jr.aload_n rfl rfl ?_
      refine jr.getf (i := 2) (v := .ref 18) rfl rfl (by decide) rfl (by decide) rfl rfl rfl rfl ?_
      refine jr.getf (i := 2) (x := v1) (v := .int (Int32.ofInt (v1))) rfl rfl (by decide) rfl (by decide) rfl rfl e1 rfl ?_
      refine jr.iconst rfl ?_
      refine jr.icmp_ne rfl rfl (by omega) (by omega) (fun h39 => ?_) (fun h39 => ?_)
      · refine jr.iconst rfl ?_
        refine jr.istore_n rfl (by decide) rfl ?_
        refine jr.pick [3, 0, 1, 2] rfl rfl ?_
        exact c_Flows_begin_L63 k_x q 24 M 0 hC_M ht_M (by omega) (by omega)  (by omega)
      · exact absurd (by omega) h39
    · refine jr.bipush rfl (by decide) ?_
      exact jr.ireturn rfl rfl rfl (q _ _ hC_M ht_M (by omega) )
def W_c_Flows_changeBy : List (Nat × Nat) := [(1, 13), (1, 14), (1, 15)]
theorem c_Flows_changeBy_L49 {A : Nat → Option (Nat × (Nat → Int32))} {Q : Option Value → jm → Prop} {T : jm} {x : Nat} (k_x : kd x = 1) (q : ∀ (r : Int) (M' : jm), CI M' → FR W_c_Flows_changeBy T M' → (-2147483648) ≤ r ∧ r ≤ 2147483647 → Q (some (.int (Int32.ofInt r))) M') : ∀ (nM : Nat) (M : jm) (k : Int) (i : Int), CI M → FR W_c_Flows_changeBy T M → 0 ≤ k ∧ k ≤ 3 → 0 ≤ i ∧ i ≤ 32 → 32 - i ≤ nM → jr A 1 xm_81 49 [(2, .int (Int32.ofInt (k))), (3, .int (Int32.ofInt (i))), (0, .ref (15)), (1, .ref (x))] [] M Q := by
  intro nM
  induction nM using Nat.strongRecOn with
  | ind nM ih =>
    intro M k i hC_M ht_M h_k h_i hm
    refine jr.iload_n rfl rfl ?_
    refine jr.aload_n rfl rfl ?_
    refine jr.getf (i := 8) (v := .ref 28) rfl rfl (by decide) rfl (by decide) rfl rfl rfl rfl ?_
    refine jr.iload_n rfl rfl ?_
    obtain ⟨v1, e1⟩ : ∃ z_, M 28 k = z_ := ⟨_, rfl⟩
    have b1 : 0 ≤ v1 ∧ v1 ≤ 32 := by rw [← e1]; exact (CI.r hC_M (show kd 28 = 12 from rfl) (by decide) k)
    refine jr.iald (i := k) (x := v1) rfl (by decide) rfl (by decide) (by omega) (by omega) e1 ?_
    refine jr.icmp_ge rfl rfl (by omega) (by omega) (fun h56 => ?_) (fun h56 => ?_)
    · refine jr.bipush rfl (by decide) ?_
      exact jr.ireturn rfl rfl rfl (q _ _ hC_M ht_M (by omega) )
    · refine jr.aload_n rfl rfl ?_
      refine jr.aload_n rfl rfl ?_
      refine jr.getf (i := 6) (v := .ref 26) rfl rfl (by decide) rfl (by decide) rfl rfl rfl rfl ?_
      refine jr.iload_n rfl rfl ?_
      obtain ⟨v2, e2⟩ : ∃ z_, M 26 k = z_ := ⟨_, rfl⟩
      have b2 : (-9223372036854775808) ≤ v2 ∧ v2 ≤ 9223372036854775807 := by rw [← e2]; exact (CI.r hC_M (show kd 26 = 10 from rfl) (by decide) k)
      refine jr.lald (i := k) (x := v2) rfl (by decide) rfl (by decide) (by omega) (by omega) e2 ?_
      refine jr.aload_n rfl rfl ?_
      refine jr.getf (i := 7) (v := .ref 27) rfl rfl (by decide) rfl (by decide) rfl rfl rfl rfl ?_
      refine jr.iload_n rfl rfl ?_
      obtain ⟨v3, e3⟩ : ∃ z_, M 27 k = z_ := ⟨_, rfl⟩
      have b3 : (-2147483648) ≤ v3 ∧ v3 ≤ 2147483647 := by rw [← e3]; exact (CI.r hC_M (show kd 27 = 11 from rfl) (by decide) k)
      refine jr.iald (i := k) (x := v3) rfl (by decide) rfl (by decide) (by omega) (by omega) e3 ?_
      refine jr.iload_n rfl rfl ?_
      refine jr.iadd rfl ?_
      refine jr.iw (j_w (v3 + i)) (j_w_eq _) ?_
      have b4 : -2147483648 ≤ j_w (v3 + i) ∧ j_w (v3 + i) ≤ 2147483647 := jb_any _
      generalize j_w (v3 + i) = v4 at b4 ⊢
      refine jr_v rfl rfl (Or.inl rfl) rfl rfl (by decide) rfl ⟨rfl, Nat.le_of_ble_eq_true rfl, Nat.le_of_ble_eq_true rfl⟩ rfl (jc.deep (c_Flows_isPortTaken hC_M (by omega) (by omega) (fun r5 z5  => ?_)) (by decide))
      refine jr.if_ne rfl rfl (by omega) (fun h77 => ?_) (fun h77 => ?_)
      · refine jr.iinc rfl rfl (by decide) rfl ?_
        refine jr.goto rfl rfl ?_
        refine jr.pick [1, 0, 2, 3] rfl rfl ?_
        exact ih (nM - 1) (by omega) M k (i + 1) hC_M ht_M (by omega) (by omega)  (by omega)
      · refine jr.aload_n rfl rfl ?_
        refine jr.iload_n rfl rfl ?_
        refine jr.putf (i := 13) (x := k) rfl rfl (Nat.lt_trans (kx_1 k_x).1 (by decide)) (kx_1 k_x).2 (by decide) rfl rfl rfl rfl rfl ?_
        refine jr.aload_n rfl rfl ?_
        refine jr.aload_n rfl rfl ?_
        refine jr.getf (i := 6) (v := .ref 26) rfl rfl (by decide) rfl (by decide) rfl rfl rfl rfl ?_
        refine jr.iload_n rfl rfl ?_
        refine jr.lald (i := k) (x := v2) rfl (by decide) rfl (by decide) (by omega) (by omega) ((ju_c _ _ (kd_ne (by rw [(show kd 26 = 10 from rfl), k_x]; decide))).trans e2) ?_
        refine jr.putf (i := 14) (x := v2) rfl rfl (Nat.lt_trans (kx_1 k_x).1 (by decide)) (kx_1 k_x).2 (by decide) rfl rfl rfl rfl rfl ?_
        refine jr.aload_n rfl rfl ?_
        refine jr.aload_n rfl rfl ?_
        refine jr.getf (i := 7) (v := .ref 27) rfl rfl (by decide) rfl (by decide) rfl rfl rfl rfl ?_
        refine jr.iload_n rfl rfl ?_
        refine jr.iald (i := k) (x := v3) rfl (by decide) rfl (by decide) (by omega) (by omega) ((ju_c _ _ (kd_ne (by rw [(show kd 27 = 11 from rfl), k_x]; decide))).trans ((ju_c _ _ (kd_ne (by rw [(show kd 27 = 11 from rfl), k_x]; decide))).trans e3)) ?_
        refine jr.iload_n rfl rfl ?_
        refine jr.iadd rfl ?_
        refine jr.iw (j_w (v3 + i)) (j_w_eq _) ?_
        have b6 : -2147483648 ≤ j_w (v3 + i) ∧ j_w (v3 + i) ≤ 2147483647 := jb_any _
        generalize j_w (v3 + i) = v6 at b6 ⊢
        refine jr.putf (i := 15) (x := v6) rfl rfl (Nat.lt_trans (kx_1 k_x).1 (by decide)) (kx_1 k_x).2 (by decide) rfl rfl rfl rfl rfl ?_
        refine jr.aload_n rfl rfl ?_
        refine jr.getf (i := 15) (x := v6) (v := .int (Int32.ofInt (v6))) rfl rfl (Nat.lt_trans (kx_1 k_x).1 (by decide)) (kx_1 k_x).2 (by decide) rfl rfl (ju_same _ _ _ _) rfl ?_
        exact jr.ireturn rfl rfl rfl (q _ _ (CI.u (CI.u (CI.u hC_M (i := 13) k_x (show (-2147483648 : Int) ≤ _ ∧ _ ≤ (2147483647 : Int) from by omega) rfl) (i := 14) k_x (show (-9223372036854775808 : Int) ≤ _ ∧ _ ≤ (9223372036854775807 : Int) from by omega) rfl) (i := 15) k_x (show (-2147483648 : Int) ≤ _ ∧ _ ≤ (2147483647 : Int) from by omega) rfl) (FR.o (FR.o (FR.o ht_M k_x rfl) k_x rfl) k_x rfl) (by omega) )
theorem c_Flows_changeBy {A : Nat → Option (Nat × (Nat → Int32))} {Q : Option Value → jm → Prop} {T : jm} {M : jm} (hC_M : CI M) (ht_M : FR W_c_Flows_changeBy T M) {x : Nat} (k_x : kd x = 1) {y : Int} (h_y : (-2147483648) ≤ y ∧ y ≤ 2147483647) (q : ∀ (r : Int) (M' : jm), CI M' → FR W_c_Flows_changeBy T M' → (-2147483648) ≤ r ∧ r ≤ 2147483647 → Q (some (.int (Int32.ofInt r))) M') : jc A 2 81 [.ref (15), .ref (x), .int (Int32.ofInt (y))] M Q := by
  refine jc_of (m := xm_81) rfl (Nat.le_of_ble_eq_true rfl) rfl ?_
  refine jr.iload_n rfl rfl ?_
  refine jr.if_lt rfl rfl (by omega) (fun h1 => ?_) (fun h1 => ?_)
  · refine jr.bipush rfl (by decide) ?_
    exact jr.ireturn rfl rfl rfl (q _ _ hC_M ht_M (by omega) )
  · refine jr.iload_n rfl rfl ?_
    refine jr.iconst rfl ?_
    refine jr.icmp_lt rfl rfl (by omega) (by omega) (fun h6 => ?_) (fun h6 => ?_)
    · refine jr.aload_n rfl rfl ?_
      obtain ⟨v1, e1⟩ : ∃ z_, M x 1 = z_ := ⟨_, rfl⟩
      have b1 : 0 ≤ v1 ∧ v1 ≤ 1 := by rw [← e1]; exact (CI.r hC_M k_x (by decide) 1)
      refine jr.getf (i := 1) (x := v1) (v := .int (Int32.ofInt (v1))) rfl rfl (Nat.lt_trans (kx_1 k_x).1 (by decide)) (kx_1 k_x).2 (by decide) rfl rfl e1 rfl ?_
      refine jr.if_ne rfl rfl (by omega) (fun h16 => ?_) (fun h16 => ?_)
      · refine jr.bipush rfl (by decide) ?_
        exact jr.ireturn rfl rfl rfl (q _ _ hC_M ht_M (by omega) )
      · refine jr.aload_n rfl rfl ?_
        obtain ⟨v2, e2⟩ : ∃ z_, M x 2 = z_ := ⟨_, rfl⟩
        have b2 : (-2147483648) ≤ v2 ∧ v2 ≤ 2147483647 := by rw [← e2]; exact (CI.r hC_M k_x (by decide) 2)
        refine jr.getf (i := 2) (x := v2) (v := .int (Int32.ofInt (v2))) rfl rfl (Nat.lt_trans (kx_1 k_x).1 (by decide)) (kx_1 k_x).2 (by decide) rfl rfl e2 rfl ?_
        refine jr.iconst rfl ?_
        refine jr.icmp_eq rfl rfl (by omega) (by omega) (fun h24 => ?_) (fun h24 => ?_)
        · refine jr.bipush rfl (by decide) ?_
          exact jr.ireturn rfl rfl rfl (q _ _ hC_M ht_M (by omega) )
        · refine jr.aload_n rfl rfl ?_
          obtain ⟨v3, e3⟩ : ∃ z_, M x 13 = z_ := ⟨_, rfl⟩
          have b3 : (-2147483648) ≤ v3 ∧ v3 ≤ 2147483647 := by rw [← e3]; exact (CI.r hC_M k_x (by decide) 13)
          refine jr.getf (i := 13) (x := v3) (v := .int (Int32.ofInt (v3))) rfl rfl (Nat.lt_trans (kx_1 k_x).1 (by decide)) (kx_1 k_x).2 (by decide) rfl rfl e3 rfl ?_
          refine jr.iconst rfl ?_
          refine jr.icmp_ne rfl rfl (by omega) (by omega) (fun h32 => ?_) (fun h32 => ?_)
          · refine jr.bipush rfl (by decide) ?_
            exact jr.ireturn rfl rfl rfl (q _ _ hC_M ht_M (by omega) )
          · refine jr.aload_n rfl rfl ?_
            refine jr.getf (i := 8) (v := .ref 28) rfl rfl (by decide) rfl (by decide) rfl rfl rfl rfl ?_
            refine jr.iload_n rfl rfl ?_
            obtain ⟨v4, e4⟩ : ∃ z_, M 28 y = z_ := ⟨_, rfl⟩
            have b4 : 0 ≤ v4 ∧ v4 ≤ 32 := by rw [← e4]; exact (CI.r hC_M (show kd 28 = 12 from rfl) (by decide) y)
            refine jr.iald (i := y) (x := v4) rfl (by decide) rfl (by decide) (by omega) (by omega) e4 ?_
            refine jr.if_ne rfl rfl (by omega) (fun h41 => ?_) (fun h41 => ?_)
            · refine jr.iconst rfl ?_
              refine jr.istore_n rfl (by decide) rfl ?_
              refine jr.pick [3, 0, 1, 2] rfl rfl ?_
              exact c_Flows_changeBy_L49 k_x q 32 M y 0 hC_M ht_M (by omega) (by omega)  (by omega)
            · refine jr.bipush rfl (by decide) ?_
              exact jr.ireturn rfl rfl rfl (q _ _ hC_M ht_M (by omega) )
    · refine jr.bipush rfl (by decide) ?_
      exact jr.ireturn rfl rfl rfl (q _ _ hC_M ht_M (by omega) )
theorem c_Flows_isTold_L2 {A : Nat → Option (Nat × (Nat → Int32))} {Q : Option Value → jm → Prop} {M : jm} (hC_M : CI M) {x : Int} (q : ∀ (r : Int), 0 ≤ r ∧ r ≤ 1 → Q (some (.int (Int32.ofInt r))) M) : ∀ (nM : Nat) (i : Int), 0 ≤ x ∧ x ≤ 23 → 0 ≤ i ∧ i ≤ 24 → 24 - i ≤ nM → jr A 2 xm_85 2 [(1, .int (Int32.ofInt (x))), (2, .int (Int32.ofInt (i))), (0, .ref (15))] [] M Q := by
  intro nM
  induction nM using Nat.strongRecOn with
  | ind nM ih =>
    intro i h_x h_i hm
    refine jr.iload_n rfl rfl ?_
    refine jr.iload_n rfl rfl ?_
    refine jr.icmp_ge rfl rfl (by omega) (by omega) (fun h4 => ?_) (fun h4 => ?_)
    · refine jr.iconst rfl ?_
      exact jr.ireturn rfl rfl rfl (q _ (by omega) )
    · refine jr.aload_n rfl rfl ?_
      obtain ⟨v1, e1⟩ : ∃ z_, M 15 1 = z_ := ⟨_, rfl⟩
      have b1 : 16 ≤ v1 ∧ v1 ≤ 17 := by rw [← e1]; exact (CI.r hC_M (show kd 15 = 9 from rfl) (by decide) 1)
      have k2 : kd (v1).toNat = 13 := by rcases (show v1 = 16 ∨ v1 = 17 by omega) with h | h <;> (rw [h]; rfl)
      refine jr.getf (i := 1) (x := v1) (v := .ref (v1.toNat)) rfl rfl (by decide) rfl (by decide) rfl rfl e1 rfl ?_
      refine jr.iload_n rfl rfl ?_
      have k3 := kxe_13 k2 (i := i) (by omega) (by omega)
      refine jr.aald (c := (xe ((v1.toNat)) i)) rfl (Nat.lt_trans (kx_13 k2).1 (by decide)) (kx_13 k2).2 (by decide) (by decide) rfl (by decide) (by omega) (by omega) k3.1 ?_
      refine jr.aload_n rfl rfl ?_
      have k4 : kd (v1).toNat = 13 := by rcases (show v1 = 16 ∨ v1 = 17 by omega) with h | h <;> (rw [h]; rfl)
      refine jr.getf (i := 1) (x := v1) (v := .ref (v1.toNat)) rfl rfl (by decide) rfl (by decide) rfl rfl e1 rfl ?_
      refine jr.iload_n rfl rfl ?_
      have k5 := kxe_13 k4 (i := x) (by omega) (by omega)
      refine jr.aald (c := (xe ((v1.toNat)) x)) rfl (Nat.lt_trans (kx_13 k4).1 (by decide)) (kx_13 k4).2 (by decide) (by decide) rfl (by decide) (by omega) (by omega) k5.1 ?_
      refine jr_v rfl rfl (Or.inl rfl) rfl rfl (Nat.lt_trans (kx_1 k3.2).1 (by decide)) (kx_1 k3.2).2 ⟨rfl, Nat.le_of_ble_eq_true rfl, Nat.le_of_ble_eq_true rfl⟩ rfl (jc.deep (c_Flow_sideOf_d hC_M k3.2 k5.2 (fun r6 z6 w6_0 => ?_)) (by decide))
      refine jr.iconst rfl ?_
      refine jr.icmp_eq rfl rfl (by omega) (by omega) (fun h23 => ?_) (fun h23 => ?_)
      · refine jr.iinc rfl rfl (by decide) rfl ?_
        refine jr.goto rfl rfl ?_
        refine jr.pick [1, 0, 2] rfl rfl ?_
        exact ih (nM - 1) (by omega) (i + 1) (by omega) (by omega)  (by omega)
      · refine jr.iconst rfl ?_
        exact jr.ireturn rfl rfl rfl (q _ (by omega) )
theorem c_Flows_isTold {A : Nat → Option (Nat × (Nat → Int32))} {Q : Option Value → jm → Prop} {M : jm} (hC_M : CI M) {x : Int} (h_x : 0 ≤ x ∧ x ≤ 23) (q : ∀ (r : Int), 0 ≤ r ∧ r ≤ 1 → Q (some (.int (Int32.ofInt r))) M) : jc A 3 85 [.ref (15), .int (Int32.ofInt (x))] M Q := by
  refine jc_of (m := xm_85) rfl (Nat.le_of_ble_eq_true rfl) rfl ?_
  refine jr.iconst rfl ?_
  refine jr.istore_n rfl (by decide) rfl ?_
  refine jr.pick [2, 0, 1] rfl rfl ?_
  exact c_Flows_isTold_L2 hC_M  q 24 0 (by omega) (by omega)  (by omega)
def W_c_Flows_layPool : List (Nat × Nat) := [(10, 1000), (11, 1000), (12, 1000)]
theorem c_Flows_layPool_L44 {A : Nat → Option (Nat × (Nat → Int32))} {Q : Option Value → jm → Prop} {T : jm} (q : ∀ (r : Int) (M' : jm), CI M' → FR W_c_Flows_layPool T M' → (-2147483648) ≤ r ∧ r ≤ 2147483647 → Q (some (.int (Int32.ofInt r))) M') : ∀ (nM : Nat) (M : jm) (k : Int) (a : Int) (p : Int) (n : Int) (i : Int), CI M → FR W_c_Flows_layPool T M → 0 ≤ k ∧ k ≤ 3 → (-9223372036854775808) ≤ a ∧ a ≤ 9223372036854775807 → (-2147483648) ≤ p ∧ p ≤ 2147483647 → 1 ≤ n ∧ n ≤ 32 → 0 ≤ i ∧ i ≤ 24 → 24 - i ≤ nM → jr A 0 xm_80 44 [(1, .int (Int32.ofInt (k))), (2, .long (Int64.ofInt (a))), (4, .int (Int32.ofInt (p))), (5, .int (Int32.ofInt (n))), (6, .int (Int32.ofInt (i))), (0, .ref (15))] [] M Q := by
  intro nM
  induction nM using Nat.strongRecOn with
  | ind nM ih =>
    intro M k a p n i hC_M ht_M h_k h_a h_p h_n h_i hm
    refine jr.iload rfl rfl ?_
    refine jr.bipush rfl (by decide) ?_
    refine jr.icmp_ge rfl rfl (by omega) (by omega) (fun h48 => ?_) (fun h48 => ?_)
    · refine jr.aload_n rfl rfl ?_
      refine jr.getf (i := 6) (v := .ref 26) rfl rfl (by decide) rfl (by decide) rfl rfl rfl rfl ?_
      refine jr.iload_n rfl rfl ?_
      refine jr.lload_n rfl rfl ?_
      refine jr.last (i := k) (x := a) rfl (by decide) rfl (by decide) (by omega) (by omega) ?_
      refine jr.aload_n rfl rfl ?_
      refine jr.getf (i := 7) (v := .ref 27) rfl rfl (by decide) rfl (by decide) rfl rfl rfl rfl ?_
      refine jr.iload_n rfl rfl ?_
      refine jr.iload rfl rfl ?_
      refine jr.iast (i := k) (x := p) rfl (by decide) rfl (by decide) (by omega) (by omega) ?_
      refine jr.aload_n rfl rfl ?_
      refine jr.getf (i := 8) (v := .ref 28) rfl rfl (by decide) rfl (by decide) rfl rfl rfl rfl ?_
      refine jr.iload_n rfl rfl ?_
      refine jr.iload rfl rfl ?_
      refine jr.iast (i := k) (x := n) rfl (by decide) rfl (by decide) (by omega) (by omega) ?_
      refine jr.iload rfl rfl ?_
      exact jr.ireturn rfl rfl rfl (q _ _ (CI.u (CI.u (CI.u hC_M (i := k) (show kd 26 = 10 from rfl) (show (-9223372036854775808 : Int) ≤ _ ∧ _ ≤ (9223372036854775807 : Int) from by omega) rfl) (i := k) (show kd 27 = 11 from rfl) (show (-2147483648 : Int) ≤ _ ∧ _ ≤ (2147483647 : Int) from by omega) rfl) (i := k) (show kd 28 = 12 from rfl) (show (0 : Int) ≤ _ ∧ _ ≤ (32 : Int) from by omega) rfl) (FR.o (FR.o (FR.o ht_M (show kd 26 = 10 from rfl) rfl) (show kd 27 = 11 from rfl) rfl) (show kd 28 = 12 from rfl) rfl) (by omega) )
    · refine jr.aload_n rfl rfl ?_
      obtain ⟨v1, e1⟩ : ∃ z_, M 15 0 = z_ := ⟨_, rfl⟩
      have b1 : 16 ≤ v1 ∧ v1 ≤ 17 := by rw [← e1]; exact (CI.r hC_M (show kd 15 = 9 from rfl) (by decide) 0)
      have k2 : kd (v1).toNat = 13 := by rcases (show v1 = 16 ∨ v1 = 17 by omega) with h | h <;> (rw [h]; rfl)
      refine jr.getf (i := 0) (x := v1) (v := .ref (v1.toNat)) rfl rfl (by decide) rfl (by decide) rfl rfl e1 rfl ?_
      refine jr.iload rfl rfl ?_
      have k3 := kxe_13 k2 (i := i) (by omega) (by omega)
      refine jr.aald (c := (xe ((v1.toNat)) i)) rfl (Nat.lt_trans (kx_13 k2).1 (by decide)) (kx_13 k2).2 (by decide) (by decide) rfl (by decide) (by omega) (by omega) k3.1 ?_
      obtain ⟨v4, e4⟩ : ∃ z_, M ((xe ((v1.toNat)) i)) 0 = z_ := ⟨_, rfl⟩
      have b4 : 0 ≤ v4 ∧ v4 ≤ 1 := by rw [← e4]; exact (CI.r hC_M k3.2 (by decide) 0)
      refine jr.getf (i := 0) (x := v4) (v := .int (Int32.ofInt (v4))) rfl rfl (Nat.lt_trans (kx_1 k3.2).1 (by decide)) (kx_1 k3.2).2 (by decide) rfl rfl e4 rfl ?_
      refine jr.if_eq rfl rfl (by omega) (fun h61 => ?_) (fun h61 => ?_)
      · refine jr.iinc rfl rfl (by decide) rfl ?_
        refine jr.goto rfl rfl ?_
        refine jr.pick [1, 2, 3, 4, 0, 5] rfl rfl ?_
        exact ih (nM - 1) (by omega) M k a p n (i + 1) hC_M ht_M (by omega) (by omega) (by omega) (by omega) (by omega)  (by omega)
      · refine jr.aload_n rfl rfl ?_
        have k5 : kd (v1).toNat = 13 := by rcases (show v1 = 16 ∨ v1 = 17 by omega) with h | h <;> (rw [h]; rfl)
        refine jr.getf (i := 0) (x := v1) (v := .ref (v1.toNat)) rfl rfl (by decide) rfl (by decide) rfl rfl e1 rfl ?_
        refine jr.iload rfl rfl ?_
        have k6 := kxe_13 k5 (i := i) (by omega) (by omega)
        refine jr.aald (c := (xe ((v1.toNat)) i)) rfl (Nat.lt_trans (kx_13 k5).1 (by decide)) (kx_13 k5).2 (by decide) (by decide) rfl (by decide) (by omega) (by omega) k6.1 ?_
        obtain ⟨v7, e7⟩ : ∃ z_, M ((xe ((v1.toNat)) i)) 13 = z_ := ⟨_, rfl⟩
        have b7 : (-2147483648) ≤ v7 ∧ v7 ≤ 2147483647 := by rw [← e7]; exact (CI.r hC_M k6.2 (by decide) 13)
        refine jr.getf (i := 13) (x := v7) (v := .int (Int32.ofInt (v7))) rfl rfl (Nat.lt_trans (kx_1 k6.2).1 (by decide)) (kx_1 k6.2).2 (by decide) rfl rfl e7 rfl ?_
        refine jr.iload_n rfl rfl ?_
        refine jr.icmp_ne rfl rfl (by omega) (by omega) (fun h75 => ?_) (fun h75 => ?_)
        · refine jr.iinc rfl rfl (by decide) rfl ?_
          refine jr.goto rfl rfl ?_
          refine jr.pick [1, 2, 3, 4, 0, 5] rfl rfl ?_
          exact ih (nM - 1) (by omega) M k a p n (i + 1) hC_M ht_M (by omega) (by omega) (by omega) (by omega) (by omega)  (by omega)
        · refine jr.bipush rfl (by decide) ?_
          exact jr.ireturn rfl rfl rfl (q _ _ hC_M ht_M (by omega) )
theorem c_Flows_layPool {A : Nat → Option (Nat × (Nat → Int32))} {Q : Option Value → jm → Prop} {T : jm} {M : jm} (hC_M : CI M) (ht_M : FR W_c_Flows_layPool T M) {x : Int} (h_x : (-2147483648) ≤ x ∧ x ≤ 2147483647) {y : Int} (h_y : (-9223372036854775808) ≤ y ∧ y ≤ 9223372036854775807) {z : Int} (h_z : (-2147483648) ≤ z ∧ z ≤ 2147483647) {u : Int} (h_u : (-2147483648) ≤ u ∧ u ≤ 2147483647) (q : ∀ (r : Int) (M' : jm), CI M' → FR W_c_Flows_layPool T M' → (-2147483648) ≤ r ∧ r ≤ 2147483647 → Q (some (.int (Int32.ofInt r))) M') : jc A 1 80 [.ref (15), .int (Int32.ofInt (x)), .long (Int64.ofInt (y)), .int (Int32.ofInt (z)), .int (Int32.ofInt (u))] M Q := by
  refine jc_of (m := xm_80) rfl (Nat.le_of_ble_eq_true rfl) rfl ?_
  refine jr.iload_n rfl rfl ?_
  refine jr.if_lt rfl rfl (by omega) (fun h1 => ?_) (fun h1 => ?_)
  · refine jr.bipush rfl (by decide) ?_
    exact jr.ireturn rfl rfl rfl (q _ _ hC_M ht_M (by omega) )
  · refine jr.iload_n rfl rfl ?_
    refine jr.iconst rfl ?_
    refine jr.icmp_ge rfl rfl (by omega) (by omega) (fun h6 => ?_) (fun h6 => ?_)
    · refine jr.bipush rfl (by decide) ?_
      exact jr.ireturn rfl rfl rfl (q _ _ hC_M ht_M (by omega) )
    · refine jr.iload rfl rfl ?_
      refine jr.iconst rfl ?_
      refine jr.icmp_lt rfl rfl (by omega) (by omega) (fun h12 => ?_) (fun h12 => ?_)
      · refine jr.bipush rfl (by decide) ?_
        exact jr.ireturn rfl rfl rfl (q _ _ hC_M ht_M (by omega) )
      · refine jr.iload rfl rfl ?_
        refine jr.bipush rfl (by decide) ?_
        refine jr.icmp_gt rfl rfl (by omega) (by omega) (fun h19 => ?_) (fun h19 => ?_)
        · refine jr.bipush rfl (by decide) ?_
          exact jr.ireturn rfl rfl rfl (q _ _ hC_M ht_M (by omega) )
        · refine jr.iload rfl rfl ?_
          refine jr.iconst rfl ?_
          refine jr.icmp_lt rfl rfl (by omega) (by omega) (fun h25 => ?_) (fun h25 => ?_)
          · refine jr.bipush rfl (by decide) ?_
            exact jr.ireturn rfl rfl rfl (q _ _ hC_M ht_M (by omega) )
          · refine jr.iload rfl rfl ?_
            refine jr.ldc (x := 65536) rfl rfl (by decide) ?_
            refine jr.iload rfl rfl ?_
            refine jr.isub rfl ?_
            refine jr.icmp_le rfl rfl (by omega) (by omega) (fun h35 => ?_) (fun h35 => ?_)
            · refine jr.iconst rfl ?_
              refine jr.istore rfl (by decide) rfl ?_
              refine jr.pick [2, 3, 4, 5, 0, 1] rfl rfl ?_
              exact c_Flows_layPool_L44  q 24 M x y z u 0 hC_M ht_M (by omega) (by omega) (by omega) (by omega) (by omega)  (by omega)
            · refine jr.bipush rfl (by decide) ?_
              exact jr.ireturn rfl rfl rfl (q _ _ hC_M ht_M (by omega) )
def W_c_Flows_layTable : List (Nat × Nat) := [(43, 1000)]
theorem c_Flows_layTable_L5 {A : Nat → Option (Nat × (Nat → Int32))} {Q : Option Value → jm → Prop} {T : jm} {x : Nat} (k_x : kd x = 43) {y : Int} (q : ∀ (r : Int) (M' : jm), CI M' → FR W_c_Flows_layTable T M' → 0 ≤ r ∧ r ≤ 1152 → Q (some (.int (Int32.ofInt r))) M') : ∀ (nM : Nat) (M : jm) (l : Int) (i : Int), CI M → FR W_c_Flows_layTable T M → (-2147483648) ≤ y ∧ y ≤ 2147483647 → 0 ≤ l ∧ l ≤ 1152 → 0 ≤ i ∧ i ≤ 24 → (l ≤ 48 * i) → 24 - i ≤ nM → jr A 3 xm_83 5 [(2, .int (Int32.ofInt (y))), (3, .int (Int32.ofInt (l))), (4, .int (Int32.ofInt (i))), (0, .ref (15)), (1, .ref (x))] [] M Q := by
  intro nM
  induction nM using Nat.strongRecOn with
  | ind nM ih =>
    intro M l i hC_M ht_M h_y h_l h_i hy0 hm
    refine jr.iload rfl rfl ?_
    refine jr.bipush rfl (by decide) ?_
    refine jr.icmp_ge rfl rfl (by omega) (by omega) (fun h9 => ?_) (fun h9 => ?_)
    · refine jr.iload_n rfl rfl ?_
      exact jr.ireturn rfl rfl rfl (q _ _ hC_M ht_M (by omega) )
    · refine jr.aload_n rfl rfl ?_
      obtain ⟨v1, e1⟩ : ∃ z_, M 15 0 = z_ := ⟨_, rfl⟩
      have b1 : 16 ≤ v1 ∧ v1 ≤ 17 := by rw [← e1]; exact (CI.r hC_M (show kd 15 = 9 from rfl) (by decide) 0)
      have k2 : kd (v1).toNat = 13 := by rcases (show v1 = 16 ∨ v1 = 17 by omega) with h | h <;> (rw [h]; rfl)
      refine jr.getf (i := 0) (x := v1) (v := .ref (v1.toNat)) rfl rfl (by decide) rfl (by decide) rfl rfl e1 rfl ?_
      refine jr.iload rfl rfl ?_
      have k3 := kxe_13 k2 (i := i) (by omega) (by omega)
      refine jr.aald (c := (xe ((v1.toNat)) i)) rfl (Nat.lt_trans (kx_13 k2).1 (by decide)) (kx_13 k2).2 (by decide) (by decide) rfl (by decide) (by omega) (by omega) k3.1 ?_
      obtain ⟨v4, e4⟩ : ∃ z_, M ((xe ((v1.toNat)) i)) 0 = z_ := ⟨_, rfl⟩
      have b4 : 0 ≤ v4 ∧ v4 ≤ 1 := by rw [← e4]; exact (CI.r hC_M k3.2 (by decide) 0)
      refine jr.getf (i := 0) (x := v4) (v := .int (Int32.ofInt (v4))) rfl rfl (Nat.lt_trans (kx_1 k3.2).1 (by decide)) (kx_1 k3.2).2 (by decide) rfl rfl e4 rfl ?_
      refine jr.if_eq rfl rfl (by omega) (fun h22 => ?_) (fun h22 => ?_)
      · refine jr.iinc rfl rfl (by decide) rfl ?_
        refine jr.goto rfl rfl ?_
        refine jr.pick [1, 2, 0, 3, 4] rfl rfl ?_
        exact ih (nM - 1) (by omega) M l (i + 1) hC_M ht_M (by omega) (by omega) (by omega) (by omega) (by omega)
      · refine jr.aload_n rfl rfl ?_
        have k5 : kd (v1).toNat = 13 := by rcases (show v1 = 16 ∨ v1 = 17 by omega) with h | h <;> (rw [h]; rfl)
        refine jr.getf (i := 0) (x := v1) (v := .ref (v1.toNat)) rfl rfl (by decide) rfl (by decide) rfl rfl e1 rfl ?_
        refine jr.iload rfl rfl ?_
        have k6 := kxe_13 k5 (i := i) (by omega) (by omega)
        refine jr.aald (c := (xe ((v1.toNat)) i)) rfl (Nat.lt_trans (kx_13 k5).1 (by decide)) (kx_13 k5).2 (by decide) (by decide) rfl (by decide) (by omega) (by omega) k6.1 ?_
        obtain ⟨v7, e7⟩ : ∃ z_, M ((xe ((v1.toNat)) i)) 13 = z_ := ⟨_, rfl⟩
        have b7 : (-2147483648) ≤ v7 ∧ v7 ≤ 2147483647 := by rw [← e7]; exact (CI.r hC_M k6.2 (by decide) 13)
        refine jr.getf (i := 13) (x := v7) (v := .int (Int32.ofInt (v7))) rfl rfl (Nat.lt_trans (kx_1 k6.2).1 (by decide)) (kx_1 k6.2).2 (by decide) rfl rfl e7 rfl ?_
        refine jr.iconst rfl ?_
        refine jr.icmp_ne rfl rfl (by omega) (by omega) (fun h36 => ?_) (fun h36 => ?_)
        · refine jr.iinc rfl rfl (by decide) rfl ?_
          refine jr.goto rfl rfl ?_
          refine jr.pick [1, 2, 0, 3, 4] rfl rfl ?_
          exact ih (nM - 1) (by omega) M l (i + 1) hC_M ht_M (by omega) (by omega) (by omega) (by omega) (by omega)
        · refine jr.aload_n rfl rfl ?_
          have k8 : kd (v1).toNat = 13 := by rcases (show v1 = 16 ∨ v1 = 17 by omega) with h | h <;> (rw [h]; rfl)
          refine jr.getf (i := 0) (x := v1) (v := .ref (v1.toNat)) rfl rfl (by decide) rfl (by decide) rfl rfl e1 rfl ?_
          refine jr.iload rfl rfl ?_
          have k9 := kxe_13 k8 (i := i) (by omega) (by omega)
          refine jr.aald (c := (xe ((v1.toNat)) i)) rfl (Nat.lt_trans (kx_13 k8).1 (by decide)) (kx_13 k8).2 (by decide) (by decide) rfl (by decide) (by omega) (by omega) k9.1 ?_
          refine jr.aload_n rfl rfl ?_
          refine jr.iload_n rfl rfl ?_
          refine jr.iload_n rfl rfl ?_
          refine jr_v rfl rfl (Or.inl rfl) rfl rfl (Nat.lt_trans (kx_1 k9.2).1 (by decide)) (kx_1 k9.2).2 ⟨rfl, Nat.le_of_ble_eq_true rfl, Nat.le_of_ble_eq_true rfl⟩ rfl (jc.deep (c_Flow_layRow hC_M (FR.rfl _ M) k9.2 k_x (by omega) (by omega) (fun M10 hC_M10 hf_M10  => ?_)) (by decide))
          have ht_M10 : FR W_c_Flows_layTable T M10 := FR.t ht_M hf_M10 (kw_sub rfl)
          refine jr.iinc rfl rfl (by decide) rfl ?_
          refine jr.iinc rfl rfl (by decide) rfl ?_
          refine jr.goto rfl rfl ?_
          refine jr.pick [2, 1, 0, 3, 4] rfl rfl ?_
          exact ih (nM - 1) (by omega) M10 (l + 48) (i + 1) hC_M10 ht_M10 (by omega) (by omega) (by omega) (by omega) (by omega)
theorem c_Flows_layTable {A : Nat → Option (Nat × (Nat → Int32))} {Q : Option Value → jm → Prop} {T : jm} {M : jm} (hC_M : CI M) (ht_M : FR W_c_Flows_layTable T M) {x : Nat} (k_x : kd x = 43) {y : Int} (h_y : (-2147483648) ≤ y ∧ y ≤ 2147483647) (q : ∀ (r : Int) (M' : jm), CI M' → FR W_c_Flows_layTable T M' → 0 ≤ r ∧ r ≤ 1152 → Q (some (.int (Int32.ofInt r))) M') : jc A 4 83 [.ref (15), .ref (x), .int (Int32.ofInt (y))] M Q := by
  refine jc_of (m := xm_83) rfl (Nat.le_of_ble_eq_true rfl) rfl ?_
  refine jr.iconst rfl ?_
  refine jr.istore_n rfl (by decide) rfl ?_
  refine jr.iconst rfl ?_
  refine jr.istore rfl (by decide) rfl ?_
  refine jr.pick [4, 1, 0, 2, 3] rfl rfl ?_
  exact c_Flows_layTable_L5 k_x q 24 M 0 0 hC_M ht_M (by omega) (by omega) (by omega) (by omega) (by omega)
def W_c_Flows_readTable : List (Nat × Nat) := [(1, 0), (1, 1), (1, 2), (1, 5), (1, 6), (1, 12), (1, 13), (1, 15), (2, 1000), (3, 1000), (4, 1000), (5, 1000), (6, 1000), (7, 1000), (8, 1000), (9, 0), (9, 1)]
theorem c_Flows_readTable_L96 {A : Nat → Option (Nat × (Nat → Int32))} {Q : Option Value → jm → Prop} {T : jm} {x : Nat} (k_x : kd x = 43) (q : ∀ (r : Int) (M' : jm), CI M' → FR W_c_Flows_readTable T M' → (-2147483648) ≤ r ∧ r ≤ 2147483647 → Q (some (.int (Int32.ofInt r))) M') : ∀ (nM : Nat) (M : jm) (w : Int) (i : Int), CI M → FR W_c_Flows_readTable T M → 0 ≤ w ∧ w ≤ 34 → 0 ≤ i ∧ i ≤ 34 → 34 - i ≤ nM → jr A 3 xm_84 96 [(4, .int (Int32.ofInt (w))), (5, .int (Int32.ofInt (i))), (0, .ref (15)), (1, .ref (x))] [] M Q := by
  intro nM
  induction nM using Nat.strongRecOn with
  | ind nM ih =>
    intro M w i hC_M ht_M h_w h_i hm
    refine jr.iload rfl rfl ?_
    refine jr.bipush rfl (by decide) ?_
    refine jr.icmp_ge rfl rfl (by omega) (by omega) (fun h100 => ?_) (fun h100 => ?_)
    · refine jr.aload_n rfl rfl ?_
      obtain ⟨v1, e1⟩ : ∃ z_, M 15 0 = z_ := ⟨_, rfl⟩
      have b1 : 16 ≤ v1 ∧ v1 ≤ 17 := by rw [← e1]; exact (CI.r hC_M (show kd 15 = 9 from rfl) (by decide) 0)
      have k2 : kd (v1).toNat = 13 := by rcases (show v1 = 16 ∨ v1 = 17 by omega) with h | h <;> (rw [h]; rfl)
      refine jr.getf (i := 0) (x := v1) (v := .ref (v1.toNat)) rfl rfl (by decide) rfl (by decide) rfl rfl e1 rfl ?_
      refine jr.astore rfl (by decide) rfl ?_
      refine jr.aload_n rfl rfl ?_
      refine jr.aload_n rfl rfl ?_
      obtain ⟨v3, e3⟩ : ∃ z_, M 15 1 = z_ := ⟨_, rfl⟩
      have b3 : 16 ≤ v3 ∧ v3 ≤ 17 := by rw [← e3]; exact (CI.r hC_M (show kd 15 = 9 from rfl) (by decide) 1)
      have k4 : kd (v3).toNat = 13 := by rcases (show v3 = 16 ∨ v3 = 17 by omega) with h | h <;> (rw [h]; rfl)
      refine jr.getf (i := 1) (x := v3) (v := .ref (v3.toNat)) rfl rfl (by decide) rfl (by decide) rfl rfl e3 rfl ?_
      refine jr.putf (i := 0) (x := v3) rfl rfl (by decide) rfl (by decide) rfl rfl rfl rfl rfl ?_
      refine jr.aload_n rfl rfl ?_
      refine jr.aload rfl rfl ?_
      refine jr.putf (i := 1) (x := v1) rfl rfl (by decide) rfl (by decide) rfl rfl rfl rfl rfl ?_
      refine jr.iload rfl rfl ?_
      exact jr.ireturn rfl rfl rfl (q _ _ (CI.u (CI.u hC_M (i := 0) (show kd 15 = 9 from rfl) (show (16 : Int) ≤ _ ∧ _ ≤ (17 : Int) from by omega) rfl) (i := 1) (show kd 15 = 9 from rfl) (show (16 : Int) ≤ _ ∧ _ ≤ (17 : Int) from by omega) rfl) (FR.o (FR.o ht_M (show kd 15 = 9 from rfl) rfl) (show kd 15 = 9 from rfl) rfl) (by omega) )
    · refine jr.aload_n rfl rfl ?_
      obtain ⟨v5, e5⟩ : ∃ z_, M 15 1 = z_ := ⟨_, rfl⟩
      have b5 : 16 ≤ v5 ∧ v5 ≤ 17 := by rw [← e5]; exact (CI.r hC_M (show kd 15 = 9 from rfl) (by decide) 1)
      have k6 : kd (v5).toNat = 13 := by rcases (show v5 = 16 ∨ v5 = 17 by omega) with h | h <;> (rw [h]; rfl)
      refine jr.getf (i := 1) (x := v5) (v := .ref (v5.toNat)) rfl rfl (by decide) rfl (by decide) rfl rfl e5 rfl ?_
      refine jr.iload rfl rfl ?_
      have k7 := kxe_13 k6 (i := i) (by omega) (by omega)
      refine jr.aald (c := (xe ((v5.toNat)) i)) rfl (Nat.lt_trans (kx_13 k6).1 (by decide)) (kx_13 k6).2 (by decide) (by decide) rfl (by decide) (by omega) (by omega) k7.1 ?_
      refine jr.iconst rfl ?_
      refine jr.putf (i := 0) (x := 0) rfl rfl (Nat.lt_trans (kx_1 k7.2).1 (by decide)) (kx_1 k7.2).2 (by decide) rfl rfl rfl rfl rfl ?_
      refine jr.iinc rfl rfl (by decide) rfl ?_
      refine jr.goto rfl rfl ?_
      refine jr.pick [1, 0, 2, 3] rfl rfl ?_
      exact ih (nM - 1) (by omega) ((ju M ((xe ((v5.toNat)) i)) 0 0)) w (i + 1) (CI.u hC_M (i := 0) k7.2 (show (0 : Int) ≤ _ ∧ _ ≤ (1 : Int) from by omega) rfl) (FR.o ht_M k7.2 rfl) (by omega) (by omega)  (by omega)
theorem c_Flows_readTable_L14 {A : Nat → Option (Nat × (Nat → Int32))} {Q : Option Value → jm → Prop} {T : jm} {x : Nat} (k_x : kd x = 43) {y : Int} {z : Int} (q : ∀ (r : Int) (M' : jm), CI M' → FR W_c_Flows_readTable T M' → (-2147483648) ≤ r ∧ r ≤ 2147483647 → Q (some (.int (Int32.ofInt r))) M') : ∀ (nM : Nat) (M : jm) (w : Int) (i : Int), CI M → FR W_c_Flows_readTable T M → 0 ≤ y ∧ y ≤ 1600 → (-2147483648) ≤ z ∧ z ≤ 2147483647 → 0 ≤ w ∧ w ≤ 34 → 0 ≤ i ∧ i ≤ 34 → 34 - i ≤ nM → jr A 3 xm_84 14 [(2, .int (Int32.ofInt (y))), (3, .int (Int32.ofInt (z))), (4, .int (Int32.ofInt (w))), (5, .int (Int32.ofInt (i))), (0, .ref (15)), (1, .ref (x))] [] M Q := by
  intro nM
  induction nM using Nat.strongRecOn with
  | ind nM ih =>
    intro M w i hC_M ht_M h_y h_z h_w h_i hm
    refine jr.iload rfl rfl ?_
    refine jr.iload rfl rfl ?_
    refine jr.icmp_ge rfl rfl (by omega) (by omega) (fun h18 => ?_) (fun h18 => ?_)
    · refine jr.iload rfl rfl ?_
      refine jr.istore rfl (by decide) rfl ?_
      refine jr.pick [3, 0, 4, 5] rfl rfl ?_
      exact c_Flows_readTable_L96 k_x q 34 M w w hC_M ht_M (by omega) (by omega)  (by omega)
    · refine jr.iload rfl rfl ?_
      refine jr.iconst rfl ?_
      refine jr.iadd rfl ?_
      refine jr.bipush rfl (by decide) ?_
      refine jr.imul rfl ?_
      refine jr.iload_n rfl rfl ?_
      refine jr.icmp_gt rfl rfl (by omega) (by omega) (fun h29 => ?_) (fun h29 => ?_)
      · refine jr.iconst rfl ?_
        refine jr.istore rfl (by decide) rfl ?_
        refine jr.iload rfl rfl ?_
        refine jr.bipush rfl (by decide) ?_
        refine jr.icmp_ge rfl rfl (by omega) (by omega) (fun h43 => ?_) (fun h43 => ?_)
        · refine jr.bipush rfl (by decide) ?_
          refine jr.iload rfl rfl ?_
          refine jr.isub rfl ?_
          exact jr.ireturn rfl rfl rfl (q _ _ hC_M ht_M (by omega) )
        · refine jr.iload rfl rfl ?_
          refine jr.if_eq rfl rfl (by omega) (fun _ => ?_) (fun h => absurd (by decide) h)
          refine jr.bipush rfl (by decide) ?_
          refine jr.iload rfl rfl ?_
          refine jr.isub rfl ?_
          exact jr.ireturn rfl rfl rfl (q _ _ hC_M ht_M (by omega) )
      · refine jr.iconst rfl ?_
        refine jr.goto rfl rfl ?_
        refine jr.istore rfl (by decide) rfl ?_
        refine jr.iload rfl rfl ?_
        refine jr.bipush rfl (by decide) ?_
        refine jr.icmp_ge rfl rfl (by omega) (by omega) (fun h43 => ?_) (fun h43 => ?_)
        · refine jr.bipush rfl (by decide) ?_
          refine jr.iload rfl rfl ?_
          refine jr.isub rfl ?_
          exact jr.ireturn rfl rfl rfl (q _ _ hC_M ht_M (by omega) )
        · refine jr.iload rfl rfl ?_
          refine jr.if_eq rfl rfl (by omega) (fun h => absurd h (by decide)) (fun _ => ?_)
          refine jr.aload_n rfl rfl ?_
          obtain ⟨v1, e1⟩ : ∃ z_, M 15 1 = z_ := ⟨_, rfl⟩
          have b1 : 16 ≤ v1 ∧ v1 ≤ 17 := by rw [← e1]; exact (CI.r hC_M (show kd 15 = 9 from rfl) (by decide) 1)
          have k2 : kd (v1).toNat = 13 := by rcases (show v1 = 16 ∨ v1 = 17 by omega) with h | h <;> (rw [h]; rfl)
          refine jr.getf (i := 1) (x := v1) (v := .ref (v1.toNat)) rfl rfl (by decide) rfl (by decide) rfl rfl e1 rfl ?_
          refine jr.iload rfl rfl ?_
          have k3 := kxe_13 k2 (i := i) (by omega) (by omega)
          refine jr.aald (c := (xe ((v1.toNat)) i)) rfl (Nat.lt_trans (kx_13 k2).1 (by decide)) (kx_13 k2).2 (by decide) (by decide) rfl (by decide) (by omega) (by omega) k3.1 ?_
          refine jr.aload_n rfl rfl ?_
          refine jr.iload rfl rfl ?_
          refine jr.bipush rfl (by decide) ?_
          refine jr.imul rfl ?_
          refine jr.iload_n rfl rfl ?_
          refine jr_v rfl rfl (Or.inl rfl) rfl rfl (Nat.lt_trans (kx_1 k3.2).1 (by decide)) (kx_1 k3.2).2 ⟨rfl, Nat.le_of_ble_eq_true rfl, Nat.le_of_ble_eq_true rfl⟩ rfl (jc.deep (c_Flow_readRow hC_M (FR.rfl _ M) k3.2 k_x (by omega) (by omega) (fun r4 M4 hC_M4 hf_M4 z4  => ?_)) (by decide))
          have ht_M4 : FR W_c_Flows_readTable T M4 := FR.t ht_M hf_M4 (kw_sub rfl)
          refine jr.if_eq rfl rfl (by omega) (fun h68 => ?_) (fun h68 => ?_)
          · refine jr.bipush rfl (by decide) ?_
            refine jr.iload rfl rfl ?_
            refine jr.isub rfl ?_
            exact jr.ireturn rfl rfl rfl (q _ _ hC_M4 ht_M4 (by omega) )
          · refine jr.aload_n rfl rfl ?_
            refine jr.iload rfl rfl ?_
            refine jr_v rfl rfl (Or.inl rfl) rfl rfl (by decide) rfl ⟨rfl, Nat.le_of_ble_eq_true rfl, Nat.le_of_ble_eq_true rfl⟩ rfl (jc.deep (c_Flows_isTold hC_M4 (by omega) (fun r5 z5  => ?_)) (by decide))
            refine jr.if_eq rfl rfl (by omega) (fun h77 => ?_) (fun h77 => ?_)
            · refine jr.iinc rfl rfl (by decide) rfl ?_
              refine jr.goto rfl rfl ?_
              refine jr.pick [2, 3, 4, 0, 5, 6] rfl rfl ?_
              exact ih (nM - 1) (by omega) M4 w (i + 1) hC_M4 ht_M4 (by omega) (by omega) (by omega) (by omega)  (by omega)
            · refine jr.bipush rfl (by decide) ?_
              refine jr.iload rfl rfl ?_
              refine jr.isub rfl ?_
              exact jr.ireturn rfl rfl rfl (q _ _ hC_M4 ht_M4 (by omega) )
theorem c_Flows_readTable {A : Nat → Option (Nat × (Nat → Int32))} {Q : Option Value → jm → Prop} {T : jm} {M : jm} (hC_M : CI M) (ht_M : FR W_c_Flows_readTable T M) {x : Nat} (k_x : kd x = 43) {y : Int} (h_y : 0 ≤ y ∧ y ≤ 1600) {z : Int} (h_z : (-2147483648) ≤ z ∧ z ≤ 2147483647) (q : ∀ (r : Int) (M' : jm), CI M' → FR W_c_Flows_readTable T M' → (-2147483648) ≤ r ∧ r ≤ 2147483647 → Q (some (.int (Int32.ofInt r))) M') : jc A 4 84 [.ref (15), .ref (x), .int (Int32.ofInt (y)), .int (Int32.ofInt (z))] M Q := by
  refine jc_of (m := xm_84) rfl (Nat.le_of_ble_eq_true rfl) rfl ?_
  refine jr.iload_n rfl rfl ?_
  refine jr.bipush rfl (by decide) ?_
  refine jr.iadd rfl ?_
  refine jr.iconst rfl ?_
  refine jr.isub rfl ?_
  refine jr.bipush rfl (by decide) ?_
  refine jr.idiv rfl (by decide) ?_
  have b1 : j_div ((y + 48) - 1) 48 = ((y + 48) - 1) / 48 := j_div_ex (by omega) (by omega)
  generalize j_div ((y + 48) - 1) 48 = v1 at b1 ⊢
  refine jr.istore rfl (by decide) rfl ?_
  refine jr.iconst rfl ?_
  refine jr.istore rfl (by decide) rfl ?_
  refine jr.pick [4, 5, 1, 0, 2, 3] rfl rfl ?_
  exact c_Flows_readTable_L14 k_x q 34 M v1 0 hC_M ht_M (by omega) (by omega) (by omega) (by omega)  (by omega)
