section
theorem c_Gathering_makePacket_x {A : Nat → Option (Nat × (Nat → Int32))} {Q : Option Value → jm → Prop} {kp rw f : Int → Int} {T : jm} {M : jm} (hC_M : CI M) (ht_M : FR W_c_Gathering_makePacket_x T M) {t : Nat} (k_t : kd t = 15) {x : Nat} (k_x : kd x = 33) {K : Int} (g_K : M t 1 = K) {W : Int} (g_W : M t 7 = W) {L : Int} (g_L : M t 11 = L) {P : Int} (g_P : M t 12 = P) {U : Int} (g_U : M t 13 = U) {X : Int} (g_X : M t 5 = X) (p0 : T = M) (p1 : MKP M t kp rw (hlf K L) W) (p2 : BY8 M (x + 1) f) (p3 : (0 ≤ W ∧ W ≤ 360) ∧ 8 ≤ L ∧ (0 ≤ hlf K L ∧ hlf K L + W ≤ 400)) (p4 : (K ≠ 2 ∨ (P + 20 ≤ hlf K L)) ∧ 0 ≤ P ∧ P ≤ 400) (q : ∀ (M' : jm), CI M' → FR W_c_Gathering_makePacket_x T M' → (MKD T M' x (mkF (mk0 kp rw f (hlf K L) W) K (hlf K L) W P U X) (hlf K L + W)) → Q none M') : jc A 3 99 [.ref (t), .ref (x)] M Q := by
  refine jc_of (m := xm_99) rfl (Nat.le_of_ble_eq_true rfl) rfl ?_
  have b_K : (-2147483648) ≤ K ∧ K ≤ 2147483647 := by rw [← g_K]; exact (CI.r hC_M k_t (by decide) 1)
  have b_W : (-1) ≤ W ∧ W ≤ 70000 := by rw [← g_W]; exact (CI.r hC_M k_t (by decide) 7)
  have b_L : (-1) ≤ L ∧ L ≤ 400 := by rw [← g_L]; exact (CI.r hC_M k_t (by decide) 11)
  have b_P : (-1) ≤ P ∧ P ≤ 400 := by rw [← g_P]; exact (CI.r hC_M k_t (by decide) 12)
  have b_U : (-1) ≤ U ∧ U ≤ 404 := by rw [← g_U]; exact (CI.r hC_M k_t (by decide) 13)
  have b_X : (-9223372036854775808) ≤ X ∧ X ≤ 9223372036854775807 := by rw [← g_X]; exact (CI.r hC_M k_t (by decide) 5)
  have k_by : kd (x + 1) = 34 := (kf_33_0 k_x).2
  refine jr.aload_n rfl rfl ?_
  refine jr_v rfl rfl (Or.inl rfl) rfl rfl (Nat.lt_trans (kx_15 k_t).1 (by decide)) (kx_15 k_t).2 ⟨rfl, Nat.le_of_ble_eq_true rfl, Nat.le_of_ble_eq_true rfl⟩ rfl (jc.deep (c_Gathering_headersLength_x hC_M k_t g_K g_L (fun r1 z1 w1_0 => ?_)) (by decide))
  refine jr.istore_n (ls' := [_, _, _]) rfl (by decide) rfl ?_
  refine jr.aload_n rfl rfl ?_
  have k2 := kf_15_10 k_t
  refine jr.getf (i := 10) (v := .ref (t + 2)) rfl rfl (Nat.lt_trans (kx_15 k_t).1 (by decide)) (kx_15 k_t).2 (by decide) rfl rfl rfl (jval_ref rfl k2.1) ?_
  refine jr.iconst rfl ?_
  refine jr.aload_n rfl rfl ?_
  have k3 := kf_33_0 k_x
  refine jr.getf (i := 0) (v := .ref (x + 1)) rfl rfl (Nat.lt_trans (kx_33 k_x).1 (by decide)) (kx_33 k_x).2 (by decide) rfl rfl rfl (jval_ref rfl k3.1) ?_
  refine jr.iconst rfl ?_
  refine jr.iload_n rfl rfl ?_
  refine jr.acp rfl rfl (Nat.le_of_ble_eq_true rfl) (Nat.lt_trans (kx_16 k2.2).1 (by decide)) (kx_16 k2.2).2 (Nat.lt_trans (kx_34 k3.2).1 (by decide)) (kx_34 k3.2).2 (by decide) (by decide) (by omega) (by omega) (by omega) (by omega) (by omega) ?_
  have hC_M4 : CI (jcpy M ((t + 2)) 0 ((x + 1)) 0 r1) := CI.cpy hC_M k2.2 k3.2 (by decide) (fun i j => (show (-1 : Int) ≤ (-1 : Int) ∧ (255 : Int) ≤ (255 : Int) from by decide)) (fun _ => rfl)
  have ht_M4 : FR W_c_Gathering_makePacket_x T (jcpy M ((t + 2)) 0 ((x + 1)) 0 r1) := FR.cpy ht_M k3.2 (fun _ => rfl)
  have hf_M4 : FR [(34, 1000)] M (jcpy M ((t + 2)) 0 ((x + 1)) 0 r1) := FR.cpy (FR.rfl _ _) k3.2 (fun _ => rfl)
  have hx_M4 : ∀ (b : Nat) (k : Int), jcpy M ((t + 2)) 0 ((x + 1)) 0 r1 b k = if b = (x + 1) ∧ 0 ≤ k ∧ k < 0 + r1 then M ((t + 2)) (0 + (k - 0)) else M b k := fun _ _ => rfl
  generalize jcpy M ((t + 2)) 0 ((x + 1)) 0 r1 = M4 at hC_M4 ht_M4 hf_M4 hx_M4 ⊢
  refine jr.aload_n rfl rfl ?_
  have k5 := kf_15_9 k_t
  refine jr.getf (i := 9) (v := .ref (t + 1)) rfl rfl (Nat.lt_trans (kx_15 k_t).1 (by decide)) (kx_15 k_t).2 (by decide) rfl rfl rfl (jval_ref rfl k5.1) ?_
  refine jr.iconst rfl ?_
  refine jr.aload_n rfl rfl ?_
  have k6 := kf_33_0 k_x
  refine jr.getf (i := 0) (v := .ref (x + 1)) rfl rfl (Nat.lt_trans (kx_33 k_x).1 (by decide)) (kx_33 k_x).2 (by decide) rfl rfl rfl (jval_ref rfl k6.1) ?_
  refine jr.iload_n rfl rfl ?_
  refine jr.aload_n rfl rfl ?_
  have e8 : M4 t 7 = W := (hf_M4.g k_t rfl).trans g_W
  refine jr_v rfl rfl (Or.inl rfl) rfl rfl (Nat.lt_trans (kx_15 k_t).1 (by decide)) (kx_15 k_t).2 ⟨rfl, Nat.le_of_ble_eq_true rfl, Nat.le_of_ble_eq_true rfl⟩ rfl (jc.deep (c_Gathering_lastPlace_x hC_M4 k_t e8 (fun r7 z7 w7_0 => ?_)) (by decide))
  have hlw : r7 = W := (by rw [w7_0, lpf_w (by omega)])
  refine jr.acp rfl rfl (Nat.le_of_ble_eq_true rfl) (Nat.lt_trans (kx_17 k5.2).1 (by decide)) (kx_17 k5.2).2 (Nat.lt_trans (kx_34 k6.2).1 (by decide)) (kx_34 k6.2).2 (by decide) (by decide) (by omega) (by omega) (by omega) (by omega) (by omega) ?_
  have hC_M9 : CI (jcpy M4 ((t + 1)) 0 ((x + 1)) r1 r7) := CI.cpy hC_M4 k5.2 k6.2 (by decide) (fun i j => (show (-1 : Int) ≤ (-1 : Int) ∧ (255 : Int) ≤ (255 : Int) from by decide)) (fun _ => rfl)
  have ht_M9 : FR W_c_Gathering_makePacket_x T (jcpy M4 ((t + 1)) 0 ((x + 1)) r1 r7) := FR.cpy ht_M4 k6.2 (fun _ => rfl)
  have hf_M9 : FR [(34, 1000)] M4 (jcpy M4 ((t + 1)) 0 ((x + 1)) r1 r7) := FR.cpy (FR.rfl _ _) k6.2 (fun _ => rfl)
  have hx_M9 : ∀ (b : Nat) (k : Int), jcpy M4 ((t + 1)) 0 ((x + 1)) r1 r7 b k = if b = (x + 1) ∧ r1 ≤ k ∧ k < r1 + r7 then M4 ((t + 1)) (0 + (k - r1)) else M4 b k := fun _ _ => rfl
  generalize jcpy M4 ((t + 1)) 0 ((x + 1)) r1 r7 = M9 at hC_M9 ht_M9 hf_M9 hx_M9 ⊢
  refine jr.aload_n rfl rfl ?_
  refine jr.aload_n rfl rfl ?_
  have e11 : M4 t 1 = K := (hf_M4.g k_t rfl).trans g_K
  have e12 : M9 t 1 = K := (hf_M9.g k_t rfl).trans e11
  have e13 : M4 t 11 = L := (hf_M4.g k_t rfl).trans g_L
  have e14 : M9 t 11 = L := (hf_M9.g k_t rfl).trans e13
  have e15 : M9 t 7 = W := (hf_M9.g k_t rfl).trans e8
  refine jr_v rfl rfl (Or.inl rfl) rfl rfl (Nat.lt_trans (kx_15 k_t).1 (by decide)) (kx_15 k_t).2 ⟨rfl, Nat.le_of_ble_eq_true rfl, Nat.le_of_ble_eq_true rfl⟩ rfl (jc.deep (c_Gathering_packetLength_x hC_M9 k_t e12 e14 e15 (fun r10 z10 w10_0 => ?_)) (by decide))
  refine jr.putf (i := 1) (x := r10) rfl rfl (Nat.lt_trans (kx_33 k_x).1 (by decide)) (kx_33 k_x).2 (by decide) rfl rfl rfl rfl rfl ?_
  refine jr.aload_n rfl rfl ?_
  refine jr.lconst (x := 0) rfl (by decide) ?_
  refine jr.putf (i := 2) (x := 0) rfl rfl (Nat.lt_trans (kx_33 k_x).1 (by decide)) (kx_33 k_x).2 (by decide) rfl rfl rfl rfl rfl ?_
  refine jr.aload_n rfl rfl ?_
  refine jr.getf (i := 1) (x := K) (v := .int (Int32.ofInt (K))) rfl rfl (Nat.lt_trans (kx_15 k_t).1 (by decide)) (kx_15 k_t).2 (by decide) rfl rfl ((ju_i _ _ (by decide)).trans ((ju_c _ _ (kd_ne (by rw [k_t, k_x]; decide))).trans e12)) rfl ?_
  refine jr.iconst rfl ?_
  refine jr.icmp_ne rfl rfl (by omega) (by omega) (fun h54 => ?_) (fun h54 => ?_)
  · refine jr.aload_n rfl rfl ?_
    have k16 := kf_33_0 k_x
    refine jr.getf (i := 0) (v := .ref (x + 1)) rfl rfl (Nat.lt_trans (kx_33 k_x).1 (by decide)) (kx_33 k_x).2 (by decide) rfl rfl rfl (jval_ref rfl k16.1) ?_
    refine jr.aload_n rfl rfl ?_
    have e17 : M4 t 13 = U := (hf_M4.g k_t rfl).trans g_U
    have e18 : M9 t 13 = U := (hf_M9.g k_t rfl).trans e17
    refine jr.getf (i := 13) (x := U) (v := .int (Int32.ofInt (U))) rfl rfl (Nat.lt_trans (kx_15 k_t).1 (by decide)) (kx_15 k_t).2 (by decide) rfl rfl ((ju_i _ _ (by decide)).trans ((ju_i _ _ (by decide)).trans e18)) rfl ?_
    refine jr.iconst rfl ?_
    refine jr.aload_n rfl rfl ?_
    have e19 : M4 t 5 = X := (hf_M4.g k_t rfl).trans g_X
    have e20 : M9 t 5 = X := (hf_M9.g k_t rfl).trans e19
    refine jr.getf (i := 5) (x := X) (v := .long (Int64.ofInt (X))) rfl rfl (Nat.lt_trans (kx_15 k_t).1 (by decide)) (kx_15 k_t).2 (by decide) rfl rfl ((ju_i _ _ (by decide)).trans ((ju_i _ _ (by decide)).trans e20)) rfl ?_
    refine jr_s rfl rfl (Or.inr rfl) ⟨Nat.le_of_ble_eq_true rfl, Nat.le_of_ble_eq_true rfl⟩ rfl rfl (jc.deep (c_PacketWall_putNumber_pf (CI.u (CI.u hC_M9 (i := 1) k_x (show (-1 : Int) ≤ _ ∧ _ ≤ (400 : Int) from by omega) rfl) (i := 2) k_x (show (-9223372036854775808 : Int) ≤ _ ∧ _ ≤ (9223372036854775807 : Int) from by omega) rfl) (FR.rfl _ ((ju (ju M9 x 1 r10) x 2 0))) k16.2 (by omega) (by omega) (by omega) rfl (fun M21 hC_M21 hf_M21 w21_0 => ?_)) (by decide))
    have ht_M21 : FR W_c_Gathering_makePacket_x T M21 := FR.t (FR.o (FR.o ht_M9 k_x rfl) k_x rfl) hf_M21 (kw_sub rfl)
    refine jr.aload_n rfl rfl ?_
    have k22 := kf_33_0 k_x
    refine jr.getf (i := 0) (v := .ref (x + 1)) rfl rfl (Nat.lt_trans (kx_33 k_x).1 (by decide)) (kx_33 k_x).2 (by decide) rfl rfl rfl (jval_ref rfl k22.1) ?_
    refine jr.aload_n rfl rfl ?_
    have e23 : M4 t 12 = P := (hf_M4.g k_t rfl).trans g_P
    have e24 : M9 t 12 = P := (hf_M9.g k_t rfl).trans e23
    have e25 : M21 t 12 = P := (hf_M21.g k_t rfl).trans ((ju_i _ _ (by decide)).trans ((ju_i _ _ (by decide)).trans e24))
    refine jr.getf (i := 12) (x := P) (v := .int (Int32.ofInt (P))) rfl rfl (Nat.lt_trans (kx_15 k_t).1 (by decide)) (kx_15 k_t).2 (by decide) rfl rfl e25 rfl ?_
    refine jr.iconst rfl ?_
    refine jr.iadd rfl ?_
    refine jr.iconst rfl ?_
    refine jr.aload_n rfl rfl ?_
    have e26 : M21 x 1 = r10 := (hf_M21.g k_x rfl).trans ((ju_i _ _ (by decide)).trans (ju_same _ _ _ _))
    refine jr.getf (i := 1) (x := r10) (v := .int (Int32.ofInt (r10))) rfl rfl (Nat.lt_trans (kx_33 k_x).1 (by decide)) (kx_33 k_x).2 (by decide) rfl rfl e26 rfl ?_
    refine jr.aload_n rfl rfl ?_
    refine jr.getf (i := 12) (x := P) (v := .int (Int32.ofInt (P))) rfl rfl (Nat.lt_trans (kx_15 k_t).1 (by decide)) (kx_15 k_t).2 (by decide) rfl rfl e25 rfl ?_
    refine jr.isub rfl ?_
    refine jr.bipush rfl (by decide) ?_
    refine jr.isub rfl ?_
    refine jr.i2l rfl (by omega) ?_
    refine jr_s rfl rfl (Or.inr rfl) ⟨Nat.le_of_ble_eq_true rfl, Nat.le_of_ble_eq_true rfl⟩ rfl rfl (jc.deep (c_PacketWall_putNumber_pf hC_M21 (FR.rfl _ M21) k22.2 (by omega) (by omega) (by omega) rfl (fun M27 hC_M27 hf_M27 w27_0 => ?_)) (by decide))
    have ht_M27 : FR W_c_Gathering_makePacket_x T M27 := FR.t ht_M21 hf_M27 (kw_sub rfl)
    have e28 : M27 x 1 = r10 := (hf_M27.g k_x rfl).trans e26
    have e29 : M21 x 2 = 0 := (hf_M21.g k_x rfl).trans (ju_same _ _ _ _)
    have e30 : M27 x 2 = 0 := (hf_M27.g k_x rfl).trans e29
    exact jr.vreturn rfl rfl (q _ hC_M27 ht_M27  ⟨by rw [← (mkF_6 (by omega) w10_0)]; exact (PN.by8 w27_0 (PN.by8 w21_0 (BY8.fr (mk0_b (M1 := M4) (M2 := M9) (c := x + 1) (A := hlf K L) (W := W) p1 p2 (by omega) (kd_ne (by rw [(kf_15_10 k_t).2, k_by]; decide)) (kd_ne (by rw [(kf_15_9 k_t).2, k_by]; decide)) (by rw [← w1_0]; exact hx_M4) (by rw [← w1_0, ← hlw]; exact hx_M9)) k_by (FR.o (FR.o (FR.rfl [(33, 1), (33, 2)] M9) k_x rfl) k_x rfl) rfl))), (e28).trans w10_0, e30, fun b k h1 h2 => by rw [w27_0.2 b k h2, w21_0.2 b k h2, ju_c _ _ h1, ju_c _ _ h1, hx_M9, if_neg (fun h => h2 h.1), hx_M4, if_neg (fun h => h2 h.1), p0]⟩)
  · refine jr.aload_n rfl rfl ?_
    have k31 := kf_33_0 k_x
    refine jr.getf (i := 0) (v := .ref (x + 1)) rfl rfl (Nat.lt_trans (kx_33 k_x).1 (by decide)) (kx_33 k_x).2 (by decide) rfl rfl rfl (jval_ref rfl k31.1) ?_
    refine jr.aload_n rfl rfl ?_
    have e32 : M4 t 12 = P := (hf_M4.g k_t rfl).trans g_P
    have e33 : M9 t 12 = P := (hf_M9.g k_t rfl).trans e32
    refine jr.getf (i := 12) (x := P) (v := .int (Int32.ofInt (P))) rfl rfl (Nat.lt_trans (kx_15 k_t).1 (by decide)) (kx_15 k_t).2 (by decide) rfl rfl ((ju_i _ _ (by decide)).trans ((ju_i _ _ (by decide)).trans e33)) rfl ?_
    refine jr.iconst rfl ?_
    refine jr.iadd rfl ?_
    refine jr.iconst rfl ?_
    refine jr.aload_n rfl rfl ?_
    refine jr.getf (i := 1) (x := r10) (v := .int (Int32.ofInt (r10))) rfl rfl (Nat.lt_trans (kx_33 k_x).1 (by decide)) (kx_33 k_x).2 (by decide) rfl rfl ((ju_i _ _ (by decide)).trans (ju_same _ _ _ _)) rfl ?_
    refine jr.aload_n rfl rfl ?_
    refine jr.getf (i := 12) (x := P) (v := .int (Int32.ofInt (P))) rfl rfl (Nat.lt_trans (kx_15 k_t).1 (by decide)) (kx_15 k_t).2 (by decide) rfl rfl ((ju_i _ _ (by decide)).trans ((ju_i _ _ (by decide)).trans e33)) rfl ?_
    refine jr.isub rfl ?_
    refine jr.i2l rfl (by omega) ?_
    refine jr_s rfl rfl (Or.inr rfl) ⟨Nat.le_of_ble_eq_true rfl, Nat.le_of_ble_eq_true rfl⟩ rfl rfl (jc.deep (c_PacketWall_putNumber_pf (CI.u (CI.u hC_M9 (i := 1) k_x (show (-1 : Int) ≤ _ ∧ _ ≤ (400 : Int) from by omega) rfl) (i := 2) k_x (show (-9223372036854775808 : Int) ≤ _ ∧ _ ≤ (9223372036854775807 : Int) from by omega) rfl) (FR.rfl _ ((ju (ju M9 x 1 r10) x 2 0))) k31.2 (by omega) (by omega) (by omega) rfl (fun M34 hC_M34 hf_M34 w34_0 => ?_)) (by decide))
    have ht_M34 : FR W_c_Gathering_makePacket_x T M34 := FR.t (FR.o (FR.o ht_M9 k_x rfl) k_x rfl) hf_M34 (kw_sub rfl)
    refine jr.aload_n rfl rfl ?_
    have k35 := kf_33_0 k_x
    refine jr.getf (i := 0) (v := .ref (x + 1)) rfl rfl (Nat.lt_trans (kx_33 k_x).1 (by decide)) (kx_33 k_x).2 (by decide) rfl rfl rfl (jval_ref rfl k35.1) ?_
    refine jr.aload_n rfl rfl ?_
    have e36 : M34 t 12 = P := (hf_M34.g k_t rfl).trans ((ju_i _ _ (by decide)).trans ((ju_i _ _ (by decide)).trans e33))
    refine jr.getf (i := 12) (x := P) (v := .int (Int32.ofInt (P))) rfl rfl (Nat.lt_trans (kx_15 k_t).1 (by decide)) (kx_15 k_t).2 (by decide) rfl rfl e36 rfl ?_
    refine jr.bipush rfl (by decide) ?_
    refine jr.iadd rfl ?_
    refine jr.iconst rfl ?_
    refine jr.lconst (x := 0) rfl (by decide) ?_
    refine jr_s rfl rfl (Or.inr rfl) ⟨Nat.le_of_ble_eq_true rfl, Nat.le_of_ble_eq_true rfl⟩ rfl rfl (jc.deep (c_PacketWall_putNumber_pf hC_M34 (FR.rfl _ M34) k35.2 (by omega) (by omega) (by omega) rfl (fun M37 hC_M37 hf_M37 w37_0 => ?_)) (by decide))
    have ht_M37 : FR W_c_Gathering_makePacket_x T M37 := FR.t ht_M34 hf_M37 (kw_sub rfl)
    refine jr.aload_n rfl rfl ?_
    have k38 := kf_33_0 k_x
    refine jr.getf (i := 0) (v := .ref (x + 1)) rfl rfl (Nat.lt_trans (kx_33 k_x).1 (by decide)) (kx_33 k_x).2 (by decide) rfl rfl rfl (jval_ref rfl k38.1) ?_
    refine jr.aload_n rfl rfl ?_
    have e39 : M37 t 12 = P := (hf_M37.g k_t rfl).trans e36
    refine jr.getf (i := 12) (x := P) (v := .int (Int32.ofInt (P))) rfl rfl (Nat.lt_trans (kx_15 k_t).1 (by decide)) (kx_15 k_t).2 (by decide) rfl rfl e39 rfl ?_
    refine jr.bipush rfl (by decide) ?_
    refine jr.iadd rfl ?_
    refine jr.iconst rfl ?_
    refine jr.lconst (x := 0) rfl (by decide) ?_
    refine jr_s rfl rfl (Or.inr rfl) ⟨Nat.le_of_ble_eq_true rfl, Nat.le_of_ble_eq_true rfl⟩ rfl rfl (jc.deep (c_PacketWall_putNumber_pf hC_M37 (FR.rfl _ M37) k38.2 (by omega) (by omega) (by omega) rfl (fun M40 hC_M40 hf_M40 w40_0 => ?_)) (by decide))
    have ht_M40 : FR W_c_Gathering_makePacket_x T M40 := FR.t ht_M37 hf_M40 (kw_sub rfl)
    refine jr.aload_n rfl rfl ?_
    have k41 := kf_33_0 k_x
    refine jr.getf (i := 0) (v := .ref (x + 1)) rfl rfl (Nat.lt_trans (kx_33 k_x).1 (by decide)) (kx_33 k_x).2 (by decide) rfl rfl rfl (jval_ref rfl k41.1) ?_
    refine jr.aload_n rfl rfl ?_
    have e42 : M40 t 12 = P := (hf_M40.g k_t rfl).trans e39
    refine jr.getf (i := 12) (x := P) (v := .int (Int32.ofInt (P))) rfl rfl (Nat.lt_trans (kx_15 k_t).1 (by decide)) (kx_15 k_t).2 (by decide) rfl rfl e42 rfl ?_
    refine jr.bipush rfl (by decide) ?_
    refine jr.iadd rfl ?_
    refine jr.iconst rfl ?_
    refine jr.aload_n rfl rfl ?_
    have k43 := kf_33_0 k_x
    refine jr.getf (i := 0) (v := .ref (x + 1)) rfl rfl (Nat.lt_trans (kx_33 k_x).1 (by decide)) (kx_33 k_x).2 (by decide) rfl rfl rfl (jval_ref rfl k43.1) ?_
    refine jr.aload_n rfl rfl ?_
    refine jr.getf (i := 12) (x := P) (v := .int (Int32.ofInt (P))) rfl rfl (Nat.lt_trans (kx_15 k_t).1 (by decide)) (kx_15 k_t).2 (by decide) rfl rfl e42 rfl ?_
    refine jr.iload_n rfl rfl ?_
    refine jr_s rfl rfl (Or.inr rfl) ⟨Nat.le_of_ble_eq_true rfl, Nat.le_of_ble_eq_true rfl⟩ rfl rfl (jc.deep (c_PacketWall_addedTwos_pw hC_M40 k43.2 (by omega) (by omega) (by omega) (PN.by8 w40_0 (PN.by8 w37_0 (PN.by8 w34_0 (BY8.fr (mk0_b (M1 := M4) (M2 := M9) (c := x + 1) (A := hlf K L) (W := W) p1 p2 (by omega) (kd_ne (by rw [(kf_15_10 k_t).2, k_by]; decide)) (kd_ne (by rw [(kf_15_9 k_t).2, k_by]; decide)) (by rw [← w1_0]; exact hx_M4) (by rw [← w1_0, ← hlw]; exact hx_M9)) k_by (FR.o (FR.o (FR.rfl [(33, 1), (33, 2)] M9) k_x rfl) k_x rfl) rfl)))) (fun r44 z44 w44_0 => ?_)) (by decide))
    refine jr_s rfl rfl (Or.inr rfl) ⟨Nat.le_of_ble_eq_true rfl, Nat.le_of_ble_eq_true rfl⟩ rfl rfl (jc.deep (c_PacketWall_foldedSum_x hC_M40 (by omega) (fun r45 z45 w45_0 => ?_)) (by decide))
    refine jr.i2l rfl (by omega) ?_
    refine jr_s rfl rfl (Or.inr rfl) ⟨Nat.le_of_ble_eq_true rfl, Nat.le_of_ble_eq_true rfl⟩ rfl rfl (jc.deep (c_PacketWall_putNumber_pf hC_M40 (FR.rfl _ M40) k41.2 (by omega) (by omega) (by omega) rfl (fun M46 hC_M46 hf_M46 w46_0 => ?_)) (by decide))
    have ht_M46 : FR W_c_Gathering_makePacket_x T M46 := FR.t ht_M40 hf_M46 (kw_sub rfl)
    refine jr.goto rfl rfl ?_
    have e47 : M34 x 1 = r10 := (hf_M34.g k_x rfl).trans ((ju_i _ _ (by decide)).trans (ju_same _ _ _ _))
    have e48 : M37 x 1 = r10 := (hf_M37.g k_x rfl).trans e47
    have e49 : M40 x 1 = r10 := (hf_M40.g k_x rfl).trans e48
    have e50 : M46 x 1 = r10 := (hf_M46.g k_x rfl).trans e49
    have e51 : M34 x 2 = 0 := (hf_M34.g k_x rfl).trans (ju_same _ _ _ _)
    have e52 : M37 x 2 = 0 := (hf_M37.g k_x rfl).trans e51
    have e53 : M40 x 2 = 0 := (hf_M40.g k_x rfl).trans e52
    have e54 : M46 x 2 = 0 := (hf_M46.g k_x rfl).trans e53
    exact jr.vreturn rfl rfl (q _ hC_M46 ht_M46  ⟨by rw [← (mkF_2 (by omega) w10_0 w1_0 w44_0 w45_0)]; exact (PN.by8 w46_0 (PN.by8 w40_0 (PN.by8 w37_0 (PN.by8 w34_0 (BY8.fr (mk0_b (M1 := M4) (M2 := M9) (c := x + 1) (A := hlf K L) (W := W) p1 p2 (by omega) (kd_ne (by rw [(kf_15_10 k_t).2, k_by]; decide)) (kd_ne (by rw [(kf_15_9 k_t).2, k_by]; decide)) (by rw [← w1_0]; exact hx_M4) (by rw [← w1_0, ← hlw]; exact hx_M9)) k_by (FR.o (FR.o (FR.rfl [(33, 1), (33, 2)] M9) k_x rfl) k_x rfl) rfl))))), (e50).trans w10_0, e54, fun b k h1 h2 => by rw [w46_0.2 b k h2, w40_0.2 b k h2, w37_0.2 b k h2, w34_0.2 b k h2, ju_c _ _ h1, ju_c _ _ h1, hx_M9, if_neg (fun h => h2 h.1), hx_M4, if_neg (fun h => h2 h.1), p0]⟩)
end
section
end
