section
/-! ===== exact effects: rows of bytes ===== -/
noncomputable def pnf (f : Int → Int) (y z n i len : Int) : Int → Int := fun k => if y + z - i ≤ k ∧ k < y + z ∧ 0 ≤ k ∧ k < len then bt n (y + z - 1 - k) else f k
/-- putNumber has laid i bytes -/
noncomputable def PN (T M : jm) (x : Nat) (y z n i len : Int) : Prop := (∀ k : Int, M x k = pnf (T x) y z n i len k) ∧ ∀ (b : Nat) (k : Int), b ≠ x → M b k = T b k
theorem PN.z {T M : jm} {x : Nat} {y z n len : Int} (h : T = M) : PN T M x y z n 0 len := by
  subst h
  refine ⟨fun k => ?_, fun _ _ _ => rfl⟩
  unfold pnf
  rw [if_neg (by omega)]
theorem PN.s {T M : jm} {x : Nat} {y z n i len : Int} (h : PN T M x y z n i len) (ho : y + z - 1 - i < 0 ∨ len ≤ y + z - 1 - i) : PN T M x y z n (i + 1) len := by
  refine ⟨fun k => ?_, h.2⟩
  rw [h.1 k]
  unfold pnf
  by_cases q : y + z - i ≤ k ∧ k < y + z ∧ 0 ≤ k ∧ k < len
  · rw [if_pos q, if_pos (by omega)]
  · rw [if_neg q, if_neg (by omega)]
theorem PN.w {T M : jm} {x : Nat} {y z n i len t v : Int} (h : PN T M x y z n i len) (ht : t = y + z - 1 - i) (hi : 0 ≤ i) (h0 : 0 ≤ t ∧ t < len) (hv : v = bt n i) : PN T (ju M x t v) x y z n (i + 1) len := by
  subst ht
  refine ⟨fun k => ?_, fun b k hb => by rw [ju_c M v hb]; exact h.2 b k hb⟩
  by_cases q : k = y + z - 1 - i
  · subst q
    rw [ju_same, hv]
    unfold pnf
    rw [if_pos (by omega), show y + z - 1 - (y + z - 1 - i) = i by omega]
  · rw [ju_i M v q, h.1 k]
    unfold pnf
    by_cases q2 : y + z - i ≤ k ∧ k < y + z ∧ 0 ≤ k ∧ k < len
    · rw [if_pos q2, if_pos (by omega)]
    · rw [if_neg q2, if_neg (by omega)]
noncomputable def W_c_PacketWall_putNumber_pf : List (Nat × Nat) := [(34, 1000)]
theorem c_PacketWall_putNumber_pf_L3 {A : Nat → Option (Nat × (Nat → Int32))} {Q : Option Value → jm → Prop} {T : jm} {x : Nat} (k_x : kd x = 34) {u : Int} {y : Int} {z : Int} (q : ∀ (M' : jm), CI M' → FR W_c_PacketWall_putNumber_pf T M' → (PN T M' x y z u z 400) → Q none M') : ∀ (nM : Nat) (M : jm) (i : Int), CI M → FR W_c_PacketWall_putNumber_pf T M → (-100000) ≤ y ∧ y ≤ 100000 → 0 ≤ z ∧ z ≤ 8 → (-9223372036854775808) ≤ u ∧ u ≤ 9223372036854775807 → 0 ≤ i ∧ i ≤ 8 → (PN T M x y z u i 400) → (i ≤ z) → 8 - i ≤ nM → jr A 0 xm_53 3 [(1, .int (Int32.ofInt (y))), (2, .int (Int32.ofInt (z))), (3, .long (Int64.ofInt (u))), (5, .int (Int32.ofInt (i))), (0, .ref (x))] [] M Q := by
  intro nM
  induction nM using Nat.strongRecOn with
  | ind nM ih =>
    intro M i hC_M ht_M h_y h_z h_u h_i hy0 hy1 hm
    refine jr.iload rfl rfl ?_
    refine jr.iload_n rfl rfl ?_
    refine jr.icmp_ge rfl rfl (by omega) (by omega) (fun h6 => ?_) (fun h6 => ?_)
    · exact jr.vreturn rfl rfl (q _ hC_M ht_M  (by have hq := hy0; rw [show i = z from by omega] at hq; exact hq))
    · refine jr.iload_n rfl rfl ?_
      refine jr.iload_n rfl rfl ?_
      refine jr.iadd rfl ?_
      refine jr.iconst rfl ?_
      refine jr.isub rfl ?_
      refine jr.iload rfl rfl ?_
      refine jr.isub rfl ?_
      refine jr.istore rfl (by decide) rfl ?_
      refine jr.iload rfl rfl ?_
      refine jr.if_lt rfl rfl (by omega) (fun h21 => ?_) (fun h21 => ?_)
      · refine jr.iinc rfl rfl (by decide) rfl ?_
        refine jr.goto rfl rfl ?_
        refine jr.pick [2, 3, 4, 0, 5] rfl rfl ?_
        exact ih (nM - 1) (by omega) M (i + 1) hC_M ht_M (by omega) (by omega) (by omega) (by omega) (PN.s hy0 (by omega)) (by omega) (by omega)
      · refine jr.iload rfl rfl ?_
        refine jr.aload_n rfl rfl ?_
        refine jr.alen0 (x := 400) rfl (Nat.lt_trans (kx_34 k_x).1 (by decide)) (kx_34 k_x).2 rfl ?_
        refine jr.icmp_ge rfl rfl (by omega) (by omega) (fun h28 => ?_) (fun h28 => ?_)
        · refine jr.iinc rfl rfl (by decide) rfl ?_
          refine jr.goto rfl rfl ?_
          refine jr.pick [2, 3, 4, 0, 5] rfl rfl ?_
          exact ih (nM - 1) (by omega) M (i + 1) hC_M ht_M (by omega) (by omega) (by omega) (by omega) (PN.s hy0 (by omega)) (by omega) (by omega)
        · refine jr.aload_n rfl rfl ?_
          refine jr.iload rfl rfl ?_
          refine jr.lload_n rfl rfl ?_
          refine jr.bipush rfl (by decide) ?_
          refine jr.iload rfl rfl ?_
          refine jr.imul rfl ?_
          refine jr.lushr rfl ?_
          refine jr.l2i rfl ?_
          refine jr.iw (j_w (jl_ushr u (8 * i))) (j_w_eq _) ?_
          have b1 : -2147483648 ≤ j_w (jl_ushr u (8 * i)) ∧ j_w (jl_ushr u (8 * i)) ≤ 2147483647 := jb_any _
          refine jr.sipush rfl (by decide) ?_
          refine jr.iand rfl ?_
          have b2 : j_and (j_w (jl_ushr u (8 * i))) 255 = bt u i ∧ 0 ≤ j_and (j_w (jl_ushr u (8 * i))) 255 ∧ j_and (j_w (jl_ushr u (8 * i))) 255 ≤ 255 := ⟨bt_cl (by omega), by rw [bt_cl (by omega)]; exact bt_r _ _⟩
          generalize j_and (j_w (jl_ushr u (8 * i))) 255 = v2 at b2 ⊢
          refine jr.iast (i := (((y + z) - 1) - i)) (x := v2) rfl (Nat.lt_trans (kx_34 k_x).1 (by decide)) (kx_34 k_x).2 (by decide) (by omega) (by omega) ?_
          refine jr.iinc rfl rfl (by decide) rfl ?_
          refine jr.goto rfl rfl ?_
          refine jr.pick [2, 3, 4, 0, 5] rfl rfl ?_
          exact ih (nM - 1) (by omega) ((ju M x (((y + z) - 1) - i) v2)) (i + 1) (CI.u hC_M (i := (((y + z) - 1) - i)) k_x (show (-1 : Int) ≤ _ ∧ _ ≤ (255 : Int) from by omega) rfl) (FR.o ht_M k_x rfl) (by omega) (by omega) (by omega) (by omega) (PN.w hy0 (by omega) (by omega) (by omega) (by omega)) (by omega) (by omega)
theorem c_PacketWall_putNumber_pf {A : Nat → Option (Nat × (Nat → Int32))} {Q : Option Value → jm → Prop} {T : jm} {M : jm} (hC_M : CI M) (ht_M : FR W_c_PacketWall_putNumber_pf T M) {x : Nat} (k_x : kd x = 34) {y : Int} (h_y : (-100000) ≤ y ∧ y ≤ 100000) {z : Int} (h_z : 0 ≤ z ∧ z ≤ 8) {u : Int} (h_u : (-9223372036854775808) ≤ u ∧ u ≤ 9223372036854775807) (p0 : T = M) (q : ∀ (M' : jm), CI M' → FR W_c_PacketWall_putNumber_pf T M' → (PN T M' x y z u z 400) → Q none M') : jc A 1 53 [.ref (x), .int (Int32.ofInt (y)), .int (Int32.ofInt (z)), .long (Int64.ofInt (u))] M Q := by
  refine jc_of (m := xm_53) rfl (Nat.le_of_ble_eq_true rfl) rfl ?_
  refine jr.iconst rfl ?_
  refine jr.istore rfl (by decide) rfl ?_
  refine jr.pick [2, 3, 4, 0, 1] rfl rfl ?_
  exact c_PacketWall_putNumber_pf_L3 k_x q 8 M 0 hC_M ht_M (by omega) (by omega) (by omega) (by omega) (PN.z p0) (by omega) (by omega)
noncomputable def W_c_PacketWall_putNumber_tf : List (Nat × Nat) := [(43, 1000)]
theorem c_PacketWall_putNumber_tf_L3 {A : Nat → Option (Nat × (Nat → Int32))} {Q : Option Value → jm → Prop} {T : jm} {x : Nat} (k_x : kd x = 43) {u : Int} {y : Int} {z : Int} (q : ∀ (M' : jm), CI M' → FR W_c_PacketWall_putNumber_tf T M' → (PN T M' x y z u z 1600) → Q none M') : ∀ (nM : Nat) (M : jm) (i : Int), CI M → FR W_c_PacketWall_putNumber_tf T M → (-100000) ≤ y ∧ y ≤ 100000 → 0 ≤ z ∧ z ≤ 8 → (-9223372036854775808) ≤ u ∧ u ≤ 9223372036854775807 → 0 ≤ i ∧ i ≤ 8 → (PN T M x y z u i 1600) → (i ≤ z) → 8 - i ≤ nM → jr A 0 xm_53 3 [(1, .int (Int32.ofInt (y))), (2, .int (Int32.ofInt (z))), (3, .long (Int64.ofInt (u))), (5, .int (Int32.ofInt (i))), (0, .ref (x))] [] M Q := by
  intro nM
  induction nM using Nat.strongRecOn with
  | ind nM ih =>
    intro M i hC_M ht_M h_y h_z h_u h_i hy0 hy1 hm
    refine jr.iload rfl rfl ?_
    refine jr.iload_n rfl rfl ?_
    refine jr.icmp_ge rfl rfl (by omega) (by omega) (fun h6 => ?_) (fun h6 => ?_)
    · exact jr.vreturn rfl rfl (q _ hC_M ht_M  (by have hq := hy0; rw [show i = z from by omega] at hq; exact hq))
    · refine jr.iload_n rfl rfl ?_
      refine jr.iload_n rfl rfl ?_
      refine jr.iadd rfl ?_
      refine jr.iconst rfl ?_
      refine jr.isub rfl ?_
      refine jr.iload rfl rfl ?_
      refine jr.isub rfl ?_
      refine jr.istore rfl (by decide) rfl ?_
      refine jr.iload rfl rfl ?_
      refine jr.if_lt rfl rfl (by omega) (fun h21 => ?_) (fun h21 => ?_)
      · refine jr.iinc rfl rfl (by decide) rfl ?_
        refine jr.goto rfl rfl ?_
        refine jr.pick [2, 3, 4, 0, 5] rfl rfl ?_
        exact ih (nM - 1) (by omega) M (i + 1) hC_M ht_M (by omega) (by omega) (by omega) (by omega) (PN.s hy0 (by omega)) (by omega) (by omega)
      · refine jr.iload rfl rfl ?_
        refine jr.aload_n rfl rfl ?_
        refine jr.alen0 (x := 1600) rfl (Nat.lt_trans (kx_43 k_x).1 (by decide)) (kx_43 k_x).2 rfl ?_
        refine jr.icmp_ge rfl rfl (by omega) (by omega) (fun h28 => ?_) (fun h28 => ?_)
        · refine jr.iinc rfl rfl (by decide) rfl ?_
          refine jr.goto rfl rfl ?_
          refine jr.pick [2, 3, 4, 0, 5] rfl rfl ?_
          exact ih (nM - 1) (by omega) M (i + 1) hC_M ht_M (by omega) (by omega) (by omega) (by omega) (PN.s hy0 (by omega)) (by omega) (by omega)
        · refine jr.aload_n rfl rfl ?_
          refine jr.iload rfl rfl ?_
          refine jr.lload_n rfl rfl ?_
          refine jr.bipush rfl (by decide) ?_
          refine jr.iload rfl rfl ?_
          refine jr.imul rfl ?_
          refine jr.lushr rfl ?_
          refine jr.l2i rfl ?_
          refine jr.iw (j_w (jl_ushr u (8 * i))) (j_w_eq _) ?_
          have b1 : -2147483648 ≤ j_w (jl_ushr u (8 * i)) ∧ j_w (jl_ushr u (8 * i)) ≤ 2147483647 := jb_any _
          refine jr.sipush rfl (by decide) ?_
          refine jr.iand rfl ?_
          have b2 : j_and (j_w (jl_ushr u (8 * i))) 255 = bt u i ∧ 0 ≤ j_and (j_w (jl_ushr u (8 * i))) 255 ∧ j_and (j_w (jl_ushr u (8 * i))) 255 ≤ 255 := ⟨bt_cl (by omega), by rw [bt_cl (by omega)]; exact bt_r _ _⟩
          generalize j_and (j_w (jl_ushr u (8 * i))) 255 = v2 at b2 ⊢
          refine jr.iast (i := (((y + z) - 1) - i)) (x := v2) rfl (Nat.lt_trans (kx_43 k_x).1 (by decide)) (kx_43 k_x).2 (by decide) (by omega) (by omega) ?_
          refine jr.iinc rfl rfl (by decide) rfl ?_
          refine jr.goto rfl rfl ?_
          refine jr.pick [2, 3, 4, 0, 5] rfl rfl ?_
          exact ih (nM - 1) (by omega) ((ju M x (((y + z) - 1) - i) v2)) (i + 1) (CI.u hC_M (i := (((y + z) - 1) - i)) k_x (show (0 : Int) ≤ _ ∧ _ ≤ (255 : Int) from by omega) rfl) (FR.o ht_M k_x rfl) (by omega) (by omega) (by omega) (by omega) (PN.w hy0 (by omega) (by omega) (by omega) (by omega)) (by omega) (by omega)
theorem c_PacketWall_putNumber_tf {A : Nat → Option (Nat × (Nat → Int32))} {Q : Option Value → jm → Prop} {T : jm} {M : jm} (hC_M : CI M) (ht_M : FR W_c_PacketWall_putNumber_tf T M) {x : Nat} (k_x : kd x = 43) {y : Int} (h_y : (-100000) ≤ y ∧ y ≤ 100000) {z : Int} (h_z : 0 ≤ z ∧ z ≤ 8) {u : Int} (h_u : (-9223372036854775808) ≤ u ∧ u ≤ 9223372036854775807) (p0 : T = M) (q : ∀ (M' : jm), CI M' → FR W_c_PacketWall_putNumber_tf T M' → (PN T M' x y z u z 1600) → Q none M') : jc A 1 53 [.ref (x), .int (Int32.ofInt (y)), .int (Int32.ofInt (z)), .long (Int64.ofInt (u))] M Q := by
  refine jc_of (m := xm_53) rfl (Nat.le_of_ble_eq_true rfl) rfl ?_
  refine jr.iconst rfl ?_
  refine jr.istore rfl (by decide) rfl ?_
  refine jr.pick [2, 3, 4, 0, 1] rfl rfl ?_
  exact c_PacketWall_putNumber_tf_L3 k_x q 8 M 0 hC_M ht_M (by omega) (by omega) (by omega) (by omega) (PN.z p0) (by omega) (by omega)
/-- four bytes of a number, laid at S -/
noncomputable def t4 (f : Int → Int) (S v : Int) : Int → Int := fun k => if S ≤ k ∧ k < S + 4 then bt v (S + 3 - k) else f k
theorem PN.t4 {T M : jm} {S v : Int} (h : PN T M 1 S 4 v 4 1600) (h0 : 0 ≤ S ∧ S ≤ 1596) : M 1 = t4 (T 1) S v := by
  funext k
  rw [h.1 k]
  unfold pnf
  show _ = if S ≤ k ∧ k < S + 4 then bt v (S + 3 - k) else T 1 k
  by_cases q : S ≤ k ∧ k < S + 4
  · rw [if_pos (by omega), if_pos q, show S + 4 - 1 - k = S + 3 - k by omega]
  · rw [if_neg (by omega), if_neg q]
theorem t4_eq {f g : Int → Int} (h : f = g) (S v : Int) : t4 f S v = t4 g S v := by rw [h]
theorem ju1_row {M : jm} {a : Nat} {i v : Int} (h : (1 : Nat) ≠ a) : ju M a i v 1 = M 1 := funext (fun k => ju_c M v h)
noncomputable def W_c_PacketWall_feedFour_f : List (Nat × Nat) := [(35, 1), (43, 1000)]
theorem c_PacketWall_feedFour_f {A : Nat → Option (Nat × (Nat → Int32))} {Q : Option Value → jm → Prop} {T : jm} {M : jm} (hC_M : CI M) (ht_M : FR W_c_PacketWall_feedFour_f T M) {x : Int} (h_x : (-2147483648) ≤ x ∧ x ≤ 2147483647) {S : Int} (g_S : M 0 1 = S) (p0 : S ≤ 1596) (p1 : T = M) (q : ∀ (M' : jm), CI M' → FR W_c_PacketWall_feedFour_f T M' → (M' 0 1 = (S + 4)) → (M' 1 = t4 (T 1) S x) → Q none M') : jc A 2 41 [.ref (0), .int (Int32.ofInt (x))] M Q := by
  refine jc_of (m := xm_41) rfl (Nat.le_of_ble_eq_true rfl) rfl ?_
  have b_S : 0 ≤ S ∧ S ≤ 1600 := by rw [← g_S]; exact (CI.r hC_M (show kd 0 = 35 from rfl) (by decide) 1)
  refine jr.aload_n rfl rfl ?_
  refine jr.getf (i := 0) (v := .ref 1) rfl rfl (by decide) rfl (by decide) rfl rfl rfl rfl ?_
  refine jr.aload_n rfl rfl ?_
  refine jr.getf (i := 1) (x := S) (v := .int (Int32.ofInt (S))) rfl rfl (by decide) rfl (by decide) rfl rfl g_S rfl ?_
  refine jr.iconst rfl ?_
  refine jr.iload_n rfl rfl ?_
  refine jr.i2l rfl (by omega) ?_
  refine jr_s rfl rfl (Or.inl rfl) ⟨Nat.le_of_ble_eq_true rfl, Nat.le_of_ble_eq_true rfl⟩ rfl rfl (jc.deep (c_PacketWall_putNumber_tf hC_M (FR.rfl _ M) (show kd 1 = 43 from rfl) (by omega) (by omega) (by omega) rfl (fun M1 hC_M1 hf_M1 w1_0 => ?_)) (by decide))
  have ht_M1 : FR W_c_PacketWall_feedFour_f T M1 := FR.t ht_M hf_M1 (kw_sub rfl)
  refine jr.aload_n rfl rfl ?_
  refine jr.dup rfl rfl ?_
  have e2 : M1 0 1 = S := (hf_M1.g (show kd 0 = 35 from rfl) rfl).trans g_S
  refine jr.getf (i := 1) (x := S) (v := .int (Int32.ofInt (S))) rfl rfl (by decide) rfl (by decide) rfl rfl e2 rfl ?_
  refine jr.iconst rfl ?_
  refine jr.iadd rfl ?_
  refine jr.putf (i := 1) (x := (S + 4)) rfl rfl (by decide) rfl (by decide) rfl rfl rfl rfl rfl ?_
  exact jr.vreturn rfl rfl (q _ (CI.u hC_M1 (i := 1) (show kd 0 = 35 from rfl) (show (0 : Int) ≤ _ ∧ _ ≤ (1600 : Int) from by omega) rfl) (FR.o ht_M1 (show kd 0 = 35 from rfl) rfl)  (by have hq0 : (ju M1 0 1 (S + 4)) 0 1 = S + 4 := (ju_same _ _ _ _); omega) (by rw [ju1_row (by decide), p1]; exact PN.t4 w1_0 (by omega)))
noncomputable def W_c_PacketWall_feed_f : List (Nat × Nat) := [(35, 1), (43, 1000)]
theorem c_PacketWall_feed_f {A : Nat → Option (Nat × (Nat → Int32))} {Q : Option Value → jm → Prop} {T : jm} {M : jm} (hC_M : CI M) (ht_M : FR W_c_PacketWall_feed_f T M) {x : Int} (h_x : (-2147483648) ≤ x ∧ x ≤ 2147483647) {y : Int} (h_y : (-2147483648) ≤ y ∧ y ≤ 2147483647) {z : Int} (h_z : (-2147483648) ≤ z ∧ z ≤ 2147483647) {u : Int} (h_u : (-2147483648) ≤ u ∧ u ≤ 2147483647) {v : Int} (h_v : (-2147483648) ≤ v ∧ v ≤ 2147483647) {S : Int} (g_S : M 0 1 = S) (p0 : T = M) (q : ∀ (r : Int) (M' : jm), CI M' → FR W_c_PacketWall_feed_f T M' → (-2147483648) ≤ r ∧ r ≤ 2147483647 → ((S + 20 ≤ 1600 ∧ r = S + 20 ∧ M' 1 = t4 (t4 (t4 (t4 (t4 (T 1) S x) (S + 4) y) ((S + 4) + 4) z) (((S + 4) + 4) + 4) u) ((((S + 4) + 4) + 4) + 4) v) ∨ (1600 < S + 20 ∧ r = -5 ∧ M' 1 = T 1)) → ((S + 20 ≤ 1600 ∧ M' 0 1 = S + 20) ∨ (1600 < S + 20 ∧ M' 0 1 = S)) → Q (some (.int (Int32.ofInt r))) M') : jc A 3 1 [.ref (0), .int (Int32.ofInt (x)), .int (Int32.ofInt (y)), .int (Int32.ofInt (z)), .int (Int32.ofInt (u)), .int (Int32.ofInt (v))] M Q := by
  refine jc_of (m := xm_1) rfl (Nat.le_of_ble_eq_true rfl) rfl ?_
  have b_S : 0 ≤ S ∧ S ≤ 1600 := by rw [← g_S]; exact (CI.r hC_M (show kd 0 = 35 from rfl) (by decide) 1)
  refine jr.aload_n rfl rfl ?_
  refine jr.getf (i := 1) (x := S) (v := .int (Int32.ofInt (S))) rfl rfl (by decide) rfl (by decide) rfl rfl g_S rfl ?_
  refine jr.bipush rfl (by decide) ?_
  refine jr.iadd rfl ?_
  refine jr.sipush rfl (by decide) ?_
  refine jr.icmp_le rfl rfl (by omega) (by omega) (fun h10 => ?_) (fun h10 => ?_)
  · refine jr.aload_n rfl rfl ?_
    refine jr.iload_n rfl rfl ?_
    refine jr_v rfl rfl (Or.inl rfl) rfl rfl (by decide) rfl ⟨rfl, Nat.le_of_ble_eq_true rfl, Nat.le_of_ble_eq_true rfl⟩ rfl (jc.deep (c_PacketWall_feedFour_f hC_M (FR.rfl _ M) (by omega) g_S (by omega) rfl (fun M1 hC_M1 hf_M1 w1_0 w1_1 => ?_)) (by decide))
    have ht_M1 : FR W_c_PacketWall_feed_f T M1 := FR.t ht_M hf_M1 (kw_sub rfl)
    have b2 : 0 ≤ (S + 4) ∧ (S + 4) ≤ 1600 := by omega
    refine jr.aload_n rfl rfl ?_
    refine jr.iload_n rfl rfl ?_
    refine jr_v rfl rfl (Or.inl rfl) rfl rfl (by decide) rfl ⟨rfl, Nat.le_of_ble_eq_true rfl, Nat.le_of_ble_eq_true rfl⟩ rfl (jc.deep (c_PacketWall_feedFour_f hC_M1 (FR.rfl _ M1) (by omega) w1_0 (by omega) rfl (fun M3 hC_M3 hf_M3 w3_0 w3_1 => ?_)) (by decide))
    have ht_M3 : FR W_c_PacketWall_feed_f T M3 := FR.t ht_M1 hf_M3 (kw_sub rfl)
    have b4 : 0 ≤ (((S + 4)) + 4) ∧ (((S + 4)) + 4) ≤ 1600 := by omega
    refine jr.aload_n rfl rfl ?_
    refine jr.iload_n rfl rfl ?_
    refine jr_v rfl rfl (Or.inl rfl) rfl rfl (by decide) rfl ⟨rfl, Nat.le_of_ble_eq_true rfl, Nat.le_of_ble_eq_true rfl⟩ rfl (jc.deep (c_PacketWall_feedFour_f hC_M3 (FR.rfl _ M3) (by omega) w3_0 (by omega) rfl (fun M5 hC_M5 hf_M5 w5_0 w5_1 => ?_)) (by decide))
    have ht_M5 : FR W_c_PacketWall_feed_f T M5 := FR.t ht_M3 hf_M5 (kw_sub rfl)
    have b6 : 0 ≤ (((((S + 4)) + 4)) + 4) ∧ (((((S + 4)) + 4)) + 4) ≤ 1600 := by omega
    refine jr.aload_n rfl rfl ?_
    refine jr.iload rfl rfl ?_
    refine jr_v rfl rfl (Or.inl rfl) rfl rfl (by decide) rfl ⟨rfl, Nat.le_of_ble_eq_true rfl, Nat.le_of_ble_eq_true rfl⟩ rfl (jc.deep (c_PacketWall_feedFour_f hC_M5 (FR.rfl _ M5) (by omega) w5_0 (by omega) rfl (fun M7 hC_M7 hf_M7 w7_0 w7_1 => ?_)) (by decide))
    have ht_M7 : FR W_c_PacketWall_feed_f T M7 := FR.t ht_M5 hf_M7 (kw_sub rfl)
    have b8 : 0 ≤ (((((((S + 4)) + 4)) + 4)) + 4) ∧ (((((((S + 4)) + 4)) + 4)) + 4) ≤ 1600 := by omega
    refine jr.aload_n rfl rfl ?_
    refine jr.iload rfl rfl ?_
    refine jr_v rfl rfl (Or.inl rfl) rfl rfl (by decide) rfl ⟨rfl, Nat.le_of_ble_eq_true rfl, Nat.le_of_ble_eq_true rfl⟩ rfl (jc.deep (c_PacketWall_feedFour_f hC_M7 (FR.rfl _ M7) (by omega) w7_0 (by omega) rfl (fun M9 hC_M9 hf_M9 w9_0 w9_1 => ?_)) (by decide))
    have ht_M9 : FR W_c_PacketWall_feed_f T M9 := FR.t ht_M7 hf_M9 (kw_sub rfl)
    have b10 : 0 ≤ (((((((((S + 4)) + 4)) + 4)) + 4)) + 4) ∧ (((((((((S + 4)) + 4)) + 4)) + 4)) + 4) ≤ 1600 := by omega
    refine jr.aload_n rfl rfl ?_
    refine jr.getf (i := 1) (x := ((((((((((S + 4)) + 4)) + 4)) + 4)) + 4))) (v := .int (Int32.ofInt ((((((((((S + 4)) + 4)) + 4)) + 4)) + 4)))) rfl rfl (by decide) rfl (by decide) rfl rfl w9_0 rfl ?_
    exact jr.ireturn rfl rfl rfl (q _ _ hC_M9 ht_M9 (by omega) (Or.inl ⟨by omega, by omega, by rw [w9_1, w7_1, w5_1, w3_1, w1_1, p0]⟩) (by have hq0 : M9 0 1 = (((((((((S + 4)) + 4)) + 4)) + 4)) + 4) := w9_0; omega))
  · refine jr.bipush rfl (by decide) ?_
    exact jr.ireturn rfl rfl rfl (q _ _ hC_M ht_M (by omega) (Or.inr ⟨by omega, by omega, by rw [p0]⟩) (by have hq0 : M 0 1 = S := g_S; omega))
noncomputable def W_c_PacketWall_end_x : List (Nat × Nat) := [(35, 1)]
theorem c_PacketWall_end_x {A : Nat → Option (Nat × (Nat → Int32))} {Q : Option Value → jm → Prop} {T : jm} {M : jm} (hC_M : CI M) (ht_M : FR W_c_PacketWall_end_x T M) {x : Int} (h_x : (-2147483648) ≤ x ∧ x ≤ 2147483647) {S : Int} (g_S : M 0 1 = S) (q : ∀ (r : Int) (M' : jm), CI M' → FR W_c_PacketWall_end_x T M' → (-2147483648) ≤ r ∧ r ≤ 2147483647 → (((0 ≤ x ∧ x ≤ S) ∧ r = x ∧ M' 0 1 = x) ∨ ((x < 0 ∨ S < x) ∧ r = -3 ∧ M' 0 1 = S)) → Q (some (.int (Int32.ofInt r))) M') : jc A 1 2 [.ref (0), .int (Int32.ofInt (x))] M Q := by
  refine jc_of (m := xm_2) rfl (Nat.le_of_ble_eq_true rfl) rfl ?_
  have b_S : 0 ≤ S ∧ S ≤ 1600 := by rw [← g_S]; exact (CI.r hC_M (show kd 0 = 35 from rfl) (by decide) 1)
  refine jr.iload_n rfl rfl ?_
  refine jr.if_lt rfl rfl (by omega) (fun h1 => ?_) (fun h1 => ?_)
  · refine jr.bipush rfl (by decide) ?_
    exact jr.ireturn rfl rfl rfl (q _ _ hC_M ht_M (by omega) (by have hq0 : M 0 1 = S := g_S; omega))
  · refine jr.iload_n rfl rfl ?_
    refine jr.aload_n rfl rfl ?_
    refine jr.getf (i := 1) (x := S) (v := .int (Int32.ofInt (S))) rfl rfl (by decide) rfl (by decide) rfl rfl g_S rfl ?_
    refine jr.icmp_le rfl rfl (by omega) (by omega) (fun h9 => ?_) (fun h9 => ?_)
    · refine jr.aload_n rfl rfl ?_
      refine jr.iload_n rfl rfl ?_
      refine jr.putf (i := 1) (x := x) rfl rfl (by decide) rfl (by decide) rfl rfl rfl rfl rfl ?_
      refine jr.iload_n rfl rfl ?_
      exact jr.ireturn rfl rfl rfl (q _ _ (CI.u hC_M (i := 1) (show kd 0 = 35 from rfl) (show (0 : Int) ≤ _ ∧ _ ≤ (1600 : Int) from by omega) rfl) (FR.o ht_M (show kd 0 = 35 from rfl) rfl) (by omega) (by have hq0 : (ju M 0 1 x) 0 1 = x := (ju_same _ _ _ _); omega))
    · refine jr.bipush rfl (by decide) ?_
      exact jr.ireturn rfl rfl rfl (q _ _ hC_M ht_M (by omega) (by have hq0 : M 0 1 = S := g_S; omega))
theorem c_PacketWall_tape_x {A : Nat → Option (Nat × (Nat → Int32))} {Q : Option Value → jm → Prop} {M : jm} (hC_M : CI M) {x : Int} (h_x : (-2147483648) ≤ x ∧ x ≤ 2147483647) {S : Int} (g_S : M 0 1 = S) (q : ∀ (r : Int), (-2147483648) ≤ r ∧ r ≤ 2147483647 → (((0 ≤ x ∧ x < S) ∧ r = M 1 x) ∨ ((x < 0 ∨ S ≤ x) ∧ r = -1)) → Q (some (.int (Int32.ofInt r))) M) : jc A 1 39 [.ref (0), .int (Int32.ofInt (x))] M Q := by
  refine jc_of (m := xm_39) rfl (Nat.le_of_ble_eq_true rfl) rfl ?_
  have b_S : 0 ≤ S ∧ S ≤ 1600 := by rw [← g_S]; exact (CI.r hC_M (show kd 0 = 35 from rfl) (by decide) 1)
  refine jr.iload_n rfl rfl ?_
  refine jr.if_lt rfl rfl (by omega) (fun h1 => ?_) (fun h1 => ?_)
  · refine jr.iconst rfl ?_
    refine jr.goto rfl rfl ?_
    exact jr.ireturn rfl rfl rfl (q _ (by omega) (by omega))
  · refine jr.iload_n rfl rfl ?_
    refine jr.aload_n rfl rfl ?_
    refine jr.getf (i := 1) (x := S) (v := .int (Int32.ofInt (S))) rfl rfl (by decide) rfl (by decide) rfl rfl g_S rfl ?_
    refine jr.icmp_lt rfl rfl (by omega) (by omega) (fun h9 => ?_) (fun h9 => ?_)
    · refine jr.aload_n rfl rfl ?_
      refine jr.getf (i := 0) (v := .ref 1) rfl rfl (by decide) rfl (by decide) rfl rfl rfl rfl ?_
      refine jr.iload_n rfl rfl ?_
      obtain ⟨v1, e1⟩ : ∃ z_, M 1 x = z_ := ⟨_, rfl⟩
      have b1 : 0 ≤ v1 ∧ v1 ≤ 255 := by rw [← e1]; exact (CI.r hC_M (show kd 1 = 43 from rfl) (by decide) x)
      refine jr.iald (i := x) (x := v1) rfl (by decide) rfl (by decide) (by omega) (by omega) e1 ?_
      exact jr.ireturn rfl rfl rfl (q _ (by omega) (by omega))
    · refine jr.iconst rfl ?_
      refine jr.goto rfl rfl ?_
      exact jr.ireturn rfl rfl rfl (q _ (by omega) (by omega))
theorem c_PacketWall_isPacket_x {A : Nat → Option (Nat × (Nat → Int32))} {Q : Option Value → jm → Prop} {M : jm} (hC_M : CI M) {x : Int} (h_x : (-2147483648) ≤ x ∧ x ≤ 2147483647) (q : ∀ (r : Int), 0 ≤ r ∧ r ≤ 1 → (r = 0 ∨ (0 ≤ x ∧ x ≤ 23)) → ((r = 1 ∧ (0 ≤ x ∧ x ≤ 23) ∧ M (xe 2 x) 1 ≠ -1) ∨ (r = 0 ∧ (x < 0 ∨ 23 < x ∨ M (xe 2 x) 1 = -1))) → Q (some (.int (Int32.ofInt r))) M) : jc A 2 42 [.ref (0), .int (Int32.ofInt (x))] M Q := by
  refine jc_of (m := xm_42) rfl (Nat.le_of_ble_eq_true rfl) rfl ?_
  refine jr.iload_n rfl rfl ?_
  refine jr.if_lt rfl rfl (by omega) (fun h1 => ?_) (fun h1 => ?_)
  · refine jr.iconst rfl ?_
    exact jr.ireturn rfl rfl rfl (q _ (by omega) (by omega) (by omega))
  · refine jr.iload_n rfl rfl ?_
    refine jr.bipush rfl (by decide) ?_
    refine jr.icmp_ge rfl rfl (by omega) (by omega) (fun h7 => ?_) (fun h7 => ?_)
    · refine jr.iconst rfl ?_
      exact jr.ireturn rfl rfl rfl (q _ (by omega) (by omega) (by omega))
    · refine jr.aload_n rfl rfl ?_
      refine jr.getf (i := 2) (v := .ref 2) rfl rfl (by decide) rfl (by decide) rfl rfl rfl rfl ?_
      refine jr.iload_n rfl rfl ?_
      have k1 := kxe_42 (a := 2) rfl (i := x) (by omega) (by omega)
      refine jr.aald (c := (xe 2 x)) rfl (by decide) rfl (by decide) (by decide) rfl (by decide) (by omega) (by omega) k1.1 ?_
      refine jr_v rfl rfl (Or.inl rfl) rfl rfl (Nat.lt_trans (kx_33 k1.2).1 (by decide)) (kx_33 k1.2).2 ⟨rfl, Nat.le_of_ble_eq_true rfl, Nat.le_of_ble_eq_true rfl⟩ rfl (jc.deep (c_Packet_isThere hC_M k1.2 (fun r2 z2 w2_0 => ?_)) (by decide))
      obtain ⟨v3, e3⟩ : ∃ z_, M ((xe 2 x)) 1 = z_ := ⟨_, rfl⟩
      have b3 : (-1) ≤ v3 ∧ v3 ≤ 400 := by rw [← e3]; exact (CI.r hC_M k1.2 (by decide) 1)
      refine jr.if_eq rfl rfl (by omega) (fun h19 => ?_) (fun h19 => ?_)
      · refine jr.iconst rfl ?_
        exact jr.ireturn rfl rfl rfl (q _ (by omega) (by omega) (by omega))
      · have sx19 : (1 : Int) ≤ r2 := by omega
        refine jr.iconst rfl ?_
        refine jr.goto rfl rfl ?_
        exact jr.ireturn rfl rfl rfl (q _ (by omega) (by omega) (by omega))
theorem c_Packet_hasByte_x {A : Nat → Option (Nat × (Nat → Int32))} {Q : Option Value → jm → Prop} {M : jm} (hC_M : CI M) {t : Nat} (k_t : kd t = 33) {x : Int} (h_x : (-9223372036854775808) ≤ x ∧ x ≤ 9223372036854775807) (q : ∀ (r : Int), 0 ≤ r ∧ r ≤ 1 → (r = 0 ∨ (0 ≤ x ∧ x ≤ 399)) → ((r = 1 ∧ 0 ≤ x ∧ x < M t 1) ∨ (r = 0 ∧ (x < 0 ∨ M t 1 ≤ x))) → Q (some (.int (Int32.ofInt r))) M) : jc A 1 191 [.ref (t), .long (Int64.ofInt (x))] M Q := by
  refine jc_of (m := xm_191) rfl (Nat.le_of_ble_eq_true rfl) rfl ?_
  refine jr.lload_n rfl rfl ?_
  refine jr.lconst (x := 0) rfl (by decide) ?_
  refine jr.lcmp_lt rfl rfl rfl (by omega) (by omega) (fun h2 => ?_) (fun h2 => ?_)
  · refine jr.iconst rfl ?_
    obtain ⟨v1, e1⟩ : ∃ z_, M t 1 = z_ := ⟨_, rfl⟩
    have b1 : (-1) ≤ v1 ∧ v1 ≤ 400 := by rw [← e1]; exact (CI.r hC_M k_t (by decide) 1)
    exact jr.ireturn rfl rfl rfl (q _ (by omega) (by omega) (by have hq0 : M t 1 = v1 := e1; omega))
  · refine jr.lload_n rfl rfl ?_
    refine jr.aload_n rfl rfl ?_
    obtain ⟨v2, e2⟩ : ∃ z_, M t 1 = z_ := ⟨_, rfl⟩
    have b2 : (-1) ≤ v2 ∧ v2 ≤ 400 := by rw [← e2]; exact (CI.r hC_M k_t (by decide) 1)
    refine jr.getf (i := 1) (x := v2) (v := .int (Int32.ofInt (v2))) rfl rfl (Nat.lt_trans (kx_33 k_t).1 (by decide)) (kx_33 k_t).2 (by decide) rfl rfl e2 rfl ?_
    refine jr.i2l rfl (by omega) ?_
    refine jr.lcmp_ge rfl rfl rfl (by omega) (by omega) (fun h12 => ?_) (fun h12 => ?_)
    · refine jr.iconst rfl ?_
      exact jr.ireturn rfl rfl rfl (q _ (by omega) (by omega) (by have hq0 : M t 1 = v2 := e2; omega))
    · refine jr.iconst rfl ?_
      refine jr.goto rfl rfl ?_
      exact jr.ireturn rfl rfl rfl (q _ (by omega) (by omega) (by have hq0 : M t 1 = v2 := e2; omega))
theorem c_Packet_byteAt_x {A : Nat → Option (Nat × (Nat → Int32))} {Q : Option Value → jm → Prop} {M : jm} (hC_M : CI M) {t : Nat} (k_t : kd t = 33) {x : Int} (h_x : (-2147483648) ≤ x ∧ x ≤ 2147483647) (q : ∀ (r : Int), (-1) ≤ r ∧ r ≤ 255 → (((0 ≤ x ∧ x < M t 1) ∧ r = M (t + 1) x) ∨ ((x < 0 ∨ M t 1 ≤ x) ∧ r = 0)) → Q (some (.int (Int32.ofInt r))) M) : jc A 1 192 [.ref (t), .int (Int32.ofInt (x))] M Q := by
  refine jc_of (m := xm_192) rfl (Nat.le_of_ble_eq_true rfl) rfl ?_
  refine jr.iload_n rfl rfl ?_
  refine jr.if_lt rfl rfl (by omega) (fun h1 => ?_) (fun h1 => ?_)
  · refine jr.iconst rfl ?_
    obtain ⟨v1, e1⟩ : ∃ z_, M t 1 = z_ := ⟨_, rfl⟩
    have b1 : (-1) ≤ v1 ∧ v1 ≤ 400 := by rw [← e1]; exact (CI.r hC_M k_t (by decide) 1)
    exact jr.ireturn rfl rfl rfl (q _ (by omega) (by have hq0 : M t 1 = v1 := e1; omega))
  · refine jr.iload_n rfl rfl ?_
    refine jr.aload_n rfl rfl ?_
    obtain ⟨v2, e2⟩ : ∃ z_, M t 1 = z_ := ⟨_, rfl⟩
    have b2 : (-1) ≤ v2 ∧ v2 ≤ 400 := by rw [← e2]; exact (CI.r hC_M k_t (by decide) 1)
    refine jr.getf (i := 1) (x := v2) (v := .int (Int32.ofInt (v2))) rfl rfl (Nat.lt_trans (kx_33 k_t).1 (by decide)) (kx_33 k_t).2 (by decide) rfl rfl e2 rfl ?_
    refine jr.icmp_ge rfl rfl (by omega) (by omega) (fun h9 => ?_) (fun h9 => ?_)
    · refine jr.iconst rfl ?_
      exact jr.ireturn rfl rfl rfl (q _ (by omega) (by have hq0 : M t 1 = v2 := e2; omega))
    · refine jr.aload_n rfl rfl ?_
      have k3 := kf_33_0 k_t
      refine jr.getf (i := 0) (v := .ref (t + 1)) rfl rfl (Nat.lt_trans (kx_33 k_t).1 (by decide)) (kx_33 k_t).2 (by decide) rfl rfl rfl (jval_ref rfl k3.1) ?_
      refine jr.iload_n rfl rfl ?_
      obtain ⟨v4, e4⟩ : ∃ z_, M ((t + 1)) x = z_ := ⟨_, rfl⟩
      have b4 : (-1) ≤ v4 ∧ v4 ≤ 255 := by rw [← e4]; exact (CI.r hC_M k3.2 (by decide) x)
      refine jr.iald (i := x) (x := v4) rfl (Nat.lt_trans (kx_34 k3.2).1 (by decide)) (kx_34 k3.2).2 (by decide) (by omega) (by omega) e4 ?_
      refine jr.goto rfl rfl ?_
      exact jr.ireturn rfl rfl rfl (q _ (by omega) (by have hq0 : M t 1 = v2 := e2; omega))
theorem c_PacketWall_at_x {A : Nat → Option (Nat × (Nat → Int32))} {Q : Option Value → jm → Prop} {M : jm} (hC_M : CI M) {x : Int} (h_x : (-2147483648) ≤ x ∧ x ≤ 2147483647) {y : Int} (h_y : (-2147483648) ≤ y ∧ y ≤ 2147483647) (q : ∀ (r : Int), (-2147483648) ≤ r ∧ r ≤ 2147483647 → (((x < 0 ∨ 23 < x ∨ M (xe 2 x) 1 = -1) ∧ r = -2) ∨ ((0 ≤ x ∧ x ≤ 23) ∧ M (xe 2 x) 1 ≠ -1 ∧ ((y = -1 ∧ r = M (xe 2 x) 1) ∨ (y ≠ -1 ∧ (0 ≤ y ∧ y < M (xe 2 x) 1) ∧ r = M ((xe 2 x) + 1) y) ∨ (y ≠ -1 ∧ (y < 0 ∨ M (xe 2 x) 1 ≤ y) ∧ r = -1)))) → Q (some (.int (Int32.ofInt r))) M) : jc A 3 5 [.ref (0), .int (Int32.ofInt (x)), .int (Int32.ofInt (y))] M Q := by
  refine jc_of (m := xm_5) rfl (Nat.le_of_ble_eq_true rfl) rfl ?_
  refine jr.aload_n rfl rfl ?_
  refine jr.iload_n rfl rfl ?_
  refine jr_v rfl rfl (Or.inl rfl) rfl rfl (by decide) rfl ⟨rfl, Nat.le_of_ble_eq_true rfl, Nat.le_of_ble_eq_true rfl⟩ rfl (jc.deep (c_PacketWall_isPacket_x hC_M (by omega) (fun r1 z1 w1_0 w1_1 => ?_)) (by decide))
  refine jr.if_ne rfl rfl (by omega) (fun h5 => ?_) (fun h5 => ?_)
  · have sx5 : (1 : Int) ≤ r1 := by omega
    refine jr.iload_n rfl rfl ?_
    refine jr.iconst rfl ?_
    refine jr.icmp_ne rfl rfl (by omega) (by omega) (fun h13 => ?_) (fun h13 => ?_)
    · refine jr.aload_n rfl rfl ?_
      refine jr.getf (i := 2) (v := .ref 2) rfl rfl (by decide) rfl (by decide) rfl rfl rfl rfl ?_
      refine jr.iload_n rfl rfl ?_
      have k2 := kxe_42 (a := 2) rfl (i := x) (by omega) (by omega)
      refine jr.aald (c := (xe 2 x)) rfl (by decide) rfl (by decide) (by decide) rfl (by decide) (by omega) (by omega) k2.1 ?_
      refine jr.iload_n rfl rfl ?_
      refine jr.i2l rfl (by omega) ?_
      refine jr_v rfl rfl (Or.inl rfl) rfl rfl (Nat.lt_trans (kx_33 k2.2).1 (by decide)) (kx_33 k2.2).2 ⟨rfl, Nat.le_of_ble_eq_true rfl, Nat.le_of_ble_eq_true rfl⟩ rfl (jc.deep (c_Packet_hasByte_x hC_M k2.2 (by omega) (fun r3 z3 w3_0 w3_1 => ?_)) (by decide))
      obtain ⟨v4, e4⟩ : ∃ z_, M ((xe 2 x)) 1 = z_ := ⟨_, rfl⟩
      have b4 : (-1) ≤ v4 ∧ v4 ≤ 400 := by rw [← e4]; exact (CI.r hC_M k2.2 (by decide) 1)
      refine jr.if_eq rfl rfl (by omega) (fun h37 => ?_) (fun h37 => ?_)
      · refine jr.iconst rfl ?_
        exact jr.ireturn rfl rfl rfl (q _ (by omega) (by omega))
      · have sx37 : (1 : Int) ≤ r3 := by omega
        refine jr.aload_n rfl rfl ?_
        refine jr.getf (i := 2) (v := .ref 2) rfl rfl (by decide) rfl (by decide) rfl rfl rfl rfl ?_
        refine jr.iload_n rfl rfl ?_
        have k5 := kxe_42 (a := 2) rfl (i := x) (by omega) (by omega)
        refine jr.aald (c := (xe 2 x)) rfl (by decide) rfl (by decide) (by decide) rfl (by decide) (by omega) (by omega) k5.1 ?_
        refine jr.iload_n rfl rfl ?_
        refine jr_v rfl rfl (Or.inl rfl) rfl rfl (Nat.lt_trans (kx_33 k5.2).1 (by decide)) (kx_33 k5.2).2 ⟨rfl, Nat.le_of_ble_eq_true rfl, Nat.le_of_ble_eq_true rfl⟩ rfl (jc.deep (c_Packet_byteAt_x hC_M k5.2 (by omega) (fun r6 z6 w6_0 => ?_)) (by decide))
        refine jr.goto rfl rfl ?_
        exact jr.ireturn rfl rfl rfl (q _ (by omega) (by omega))
    · refine jr.aload_n rfl rfl ?_
      refine jr.getf (i := 2) (v := .ref 2) rfl rfl (by decide) rfl (by decide) rfl rfl rfl rfl ?_
      refine jr.iload_n rfl rfl ?_
      have k7 := kxe_42 (a := 2) rfl (i := x) (by omega) (by omega)
      refine jr.aald (c := (xe 2 x)) rfl (by decide) rfl (by decide) (by decide) rfl (by decide) (by omega) (by omega) k7.1 ?_
      obtain ⟨v8, e8⟩ : ∃ z_, M ((xe 2 x)) 1 = z_ := ⟨_, rfl⟩
      have b8 : (-1) ≤ v8 ∧ v8 ≤ 400 := by rw [← e8]; exact (CI.r hC_M k7.2 (by decide) 1)
      refine jr.getf (i := 1) (x := v8) (v := .int (Int32.ofInt (v8))) rfl rfl (Nat.lt_trans (kx_33 k7.2).1 (by decide)) (kx_33 k7.2).2 (by decide) rfl rfl e8 rfl ?_
      exact jr.ireturn rfl rfl rfl (q _ (by omega) (by omega))
  · refine jr.bipush rfl (by decide) ?_
    exact jr.ireturn rfl rfl rfl (q _ (by omega) (by omega))
noncomputable def W_c_PacketWall_set_x : List (Nat × Nat) := [(34, 1000)]
theorem c_PacketWall_set_x {A : Nat → Option (Nat × (Nat → Int32))} {Q : Option Value → jm → Prop} {T : jm} {M : jm} (hC_M : CI M) (ht_M : FR W_c_PacketWall_set_x T M) {x : Int} (h_x : (-2147483648) ≤ x ∧ x ≤ 2147483647) {y : Int} (h_y : (-2147483648) ≤ y ∧ y ≤ 2147483647) {z : Int} (h_z : (-2147483648) ≤ z ∧ z ≤ 2147483647) (p0 : T = M) (q : ∀ (r : Int) (M' : jm), CI M' → FR W_c_PacketWall_set_x T M' → (-2147483648) ≤ r ∧ r ≤ 2147483647 → (((x < 0 ∨ 23 < x ∨ T (xe 2 x) 1 = -1) ∧ r = -2 ∧ M' = T) ∨ ((0 ≤ x ∧ x ≤ 23) ∧ T (xe 2 x) 1 ≠ -1 ∧ (y < 0 ∨ T (xe 2 x) 1 ≤ y ∨ z < 0 ∨ 255 < z) ∧ r = -3 ∧ M' = T) ∨ ((0 ≤ x ∧ x ≤ 23) ∧ T (xe 2 x) 1 ≠ -1 ∧ (0 ≤ y ∧ y < T (xe 2 x) 1) ∧ (0 ≤ z ∧ z ≤ 255) ∧ r = T ((xe 2 x) + 1) y ∧ M' = ju T ((xe 2 x) + 1) y z)) → Q (some (.int (Int32.ofInt r))) M') : jc A 3 14 [.ref (0), .int (Int32.ofInt (x)), .int (Int32.ofInt (y)), .int (Int32.ofInt (z))] M Q := by
  have hTM := fun (b : Nat) (k : Int) => congrFun (congrFun p0 b) k
  have hT1 := hTM (xe 2 x) 1
  have hT2 := hTM ((xe 2 x) + 1) y
  refine jc_of (m := xm_14) rfl (Nat.le_of_ble_eq_true rfl) rfl ?_
  refine jr.aload_n rfl rfl ?_
  refine jr.iload_n rfl rfl ?_
  refine jr_v rfl rfl (Or.inl rfl) rfl rfl (by decide) rfl ⟨rfl, Nat.le_of_ble_eq_true rfl, Nat.le_of_ble_eq_true rfl⟩ rfl (jc.deep (c_PacketWall_isPacket_x hC_M (by omega) (fun r1 z1 w1_0 w1_1 => ?_)) (by decide))
  refine jr.if_ne rfl rfl (by omega) (fun h5 => ?_) (fun h5 => ?_)
  · have sx5 : (1 : Int) ≤ r1 := by omega
    refine jr.aload_n rfl rfl ?_
    refine jr.getf (i := 2) (v := .ref 2) rfl rfl (by decide) rfl (by decide) rfl rfl rfl rfl ?_
    refine jr.iload_n rfl rfl ?_
    have k2 := kxe_42 (a := 2) rfl (i := x) (by omega) (by omega)
    refine jr.aald (c := (xe 2 x)) rfl (by decide) rfl (by decide) (by decide) rfl (by decide) (by omega) (by omega) k2.1 ?_
    refine jr.iload_n rfl rfl ?_
    refine jr.i2l rfl (by omega) ?_
    refine jr_v rfl rfl (Or.inl rfl) rfl rfl (Nat.lt_trans (kx_33 k2.2).1 (by decide)) (kx_33 k2.2).2 ⟨rfl, Nat.le_of_ble_eq_true rfl, Nat.le_of_ble_eq_true rfl⟩ rfl (jc.deep (c_Packet_hasByte_x hC_M k2.2 (by omega) (fun r3 z3 w3_0 w3_1 => ?_)) (by decide))
    obtain ⟨v4, e4⟩ : ∃ z_, M ((xe 2 x)) 1 = z_ := ⟨_, rfl⟩
    have b4 : (-1) ≤ v4 ∧ v4 ≤ 400 := by rw [← e4]; exact (CI.r hC_M k2.2 (by decide) 1)
    refine jr.if_eq rfl rfl (by omega) (fun h22 => ?_) (fun h22 => ?_)
    · refine jr.bipush rfl (by decide) ?_
      exact jr.ireturn rfl rfl rfl (q _ _ hC_M ht_M (by omega) (by first | exact Or.inl ⟨by omega, by omega, p0.symm⟩ | exact Or.inr (Or.inl ⟨by omega, by omega, by omega, by omega, p0.symm⟩)))
    · have sx22 : (1 : Int) ≤ r3 := by omega
      refine jr.iload_n rfl rfl ?_
      refine jr.if_lt rfl rfl (by omega) (fun h26 => ?_) (fun h26 => ?_)
      · refine jr.bipush rfl (by decide) ?_
        exact jr.ireturn rfl rfl rfl (q _ _ hC_M ht_M (by omega) (by first | exact Or.inl ⟨by omega, by omega, p0.symm⟩ | exact Or.inr (Or.inl ⟨by omega, by omega, by omega, by omega, p0.symm⟩)))
      · refine jr.iload_n rfl rfl ?_
        refine jr.sipush rfl (by decide) ?_
        refine jr.icmp_le rfl rfl (by omega) (by omega) (fun h33 => ?_) (fun h33 => ?_)
        · refine jr.aload_n rfl rfl ?_
          refine jr.getf (i := 2) (v := .ref 2) rfl rfl (by decide) rfl (by decide) rfl rfl rfl rfl ?_
          refine jr.iload_n rfl rfl ?_
          have k5 := kxe_42 (a := 2) rfl (i := x) (by omega) (by omega)
          refine jr.aald (c := (xe 2 x)) rfl (by decide) rfl (by decide) (by decide) rfl (by decide) (by omega) (by omega) k5.1 ?_
          refine jr.iload_n rfl rfl ?_
          refine jr_v rfl rfl (Or.inl rfl) rfl rfl (Nat.lt_trans (kx_33 k5.2).1 (by decide)) (kx_33 k5.2).2 ⟨rfl, Nat.le_of_ble_eq_true rfl, Nat.le_of_ble_eq_true rfl⟩ rfl (jc.deep (c_Packet_byteAt_x hC_M k5.2 (by omega) (fun r6 z6 w6_0 => ?_)) (by decide))
          refine jr.istore rfl (by decide) rfl ?_
          refine jr.aload_n rfl rfl ?_
          refine jr.getf (i := 2) (v := .ref 2) rfl rfl (by decide) rfl (by decide) rfl rfl rfl rfl ?_
          refine jr.iload_n rfl rfl ?_
          have k7 := kxe_42 (a := 2) rfl (i := x) (by omega) (by omega)
          refine jr.aald (c := (xe 2 x)) rfl (by decide) rfl (by decide) (by decide) rfl (by decide) (by omega) (by omega) k7.1 ?_
          have k8 := kf_33_0 k7.2
          refine jr.getf (i := 0) (v := .ref ((xe 2 x) + 1)) rfl rfl (Nat.lt_trans (kx_33 k7.2).1 (by decide)) (kx_33 k7.2).2 (by decide) rfl rfl rfl (jval_ref rfl k8.1) ?_
          refine jr.iload_n rfl rfl ?_
          refine jr.iload_n rfl rfl ?_
          refine jr.iast (i := y) (x := z) rfl (Nat.lt_trans (kx_34 k8.2).1 (by decide)) (kx_34 k8.2).2 (by decide) (by omega) (by omega) ?_
          refine jr.iload rfl rfl ?_
          exact jr.ireturn rfl rfl rfl (q _ _ (CI.u hC_M (i := y) k8.2 (show (-1 : Int) ≤ _ ∧ _ ≤ (255 : Int) from by omega) rfl) (FR.o ht_M k8.2 rfl) (by omega) (Or.inr (Or.inr ⟨by omega, by omega, by omega, by omega, by omega, by rw [p0]⟩)))
        · refine jr.bipush rfl (by decide) ?_
          exact jr.ireturn rfl rfl rfl (q _ _ hC_M ht_M (by omega) (by first | exact Or.inl ⟨by omega, by omega, p0.symm⟩ | exact Or.inr (Or.inl ⟨by omega, by omega, by omega, by omega, p0.symm⟩)))
  · refine jr.bipush rfl (by decide) ?_
    exact jr.ireturn rfl rfl rfl (q _ _ hC_M ht_M (by omega) (by first | exact Or.inl ⟨by omega, by omega, p0.symm⟩ | exact Or.inr (Or.inl ⟨by omega, by omega, by omega, by omega, p0.symm⟩)))
noncomputable def W_c_PacketWall_drop_x : List (Nat × Nat) := [(33, 1), (33, 2)]
theorem c_PacketWall_drop_x {A : Nat → Option (Nat × (Nat → Int32))} {Q : Option Value → jm → Prop} {T : jm} {M : jm} (hC_M : CI M) (ht_M : FR W_c_PacketWall_drop_x T M) {x : Int} (h_x : (-2147483648) ≤ x ∧ x ≤ 2147483647) (p0 : T = M) (q : ∀ (r : Int) (M' : jm), CI M' → FR W_c_PacketWall_drop_x T M' → (-2147483648) ≤ r ∧ r ≤ 2147483647 → (((x < 0 ∨ 23 < x) ∧ r = -3 ∧ M' = T) ∨ ((0 ≤ x ∧ x ≤ 23) ∧ ((T (xe 2 x) 1 = -1 ∧ r = 0) ∨ (T (xe 2 x) 1 ≠ -1 ∧ r = 1)) ∧ M' = ju (ju T (xe 2 x) 1 (-1)) (xe 2 x) 2 0)) → Q (some (.int (Int32.ofInt r))) M') : jc A 2 4 [.ref (0), .int (Int32.ofInt (x))] M Q := by
  have hT1 := congrFun (congrFun p0 (xe 2 x)) 1
  refine jc_of (m := xm_4) rfl (Nat.le_of_ble_eq_true rfl) rfl ?_
  refine jr.iload_n rfl rfl ?_
  refine jr.if_lt rfl rfl (by omega) (fun h1 => ?_) (fun h1 => ?_)
  · refine jr.bipush rfl (by decide) ?_
    exact jr.ireturn rfl rfl rfl (q _ _ hC_M ht_M (by omega) (Or.inl ⟨by omega, by omega, p0.symm⟩))
  · refine jr.iload_n rfl rfl ?_
    refine jr.bipush rfl (by decide) ?_
    refine jr.icmp_lt rfl rfl (by omega) (by omega) (fun h7 => ?_) (fun h7 => ?_)
    · refine jr.aload_n rfl rfl ?_
      refine jr.getf (i := 2) (v := .ref 2) rfl rfl (by decide) rfl (by decide) rfl rfl rfl rfl ?_
      refine jr.iload_n rfl rfl ?_
      have k1 := kxe_42 (a := 2) rfl (i := x) (by omega) (by omega)
      refine jr.aald (c := (xe 2 x)) rfl (by decide) rfl (by decide) (by decide) rfl (by decide) (by omega) (by omega) k1.1 ?_
      refine jr_v rfl rfl (Or.inl rfl) rfl rfl (Nat.lt_trans (kx_33 k1.2).1 (by decide)) (kx_33 k1.2).2 ⟨rfl, Nat.le_of_ble_eq_true rfl, Nat.le_of_ble_eq_true rfl⟩ rfl (jc.deep (c_Packet_isThere hC_M k1.2 (fun r2 z2 w2_0 => ?_)) (by decide))
      obtain ⟨v3, e3⟩ : ∃ z_, M ((xe 2 x)) 1 = z_ := ⟨_, rfl⟩
      have b3 : (-1) ≤ v3 ∧ v3 ≤ 400 := by rw [← e3]; exact (CI.r hC_M k1.2 (by decide) 1)
      refine jr.if_eq rfl rfl (by omega) (fun h22 => ?_) (fun h22 => ?_)
      · refine jr.iconst rfl ?_
        refine jr.istore_n rfl (by decide) rfl ?_
        refine jr.aload_n rfl rfl ?_
        refine jr.getf (i := 2) (v := .ref 2) rfl rfl (by decide) rfl (by decide) rfl rfl rfl rfl ?_
        refine jr.iload_n rfl rfl ?_
        have k4 := kxe_42 (a := 2) rfl (i := x) (by omega) (by omega)
        refine jr.aald (c := (xe 2 x)) rfl (by decide) rfl (by decide) (by decide) rfl (by decide) (by omega) (by omega) k4.1 ?_
        refine jr.iconst rfl ?_
        refine jr.putf (i := 1) (x := (-1)) rfl rfl (Nat.lt_trans (kx_33 k4.2).1 (by decide)) (kx_33 k4.2).2 (by decide) rfl rfl rfl rfl rfl ?_
        refine jr.aload_n rfl rfl ?_
        refine jr.getf (i := 2) (v := .ref 2) rfl rfl (by decide) rfl (by decide) rfl rfl rfl rfl ?_
        refine jr.iload_n rfl rfl ?_
        have k5 := kxe_42 (a := 2) rfl (i := x) (by omega) (by omega)
        refine jr.aald (c := (xe 2 x)) rfl (by decide) rfl (by decide) (by decide) rfl (by decide) (by omega) (by omega) k5.1 ?_
        refine jr.lconst (x := 0) rfl (by decide) ?_
        refine jr.putf (i := 2) (x := 0) rfl rfl (Nat.lt_trans (kx_33 k5.2).1 (by decide)) (kx_33 k5.2).2 (by decide) rfl rfl rfl rfl rfl ?_
        refine jr.iload_n rfl rfl ?_
        exact jr.ireturn rfl rfl rfl (q _ _ (CI.u (CI.u hC_M (i := 1) k5.2 (show (-1 : Int) ≤ _ ∧ _ ≤ (400 : Int) from by omega) rfl) (i := 2) k5.2 (show (-9223372036854775808 : Int) ≤ _ ∧ _ ≤ (9223372036854775807 : Int) from by omega) rfl) (FR.o (FR.o ht_M k5.2 rfl) k5.2 rfl) (by omega) (Or.inr ⟨by omega, by omega, by rw [p0]⟩))
      · have sx22 : (1 : Int) ≤ r2 := by omega
        refine jr.iconst rfl ?_
        refine jr.goto rfl rfl ?_
        refine jr.istore_n rfl (by decide) rfl ?_
        refine jr.aload_n rfl rfl ?_
        refine jr.getf (i := 2) (v := .ref 2) rfl rfl (by decide) rfl (by decide) rfl rfl rfl rfl ?_
        refine jr.iload_n rfl rfl ?_
        have k6 := kxe_42 (a := 2) rfl (i := x) (by omega) (by omega)
        refine jr.aald (c := (xe 2 x)) rfl (by decide) rfl (by decide) (by decide) rfl (by decide) (by omega) (by omega) k6.1 ?_
        refine jr.iconst rfl ?_
        refine jr.putf (i := 1) (x := (-1)) rfl rfl (Nat.lt_trans (kx_33 k6.2).1 (by decide)) (kx_33 k6.2).2 (by decide) rfl rfl rfl rfl rfl ?_
        refine jr.aload_n rfl rfl ?_
        refine jr.getf (i := 2) (v := .ref 2) rfl rfl (by decide) rfl (by decide) rfl rfl rfl rfl ?_
        refine jr.iload_n rfl rfl ?_
        have k7 := kxe_42 (a := 2) rfl (i := x) (by omega) (by omega)
        refine jr.aald (c := (xe 2 x)) rfl (by decide) rfl (by decide) (by decide) rfl (by decide) (by omega) (by omega) k7.1 ?_
        refine jr.lconst (x := 0) rfl (by decide) ?_
        refine jr.putf (i := 2) (x := 0) rfl rfl (Nat.lt_trans (kx_33 k7.2).1 (by decide)) (kx_33 k7.2).2 (by decide) rfl rfl rfl rfl rfl ?_
        refine jr.iload_n rfl rfl ?_
        exact jr.ireturn rfl rfl rfl (q _ _ (CI.u (CI.u hC_M (i := 1) k7.2 (show (-1 : Int) ≤ _ ∧ _ ≤ (400 : Int) from by omega) rfl) (i := 2) k7.2 (show (-9223372036854775808 : Int) ≤ _ ∧ _ ≤ (9223372036854775807 : Int) from by omega) rfl) (FR.o (FR.o ht_M k7.2 rfl) k7.2 rfl) (by omega) (Or.inr ⟨by omega, by omega, by rw [p0]⟩))
    · refine jr.bipush rfl (by decide) ?_
      exact jr.ireturn rfl rfl rfl (q _ _ hC_M ht_M (by omega) (Or.inl ⟨by omega, by omega, p0.symm⟩))
/-- the memory behind packet(p) of the class -/
noncomputable def pkm (T : jm) (X : Nat) (S : Int) : jm := fun b k => if b = 0 ∧ k = 1 then 0 else if b = X ∧ k = 2 then 0 else if b = X ∧ k = 1 then S else if b = X + 1 ∧ 0 ≤ k ∧ k < 0 + S then T 1 (0 + (k - 0)) else T b k
noncomputable def W_c_PacketWall_packet_x : List (Nat × Nat) := [(33, 1), (33, 2), (34, 1000), (35, 1)]
theorem c_PacketWall_packet_x {A : Nat → Option (Nat × (Nat → Int32))} {Q : Option Value → jm → Prop} {T : jm} {M : jm} (hC_M : CI M) (ht_M : FR W_c_PacketWall_packet_x T M) {x : Int} (h_x : (-2147483648) ≤ x ∧ x ≤ 2147483647) {S : Int} (g_S : M 0 1 = S) (p0 : T = M) (q : ∀ (r : Int) (M' : jm), CI M' → FR W_c_PacketWall_packet_x T M' → (-2147483648) ≤ r ∧ r ≤ 2147483647 → (((x < 0 ∨ 23 < x ∨ 400 < S) ∧ r = -3 ∧ M' = T) ∨ ((0 ≤ x ∧ x ≤ 23) ∧ S ≤ 400 ∧ r = S ∧ M' = pkm T (xe 2 x) S)) → Q (some (.int (Int32.ofInt r))) M') : jc A 1 3 [.ref (0), .int (Int32.ofInt (x))] M Q := by
  refine jc_of (m := xm_3) rfl (Nat.le_of_ble_eq_true rfl) rfl ?_
  have b_S : 0 ≤ S ∧ S ≤ 1600 := by rw [← g_S]; exact (CI.r hC_M (show kd 0 = 35 from rfl) (by decide) 1)
  refine jr.iload_n rfl rfl ?_
  refine jr.if_lt rfl rfl (by omega) (fun h1 => ?_) (fun h1 => ?_)
  · refine jr.bipush rfl (by decide) ?_
    exact jr.ireturn rfl rfl rfl (q _ _ hC_M ht_M (by omega) (Or.inl ⟨by omega, by omega, p0.symm⟩))
  · refine jr.iload_n rfl rfl ?_
    refine jr.bipush rfl (by decide) ?_
    refine jr.icmp_ge rfl rfl (by omega) (by omega) (fun h7 => ?_) (fun h7 => ?_)
    · refine jr.bipush rfl (by decide) ?_
      exact jr.ireturn rfl rfl rfl (q _ _ hC_M ht_M (by omega) (Or.inl ⟨by omega, by omega, p0.symm⟩))
    · refine jr.aload_n rfl rfl ?_
      refine jr.getf (i := 1) (x := S) (v := .int (Int32.ofInt (S))) rfl rfl (by decide) rfl (by decide) rfl rfl g_S rfl ?_
      refine jr.sipush rfl (by decide) ?_
      refine jr.icmp_le rfl rfl (by omega) (by omega) (fun h17 => ?_) (fun h17 => ?_)
      · refine jr.aload_n rfl rfl ?_
        refine jr.getf (i := 2) (v := .ref 2) rfl rfl (by decide) rfl (by decide) rfl rfl rfl rfl ?_
        refine jr.iload_n rfl rfl ?_
        have k1 := kxe_42 (a := 2) rfl (i := x) (by omega) (by omega)
        refine jr.aald (c := (xe 2 x)) rfl (by decide) rfl (by decide) (by decide) rfl (by decide) (by omega) (by omega) k1.1 ?_
        refine jr.astore_n rfl (by decide) rfl ?_
        refine jr.aload_n rfl rfl ?_
        refine jr.getf (i := 0) (v := .ref 1) rfl rfl (by decide) rfl (by decide) rfl rfl rfl rfl ?_
        refine jr.iconst rfl ?_
        refine jr.aload_n rfl rfl ?_
        have k2 := kf_33_0 k1.2
        refine jr.getf (i := 0) (v := .ref ((xe 2 x) + 1)) rfl rfl (Nat.lt_trans (kx_33 k1.2).1 (by decide)) (kx_33 k1.2).2 (by decide) rfl rfl rfl (jval_ref rfl k2.1) ?_
        refine jr.iconst rfl ?_
        refine jr.aload_n rfl rfl ?_
        refine jr.getf (i := 1) (x := S) (v := .int (Int32.ofInt (S))) rfl rfl (by decide) rfl (by decide) rfl rfl g_S rfl ?_
        refine jr.acp rfl rfl (Nat.le_of_ble_eq_true rfl) (by decide) rfl (Nat.lt_trans (kx_34 k2.2).1 (by decide)) (kx_34 k2.2).2 (by decide) (by decide) (by omega) (by omega) (by omega) (by omega) (by omega) ?_
        have hC_M3 : CI (jcpy M 1 0 (((xe 2 x) + 1)) 0 S) := CI.cpy hC_M (show kd 1 = 43 from rfl) k2.2 (by decide) (fun i j => (show (-1 : Int) ≤ (0 : Int) ∧ (255 : Int) ≤ (255 : Int) from by decide)) (fun _ => rfl)
        have ht_M3 : FR W_c_PacketWall_packet_x T (jcpy M 1 0 (((xe 2 x) + 1)) 0 S) := FR.cpy ht_M k2.2 (fun _ => rfl)
        have hf_M3 : FR [(34, 1000)] M (jcpy M 1 0 (((xe 2 x) + 1)) 0 S) := FR.cpy (FR.rfl _ _) k2.2 (fun _ => rfl)
        have hx_M3 : ∀ (b : Nat) (k : Int), jcpy M 1 0 (((xe 2 x) + 1)) 0 S b k = if b = ((xe 2 x) + 1) ∧ 0 ≤ k ∧ k < 0 + S then M 1 (0 + (k - 0)) else M b k := fun _ _ => rfl
        generalize jcpy M 1 0 (((xe 2 x) + 1)) 0 S = M3 at hC_M3 ht_M3 hf_M3 hx_M3 ⊢
        refine jr.aload_n rfl rfl ?_
        refine jr.aload_n rfl rfl ?_
        have e4 : M3 0 1 = S := (hf_M3.g (show kd 0 = 35 from rfl) rfl).trans g_S
        refine jr.getf (i := 1) (x := S) (v := .int (Int32.ofInt (S))) rfl rfl (by decide) rfl (by decide) rfl rfl e4 rfl ?_
        refine jr.putf (i := 1) (x := S) rfl rfl (Nat.lt_trans (kx_33 k1.2).1 (by decide)) (kx_33 k1.2).2 (by decide) rfl rfl rfl rfl rfl ?_
        refine jr.aload_n rfl rfl ?_
        refine jr.lconst (x := 0) rfl (by decide) ?_
        refine jr.putf (i := 2) (x := 0) rfl rfl (Nat.lt_trans (kx_33 k1.2).1 (by decide)) (kx_33 k1.2).2 (by decide) rfl rfl rfl rfl rfl ?_
        refine jr.aload_n rfl rfl ?_
        refine jr.iconst rfl ?_
        refine jr.putf (i := 1) (x := 0) rfl rfl (by decide) rfl (by decide) rfl rfl rfl rfl rfl ?_
        refine jr.aload_n rfl rfl ?_
        refine jr.getf (i := 1) (x := S) (v := .int (Int32.ofInt (S))) rfl rfl (Nat.lt_trans (kx_33 k1.2).1 (by decide)) (kx_33 k1.2).2 (by decide) rfl rfl ((ju_c _ _ (kd_ne (by rw [k1.2, (show kd 0 = 35 from rfl)]; decide))).trans ((ju_i _ _ (by decide)).trans (ju_same _ _ _ _))) rfl ?_
        exact jr.ireturn rfl rfl rfl (q _ _ (CI.u (CI.u (CI.u hC_M3 (i := 1) k1.2 (show (-1 : Int) ≤ _ ∧ _ ≤ (400 : Int) from by omega) rfl) (i := 2) k1.2 (show (-9223372036854775808 : Int) ≤ _ ∧ _ ≤ (9223372036854775807 : Int) from by omega) rfl) (i := 1) (show kd 0 = 35 from rfl) (show (0 : Int) ≤ _ ∧ _ ≤ (1600 : Int) from by omega) rfl) (FR.o (FR.o (FR.o ht_M3 k1.2 rfl) k1.2 rfl) (show kd 0 = 35 from rfl) rfl) (by omega) (Or.inr ⟨by omega, by omega, by omega, by funext b k; simp only [ju, pkm, hx_M3]; rw [p0]⟩))
      · refine jr.bipush rfl (by decide) ?_
        exact jr.ireturn rfl rfl rfl (q _ _ hC_M ht_M (by omega) (Or.inl ⟨by omega, by omega, p0.symm⟩))
theorem pk_len {M : jm} (h : CI M) {x : Int} (h0 : 0 ≤ x) (h1 : x < 24) : -1 ≤ M (xe 2 x) 1 ∧ M (xe 2 x) 1 ≤ 400 := CI.r h (kxe_42 (show kd 2 = 42 from rfl) h0 h1).2 (by decide) 1
/-- the sum of a packet's first bytes -/
noncomputable def dg (f : Int → Int) : Nat → Int
  | 0 => -3750763034362895579
  | n + 1 => jl_w (jl_xor (dg f n) (f n) * 1099511628211)
theorem dg_s {f : Int → Int} {i : Int} (h : 0 ≤ i) : dg f (i + 1).toNat = jl_w (jl_xor (dg f i.toNat) (f i) * 1099511628211) := by
  obtain ⟨n, rfl⟩ := Int.eq_ofNat_of_zero_le h
  rw [show ((n : Int) + 1).toNat = n + 1 by omega, show ((n : Int)).toNat = n by omega]
  rfl
theorem c_PacketWall_digest_x_L17 {A : Nat → Option (Nat × (Nat → Int32))} {Q : Option Value → jm → Prop} {M : jm} (hC_M : CI M) {x : Int} (q : ∀ (r : Int), (-9223372036854775808) ≤ r ∧ r ≤ 9223372036854775807 → (((x < 0 ∨ 23 < x ∨ M (xe 2 x) 1 = -1) ∧ r = 0) ∨ ((0 ≤ x ∧ x ≤ 23) ∧ M (xe 2 x) 1 ≠ -1 ∧ r = dg (fun k => M ((xe 2 x) + 1) k) (M (xe 2 x) 1).toNat)) → Q (some (.long (Int64.ofInt r))) M) : ∀ (nM : Nat) (d : Int) (i : Int), 0 ≤ x ∧ x ≤ 23 → (-9223372036854775808) ≤ d ∧ d ≤ 9223372036854775807 → 0 ≤ i ∧ i ≤ 400 → (M (xe 2 x) 1 ≠ -1 ∧ i ≤ M (xe 2 x) 1) → (d = dg (fun k => M ((xe 2 x) + 1) k) i.toNat) → 400 - i ≤ nM → jr A 2 xm_15 17 [(1, .int (Int32.ofInt (x))), (2, .long (Int64.ofInt (d))), (4, .int (Int32.ofInt (i))), (0, .ref (0))] [] M Q := by
  intro nM
  induction nM using Nat.strongRecOn with
  | ind nM ih =>
    intro d i h_x h_d h_i hy0 hy1 hm
    refine jr.iload rfl rfl ?_
    refine jr.aload_n rfl rfl ?_
    refine jr.getf (i := 2) (v := .ref 2) rfl rfl (by decide) rfl (by decide) rfl rfl rfl rfl ?_
    refine jr.iload_n rfl rfl ?_
    have k1 := kxe_42 (a := 2) rfl (i := x) (by omega) (by omega)
    refine jr.aald (c := (xe 2 x)) rfl (by decide) rfl (by decide) (by decide) rfl (by decide) (by omega) (by omega) k1.1 ?_
    obtain ⟨v2, e2⟩ : ∃ z_, M ((xe 2 x)) 1 = z_ := ⟨_, rfl⟩
    have b2 : (-1) ≤ v2 ∧ v2 ≤ 400 := by rw [← e2]; exact (CI.r hC_M k1.2 (by decide) 1)
    refine jr.getf (i := 1) (x := v2) (v := .int (Int32.ofInt (v2))) rfl rfl (Nat.lt_trans (kx_33 k1.2).1 (by decide)) (kx_33 k1.2).2 (by decide) rfl rfl e2 rfl ?_
    refine jr.icmp_ge rfl rfl (by omega) (by omega) (fun h28 => ?_) (fun h28 => ?_)
    · refine jr.lload_n rfl rfl ?_
      exact jr.lreturn rfl rfl (q _ (by omega) (Or.inr ⟨by omega, by omega, by rw [hy1, e2, show i = v2 from by omega]⟩))
    · refine jr.lload_n rfl rfl ?_
      refine jr.aload_n rfl rfl ?_
      refine jr.getf (i := 2) (v := .ref 2) rfl rfl (by decide) rfl (by decide) rfl rfl rfl rfl ?_
      refine jr.iload_n rfl rfl ?_
      have k3 := kxe_42 (a := 2) rfl (i := x) (by omega) (by omega)
      refine jr.aald (c := (xe 2 x)) rfl (by decide) rfl (by decide) (by decide) rfl (by decide) (by omega) (by omega) k3.1 ?_
      refine jr.iload rfl rfl ?_
      refine jr_v rfl rfl (Or.inl rfl) rfl rfl (Nat.lt_trans (kx_33 k3.2).1 (by decide)) (kx_33 k3.2).2 ⟨rfl, Nat.le_of_ble_eq_true rfl, Nat.le_of_ble_eq_true rfl⟩ rfl (jc.deep (c_Packet_byteAt_x hC_M k3.2 (by omega) (fun r4 z4 w4_0 => ?_)) (by decide))
      refine jr.i2l rfl (by omega) ?_
      refine jr.lxor rfl ?_
      refine jr.ldc2 (x := 1099511628211) rfl rfl (by decide) ?_
      refine jr.lmul rfl ?_
      refine jr.lw (jl_w ((jl_xor d r4) * 1099511628211)) (jl_w_eq _) ?_
      have b5 : -9223372036854775808 ≤ jl_w ((jl_xor d r4) * 1099511628211) ∧ jl_w ((jl_xor d r4) * 1099511628211) ≤ 9223372036854775807 := jbl_any _
      refine jr.lstore_n rfl (by decide) rfl ?_
      refine jr.iinc rfl rfl (by decide) rfl ?_
      refine jr.goto rfl rfl ?_
      refine jr.pick [2, 1, 0, 3] rfl rfl ?_
      exact ih (nM - 1) (by omega) (jl_w ((jl_xor d r4) * 1099511628211)) (i + 1) (by omega) (by omega) (by omega) (by have hl := pk_len hC_M (x := x) (by omega) (by omega); omega) (by rw [dg_s (by omega), ← hy1, show M ((xe 2 x) + 1) i = r4 from by omega]) (by omega)
theorem c_PacketWall_digest_x {A : Nat → Option (Nat × (Nat → Int32))} {Q : Option Value → jm → Prop} {M : jm} (hC_M : CI M) {x : Int} (h_x : (-2147483648) ≤ x ∧ x ≤ 2147483647) (q : ∀ (r : Int), (-9223372036854775808) ≤ r ∧ r ≤ 9223372036854775807 → (((x < 0 ∨ 23 < x ∨ M (xe 2 x) 1 = -1) ∧ r = 0) ∨ ((0 ≤ x ∧ x ≤ 23) ∧ M (xe 2 x) 1 ≠ -1 ∧ r = dg (fun k => M ((xe 2 x) + 1) k) (M (xe 2 x) 1).toNat)) → Q (some (.long (Int64.ofInt r))) M) : jc A 3 15 [.ref (0), .int (Int32.ofInt (x))] M Q := by
  refine jc_of (m := xm_15) rfl (Nat.le_of_ble_eq_true rfl) rfl ?_
  refine jr.aload_n rfl rfl ?_
  refine jr.iload_n rfl rfl ?_
  refine jr_v rfl rfl (Or.inl rfl) rfl rfl (by decide) rfl ⟨rfl, Nat.le_of_ble_eq_true rfl, Nat.le_of_ble_eq_true rfl⟩ rfl (jc.deep (c_PacketWall_isPacket_x hC_M (by omega) (fun r1 z1 w1_0 w1_1 => ?_)) (by decide))
  refine jr.if_ne rfl rfl (by omega) (fun h5 => ?_) (fun h5 => ?_)
  · have sx5 : (1 : Int) ≤ r1 := by omega
    refine jr.ldc2 (x := (-3750763034362895579)) rfl rfl (by decide) ?_
    refine jr.lstore_n rfl (by decide) rfl ?_
    refine jr.iconst rfl ?_
    refine jr.istore rfl (by decide) rfl ?_
    refine jr.pick [3, 1, 0, 2] rfl rfl ?_
    exact c_PacketWall_digest_x_L17 hC_M  q 400 (-3750763034362895579) 0 (by omega) (by omega) (by omega) (by have hl := pk_len hC_M (x := x) (by omega) (by omega); omega) rfl (by omega)
  · refine jr.lconst (x := 0) rfl (by decide) ?_
    exact jr.lreturn rfl rfl (q _ (by omega) (Or.inl ⟨by omega, by omega⟩))
end
section
/-! ===== the reference: exact effects on tape and packets ===== -/
theorem bt_rg {n k j : Int} (h : k = 0 ∨ k = 8 ∨ k = 16 ∨ k = 24) (hj : k / 8 = j) : j_and (j_ushr n k) 255 = bt n j ∧ 0 ≤ j_and (j_ushr n k) 255 ∧ j_and (j_ushr n k) 255 ≤ 255 := by
  subst hj
  rw [bt_rf h]
  exact ⟨rfl, bt_r _ _⟩
theorem t4_4 {f : Int → Int} {S v : Int} (g : Int → Int) (h0 : g S = bt v 3) (h1 : g (S + 1) = bt v 2) (h2 : g (S + 2) = bt v 1) (h3 : g (S + 3) = bt v 0) (ho : ∀ k : Int, ¬ (S ≤ k ∧ k < S + 4) → g k = f k) : g = t4 f S v := by
  funext k
  unfold t4
  by_cases q : S ≤ k ∧ k < S + 4
  · rw [if_pos q]
    rcases (show k = S ∨ k = S + 1 ∨ k = S + 2 ∨ k = S + 3 by omega) with rfl | rfl | rfl | rfl
    · rw [h0, show k + 3 - k = 3 by omega]
    · rw [h1, show S + 3 - (S + 1) = 2 by omega]
    · rw [h2, show S + 3 - (S + 2) = 1 by omega]
    · rw [h3, show S + 3 - (S + 3) = 0 by omega]
  · rw [if_neg q]
    exact ho k q
theorem r_putWord_x {A : Nat → Option (Nat × (Nat → Int32))} {Q : Option Value → jm → Prop} {M : jm} (hI_M : RI M) (hH_M : RH M) (hS_M : RF M) {x : Int} (h_x : (-2147483648) ≤ x ∧ x ≤ 2147483647) (p0 : M 598 1 ≤ 1596) (q : ∀ (M' : jm), RI M' → RH M' → RF M' → M' 599 = t4 (M 599) (M 598 1) x → M' 598 1 = M 598 1 + 4 → (∀ (a : Nat) (i : Int), a ≠ 598 → a ≠ 599 → M' a i = M a i) → (∀ (i : Int), i ≠ 1 → M' 598 i = M 598 i) → Q none M') : jc A 1 243 [.ref (598), .int (Int32.ofInt (x))] M Q := by
  refine jc_of (m := xm_243) rfl (Nat.le_of_ble_eq_true rfl) rfl ?_
  refine jr.bipush rfl (by decide) ?_
  refine jr.istore_n rfl (by decide) rfl ?_
  refine jr.iload_n rfl rfl ?_
  refine jr.if_lt rfl rfl (by omega) (fun h => absurd h (by decide)) (fun _ => ?_)
  refine jr.aload_n rfl rfl ?_
  refine jr.getf (i := 0) (v := .ref 599) rfl rfl (by decide) rfl (by decide) rfl rfl rfl rfl ?_
  refine jr.aload_n rfl rfl ?_
  obtain ⟨v1, e1⟩ : ∃ z, M 598 1 = z := ⟨_, rfl⟩
  have b1 : 0 ≤ v1 ∧ v1 ≤ 1600 := by rw [← e1]; exact hI_M 598 1 (by decide)
  refine jr.getf (i := 1) (x := v1) (v := .int (Int32.ofInt (v1))) rfl rfl (by decide) rfl (by decide) rfl rfl e1 rfl ?_
  refine jr.iload_n rfl rfl ?_
  refine jr.iload_n rfl rfl ?_
  refine jr.iushr rfl ?_
  refine jr.sipush rfl (by decide) ?_
  refine jr.iand rfl ?_
  have b2 : j_and (j_ushr x 24) 255 = bt x 3 ∧ 0 ≤ j_and (j_ushr x 24) 255 ∧ j_and (j_ushr x 24) 255 ≤ 255 := bt_rg (by omega) (by omega)
  generalize j_and (j_ushr x 24) 255 = v2 at b2 ⊢
  refine jr.iast (i := v1) (x := v2) rfl (by decide) rfl (by decide) (by omega) (by omega) ?_
  refine jr.aload_n rfl rfl ?_
  refine jr.dup rfl rfl ?_
  refine jr.getf (i := 1) (x := v1) (v := .int (Int32.ofInt (v1))) rfl rfl (by decide) rfl (by decide) rfl rfl ((ju_c _ _ (by decide)).trans e1) rfl ?_
  refine jr.iconst rfl ?_
  refine jr.iadd rfl ?_
  refine jr.putf (i := 1) (x := (v1 + 1)) rfl rfl (by decide) rfl (by decide) rfl rfl rfl rfl rfl ?_
  refine jr.iinc rfl rfl (by decide) rfl ?_
  refine jr.goto rfl rfl ?_
  refine jr.iload_n rfl rfl ?_
  refine jr.if_lt rfl rfl (by omega) (fun h => absurd h (by decide)) (fun _ => ?_)
  refine jr.aload_n rfl rfl ?_
  refine jr.getf (i := 0) (v := .ref 599) rfl rfl (by decide) rfl (by decide) rfl rfl rfl rfl ?_
  refine jr.aload_n rfl rfl ?_
  refine jr.getf (i := 1) (x := (v1 + 1)) (v := .int (Int32.ofInt (v1 + 1))) rfl rfl (by decide) rfl (by decide) rfl rfl (ju_same _ _ _ _) rfl ?_
  refine jr.iload_n rfl rfl ?_
  refine jr.iload_n rfl rfl ?_
  refine jr.iushr rfl ?_
  refine jr.sipush rfl (by decide) ?_
  refine jr.iand rfl ?_
  have b3 : j_and (j_ushr x (24 + (-8))) 255 = bt x 2 ∧ 0 ≤ j_and (j_ushr x (24 + (-8))) 255 ∧ j_and (j_ushr x (24 + (-8))) 255 ≤ 255 := bt_rg (by omega) (by omega)
  generalize j_and (j_ushr x (24 + (-8))) 255 = v3 at b3 ⊢
  refine jr.iast (i := (v1 + 1)) (x := v3) rfl (by decide) rfl (by decide) (by omega) (by omega) ?_
  refine jr.aload_n rfl rfl ?_
  refine jr.dup rfl rfl ?_
  refine jr.getf (i := 1) (x := (v1 + 1)) (v := .int (Int32.ofInt (v1 + 1))) rfl rfl (by decide) rfl (by decide) rfl rfl ((ju_c _ _ (by decide)).trans (ju_same _ _ _ _)) rfl ?_
  refine jr.iconst rfl ?_
  refine jr.iadd rfl ?_
  refine jr.putf (i := 1) (x := ((v1 + 1) + 1)) rfl rfl (by decide) rfl (by decide) rfl rfl rfl rfl rfl ?_
  refine jr.iinc rfl rfl (by decide) rfl ?_
  refine jr.goto rfl rfl ?_
  refine jr.iload_n rfl rfl ?_
  refine jr.if_lt rfl rfl (by omega) (fun h => absurd h (by decide)) (fun _ => ?_)
  refine jr.aload_n rfl rfl ?_
  refine jr.getf (i := 0) (v := .ref 599) rfl rfl (by decide) rfl (by decide) rfl rfl rfl rfl ?_
  refine jr.aload_n rfl rfl ?_
  refine jr.getf (i := 1) (x := ((v1 + 1) + 1)) (v := .int (Int32.ofInt ((v1 + 1) + 1))) rfl rfl (by decide) rfl (by decide) rfl rfl (ju_same _ _ _ _) rfl ?_
  refine jr.iload_n rfl rfl ?_
  refine jr.iload_n rfl rfl ?_
  refine jr.iushr rfl ?_
  refine jr.sipush rfl (by decide) ?_
  refine jr.iand rfl ?_
  have b4 : j_and (j_ushr x ((24 + (-8)) + (-8))) 255 = bt x 1 ∧ 0 ≤ j_and (j_ushr x ((24 + (-8)) + (-8))) 255 ∧ j_and (j_ushr x ((24 + (-8)) + (-8))) 255 ≤ 255 := bt_rg (by omega) (by omega)
  generalize j_and (j_ushr x ((24 + (-8)) + (-8))) 255 = v4 at b4 ⊢
  refine jr.iast (i := ((v1 + 1) + 1)) (x := v4) rfl (by decide) rfl (by decide) (by omega) (by omega) ?_
  refine jr.aload_n rfl rfl ?_
  refine jr.dup rfl rfl ?_
  refine jr.getf (i := 1) (x := ((v1 + 1) + 1)) (v := .int (Int32.ofInt ((v1 + 1) + 1))) rfl rfl (by decide) rfl (by decide) rfl rfl ((ju_c _ _ (by decide)).trans (ju_same _ _ _ _)) rfl ?_
  refine jr.iconst rfl ?_
  refine jr.iadd rfl ?_
  refine jr.putf (i := 1) (x := (((v1 + 1) + 1) + 1)) rfl rfl (by decide) rfl (by decide) rfl rfl rfl rfl rfl ?_
  refine jr.iinc rfl rfl (by decide) rfl ?_
  refine jr.goto rfl rfl ?_
  refine jr.iload_n rfl rfl ?_
  refine jr.if_lt rfl rfl (by omega) (fun h => absurd h (by decide)) (fun _ => ?_)
  refine jr.aload_n rfl rfl ?_
  refine jr.getf (i := 0) (v := .ref 599) rfl rfl (by decide) rfl (by decide) rfl rfl rfl rfl ?_
  refine jr.aload_n rfl rfl ?_
  refine jr.getf (i := 1) (x := (((v1 + 1) + 1) + 1)) (v := .int (Int32.ofInt (((v1 + 1) + 1) + 1))) rfl rfl (by decide) rfl (by decide) rfl rfl (ju_same _ _ _ _) rfl ?_
  refine jr.iload_n rfl rfl ?_
  refine jr.iload_n rfl rfl ?_
  refine jr.iushr rfl ?_
  refine jr.sipush rfl (by decide) ?_
  refine jr.iand rfl ?_
  have b5 : j_and (j_ushr x (((24 + (-8)) + (-8)) + (-8))) 255 = bt x 0 ∧ 0 ≤ j_and (j_ushr x (((24 + (-8)) + (-8)) + (-8))) 255 ∧ j_and (j_ushr x (((24 + (-8)) + (-8)) + (-8))) 255 ≤ 255 := bt_rg (by omega) (by omega)
  generalize j_and (j_ushr x (((24 + (-8)) + (-8)) + (-8))) 255 = v5 at b5 ⊢
  refine jr.iast (i := (((v1 + 1) + 1) + 1)) (x := v5) rfl (by decide) rfl (by decide) (by omega) (by omega) ?_
  refine jr.aload_n rfl rfl ?_
  refine jr.dup rfl rfl ?_
  refine jr.getf (i := 1) (x := (((v1 + 1) + 1) + 1)) (v := .int (Int32.ofInt (((v1 + 1) + 1) + 1))) rfl rfl (by decide) rfl (by decide) rfl rfl ((ju_c _ _ (by decide)).trans (ju_same _ _ _ _)) rfl ?_
  refine jr.iconst rfl ?_
  refine jr.iadd rfl ?_
  refine jr.putf (i := 1) (x := ((((v1 + 1) + 1) + 1) + 1)) rfl rfl (by decide) rfl (by decide) rfl rfl rfl rfl rfl ?_
  refine jr.iinc rfl rfl (by decide) rfl ?_
  refine jr.goto rfl rfl ?_
  refine jr.iload_n rfl rfl ?_
  refine jr.if_lt rfl rfl (by omega) (fun _ => ?_) (fun h => absurd (by decide) h)
  exact jr.vreturn rfl rfl (q _ (RI.u (RI.u (RI.u (RI.u (RI.u (RI.u (RI.u (RI.u hI_M (a := 599) (i := v1) (by rw [xri_row rfl rfl]; show (0 : Int) ≤ _ ∧ _ ≤ (255 : Int); omega)) (a := 598) (i := 1) (show (0 : Int) ≤ _ ∧ _ ≤ (1600 : Int) from by omega)) (a := 599) (i := (v1 + 1)) (by rw [xri_row rfl rfl]; show (0 : Int) ≤ _ ∧ _ ≤ (255 : Int); omega)) (a := 598) (i := 1) (show (0 : Int) ≤ _ ∧ _ ≤ (1600 : Int) from by omega)) (a := 599) (i := ((v1 + 1) + 1)) (by rw [xri_row rfl rfl]; show (0 : Int) ≤ _ ∧ _ ≤ (255 : Int); omega)) (a := 598) (i := 1) (show (0 : Int) ≤ _ ∧ _ ≤ (1600 : Int) from by omega)) (a := 599) (i := (((v1 + 1) + 1) + 1)) (by rw [xri_row rfl rfl]; show (0 : Int) ≤ _ ∧ _ ≤ (255 : Int); omega)) (a := 598) (i := 1) (show (0 : Int) ≤ _ ∧ _ ≤ (1600 : Int) from by omega)) (RH.o (RH.o (RH.o (RH.o (RH.o (RH.o (RH.o (RH.o hH_M (by decide) (by decide) (by decide)) (by decide) (by decide) (by decide)) (by decide) (by decide) (by decide)) (by decide) (by decide) (by decide)) (by decide) (by decide) (by decide)) (by decide) (by decide) (by decide)) (by decide) (by decide) (by decide)) (by decide) (by decide) (by decide)) (RF.o (RF.o (RF.o (RF.o (RF.o (RF.o (RF.o (RF.o hS_M (by decide) (by decide)) (by decide) (by decide)) (by decide) (by decide)) (by decide) (by decide)) (by decide) (by decide)) (by decide) (by decide)) (by decide) (by decide)) (by decide) (by decide))  (by rw [e1]; exact t4_4 _ (by rw [show v1 = v1 from by omega]; exact (((ju_c _ _ (by decide)).trans ((ju_i _ _ (by omega)).trans ((ju_c _ _ (by decide)).trans ((ju_i _ _ (by omega)).trans ((ju_c _ _ (by decide)).trans ((ju_i _ _ (by omega)).trans ((ju_c _ _ (by decide)).trans (ju_same _ _ _ _))))))))).trans (by omega)) (by rw [show v1 + 1 = v1 + 1 from by omega]; exact (((ju_c _ _ (by decide)).trans ((ju_i _ _ (by omega)).trans ((ju_c _ _ (by decide)).trans ((ju_i _ _ (by omega)).trans ((ju_c _ _ (by decide)).trans (ju_same _ _ _ _))))))).trans (by omega)) (by rw [show v1 + 2 = (v1 + 1) + 1 from by omega]; exact (((ju_c _ _ (by decide)).trans ((ju_i _ _ (by omega)).trans ((ju_c _ _ (by decide)).trans (ju_same _ _ _ _))))).trans (by omega)) (by rw [show v1 + 3 = ((v1 + 1) + 1) + 1 from by omega]; exact (((ju_c _ _ (by decide)).trans (ju_same _ _ _ _))).trans (by omega)) (fun k hk => ((ju_c _ _ (by decide)).trans ((ju_i _ _ (by omega)).trans ((ju_c _ _ (by decide)).trans ((ju_i _ _ (by omega)).trans ((ju_c _ _ (by decide)).trans ((ju_i _ _ (by omega)).trans ((ju_c _ _ (by decide)).trans ((ju_i _ _ (by omega)).trans rfl)))))))))) ((ju_same _ _ _ _).trans (by omega)) (fun a i f598 f599 => ((ju_c _ _ f598).trans ((ju_c _ _ f599).trans ((ju_c _ _ f598).trans ((ju_c _ _ f599).trans ((ju_c _ _ f598).trans ((ju_c _ _ f599).trans ((ju_c _ _ f598).trans ((ju_c _ _ f599).trans rfl))))))))) (fun i g1 => ((ju_i _ _ g1).trans ((ju_c _ _ (by decide)).trans ((ju_i _ _ g1).trans ((ju_c _ _ (by decide)).trans ((ju_i _ _ g1).trans ((ju_c _ _ (by decide)).trans ((ju_i _ _ g1).trans ((ju_c _ _ (by decide)).trans rfl))))))))))
theorem r_feed_x {A : Nat → Option (Nat × (Nat → Int32))} {Q : Option Value → jm → Prop} {M : jm} (hI_M : RI M) (hH_M : RH M) (hS_M : RF M) {a : Int} (h_a : (-2147483648) ≤ a ∧ a ≤ 2147483647) {b : Int} (h_b : (-2147483648) ≤ b ∧ b ≤ 2147483647) {c : Int} (h_c : (-2147483648) ≤ c ∧ c ≤ 2147483647) {d : Int} (h_d : (-2147483648) ≤ d ∧ d ≤ 2147483647) {e : Int} (h_e : (-2147483648) ≤ e ∧ e ≤ 2147483647) (q : ∀ (r : Int) (M' : jm), RI M' → RH M' → RF M' → (-5) ≤ r ∧ r ≤ 1600 → ((M 598 1 + 20 ≤ 1600 ∧ r = M 598 1 + 20 ∧ M' 599 = t4 (t4 (t4 (t4 (t4 (M 599) (M 598 1) a) (M 598 1 + 4) b) ((M 598 1 + 4) + 4) c) (((M 598 1 + 4) + 4) + 4) d) ((((M 598 1 + 4) + 4) + 4) + 4) e ∧ M' 598 1 = M 598 1 + 20) ∨ (1600 < M 598 1 + 20 ∧ r = -5 ∧ M' 599 = M 599 ∧ M' 598 1 = M 598 1)) → (∀ (a : Nat) (i : Int), a ≠ 598 → a ≠ 599 → M' a i = M a i) → (∀ (i : Int), i ≠ 1 → M' 598 i = M 598 i) → Q (some (.int (Int32.ofInt r))) M') : jc A 2 244 [.ref (598), .int (Int32.ofInt (a)), .int (Int32.ofInt (b)), .int (Int32.ofInt (c)), .int (Int32.ofInt (d)), .int (Int32.ofInt (e))] M Q := by
  refine jc_of (m := xm_244) rfl (Nat.le_of_ble_eq_true rfl) rfl ?_
  refine jr.aload_n rfl rfl ?_
  obtain ⟨v1, e1⟩ : ∃ z, M 598 1 = z := ⟨_, rfl⟩
  have b1 : 0 ≤ v1 ∧ v1 ≤ 1600 := by rw [← e1]; exact hI_M 598 1 (by decide)
  refine jr.getf (i := 1) (x := v1) (v := .int (Int32.ofInt (v1))) rfl rfl (by decide) rfl (by decide) rfl rfl e1 rfl ?_
  refine jr.bipush rfl (by decide) ?_
  refine jr.iadd rfl ?_
  refine jr.sipush rfl (by decide) ?_
  refine jr.icmp_le rfl rfl (by omega) (by omega) (fun h10 => ?_) (fun h10 => ?_)
  · refine jr.aload_n rfl rfl ?_
    refine jr.iload_n rfl rfl ?_
    refine jr_v rfl rfl (Or.inl rfl) rfl rfl (by decide) rfl ⟨rfl, Nat.le_of_ble_eq_true rfl, Nat.le_of_ble_eq_true rfl⟩ rfl (jc.deep (r_putWord_x hI_M hH_M hS_M  (by omega) (by rw [e1]; omega) (fun M2 hI_M2 hH_M2 hS_M2  w2_0 w2_1 w2_2 w2_3 => ?_)) (by decide))
    refine jr.aload_n rfl rfl ?_
    refine jr.iload_n rfl rfl ?_
    obtain ⟨v4, e4⟩ : ∃ z, M2 598 1 = z := ⟨_, rfl⟩
    have b4 : 0 ≤ v4 ∧ v4 ≤ 1600 := by rw [← e4]; exact hI_M2 598 1 (by decide)
    refine jr_v rfl rfl (Or.inl rfl) rfl rfl (by decide) rfl ⟨rfl, Nat.le_of_ble_eq_true rfl, Nat.le_of_ble_eq_true rfl⟩ rfl (jc.deep (r_putWord_x hI_M2 hH_M2 hS_M2  (by omega) (by rw [e4]; omega) (fun M3 hI_M3 hH_M3 hS_M3  w3_0 w3_1 w3_2 w3_3 => ?_)) (by decide))
    refine jr.aload_n rfl rfl ?_
    refine jr.iload_n rfl rfl ?_
    obtain ⟨v6, e6⟩ : ∃ z, M3 598 1 = z := ⟨_, rfl⟩
    have b6 : 0 ≤ v6 ∧ v6 ≤ 1600 := by rw [← e6]; exact hI_M3 598 1 (by decide)
    refine jr_v rfl rfl (Or.inl rfl) rfl rfl (by decide) rfl ⟨rfl, Nat.le_of_ble_eq_true rfl, Nat.le_of_ble_eq_true rfl⟩ rfl (jc.deep (r_putWord_x hI_M3 hH_M3 hS_M3  (by omega) (by rw [e6]; omega) (fun M5 hI_M5 hH_M5 hS_M5  w5_0 w5_1 w5_2 w5_3 => ?_)) (by decide))
    refine jr.aload_n rfl rfl ?_
    refine jr.iload rfl rfl ?_
    obtain ⟨v8, e8⟩ : ∃ z, M5 598 1 = z := ⟨_, rfl⟩
    have b8 : 0 ≤ v8 ∧ v8 ≤ 1600 := by rw [← e8]; exact hI_M5 598 1 (by decide)
    refine jr_v rfl rfl (Or.inl rfl) rfl rfl (by decide) rfl ⟨rfl, Nat.le_of_ble_eq_true rfl, Nat.le_of_ble_eq_true rfl⟩ rfl (jc.deep (r_putWord_x hI_M5 hH_M5 hS_M5  (by omega) (by rw [e8]; omega) (fun M7 hI_M7 hH_M7 hS_M7  w7_0 w7_1 w7_2 w7_3 => ?_)) (by decide))
    refine jr.aload_n rfl rfl ?_
    refine jr.iload rfl rfl ?_
    obtain ⟨v10, e10⟩ : ∃ z, M7 598 1 = z := ⟨_, rfl⟩
    have b10 : 0 ≤ v10 ∧ v10 ≤ 1600 := by rw [← e10]; exact hI_M7 598 1 (by decide)
    refine jr_v rfl rfl (Or.inl rfl) rfl rfl (by decide) rfl ⟨rfl, Nat.le_of_ble_eq_true rfl, Nat.le_of_ble_eq_true rfl⟩ rfl (jc.deep (r_putWord_x hI_M7 hH_M7 hS_M7  (by omega) (by rw [e10]; omega) (fun M9 hI_M9 hH_M9 hS_M9  w9_0 w9_1 w9_2 w9_3 => ?_)) (by decide))
    refine jr.aload_n rfl rfl ?_
    obtain ⟨v11, e11⟩ : ∃ z, M9 598 1 = z := ⟨_, rfl⟩
    have b11 : 0 ≤ v11 ∧ v11 ≤ 1600 := by rw [← e11]; exact hI_M9 598 1 (by decide)
    refine jr.getf (i := 1) (x := v11) (v := .int (Int32.ofInt (v11))) rfl rfl (by decide) rfl (by decide) rfl rfl e11 rfl ?_
    exact jr.ireturn rfl rfl rfl (q _ _ hI_M9 hH_M9 hS_M9  (by omega) (Or.inl ⟨by omega, by omega, by rw [w9_0, w7_0, w5_0, w3_0, w2_0, w7_1, w5_1, w3_1, w2_1], by omega⟩) (fun a i f598 f599 => ((w9_2 a i f598 f599).trans ((w7_2 a i f598 f599).trans ((w5_2 a i f598 f599).trans ((w3_2 a i f598 f599).trans ((w2_2 a i f598 f599).trans rfl)))))) (fun i g1 => ((w9_3 i g1).trans ((w7_3 i g1).trans ((w5_3 i g1).trans ((w3_3 i g1).trans ((w2_3 i g1).trans rfl)))))))
  · refine jr.bipush rfl (by decide) ?_
    exact jr.ireturn rfl rfl rfl (q _ _ hI_M hH_M hS_M  (by omega) (Or.inr ⟨by omega, by omega, rfl, rfl⟩) (fun a i f598 f599 => rfl) (fun i g1 => rfl))
theorem r_end_x {A : Nat → Option (Nat × (Nat → Int32))} {Q : Option Value → jm → Prop} {M : jm} (hI_M : RI M) (hH_M : RH M) (hS_M : RF M) {x : Int} (h_x : (-2147483648) ≤ x ∧ x ≤ 2147483647) (q : ∀ (r : Int) (M' : jm), RI M' → RH M' → RF M' → (-3) ≤ r ∧ r ≤ 1600 → (((0 ≤ x ∧ x ≤ M 598 1) ∧ r = x ∧ M' 598 1 = x) ∨ ((x < 0 ∨ M 598 1 < x) ∧ r = -3 ∧ M' 598 1 = M 598 1)) → (∀ (a : Nat) (i : Int), a ≠ 598 → M' a i = M a i) → (∀ (i : Int), i ≠ 1 → M' 598 i = M 598 i) → Q (some (.int (Int32.ofInt r))) M') : jc A 2 245 [.ref (598), .int (Int32.ofInt (x))] M Q := by
  refine jc_of (m := xm_245) rfl (Nat.le_of_ble_eq_true rfl) rfl ?_
  refine jr.iload_n rfl rfl ?_
  refine jr.i2l rfl (by omega) ?_
  refine jr.lconst (x := 0) rfl (by decide) ?_
  refine jr.aload_n rfl rfl ?_
  obtain ⟨v1, e1⟩ : ∃ z, M 598 1 = z := ⟨_, rfl⟩
  have b1 : 0 ≤ v1 ∧ v1 ≤ 1600 := by rw [← e1]; exact hI_M 598 1 (by decide)
  refine jr.getf (i := 1) (x := v1) (v := .int (Int32.ofInt (v1))) rfl rfl (by decide) rfl (by decide) rfl rfl e1 rfl ?_
  refine jr.i2l rfl (by omega) ?_
  refine jr_s rfl rfl (Or.inl rfl) ⟨Nat.le_of_ble_eq_true rfl, Nat.le_of_ble_eq_true rfl⟩ rfl rfl (jc.deep (c_within (by omega) (by omega) (by omega) (fun l8 u8 => ?_) (fun n8 => ?_)) (by decide))
  · refine jr.if_ne rfl rfl (by omega) (fun _ => ?_) (fun h => absurd (by decide) h)
    refine jr.aload_n rfl rfl ?_
    refine jr.iload_n rfl rfl ?_
    refine jr.putf (i := 1) (x := x) rfl rfl (by decide) rfl (by decide) rfl rfl rfl rfl rfl ?_
    refine jr.iload_n rfl rfl ?_
    exact jr.ireturn rfl rfl rfl (q _ _ (RI.u hI_M (a := 598) (i := 1) (show (0 : Int) ≤ _ ∧ _ ≤ (1600 : Int) from by omega)) (RH.o hH_M (by decide) (by decide) (by decide)) (RF.o hS_M (by decide) (by decide))  (by omega) (by have hq : (ju M 598 1 x) 598 1 = x := (ju_same _ _ _ _); omega) (fun a i f598 => ((ju_c _ _ f598).trans rfl)) (fun i g1 => ((ju_i _ _ g1).trans rfl)))
  · refine jr.if_ne rfl rfl (by omega) (fun h => absurd h (by decide)) (fun _ => ?_)
    refine jr.bipush rfl (by decide) ?_
    exact jr.ireturn rfl rfl rfl (q _ _ hI_M hH_M hS_M  (by omega) (by have hq : M 598 1 = v1 := e1; omega) (fun a i f598 => rfl) (fun i g1 => rfl))
theorem r_tape_x {A : Nat → Option (Nat × (Nat → Int32))} {Q : Option Value → jm → Prop} {M : jm} (hI_M : RI M) (hH_M : RH M) (hS_M : RF M) {i : Int} (h_i : (-2147483648) ≤ i ∧ i ≤ 2147483647) (q : ∀ (r : Int) (M' : jm), RI M' → RH M' → RF M' → (-1) ≤ r ∧ r ≤ 255 → (((0 ≤ i ∧ i < M 598 1) ∧ r = M 599 i) ∨ ((i < 0 ∨ M 598 1 ≤ i) ∧ r = -1)) → M' = M → (∀ (a : Nat) (i : Int), a ≠ 598 → M' a i = M a i) → (∀ (i : Int), i ≠ 1 → M' 598 i = M 598 i) → Q (some (.int (Int32.ofInt r))) M') : jc A 2 334 [.ref (598), .int (Int32.ofInt (i))] M Q := by
  refine jc_of (m := xm_334) rfl (Nat.le_of_ble_eq_true rfl) rfl ?_
  refine jr.iload_n rfl rfl ?_
  refine jr.i2l rfl (by omega) ?_
  refine jr.lconst (x := 0) rfl (by decide) ?_
  refine jr.aload_n rfl rfl ?_
  obtain ⟨v1, e1⟩ : ∃ z, M 598 1 = z := ⟨_, rfl⟩
  have b1 : 0 ≤ v1 ∧ v1 ≤ 1600 := by rw [← e1]; exact hI_M 598 1 (by decide)
  refine jr.getf (i := 1) (x := v1) (v := .int (Int32.ofInt (v1))) rfl rfl (by decide) rfl (by decide) rfl rfl e1 rfl ?_
  refine jr.iconst rfl ?_
  refine jr.isub rfl ?_
  refine jr.i2l rfl (by omega) ?_
  refine jr_s rfl rfl (Or.inl rfl) ⟨Nat.le_of_ble_eq_true rfl, Nat.le_of_ble_eq_true rfl⟩ rfl rfl (jc.deep (c_within (by omega) (by omega) (by omega) (fun l10 u10 => ?_) (fun n10 => ?_)) (by decide))
  · refine jr.if_eq rfl rfl (by omega) (fun h => absurd h (by decide)) (fun _ => ?_)
    refine jr.aload_n rfl rfl ?_
    refine jr.getf (i := 0) (v := .ref 599) rfl rfl (by decide) rfl (by decide) rfl rfl rfl rfl ?_
    refine jr.iload_n rfl rfl ?_
    obtain ⟨v2, e2⟩ : ∃ z, M 599 i = z := ⟨_, rfl⟩
    have b2 : 0 ≤ v2 ∧ v2 ≤ 255 := by rw [← e2]; exact (by have q := hI_M 599 i (by decide); rw [xri_row rfl rfl] at q; exact q)
    refine jr.iald (i := i) (x := v2) rfl (by decide) rfl (by decide) (by omega) (by omega) e2 ?_
    refine jr.goto rfl rfl ?_
    exact jr.ireturn rfl rfl rfl (q _ _ hI_M hH_M hS_M  (by omega) (by omega) rfl (fun a i f598 => rfl) (fun i g1 => rfl))
  · refine jr.if_eq rfl rfl (by omega) (fun _ => ?_) (fun h => absurd (by decide) h)
    refine jr.iconst rfl ?_
    exact jr.ireturn rfl rfl rfl (q _ _ hI_M hH_M hS_M  (by omega) (by omega) rfl (fun a i f598 => rfl) (fun i g1 => rfl))
theorem r_at_x {A : Nat → Option (Nat × (Nat → Int32))} {Q : Option Value → jm → Prop} {M : jm} (hI_M : RI M) (hH_M : RH M) (hS_M : RF M) {x : Int} (h_x : (-2147483648) ≤ x ∧ x ≤ 2147483647) {i : Int} (h_i : (-2147483648) ≤ i ∧ i ≤ 2147483647) (q : ∀ (r : Int) (M' : jm), RI M' → RH M' → RF M' → (-2) ≤ r ∧ r ≤ 400 → (((x < 0 ∨ 23 < x ∨ M 600 x = -1) ∧ r = -2) ∨ ((0 ≤ x ∧ x ≤ 23) ∧ M 600 x ≠ -1 ∧ ((i = -1 ∧ r = M 600 x) ∨ (i ≠ -1 ∧ (0 ≤ i ∧ i < M 600 x) ∧ r = M 601 (400 * x + i)) ∨ (i ≠ -1 ∧ (i < 0 ∨ M 600 x ≤ i) ∧ r = -1)))) → M' = M → (∀ (a : Nat) (i : Int), a ≠ 598 → M' a i = M a i) → (∀ (i : Int), i ≠ 1 → M' 598 i = M 598 i) → Q (some (.int (Int32.ofInt r))) M') : jc A 4 250 [.ref (598), .int (Int32.ofInt (x)), .int (Int32.ofInt (i))] M Q := by
  refine jc_of (m := xm_250) rfl (Nat.le_of_ble_eq_true rfl) rfl ?_
  refine jr.aload_n rfl rfl ?_
  refine jr.iload_n rfl rfl ?_
  refine jr_v rfl rfl (Or.inl rfl) rfl rfl (by decide) rfl ⟨rfl, Nat.le_of_ble_eq_true rfl, Nat.le_of_ble_eq_true rfl⟩ rfl (jc.deep (c_isThere hI_M (by omega) (fun l2 u2 t2 => ?_) (fun n2 => ?_)) (by decide))
  · refine jr.if_ne rfl rfl (by omega) (fun _ => ?_) (fun h => absurd (by decide) h)
    refine jr.iload_n rfl rfl ?_
    refine jr.iconst rfl ?_
    refine jr.icmp_ne rfl rfl (by omega) (by omega) (fun h13 => ?_) (fun h13 => ?_)
    · refine jr.iload_n rfl rfl ?_
      refine jr.i2l rfl (by omega) ?_
      refine jr.lconst (x := 0) rfl (by decide) ?_
      refine jr.aload_n rfl rfl ?_
      refine jr.getf (i := 3) (v := .ref 600) rfl rfl (by decide) rfl (by decide) rfl rfl rfl rfl ?_
      refine jr.iload_n rfl rfl ?_
      obtain ⟨v1, e1⟩ : ∃ z, M 600 x = z := ⟨_, rfl⟩
      have b1 : (-1) ≤ v1 ∧ v1 ≤ 400 := by rw [← e1]; exact (by have q := hI_M 600 x (by decide); rw [xri_row rfl rfl] at q; exact q)
      refine jr.iald (i := x) (x := v1) rfl (by decide) rfl (by decide) (by omega) (by omega) e1 ?_
      refine jr.iconst rfl ?_
      refine jr.isub rfl ?_
      refine jr.i2l rfl (by omega) ?_
      refine jr_s rfl rfl (Or.inl rfl) ⟨Nat.le_of_ble_eq_true rfl, Nat.le_of_ble_eq_true rfl⟩ rfl rfl (jc.deep (c_within (by omega) (by omega) (by omega) (fun l37 u37 => ?_) (fun n37 => ?_)) (by decide))
      · refine jr.if_eq rfl rfl (by omega) (fun h => absurd h (by decide)) (fun _ => ?_)
        refine jr.aload_n rfl rfl ?_
        refine jr.getf (i := 4) (v := .ref 601) rfl rfl (by decide) rfl (by decide) rfl rfl rfl rfl ?_
        refine jr.sipush rfl (by decide) ?_
        refine jr.iload_n rfl rfl ?_
        refine jr.imul rfl ?_
        refine jr.iload_n rfl rfl ?_
        refine jr.iadd rfl ?_
        obtain ⟨v2, e2⟩ : ∃ z, M 601 ((400 * x) + i) = z := ⟨_, rfl⟩
        have b2 : 0 ≤ v2 ∧ v2 ≤ 255 := by rw [← e2]; exact (by have q := hI_M 601 ((400 * x) + i) (by decide); rw [xri_row rfl rfl] at q; exact q)
        refine jr.iald (i := ((400 * x) + i)) (x := v2) rfl (by decide) rfl (by decide) (by omega) (by omega) e2 ?_
        refine jr.goto rfl rfl ?_
        exact jr.ireturn rfl rfl rfl (q _ _ hI_M hH_M hS_M  (by omega) (by omega) rfl (fun a i f598 => rfl) (fun i g1 => rfl))
      · refine jr.if_eq rfl rfl (by omega) (fun _ => ?_) (fun h => absurd (by decide) h)
        refine jr.iconst rfl ?_
        exact jr.ireturn rfl rfl rfl (q _ _ hI_M hH_M hS_M  (by omega) (by omega) rfl (fun a i f598 => rfl) (fun i g1 => rfl))
    · refine jr.aload_n rfl rfl ?_
      refine jr.getf (i := 3) (v := .ref 600) rfl rfl (by decide) rfl (by decide) rfl rfl rfl rfl ?_
      refine jr.iload_n rfl rfl ?_
      obtain ⟨v3, e3⟩ : ∃ z, M 600 x = z := ⟨_, rfl⟩
      have b3 : (-1) ≤ v3 ∧ v3 ≤ 400 := by rw [← e3]; exact (by have q := hI_M 600 x (by decide); rw [xri_row rfl rfl] at q; exact q)
      refine jr.iald (i := x) (x := v3) rfl (by decide) rfl (by decide) (by omega) (by omega) e3 ?_
      refine jr.goto rfl rfl ?_
      exact jr.ireturn rfl rfl rfl (q _ _ hI_M hH_M hS_M  (by omega) (by omega) rfl (fun a i f598 => rfl) (fun i g1 => rfl))
  · refine jr.if_ne rfl rfl (by omega) (fun h => absurd h (by decide)) (fun _ => ?_)
    refine jr.bipush rfl (by decide) ?_
    exact jr.ireturn rfl rfl rfl (q _ _ hI_M hH_M hS_M  (by omega) (by omega) rfl (fun a i f598 => rfl) (fun i g1 => rfl))
theorem r_set_x {A : Nat → Option (Nat × (Nat → Int32))} {Q : Option Value → jm → Prop} {M : jm} (hI_M : RI M) (hH_M : RH M) (hS_M : RF M) {x : Int} (h_x : (-2147483648) ≤ x ∧ x ≤ 2147483647) {i : Int} (h_i : (-2147483648) ≤ i ∧ i ≤ 2147483647) {w : Int} (h_w : (-2147483648) ≤ w ∧ w ≤ 2147483647) (q : ∀ (r : Int) (M' : jm), RI M' → RH M' → RF M' → (-3) ≤ r ∧ r ≤ 255 → (((x < 0 ∨ 23 < x ∨ M 600 x = -1) ∧ r = -2 ∧ M' = M) ∨ ((0 ≤ x ∧ x ≤ 23) ∧ M 600 x ≠ -1 ∧ (i < 0 ∨ M 600 x ≤ i ∨ w < 0 ∨ 255 < w) ∧ r = -3 ∧ M' = M) ∨ ((0 ≤ x ∧ x ≤ 23) ∧ M 600 x ≠ -1 ∧ (0 ≤ i ∧ i < M 600 x) ∧ (0 ≤ w ∧ w ≤ 255) ∧ r = M 601 (400 * x + i) ∧ M' = ju M 601 (400 * x + i) w)) → (∀ (a : Nat) (i : Int), a ≠ 601 → M' a i = M a i) → (∀ (i : Int), i ≠ 1 → M' 598 i = M 598 i) → Q (some (.int (Int32.ofInt r))) M') : jc A 4 251 [.ref (598), .int (Int32.ofInt (x)), .int (Int32.ofInt (i)), .int (Int32.ofInt (w))] M Q := by
  refine jc_of (m := xm_251) rfl (Nat.le_of_ble_eq_true rfl) rfl ?_
  refine jr.aload_n rfl rfl ?_
  refine jr.iload_n rfl rfl ?_
  refine jr_v rfl rfl (Or.inl rfl) rfl rfl (by decide) rfl ⟨rfl, Nat.le_of_ble_eq_true rfl, Nat.le_of_ble_eq_true rfl⟩ rfl (jc.deep (c_isThere hI_M (by omega) (fun l2 u2 t2 => ?_) (fun n2 => ?_)) (by decide))
  · refine jr.if_ne rfl rfl (by omega) (fun _ => ?_) (fun h => absurd (by decide) h)
    refine jr.iload_n rfl rfl ?_
    refine jr.i2l rfl (by omega) ?_
    refine jr.lconst (x := 0) rfl (by decide) ?_
    refine jr.aload_n rfl rfl ?_
    refine jr.getf (i := 3) (v := .ref 600) rfl rfl (by decide) rfl (by decide) rfl rfl rfl rfl ?_
    refine jr.iload_n rfl rfl ?_
    obtain ⟨v1, e1⟩ : ∃ z, M 600 x = z := ⟨_, rfl⟩
    have b1 : (-1) ≤ v1 ∧ v1 ≤ 400 := by rw [← e1]; exact (by have q := hI_M 600 x (by decide); rw [xri_row rfl rfl] at q; exact q)
    refine jr.iald (i := x) (x := v1) rfl (by decide) rfl (by decide) (by omega) (by omega) e1 ?_
    refine jr.iconst rfl ?_
    refine jr.isub rfl ?_
    refine jr.i2l rfl (by omega) ?_
    refine jr_s rfl rfl (Or.inl rfl) ⟨Nat.le_of_ble_eq_true rfl, Nat.le_of_ble_eq_true rfl⟩ rfl rfl (jc.deep (c_within (by omega) (by omega) (by omega) (fun l23 u23 => ?_) (fun n23 => ?_)) (by decide))
    · refine jr.if_eq rfl rfl (by omega) (fun h => absurd h (by decide)) (fun _ => ?_)
      refine jr.iload_n rfl rfl ?_
      refine jr.i2l rfl (by omega) ?_
      refine jr.lconst (x := 0) rfl (by decide) ?_
      refine jr.ldc2 (x := 255) rfl rfl (by decide) ?_
      refine jr_s rfl rfl (Or.inl rfl) ⟨Nat.le_of_ble_eq_true rfl, Nat.le_of_ble_eq_true rfl⟩ rfl rfl (jc.deep (c_within (by omega) (by omega) (by omega) (fun l35 u35 => ?_) (fun n35 => ?_)) (by decide))
      · refine jr.if_ne rfl rfl (by omega) (fun _ => ?_) (fun h => absurd (by decide) h)
        refine jr.aload_n rfl rfl ?_
        refine jr.getf (i := 4) (v := .ref 601) rfl rfl (by decide) rfl (by decide) rfl rfl rfl rfl ?_
        refine jr.sipush rfl (by decide) ?_
        refine jr.iload_n rfl rfl ?_
        refine jr.imul rfl ?_
        refine jr.iload_n rfl rfl ?_
        refine jr.iadd rfl ?_
        obtain ⟨v2, e2⟩ : ∃ z, M 601 ((400 * x) + i) = z := ⟨_, rfl⟩
        have b2 : 0 ≤ v2 ∧ v2 ≤ 255 := by rw [← e2]; exact (by have q := hI_M 601 ((400 * x) + i) (by decide); rw [xri_row rfl rfl] at q; exact q)
        refine jr.iald (i := ((400 * x) + i)) (x := v2) rfl (by decide) rfl (by decide) (by omega) (by omega) e2 ?_
        refine jr.istore rfl (by decide) rfl ?_
        refine jr.aload_n rfl rfl ?_
        refine jr.getf (i := 4) (v := .ref 601) rfl rfl (by decide) rfl (by decide) rfl rfl rfl rfl ?_
        refine jr.sipush rfl (by decide) ?_
        refine jr.iload_n rfl rfl ?_
        refine jr.imul rfl ?_
        refine jr.iload_n rfl rfl ?_
        refine jr.iadd rfl ?_
        refine jr.iload_n rfl rfl ?_
        refine jr.iast (i := ((400 * x) + i)) (x := w) rfl (by decide) rfl (by decide) (by omega) (by omega) ?_
        refine jr.iload rfl rfl ?_
        exact jr.ireturn rfl rfl rfl (q _ _ (RI.u hI_M (a := 601) (i := ((400 * x) + i)) (by rw [xri_row rfl rfl]; show (0 : Int) ≤ _ ∧ _ ≤ (255 : Int); omega)) (RH.o hH_M (by decide) (by decide) (by decide)) (RF.o hS_M (by decide) (by decide))  (by omega) (Or.inr (Or.inr ⟨by omega, by omega, by omega, by omega, by omega, rfl⟩)) (fun a i f601 => ((ju_c _ _ f601).trans rfl)) (fun i g1 => ((ju_c _ _ (by decide)).trans rfl)))
      · refine jr.if_ne rfl rfl (by omega) (fun h => absurd h (by decide)) (fun _ => ?_)
        refine jr.bipush rfl (by decide) ?_
        exact jr.ireturn rfl rfl rfl (q _ _ hI_M hH_M hS_M  (by omega) (by first | exact Or.inl ⟨by omega, by omega, rfl⟩ | exact Or.inr (Or.inl ⟨by omega, by omega, by omega, by omega, rfl⟩)) (fun a i f601 => rfl) (fun i g1 => rfl))
    · refine jr.if_eq rfl rfl (by omega) (fun _ => ?_) (fun h => absurd (by decide) h)
      refine jr.bipush rfl (by decide) ?_
      exact jr.ireturn rfl rfl rfl (q _ _ hI_M hH_M hS_M  (by omega) (by first | exact Or.inl ⟨by omega, by omega, rfl⟩ | exact Or.inr (Or.inl ⟨by omega, by omega, by omega, by omega, rfl⟩)) (fun a i f601 => rfl) (fun i g1 => rfl))
  · refine jr.if_ne rfl rfl (by omega) (fun h => absurd h (by decide)) (fun _ => ?_)
    refine jr.bipush rfl (by decide) ?_
    exact jr.ireturn rfl rfl rfl (q _ _ hI_M hH_M hS_M  (by omega) (by first | exact Or.inl ⟨by omega, by omega, rfl⟩ | exact Or.inr (Or.inl ⟨by omega, by omega, by omega, by omega, rfl⟩)) (fun a i f601 => rfl) (fun i g1 => rfl))
theorem r_drop_x {A : Nat → Option (Nat × (Nat → Int32))} {Q : Option Value → jm → Prop} {M : jm} (hI_M : RI M) (hH_M : RH M) (hS_M : RF M) {x : Int} (h_x : (-2147483648) ≤ x ∧ x ≤ 2147483647) (q : ∀ (r : Int) (M' : jm), RI M' → RH M' → RF M' → (-3) ≤ r ∧ r ≤ 1 → (((x < 0 ∨ 23 < x) ∧ r = -3 ∧ M' = M) ∨ ((0 ≤ x ∧ x ≤ 23) ∧ ((M 600 x = -1 ∧ r = 0) ∨ (M 600 x ≠ -1 ∧ r = 1)) ∧ M' = ju (ju M 600 x (-1)) 602 x 0)) → (∀ (a : Nat) (i : Int), a ≠ 600 → a ≠ 602 → M' a i = M a i) → (∀ (i : Int), i ≠ 1 → M' 598 i = M 598 i) → Q (some (.int (Int32.ofInt r))) M') : jc A 3 249 [.ref (598), .int (Int32.ofInt (x))] M Q := by
  refine jc_of (m := xm_249) rfl (Nat.le_of_ble_eq_true rfl) rfl ?_
  refine jr.iload_n rfl rfl ?_
  refine jr_s rfl rfl (Or.inl rfl) ⟨Nat.le_of_ble_eq_true rfl, Nat.le_of_ble_eq_true rfl⟩ rfl rfl (jc.deep (c_isPN (by omega) (fun l1 u1 => ?_) (fun n1 => ?_)) (by decide))
  · refine jr.if_ne rfl rfl (by omega) (fun _ => ?_) (fun h => absurd (by decide) h)
    refine jr.aload_n rfl rfl ?_
    refine jr.getf (i := 3) (v := .ref 600) rfl rfl (by decide) rfl (by decide) rfl rfl rfl rfl ?_
    refine jr.iload_n rfl rfl ?_
    obtain ⟨v1, e1⟩ : ∃ z, M 600 x = z := ⟨_, rfl⟩
    have b1 : (-1) ≤ v1 ∧ v1 ≤ 400 := by rw [← e1]; exact (by have q := hI_M 600 x (by decide); rw [xri_row rfl rfl] at q; exact q)
    refine jr.iald (i := x) (x := v1) rfl (by decide) rfl (by decide) (by omega) (by omega) e1 ?_
    refine jr.iconst rfl ?_
    refine jr.icmp_ne rfl rfl (by omega) (by omega) (fun h17 => ?_) (fun h17 => ?_)
    · have sx17 : (0 : Int) ≤ v1 := by omega
      refine jr.iconst rfl ?_
      refine jr.istore_n rfl (by decide) rfl ?_
      refine jr.aload_n rfl rfl ?_
      refine jr.getf (i := 3) (v := .ref 600) rfl rfl (by decide) rfl (by decide) rfl rfl rfl rfl ?_
      refine jr.iload_n rfl rfl ?_
      refine jr.iconst rfl ?_
      refine jr.iast (i := x) (x := (-1)) rfl (by decide) rfl (by decide) (by omega) (by omega) ?_
      refine jr.aload_n rfl rfl ?_
      refine jr.getf (i := 5) (v := .ref 602) rfl rfl (by decide) rfl (by decide) rfl rfl rfl rfl ?_
      refine jr.iload_n rfl rfl ?_
      refine jr.lconst (x := 0) rfl (by decide) ?_
      refine jr.last (i := x) (x := 0) rfl (by decide) rfl (by decide) (by omega) (by omega) ?_
      refine jr.iload_n rfl rfl ?_
      exact jr.ireturn rfl rfl rfl (q _ _ (RI.u (RI.u hI_M (a := 600) (i := x) (by rw [xri_row rfl rfl]; show (-1 : Int) ≤ _ ∧ _ ≤ (400 : Int); omega)) (a := 602) (i := x) (by rw [xri_row rfl rfl]; show (-9223372036854775808 : Int) ≤ _ ∧ _ ≤ (9223372036854775807 : Int); omega)) (RH.o (RH.o hH_M (by decide) (by decide) (by decide)) (by decide) (by decide) (by decide)) (RF.o (RF.o hS_M (by decide) (by decide)) (by decide) (by decide))  (by omega) (Or.inr ⟨by omega, by omega, rfl⟩) (fun a i f600 f602 => ((ju_c _ _ f602).trans ((ju_c _ _ f600).trans rfl))) (fun i g1 => ((ju_c _ _ (by decide)).trans ((ju_c _ _ (by decide)).trans rfl))))
    · refine jr.iconst rfl ?_
      refine jr.goto rfl rfl ?_
      refine jr.istore_n rfl (by decide) rfl ?_
      refine jr.aload_n rfl rfl ?_
      refine jr.getf (i := 3) (v := .ref 600) rfl rfl (by decide) rfl (by decide) rfl rfl rfl rfl ?_
      refine jr.iload_n rfl rfl ?_
      refine jr.iconst rfl ?_
      refine jr.iast (i := x) (x := (-1)) rfl (by decide) rfl (by decide) (by omega) (by omega) ?_
      refine jr.aload_n rfl rfl ?_
      refine jr.getf (i := 5) (v := .ref 602) rfl rfl (by decide) rfl (by decide) rfl rfl rfl rfl ?_
      refine jr.iload_n rfl rfl ?_
      refine jr.lconst (x := 0) rfl (by decide) ?_
      refine jr.last (i := x) (x := 0) rfl (by decide) rfl (by decide) (by omega) (by omega) ?_
      refine jr.iload_n rfl rfl ?_
      exact jr.ireturn rfl rfl rfl (q _ _ (RI.u (RI.u hI_M (a := 600) (i := x) (by rw [xri_row rfl rfl]; show (-1 : Int) ≤ _ ∧ _ ≤ (400 : Int); omega)) (a := 602) (i := x) (by rw [xri_row rfl rfl]; show (-9223372036854775808 : Int) ≤ _ ∧ _ ≤ (9223372036854775807 : Int); omega)) (RH.o (RH.o hH_M (by decide) (by decide) (by decide)) (by decide) (by decide) (by decide)) (RF.o (RF.o hS_M (by decide) (by decide)) (by decide) (by decide))  (by omega) (Or.inr ⟨by omega, by omega, rfl⟩) (fun a i f600 f602 => ((ju_c _ _ f602).trans ((ju_c _ _ f600).trans rfl))) (fun i g1 => ((ju_c _ _ (by decide)).trans ((ju_c _ _ (by decide)).trans rfl))))
  · refine jr.if_ne rfl rfl (by omega) (fun h => absurd h (by decide)) (fun _ => ?_)
    refine jr.bipush rfl (by decide) ?_
    exact jr.ireturn rfl rfl rfl (q _ _ hI_M hH_M hS_M  (by omega) (Or.inl ⟨by omega, by omega, rfl⟩) (fun a i f600 f602 => rfl) (fun i g1 => rfl))
/-- bytes of packet x after a copy of S bytes -/
noncomputable def pk6 (f g : Int → Int) (x S : Int) : Int → Int := fun k => if 400 * x ≤ k ∧ k < 400 * x + S then g (k - 400 * x) else f k
theorem pk6_0 (f g : Int → Int) (x : Int) : f = pk6 f g x 0 := by
  funext k
  unfold pk6
  rw [if_neg (by omega)]
theorem pk6_s {M : jm} {f g : Int → Int} {x k v : Int} (h : M 601 = pk6 f g x k) (h0 : 0 ≤ k) (hv : g k = v) : ju M 601 ((400 * x) + k) v 601 = pk6 f g x (k + 1) := by
  funext j
  by_cases q : j = 400 * x + k
  · subst q
    rw [ju_same]
    unfold pk6
    rw [if_pos (by omega), show 400 * x + k - 400 * x = k by omega, hv]
  · rw [ju_i M v q, h]
    unfold pk6
    by_cases q2 : 400 * x ≤ j ∧ j < 400 * x + k
    · rw [if_pos q2, if_pos (by omega)]
    · rw [if_neg q2, if_neg (by omega)]
theorem ju6_row {M : jm} {a c : Nat} {i v : Int} (h : c ≠ a) : ju M a i v c = M c := funext (fun k => ju_c M v h)
theorem r_packet_L22_x {A : Nat → Option (Nat × (Nat → Int32))} {Q : Option Value → jm → Prop} {M0 : jm} {x0 : Int} (q : ∀ (r : Int) (M' : jm), RI M' → RH M' → RF M' → (-3) ≤ r ∧ r ≤ 400 → (((x0 < 0 ∨ 23 < x0 ∨ 400 < M0 598 1) ∧ r = -3 ∧ M' 598 1 = M0 598 1 ∧ M' 600 = M0 600 ∧ M' 601 = M0 601) ∨ ((0 ≤ x0 ∧ x0 ≤ 23) ∧ M0 598 1 ≤ 400 ∧ r = M0 598 1 ∧ M' 598 1 = 0 ∧ M' 601 = pk6 (M0 601) (M0 599) x0 (M0 598 1) ∧ (∀ j : Int, j ≠ x0 → M' 600 j = M0 600 j) ∧ M' 600 x0 = M0 598 1)) → (∀ (a : Nat) (i : Int), a ≠ 598 → a ≠ 600 → a ≠ 601 → a ≠ 602 → M' a i = M0 a i) → (∀ (i : Int), i ≠ 1 → M' 598 i = M0 598 i) → Q (some (.int (Int32.ofInt r))) M') : ∀ (nM : Nat) (M : jm) (k : Int) (x : Int), RI M → RH M → RF M → (∀ (a : Nat) (i : Int), a ≠ 598 → a ≠ 600 → a ≠ 601 → a ≠ 602 → M a i = M0 a i) → (∀ (i : Int), i ≠ 1 → M 598 i = M0 598 i) → 0 ≤ k ∧ k ≤ 400 → 0 ≤ x ∧ x ≤ 23 → 0 ≤ M 598 1 ∧ M 598 1 ≤ 400 → M 601 = pk6 (M0 601) (M0 599) x k → M 598 1 = M0 598 1 ∧ k ≤ M 598 1 ∧ M0 598 1 ≤ 400 → M 600 = M0 600 → x = x0 → 400 - k ≤ nM → jr A 2 xm_248 22 [(2, .int (Int32.ofInt (k))), (1, .int (Int32.ofInt (x))), (0, .ref (598))] [] M Q := by
  intro nM
  induction nM using Nat.strongRecOn with
  | ind nM ih =>
    intro M k x hI_M hH_M hS_M hF_M hG_M h_k h_x hy0 hy1 hy2 hy3 hy4 hm
    subst hy4
    refine jr.iload_n rfl rfl ?_
    refine jr.aload_n rfl rfl ?_
    obtain ⟨v1, e1⟩ : ∃ z, M 598 1 = z := ⟨_, rfl⟩
    have b1 : 0 ≤ v1 ∧ v1 ≤ 1600 := by rw [← e1]; exact hI_M 598 1 (by decide)
    refine jr.getf (i := 1) (x := v1) (v := .int (Int32.ofInt (v1))) rfl rfl (by decide) rfl (by decide) rfl rfl e1 rfl ?_
    refine jr.icmp_ge rfl rfl (by omega) (by omega) (fun h27 => ?_) (fun h27 => ?_)
    · refine jr.aload_n rfl rfl ?_
      refine jr.getf (i := 3) (v := .ref 600) rfl rfl (by decide) rfl (by decide) rfl rfl rfl rfl ?_
      refine jr.iload_n rfl rfl ?_
      refine jr.aload_n rfl rfl ?_
      refine jr.getf (i := 1) (x := v1) (v := .int (Int32.ofInt (v1))) rfl rfl (by decide) rfl (by decide) rfl rfl e1 rfl ?_
      refine jr.iast (i := x) (x := v1) rfl (by decide) rfl (by decide) (by omega) (by omega) ?_
      refine jr.aload_n rfl rfl ?_
      refine jr.getf (i := 5) (v := .ref 602) rfl rfl (by decide) rfl (by decide) rfl rfl rfl rfl ?_
      refine jr.iload_n rfl rfl ?_
      refine jr.lconst (x := 0) rfl (by decide) ?_
      refine jr.last (i := x) (x := 0) rfl (by decide) rfl (by decide) (by omega) (by omega) ?_
      refine jr.aload_n rfl rfl ?_
      refine jr.iconst rfl ?_
      refine jr.putf (i := 1) (x := 0) rfl rfl (by decide) rfl (by decide) rfl rfl rfl rfl rfl ?_
      refine jr.aload_n rfl rfl ?_
      refine jr.getf (i := 3) (v := .ref 600) rfl rfl (by decide) rfl (by decide) rfl rfl rfl rfl ?_
      refine jr.iload_n rfl rfl ?_
      refine jr.iald (i := x) (x := v1) rfl (by decide) rfl (by decide) (by omega) (by omega) ((ju_c _ _ (by decide)).trans ((ju_c _ _ (by decide)).trans (ju_same _ _ _ _))) ?_
      exact jr.ireturn rfl rfl rfl (q _ _ (RI.u (RI.u (RI.u hI_M (a := 600) (i := x) (by rw [xri_row rfl rfl]; show (-1 : Int) ≤ _ ∧ _ ≤ (400 : Int); omega)) (a := 602) (i := x) (by rw [xri_row rfl rfl]; show (-9223372036854775808 : Int) ≤ _ ∧ _ ≤ (9223372036854775807 : Int); omega)) (a := 598) (i := 1) (show (0 : Int) ≤ _ ∧ _ ≤ (1600 : Int) from by omega)) (RH.o (RH.o (RH.o hH_M (by decide) (by decide) (by decide)) (by decide) (by decide) (by decide)) (by decide) (by decide) (by decide)) (RF.o (RF.o (RF.o hS_M (by decide) (by decide)) (by decide) (by decide)) (by decide) (by decide))  (by omega) (Or.inr ⟨by omega, by omega, by have h9 := hy2; omega, by have hq : (ju (ju (ju M 600 x v1) 602 x 0) 598 1 0) 598 1 = 0 := (ju_same _ _ _ _); omega, by rw [ju6_row (by decide), ju6_row (by decide), ju6_row (by decide), hy1, show k = M0 598 1 from by have h9 := hy2; omega], fun j hj => by rw [ju_c _ _ (by decide), ju_c _ _ (by decide), ju_i _ _ hj]; exact congrFun hy3 j, by have hq : (ju (ju (ju M 600 x v1) 602 x 0) 598 1 0) 600 x = v1 := ((ju_c _ _ (by decide)).trans ((ju_c _ _ (by decide)).trans (ju_same _ _ _ _))); have h9 := hy2; omega⟩) (fun a i f598 f600 f601 f602 => ((ju_c _ _ f598).trans ((ju_c _ _ f602).trans ((ju_c _ _ f600).trans (hF_M a i f598 f600 f601 f602))))) (fun i g1 => ((ju_i _ _ g1).trans ((ju_c _ _ (by decide)).trans ((ju_c _ _ (by decide)).trans (hG_M i g1))))))
    · refine jr.aload_n rfl rfl ?_
      refine jr.getf (i := 4) (v := .ref 601) rfl rfl (by decide) rfl (by decide) rfl rfl rfl rfl ?_
      refine jr.sipush rfl (by decide) ?_
      refine jr.iload_n rfl rfl ?_
      refine jr.imul rfl ?_
      refine jr.iload_n rfl rfl ?_
      refine jr.iadd rfl ?_
      refine jr.aload_n rfl rfl ?_
      refine jr.getf (i := 0) (v := .ref 599) rfl rfl (by decide) rfl (by decide) rfl rfl rfl rfl ?_
      refine jr.iload_n rfl rfl ?_
      obtain ⟨v2, e2⟩ : ∃ z, M 599 k = z := ⟨_, rfl⟩
      have b2 : 0 ≤ v2 ∧ v2 ≤ 255 := by rw [← e2]; exact (by have q := hI_M 599 k (by decide); rw [xri_row rfl rfl] at q; exact q)
      refine jr.iald (i := k) (x := v2) rfl (by decide) rfl (by decide) (by omega) (by omega) e2 ?_
      refine jr.iast (i := ((400 * x) + k)) (x := v2) rfl (by decide) rfl (by decide) (by omega) (by omega) ?_
      refine jr.iinc rfl rfl (by decide) rfl ?_
      refine jr.goto rfl rfl ?_
      refine jr.pick [0, 1, 2] rfl rfl ?_
      exact ih (nM - 1) (by omega) (ju M 601 ((400 * x) + k) v2) (k + 1) x (RI.u hI_M (a := 601) (i := ((400 * x) + k)) (by rw [xri_row rfl rfl]; show (0 : Int) ≤ _ ∧ _ ≤ (255 : Int); omega)) (RH.o hH_M (by decide) (by decide) (by decide)) (RF.o hS_M (by decide) (by decide))  (fun a i f598 f600 f601 f602 => ((ju_c _ _ f601).trans (hF_M a i f598 f600 f601 f602))) (fun i g1 => ((ju_c _ _ (by decide)).trans (hG_M i g1))) (by omega) (by omega) (by rw [((ju_c _ _ (by decide)).trans e1)]; omega) (pk6_s hy1 (by omega) ((hF_M 599 k (by decide) (by decide) (by decide) (by decide)).symm.trans e2)) (by rw [ju_c _ _ (by decide)]; omega) (by rw [ju6_row (by decide)]; exact hy3) (by omega) (by omega)
theorem r_packet_x {A : Nat → Option (Nat × (Nat → Int32))} {Q : Option Value → jm → Prop} {M : jm} (hI_M : RI M) (hH_M : RH M) (hS_M : RF M) {x : Int} (h_x : (-2147483648) ≤ x ∧ x ≤ 2147483647) (q : ∀ (r : Int) (M' : jm), RI M' → RH M' → RF M' → (-3) ≤ r ∧ r ≤ 400 → (((x < 0 ∨ 23 < x ∨ 400 < M 598 1) ∧ r = -3 ∧ M' 598 1 = M 598 1 ∧ M' 600 = M 600 ∧ M' 601 = M 601) ∨ ((0 ≤ x ∧ x ≤ 23) ∧ M 598 1 ≤ 400 ∧ r = M 598 1 ∧ M' 598 1 = 0 ∧ M' 601 = pk6 (M 601) (M 599) x (M 598 1) ∧ (∀ j : Int, j ≠ x → M' 600 j = M 600 j) ∧ M' 600 x = M 598 1)) → (∀ (a : Nat) (i : Int), a ≠ 598 → a ≠ 600 → a ≠ 601 → a ≠ 602 → M' a i = M a i) → (∀ (i : Int), i ≠ 1 → M' 598 i = M 598 i) → Q (some (.int (Int32.ofInt r))) M') : jc A 3 248 [.ref (598), .int (Int32.ofInt (x))] M Q := by
  refine jc_of (m := xm_248) rfl (Nat.le_of_ble_eq_true rfl) rfl ?_
  refine jr.iload_n rfl rfl ?_
  refine jr_s rfl rfl (Or.inl rfl) ⟨Nat.le_of_ble_eq_true rfl, Nat.le_of_ble_eq_true rfl⟩ rfl rfl (jc.deep (c_isPN (by omega) (fun l1 u1 => ?_) (fun n1 => ?_)) (by decide))
  · refine jr.if_eq rfl rfl (by omega) (fun h => absurd h (by decide)) (fun _ => ?_)
    refine jr.aload_n rfl rfl ?_
    obtain ⟨v1, e1⟩ : ∃ z, M 598 1 = z := ⟨_, rfl⟩
    have b1 : 0 ≤ v1 ∧ v1 ≤ 1600 := by rw [← e1]; exact hI_M 598 1 (by decide)
    refine jr.getf (i := 1) (x := v1) (v := .int (Int32.ofInt (v1))) rfl rfl (by decide) rfl (by decide) rfl rfl e1 rfl ?_
    refine jr.sipush rfl (by decide) ?_
    refine jr.icmp_le rfl rfl (by omega) (by omega) (fun h14 => ?_) (fun h14 => ?_)
    · refine jr.iconst rfl ?_
      refine jr.istore_n rfl (by decide) rfl ?_
      refine jr.pick [0, 2, 1] rfl rfl ?_
      exact r_packet_L22_x q 400 M 0 x hI_M hH_M hS_M  (fun a i f598 f600 f601 f602 => rfl) (fun i g1 => rfl) (by omega) (by omega) (by omega) (pk6_0 _ _ _) (by omega) rfl (by omega) (by omega)
    · refine jr.bipush rfl (by decide) ?_
      exact jr.ireturn rfl rfl rfl (q _ _ hI_M hH_M hS_M  (by omega) (Or.inl ⟨by omega, by omega, rfl, rfl, rfl⟩) (fun a i f598 f600 f601 f602 => rfl) (fun i g1 => rfl))
  · refine jr.if_eq rfl rfl (by omega) (fun _ => ?_) (fun h => absurd (by decide) h)
    refine jr.bipush rfl (by decide) ?_
    exact jr.ireturn rfl rfl rfl (q _ _ hI_M hH_M hS_M  (by omega) (Or.inl ⟨by omega, by omega, rfl, rfl, rfl⟩) (fun a i f598 f600 f601 f602 => rfl) (fun i g1 => rfl))
theorem r_digest_L17_x {A : Nat → Option (Nat × (Nat → Int32))} {Q : Option Value → jm → Prop} {M0 : jm} {x0 : Int} (q : ∀ (r : Int) (M' : jm), RI M' → RH M' → RF M' → (-9223372036854775808) ≤ r ∧ r ≤ 9223372036854775807 → (((x0 < 0 ∨ 23 < x0 ∨ M' 600 x0 = -1) ∧ r = 0) ∨ ((0 ≤ x0 ∧ x0 ≤ 23) ∧ M' 600 x0 ≠ -1 ∧ r = dg (fun j => M' 601 (400 * x0 + j)) (M' 600 x0).toNat)) → (∀ (a : Nat) (i : Int), a ≠ 603 → M' a i = M0 a i) → Q (some (.long (Int64.ofInt r))) M') : ∀ (nM : Nat) (M : jm) (k : Int) (d : Int) (x : Int), RI M → RH M → RF M → (∀ (a : Nat) (i : Int), a ≠ 603 → M a i = M0 a i) → 0 ≤ k ∧ k ≤ 400 → (-9223372036854775808) ≤ d ∧ d ≤ 9223372036854775807 → 0 ≤ x ∧ x ≤ 23 → M 600 x ≠ -1 ∧ k ≤ M 600 x → d = dg (fun j => M 601 (400 * x + j)) k.toNat → x = x0 → 400 - k ≤ nM → jr A 3 xm_252 17 [(4, .int (Int32.ofInt (k))), (2, .long (Int64.ofInt (d))), (1, .int (Int32.ofInt (x))), (0, .ref (598))] [] M Q := by
  intro nM
  induction nM using Nat.strongRecOn with
  | ind nM ih =>
    intro M k d x hI_M hH_M hS_M hF_M h_k h_d h_x hy0 hy1 hy2 hm
    subst hy2
    refine jr.iload rfl rfl ?_
    refine jr.aload_n rfl rfl ?_
    refine jr.getf (i := 3) (v := .ref 600) rfl rfl (by decide) rfl (by decide) rfl rfl rfl rfl ?_
    refine jr.iload_n rfl rfl ?_
    obtain ⟨v1, e1⟩ : ∃ z, M 600 x = z := ⟨_, rfl⟩
    have b1 : (-1) ≤ v1 ∧ v1 ≤ 400 := by rw [← e1]; exact (by have q := hI_M 600 x (by decide); rw [xri_row rfl rfl] at q; exact q)
    refine jr.iald (i := x) (x := v1) rfl (by decide) rfl (by decide) (by omega) (by omega) e1 ?_
    refine jr.icmp_ge rfl rfl (by omega) (by omega) (fun h25 => ?_) (fun h25 => ?_)
    · refine jr.lload_n rfl rfl ?_
      exact jr.lreturn rfl rfl (q _ _ hI_M hH_M hS_M  (by omega) (Or.inr ⟨by omega, by have h9 := hy0; omega, by rw [hy1, e1, show k = v1 from by have h9 := hy0; omega]⟩) (fun a i f603 => (hF_M a i f603)))
    · refine jr.lload_n rfl rfl ?_
      refine jr.aload_n rfl rfl ?_
      refine jr.getf (i := 4) (v := .ref 601) rfl rfl (by decide) rfl (by decide) rfl rfl rfl rfl ?_
      refine jr.sipush rfl (by decide) ?_
      refine jr.iload_n rfl rfl ?_
      refine jr.imul rfl ?_
      refine jr.iload rfl rfl ?_
      refine jr.iadd rfl ?_
      obtain ⟨v2, e2⟩ : ∃ z, M 601 ((400 * x) + k) = z := ⟨_, rfl⟩
      have b2 : 0 ≤ v2 ∧ v2 ≤ 255 := by rw [← e2]; exact (by have q := hI_M 601 ((400 * x) + k) (by decide); rw [xri_row rfl rfl] at q; exact q)
      refine jr.iald (i := ((400 * x) + k)) (x := v2) rfl (by decide) rfl (by decide) (by omega) (by omega) e2 ?_
      refine jr.i2l rfl (by omega) ?_
      refine jr.lxor rfl ?_
      refine jr.ldc2 (x := 1099511628211) rfl rfl (by decide) ?_
      refine jr.lmul rfl ?_
      refine jr.lw (jl_w ((jl_xor d v2) * 1099511628211)) (jl_w_eq _) ?_
      have b3 : -9223372036854775808 ≤ jl_w ((jl_xor d v2) * 1099511628211) ∧ jl_w ((jl_xor d v2) * 1099511628211) ≤ 9223372036854775807 := jbl_any _
      refine jr.lstore_n rfl (by decide) rfl ?_
      refine jr.iinc rfl rfl (by decide) rfl ?_
      refine jr.goto rfl rfl ?_
      refine jr.pick [0, 1, 2, 3] rfl rfl ?_
      exact ih (nM - 1) (by omega) M (k + 1) (jl_w ((jl_xor d v2) * 1099511628211)) x hI_M hH_M hS_M  (fun a i f603 => (hF_M a i f603)) (by omega) (by omega) (by omega) (by omega) (by rw [dg_s (by omega), ← hy1, e2]) (by omega) (by omega)
theorem r_digest_x {A : Nat → Option (Nat × (Nat → Int32))} {Q : Option Value → jm → Prop} {M : jm} (hI_M : RI M) (hH_M : RH M) (hS_M : RF M) {x : Int} (h_x : (-2147483648) ≤ x ∧ x ≤ 2147483647) (q : ∀ (r : Int) (M' : jm), RI M' → RH M' → RF M' → (-9223372036854775808) ≤ r ∧ r ≤ 9223372036854775807 → (((x < 0 ∨ 23 < x ∨ M' 600 x = -1) ∧ r = 0) ∨ ((0 ≤ x ∧ x ≤ 23) ∧ M' 600 x ≠ -1 ∧ r = dg (fun j => M' 601 (400 * x + j)) (M' 600 x).toNat)) → (∀ (a : Nat) (i : Int), a ≠ 603 → M' a i = M a i) → Q (some (.long (Int64.ofInt r))) M') : jc A 4 252 [.ref (598), .int (Int32.ofInt (x))] M Q := by
  refine jc_of (m := xm_252) rfl (Nat.le_of_ble_eq_true rfl) rfl ?_
  refine jr.aload_n rfl rfl ?_
  refine jr.iload_n rfl rfl ?_
  refine jr_v rfl rfl (Or.inl rfl) rfl rfl (by decide) rfl ⟨rfl, Nat.le_of_ble_eq_true rfl, Nat.le_of_ble_eq_true rfl⟩ rfl (jc.deep (c_isThere hI_M (by omega) (fun l2 u2 t2 => ?_) (fun n2 => ?_)) (by decide))
  · refine jr.if_ne rfl rfl (by omega) (fun _ => ?_) (fun h => absurd (by decide) h)
    refine jr.ldc2 (x := (-3750763034362895579)) rfl rfl (by decide) ?_
    refine jr.lstore_n rfl (by decide) rfl ?_
    refine jr.iconst rfl ?_
    refine jr.istore rfl (by decide) rfl ?_
    refine jr.pick [0, 1, 3, 2] rfl rfl ?_
    exact r_digest_L17_x q 400 M 0 (-3750763034362895579) x hI_M hH_M hS_M  (fun a i f603 => rfl) (by omega) (by omega) (by omega) (by have nb : (-1 : Int) ≤ M 600 x ∧ M 600 x ≤ 400 := (by have q := hI_M 600 x (by decide); rw [xri_row rfl rfl] at q; exact q); omega) rfl (by omega) (by omega)
  · refine jr.if_ne rfl rfl (by omega) (fun h => absurd h (by decide)) (fun _ => ?_)
    refine jr.lconst (x := 0) rfl (by decide) ?_
    exact jr.lreturn rfl rfl (q _ _ hI_M hH_M hS_M  (by omega) (Or.inl ⟨by omega, by omega⟩) (fun a i f603 => rfl))
end
section
/-! ===== numbers of bytes ===== -/
theorem jl_sho {n b : Int} (hn : 0 ≤ n ∧ n < 140737488355328) (hb : 0 ≤ b ∧ b < 256) : jl_or (jl_shl n 8) b = n * 256 + b := by
  obtain ⟨n, rfl⟩ := Int.eq_ofNat_of_zero_le hn.1
  obtain ⟨b, rfl⟩ := Int.eq_ofNat_of_zero_le hb.1
  have hs : jl_shl (n : Int) 8 = ((n * 256 : Nat) : Int) := by
    unfold jl_shl
    have hN : (Int64.ofInt (n : Int) <<< ((Int32.ofInt 8).toInt64 &&& 63)).toBitVec.toNat = n * 256 := by
      rw [Int64.toBitVec_shiftLeft]
      show ((Int64.ofInt (n : Int)).toBitVec <<< (((Int32.ofInt ((8 : Nat) : Int)).toInt64 &&& 63).toBitVec.smod 64).toNat).toNat = _
      rw [jbl_sl 8 (by decide), BitVec.toNat_shiftLeft, jbl_tn, Nat.shiftLeft_eq]
      omega
    rw [jbl_ti, hN]
    split <;> omega
  rw [hs]
  unfold jl_or
  have hN : (Int64.ofInt ((n * 256 : Nat) : Int) ||| Int64.ofInt (b : Int)).toBitVec.toNat = n * 256 + b := by
    rw [Int64.toBitVec_or, BitVec.toNat_or, jbl_tn, jbl_tn]
    rw [show (((n * 256 : Nat) : Int) % 18446744073709551616).toNat = 2 ^ 8 * n by omega, show ((b : Int) % 18446744073709551616).toNat = b by omega]
    rw [← Nat.two_pow_add_eq_or_of_lt (show b < 2 ^ 8 by omega)]
    omega
  rw [jbl_ti, hN]
  split <;> omega
theorem j_sho {n b : Int} (hn : 0 ≤ n ∧ n < 65536) (hb : 0 ≤ b ∧ b < 256) : j_or (j_shl n 8) b = n * 256 + b := by
  obtain ⟨n, rfl⟩ := Int.eq_ofNat_of_zero_le hn.1
  obtain ⟨b, rfl⟩ := Int.eq_ofNat_of_zero_le hb.1
  have hs : j_shl (n : Int) 8 = ((n * 256 : Nat) : Int) := by
    have := j_shl_ex (x := (n : Int)) 8 (by decide) (by omega) (by omega)
    rw [show ((8 : Nat) : Int) = 8 from rfl] at this
    rw [this]
    omega
  rw [hs]
  unfold j_or
  have hN : (Int32.ofInt ((n * 256 : Nat) : Int) ||| Int32.ofInt (b : Int)).toBitVec.toNat = n * 256 + b := by
    rw [Int32.toBitVec_or, BitVec.toNat_or, jb_tn, jb_tn]
    rw [show (((n * 256 : Nat) : Int) % 4294967296).toNat = 2 ^ 8 * n by omega, show ((b : Int) % 4294967296).toNat = b by omega]
    rw [← Nat.two_pow_add_eq_or_of_lt (show b < 2 ^ 8 by omega)]
    omega
  rw [jb_ti, hN]
  split <;> omega
noncomputable def nbs (f : Int → Int) (y : Int) : Nat → Int
  | 0 => 0
  | k + 1 => nbs f y k * 256 + f (y + k)
theorem nbs_s {f : Int → Int} {y i : Int} (h : y ≤ i) : nbs f y (i + 1 - y).toNat = nbs f y (i - y).toNat * 256 + f i := by
  obtain ⟨n, hn⟩ : ∃ n : Nat, i = y + n := ⟨(i - y).toNat, by omega⟩
  subst hn
  rw [show (y + (n : Int) + 1 - y).toNat = n + 1 by omega, show (y + (n : Int) - y).toNat = n by omega]
  rfl
theorem nbs_0 (f : Int → Int) (y : Int) : nbs f y (y - y).toNat = 0 := by
  rw [show (y - y).toNat = 0 by omega]
  rfl
theorem nbs_1 (f : Int → Int) (y : Int) : nbs f y 1 = f y := by
  show 0 * 256 + f (y + ((0 : Nat) : Int)) = f y
  rw [show y + ((0 : Nat) : Int) = y by omega]
  omega
theorem nbs_2 (f : Int → Int) (y : Int) : nbs f y 2 = f y * 256 + f (y + 1) := by
  show nbs f y 1 * 256 + f (y + ((1 : Nat) : Int)) = _
  rw [nbs_1]
  rfl
theorem c_PacketWall_numberAt_px_L5 {A : Nat → Option (Nat × (Nat → Int32))} {Q : Option Value → jm → Prop} {M : jm} (hC_M : CI M) {x : Nat} (k_x : kd x = 34) {y : Int} {z : Int} (q : ∀ (r : Int), (-9223372036854775808) ≤ r ∧ r ≤ 9223372036854775807 → (r = nbs (M x) y z.toNat ∧ 0 ≤ r ∧ r < 4294967296) → Q (some (.long (Int64.ofInt r))) M) : ∀ (nM : Nat) (n : Int) (i : Int), 0 ≤ y ∧ y ≤ 400 → 0 ≤ z ∧ z ≤ 4 → 0 ≤ n ∧ n ≤ 4294967295 → 0 ≤ i ∧ i ≤ 404 → (n = nbs (M x) y (i - y).toNat) → (y ≤ i ∧ i ≤ y + z ∧ y + z ≤ 400) → ((i = y ∧ n = 0) ∨ (i = y + 1 ∧ n < 256) ∨ (i = y + 2 ∧ n < 65536) ∨ (i = y + 3 ∧ n < 16777216) ∨ (i = y + 4 ∧ n < 4294967296)) → (∀ k : Int, 0 ≤ k → k < 400 → 0 ≤ M x k) → y + z - i ≤ nM → jr A 0 xm_52 5 [(1, .int (Int32.ofInt (y))), (2, .int (Int32.ofInt (z))), (3, .long (Int64.ofInt (n))), (5, .int (Int32.ofInt (i))), (0, .ref (x))] [] M Q := by
  intro nM
  induction nM using Nat.strongRecOn with
  | ind nM ih =>
    intro n i h_y h_z h_n h_i hy0 hy1 hy2 hy3 hm
    refine jr.iload rfl rfl ?_
    refine jr.iload_n rfl rfl ?_
    refine jr.iload_n rfl rfl ?_
    refine jr.iadd rfl ?_
    refine jr.icmp_ge rfl rfl (by omega) (by omega) (fun h10 => ?_) (fun h10 => ?_)
    · refine jr.lload_n rfl rfl ?_
      exact jr.lreturn rfl rfl (q _ (by omega) ⟨by rw [hy0, show i - y = z from by omega], by omega, by omega⟩)
    · refine jr.lload_n rfl rfl ?_
      refine jr.bipush rfl (by decide) ?_
      refine jr.lshl rfl ?_
      refine jr.iload rfl rfl ?_
      refine jr.if_lt rfl rfl (by omega) (fun h19 => ?_) (fun h19 => ?_)
      · exact absurd h19 (by omega)
      · refine jr.iload rfl rfl ?_
        refine jr.aload_n rfl rfl ?_
        refine jr.alen0 (x := 400) rfl (Nat.lt_trans (kx_34 k_x).1 (by decide)) (kx_34 k_x).2 rfl ?_
        refine jr.icmp_ge rfl rfl (by omega) (by omega) (fun h26 => ?_) (fun h26 => ?_)
        · refine jr.iconst rfl ?_
          refine jr.i2l rfl (by omega) ?_
          refine jr.lor rfl ?_
          have b1 : jl_or (jl_shl n 8) 0 = n * 256 + 0 := jl_sho (by omega) (by omega)
          generalize jl_or (jl_shl n 8) 0 = v1 at b1 ⊢
          refine jr.lstore_n rfl (by decide) rfl ?_
          refine jr.iinc rfl rfl (by decide) rfl ?_
          refine jr.goto rfl rfl ?_
          refine jr.pick [2, 3, 1, 0, 4] rfl rfl ?_
          exact ih (nM - 1) (by omega) v1 (i + 1) (by omega) (by omega) (by omega) (by omega) (by rw [nbs_s (by omega), ← hy0]; omega) (by omega) (by omega) hy3 (by omega)
        · refine jr.aload_n rfl rfl ?_
          refine jr.iload rfl rfl ?_
          obtain ⟨v2, e2⟩ : ∃ z_, M x i = z_ := ⟨_, rfl⟩
          have b2 : (-1) ≤ v2 ∧ v2 ≤ 255 := by rw [← e2]; exact (CI.r hC_M k_x (by decide) i)
          refine jr.iald (i := i) (x := v2) rfl (Nat.lt_trans (kx_34 k_x).1 (by decide)) (kx_34 k_x).2 (by decide) (by omega) (by omega) e2 ?_
          have hb0 := hy3 i (by omega) (by omega)
          refine jr.goto rfl rfl ?_
          refine jr.i2l rfl (by omega) ?_
          refine jr.lor rfl ?_
          have b3 : jl_or (jl_shl n 8) v2 = n * 256 + v2 := jl_sho (by omega) (by omega)
          generalize jl_or (jl_shl n 8) v2 = v3 at b3 ⊢
          refine jr.lstore_n rfl (by decide) rfl ?_
          refine jr.iinc rfl rfl (by decide) rfl ?_
          refine jr.goto rfl rfl ?_
          refine jr.pick [2, 3, 1, 0, 4] rfl rfl ?_
          exact ih (nM - 1) (by omega) v3 (i + 1) (by omega) (by omega) (by omega) (by omega) (by rw [nbs_s (by omega), ← hy0]; omega) (by omega) (by omega) hy3 (by omega)
theorem c_PacketWall_numberAt_px {A : Nat → Option (Nat × (Nat → Int32))} {Q : Option Value → jm → Prop} {M : jm} (hC_M : CI M) {x : Nat} (k_x : kd x = 34) {y : Int} (h_y : 0 ≤ y ∧ y ≤ 400) {z : Int} (h_z : 0 ≤ z ∧ z ≤ 4) (p0 : y + z ≤ 400) (p1 : ∀ k : Int, 0 ≤ k → k < 400 → 0 ≤ M x k) (q : ∀ (r : Int), (-9223372036854775808) ≤ r ∧ r ≤ 9223372036854775807 → (r = nbs (M x) y z.toNat ∧ 0 ≤ r ∧ r < 4294967296) → Q (some (.long (Int64.ofInt r))) M) : jc A 1 52 [.ref (x), .int (Int32.ofInt (y)), .int (Int32.ofInt (z))] M Q := by
  refine jc_of (m := xm_52) rfl (Nat.le_of_ble_eq_true rfl) rfl ?_
  refine jr.lconst (x := 0) rfl (by decide) ?_
  refine jr.lstore_n rfl (by decide) rfl ?_
  refine jr.iload_n rfl rfl ?_
  refine jr.istore rfl (by decide) rfl ?_
  refine jr.pick [3, 4, 1, 0, 2] rfl rfl ?_
  exact c_PacketWall_numberAt_px_L5 hC_M k_x q 4 0 y (by omega) (by omega) (by omega) (by omega) (nbs_0 _ _).symm (by omega) (by omega) p1 (by omega)
end
