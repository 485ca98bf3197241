/-! ===== the class: export ===== -/
theorem tpb {M : jm} (h : CI M) (i : Int) : 0 ≤ M 1 i ∧ M 1 i ≤ 255 := CI.r h (show kd 1 = 43 from rfl) (by decide) i
theorem PN.pt {T M : jm} {c : Nat} {y n v : Int} (h : PN T M c y n v n 1600) (h0 : 0 ≤ y ∧ y + n ≤ 1600) : M c = ptn (T c) y n v := by
  funext k
  rw [h.1 k]
  unfold pnf ptn
  by_cases q : y ≤ k ∧ k < y + n
  · rw [if_pos (by omega), if_pos q]
  · rw [if_neg (by omega), if_neg q]
theorem c_PacketWall_numberAt_tx_L5 {A : Nat → Option (Nat × (Nat → Int32))} {Q : Option Value → jm → Prop} {M : jm} (hC_M : CI M) {y : Int} {z : Int} (q : ∀ (r : Int), (-9223372036854775808) ≤ r ∧ r ≤ 9223372036854775807 → (r = jl_w (nbs (M 1) y z.toNat)) → Q (some (.long (Int64.ofInt r))) M) : ∀ (nM : Nat) (n : Int) (i : Int), 0 ≤ y ∧ y ≤ 1600 → 0 ≤ z ∧ z ≤ 8 → (-9223372036854775808) ≤ n ∧ n ≤ 9223372036854775807 → 0 ≤ i ∧ i ≤ 1608 → (n = jl_w (nbs (M 1) y (i - y).toNat)) → (y ≤ i ∧ i ≤ y + z ∧ y + z ≤ 1600) → y + z - i ≤ nM → jr A 0 xm_52 5 [(1, .int (Int32.ofInt (y))), (2, .int (Int32.ofInt (z))), (3, .long (Int64.ofInt (n))), (5, .int (Int32.ofInt (i))), (0, .ref (1))] [] M Q := by
  intro nM
  induction nM using Nat.strongRecOn with
  | ind nM ih =>
    intro n i h_y h_z h_n h_i hy0 hy1 hm
    refine jr.iload rfl rfl ?_
    refine jr.iload_n rfl rfl ?_
    refine jr.iload_n rfl rfl ?_
    refine jr.iadd rfl ?_
    refine jr.icmp_ge rfl rfl (by omega) (by omega) (fun h10 => ?_) (fun h10 => ?_)
    · refine jr.lload_n rfl rfl ?_
      exact jr.lreturn rfl rfl (q _ (by omega) (by rw [hy0, show i - y = z from by omega]))
    · refine jr.lload_n rfl rfl ?_
      refine jr.bipush rfl (by decide) ?_
      refine jr.lshl rfl ?_
      refine jr.iload rfl rfl ?_
      refine jr.if_lt rfl rfl (by omega) (fun h19 => ?_) (fun h19 => ?_)
      · exact absurd h19 (by omega)
      · refine jr.iload rfl rfl ?_
        refine jr.aload_n rfl rfl ?_
        refine jr.alen0 (x := 1600) rfl (by decide) rfl rfl ?_
        refine jr.icmp_ge rfl rfl (by omega) (by omega) (fun h26 => ?_) (fun h26 => ?_)
        · refine jr.iconst rfl ?_
          refine jr.i2l rfl (by omega) ?_
          refine jr.lor rfl ?_
          have b1 : jl_or (jl_shl n 8) 0 = jl_w (n * 256 + 0) ∧ -9223372036854775808 ≤ jl_or (jl_shl n 8) 0 ∧ jl_or (jl_shl n 8) 0 ≤ 9223372036854775807 := ⟨jl_sho_w (by omega), jbl_any _⟩
          generalize jl_or (jl_shl n 8) 0 = v1 at b1 ⊢
          refine jr.lstore_n rfl (by decide) rfl ?_
          refine jr.iinc rfl rfl (by decide) rfl ?_
          refine jr.goto rfl rfl ?_
          refine jr.pick [2, 3, 1, 0, 4] rfl rfl ?_
          exact ih (nM - 1) (by omega) v1 (i + 1) (by omega) (by omega) (by omega) (by omega) (b1.1.trans (nbw_s (by omega) hy0 (by omega))) (by omega) (by omega)
        · refine jr.aload_n rfl rfl ?_
          refine jr.iload rfl rfl ?_
          obtain ⟨v2, e2⟩ : ∃ z_, M 1 i = z_ := ⟨_, rfl⟩
          have b2 : 0 ≤ v2 ∧ v2 ≤ 255 := by rw [← e2]; exact (CI.r hC_M (show kd 1 = 43 from rfl) (by decide) i)
          refine jr.iald (i := i) (x := v2) rfl (by decide) rfl (by decide) (by omega) (by omega) e2 ?_
          refine jr.goto rfl rfl ?_
          refine jr.i2l rfl (by omega) ?_
          refine jr.lor rfl ?_
          have b3 : jl_or (jl_shl n 8) v2 = jl_w (n * 256 + v2) ∧ -9223372036854775808 ≤ jl_or (jl_shl n 8) v2 ∧ jl_or (jl_shl n 8) v2 ≤ 9223372036854775807 := ⟨jl_sho_w (by omega), jbl_any _⟩
          generalize jl_or (jl_shl n 8) v2 = v3 at b3 ⊢
          refine jr.lstore_n rfl (by decide) rfl ?_
          refine jr.iinc rfl rfl (by decide) rfl ?_
          refine jr.goto rfl rfl ?_
          refine jr.pick [2, 3, 1, 0, 4] rfl rfl ?_
          exact ih (nM - 1) (by omega) v3 (i + 1) (by omega) (by omega) (by omega) (by omega) (b3.1.trans (nbw_s (by omega) hy0 (by omega))) (by omega) (by omega)
theorem c_PacketWall_numberAt_tx {A : Nat → Option (Nat × (Nat → Int32))} {Q : Option Value → jm → Prop} {M : jm} (hC_M : CI M) {y : Int} (h_y : 0 ≤ y ∧ y ≤ 1600) {z : Int} (h_z : 0 ≤ z ∧ z ≤ 8) (p0 : y + z ≤ 1600) (q : ∀ (r : Int), (-9223372036854775808) ≤ r ∧ r ≤ 9223372036854775807 → (r = jl_w (nbs (M 1) y z.toNat)) → Q (some (.long (Int64.ofInt r))) M) : jc A 1 52 [.ref (1), .int (Int32.ofInt (y)), .int (Int32.ofInt (z))] M Q := by
  refine jc_of (m := xm_52) rfl (Nat.le_of_ble_eq_true rfl) rfl ?_
  refine jr.lconst (x := 0) rfl (by decide) ?_
  refine jr.lstore_n rfl (by decide) rfl ?_
  refine jr.iload_n rfl rfl ?_
  refine jr.istore rfl (by decide) rfl ?_
  refine jr.pick [3, 4, 1, 0, 2] rfl rfl ?_
  exact c_PacketWall_numberAt_tx_L5 hC_M  q 8 0 y (by omega) (by omega) (by omega) (by omega) (nbw_0 _ _) (by omega) (by omega)
theorem c_PacketWall_addedTwos_tx_L5 {A : Nat → Option (Nat × (Nat → Int32))} {Q : Option Value → jm → Prop} {M : jm} (hC_M : CI M) {y : Int} {z : Int} (q : ∀ (r : Int), 0 ≤ r ∧ r ≤ 110000000 → (r = sb (M 1) y (z - y).toNat) → Q (some (.long (Int64.ofInt r))) M) : ∀ (nM : Nat) (n : Int) (i : Int), 0 ≤ y ∧ y ≤ 1600 → 0 ≤ z ∧ z ≤ 1600 → 0 ≤ n ∧ n ≤ 104900000 → 0 ≤ i ∧ i ≤ 1602 → ((i ≤ z ∧ n = sb (M 1) y (i - y).toNat ∧ (i - y) % 2 = 0) ∨ (i = z + 1 ∧ n = sb (M 1) y (z - y).toNat)) → (y ≤ i ∧ y ≤ z ∧ n ≤ 65535 * (i - y)) → z - i ≤ nM → jr A 1 xm_54 5 [(1, .int (Int32.ofInt (y))), (2, .int (Int32.ofInt (z))), (3, .long (Int64.ofInt (n))), (5, .int (Int32.ofInt (i))), (0, .ref (1))] [] M Q := by
  intro nM
  induction nM using Nat.strongRecOn with
  | ind nM ih =>
    intro n i h_y h_z h_n h_i hy0 hy1 hm
    refine jr.iload rfl rfl ?_
    refine jr.iload_n rfl rfl ?_
    refine jr.icmp_ge rfl rfl (by omega) (by omega) (fun h8 => ?_) (fun h8 => ?_)
    · refine jr.lload_n rfl rfl ?_
      exact jr.lreturn rfl rfl (q _ (by omega) (by rcases hy0 with ⟨h1, h2, h3⟩ | ⟨h1, h2⟩; rw [h2, show i = z from by omega]; exact h2))
    · refine jr.lload_n rfl rfl ?_
      refine jr.iload rfl rfl ?_
      refine jr.iconst rfl ?_
      refine jr.iadd rfl ?_
      refine jr.iload_n rfl rfl ?_
      refine jr.icmp_ge rfl rfl (by omega) (by omega) (fun h17 => ?_) (fun h17 => ?_)
      · refine jr.aload_n rfl rfl ?_
        refine jr.iload rfl rfl ?_
        refine jr.iconst rfl ?_
        refine jr_s rfl rfl (Or.inl rfl) ⟨Nat.le_of_ble_eq_true rfl, Nat.le_of_ble_eq_true rfl⟩ rfl rfl (jc.deep (c_PacketWall_numberAt_tx hC_M (by omega) (by omega) (by omega) (fun r1 z1 w1_0 => ?_)) (by decide))
        have hb1 := tpb hC_M i
        have hv1 : r1 = M 1 i := (by have hq := w1_0; rw [show (1 : Int).toNat = 1 from rfl, nbs_1, jl_w_id (by omega)] at hq; exact hq)
        refine jr.bipush rfl (by decide) ?_
        refine jr.lshl rfl ?_
        have b2 : jl_shl r1 8 = r1 * 256 := jl_shl_8x (by omega)
        generalize jl_shl r1 8 = v2 at b2 ⊢
        refine jr.ladd rfl ?_
        refine jr.lstore_n rfl (by decide) rfl ?_
        refine jr.iinc rfl rfl (by decide) rfl ?_
        refine jr.goto rfl rfl ?_
        refine jr.pick [2, 3, 1, 0, 4] rfl rfl ?_
        exact ih (nM - 1) (by omega) (n + v2) (i + 2) (by omega) (by omega) (by omega) (by omega) (by rcases hy0 with ⟨h1, h2, h3⟩ | ⟨h1, h2⟩; exact Or.inr ⟨by omega, by rw [show z = i + 1 from by omega, sb_s (by omega), if_pos (by omega), ← h2]; omega⟩; omega) (by omega) (by omega)
      · refine jr.aload_n rfl rfl ?_
        refine jr.iload rfl rfl ?_
        refine jr.iconst rfl ?_
        refine jr_s rfl rfl (Or.inl rfl) ⟨Nat.le_of_ble_eq_true rfl, Nat.le_of_ble_eq_true rfl⟩ rfl rfl (jc.deep (c_PacketWall_numberAt_tx hC_M (by omega) (by omega) (by omega) (fun r3 z3 w3_0 => ?_)) (by decide))
        have hb1 := tpb hC_M i
        have hb2 := tpb hC_M (i + 1)
        have hv3 : r3 = M 1 i * 256 + M 1 (i + 1) := (by have hq := w3_0; rw [show (2 : Int).toNat = 2 from rfl, nbs_2, jl_w_id (by omega)] at hq; exact hq)
        refine jr.goto rfl rfl ?_
        refine jr.ladd rfl ?_
        refine jr.lstore_n rfl (by decide) rfl ?_
        refine jr.iinc rfl rfl (by decide) rfl ?_
        refine jr.goto rfl rfl ?_
        refine jr.pick [2, 3, 1, 0, 4] rfl rfl ?_
        exact ih (nM - 1) (by omega) (n + r3) (i + 2) (by omega) (by omega) (by omega) (by omega) (by rcases hy0 with ⟨h1, h2, h3⟩ | ⟨h1, h2⟩; exact Or.inl ⟨by omega, by rw [show i + 2 = (i + 1) + 1 from by omega, sb_s (i := i + 1) (by omega), sb_s (by omega), if_pos (by omega), if_neg (by omega), ← h2]; omega, by omega⟩; omega) (by omega) (by omega)
theorem c_PacketWall_addedTwos_tx {A : Nat → Option (Nat × (Nat → Int32))} {Q : Option Value → jm → Prop} {M : jm} (hC_M : CI M) {y : Int} (h_y : 0 ≤ y ∧ y ≤ 1600) {z : Int} (h_z : 0 ≤ z ∧ z ≤ 1600) (p0 : y ≤ z) (q : ∀ (r : Int), 0 ≤ r ∧ r ≤ 110000000 → (r = sb (M 1) y (z - y).toNat) → Q (some (.long (Int64.ofInt r))) M) : jc A 2 54 [.ref (1), .int (Int32.ofInt (y)), .int (Int32.ofInt (z))] M Q := by
  refine jc_of (m := xm_54) rfl (Nat.le_of_ble_eq_true rfl) rfl ?_
  refine jr.lconst (x := 0) rfl (by decide) ?_
  refine jr.lstore_n rfl (by decide) rfl ?_
  refine jr.iload_n rfl rfl ?_
  refine jr.istore rfl (by decide) rfl ?_
  refine jr.pick [3, 4, 1, 0, 2] rfl rfl ?_
  exact c_PacketWall_addedTwos_tx_L5 hC_M  q 1600 0 y (by omega) (by omega) (by omega) (by omega) (Or.inl ⟨by omega, (sb_0 _ _).symm, by omega⟩) (by omega) (by omega)
def flgF (M : jm) (t : Nat) : Int := (if M t 1 = 0 then 0 else 16) + (if M (t + 4) 0 = 0 then 0 else 32) + (if M (t + 4) 1 = 0 then 0 else 64) + (if M t 12 = 0 then 0 else 128)
/-- the row that a flow of the class tells -/
def rcB (T : jm) (t : Nat) (Z : Int) : Int → Int := xrB (T t 2) (j_w (T t 5 + flgF T t)) (T (t + 2) 0) (T (t + 2) 1) (T (t + 5) 0) (T (t + 5) 1) (T (t + 1) 0) (T (t + 1) 1) (T (t + 3) 0) (T (t + 3) 1) (j_w (T t 6 - Z)) (jl_w (T (t + 6) 0 + T (t + 6) 1)) (jl_w (T (t + 7) 0 + T (t + 7) 1))
theorem rcB_e {M T : jm} {t : Nat} {Z : Int} (h : ∀ (b : Nat) (k : Int), b ≠ 1 → M b k = T b k) (ht : 1 < t) : rcB M t Z = rcB T t Z := by
  unfold rcB flgF
  rw [h t 1 (by omega), h t 2 (by omega), h t 5 (by omega), h t 6 (by omega), h t 12 (by omega), h (t + 1) 0 (by omega), h (t + 1) 1 (by omega), h (t + 2) 0 (by omega), h (t + 2) 1 (by omega), h (t + 3) 0 (by omega), h (t + 3) 1 (by omega), h (t + 4) 0 (by omega), h (t + 4) 1 (by omega), h (t + 5) 0 (by omega), h (t + 5) 1 (by omega), h (t + 6) 0 (by omega), h (t + 6) 1 (by omega), h (t + 7) 0 (by omega), h (t + 7) 1 (by omega)]
theorem lay_fin {f : Int → Int} {M Ma Mb Mc Md : jm} {y n s u pk by_ sm r : Int} {p w a l : Int → Int} (hy : 0 ≤ y ∧ y ≤ 1552) (hM : M 1 = lyI (ly0 f y n s) y p w a l 2) (ha : PN M Ma 1 (y + 34) 4 u 4 1600) (hb : PN Ma Mb 1 (y + 38) 4 pk 4 1600) (hc : PN Mb Mc 1 (y + 42) 4 by_ 4 1600) (hd : PN Mc Md 1 (y + 46) 2 sm 2 1600) (hs : sm = tn r) (hr : r = sb (Mc 1) y (y + 46 - y).toNat) : Md 1 = rwl f y (xrB n s (p 0) (p 1) (w 0) (w 1) (a 0) (a 1) (l 0) (l 1) u pk by_) := by
  have e : Mc 1 = xrF f y (xrB n s (p 0) (p 1) (w 0) (w 1) (a 0) (a 1) (l 0) (l 1) u pk by_) := by
    rw [← lyx, ← hM]
    unfold lyE
    rw [hc.pt (by omega), hb.pt (by omega), ha.pt (by omega)]
  rw [hd.pt (by omega), hs, hr, e, show (y + 46 - y).toNat = 46 by omega]
  rfl
def W_c_Flow_layRow_x : List (Nat × Nat) := [(43, 1000)]
theorem c_Flow_layRow_x_L92 {A : Nat → Option (Nat × (Nat → Int32))} {Q : Option Value → jm → Prop} {T : jm} {t : Nat} (k_t : kd t = 1) {y : Int} {z : Int} (q : ∀ (M' : jm), CI M' → FR W_c_Flow_layRow_x T M' → (M' 1 = rwl (T 1) y (rcB T t z) ∧ ∀ (b : Nat) (k : Int), b ≠ 1 → M' b k = T b k) → Q none M') : ∀ (nM : Nat) (M : jm) (i : Int), CI M → FR W_c_Flow_layRow_x T M → 0 ≤ y ∧ y ≤ 1552 → 0 ≤ z ∧ z ≤ 2000000000 → 0 ≤ i ∧ i ≤ 2 → (M 1 = lyI (ly0 (T 1) y (T t 2) (j_w (T t 5 + flgF T t))) y (T (t + 2)) (T (t + 5)) (T (t + 1)) (T (t + 3)) i.toNat) → (∀ (b : Nat) (k : Int), b ≠ 1 → M b k = T b k) → 2 - i ≤ nM → jr A 2 xm_64 92 [(2, .int (Int32.ofInt (y))), (3, .int (Int32.ofInt (z))), (5, .int (Int32.ofInt (i))), (0, .ref (t)), (1, .ref (1))] [] M Q := by
  intro nM
  induction nM using Nat.strongRecOn with
  | ind nM ih =>
    intro M i hC_M ht_M h_y h_z h_i hy0 hy1 hm
    refine jr.iload rfl rfl ?_
    refine jr.iconst rfl ?_
    refine jr.icmp_ge rfl rfl (by omega) (by omega) (fun h95 => ?_) (fun h95 => ?_)
    · refine jr.aload_n rfl rfl ?_
      refine jr.iload_n rfl rfl ?_
      refine jr.bipush rfl (by decide) ?_
      refine jr.iadd rfl ?_
      refine jr.iconst rfl ?_
      refine jr.aload_n rfl rfl ?_
      obtain ⟨v1, e1⟩ : ∃ z_, M t 6 = z_ := ⟨_, rfl⟩
      have b1 : (-2147483648) ≤ v1 ∧ v1 ≤ 2147483647 := by rw [← e1]; exact (CI.r hC_M k_t (by decide) 6)
      refine jr.getf (i := 6) (x := v1) (v := .int (Int32.ofInt (v1))) rfl rfl (Nat.lt_trans (kx_1 k_t).1 (by decide)) (kx_1 k_t).2 (by decide) rfl rfl e1 rfl ?_
      refine jr.iload_n rfl rfl ?_
      refine jr.isub rfl ?_
      refine jr.iw (j_w (v1 - z)) (j_w_eq _) ?_
      have b2 : -2147483648 ≤ j_w (v1 - z) ∧ j_w (v1 - z) ≤ 2147483647 := jb_any _
      refine jr.i2l rfl (by omega) ?_
      refine jr_s rfl rfl (Or.inr rfl) ⟨Nat.le_of_ble_eq_true rfl, Nat.le_of_ble_eq_true rfl⟩ rfl rfl (jc.deep (c_PacketWall_putNumber_tf hC_M (FR.rfl _ M) (show kd 1 = 43 from rfl) (by omega) (by omega) (by omega) rfl (fun M3 hC_M3 hf_M3 w3_0 => ?_)) (by decide))
      have ht_M3 : FR W_c_Flow_layRow_x T M3 := FR.t ht_M hf_M3 (kw_sub rfl)
      refine jr.aload_n rfl rfl ?_
      refine jr.iload_n rfl rfl ?_
      refine jr.bipush rfl (by decide) ?_
      refine jr.iadd rfl ?_
      refine jr.iconst rfl ?_
      refine jr.aload_n rfl rfl ?_
      have k4 := kf_1_10 k_t
      refine jr.getf (i := 10) (v := .ref (t + 6)) rfl rfl (Nat.lt_trans (kx_1 k_t).1 (by decide)) (kx_1 k_t).2 (by decide) rfl rfl rfl (jval_ref rfl k4.1) ?_
      refine jr.iconst rfl ?_
      obtain ⟨v5, e5⟩ : ∃ z_, M ((t + 6)) 0 = z_ := ⟨_, rfl⟩
      have b5 : (-9223372036854775808) ≤ v5 ∧ v5 ≤ 9223372036854775807 := by rw [← e5]; exact (CI.r hC_M k4.2 (by decide) 0)
      have e6 : M3 ((t + 6)) 0 = v5 := (hf_M3.g k4.2 rfl).trans e5
      refine jr.lald (i := 0) (x := v5) rfl (Nat.lt_trans (kx_6 k4.2).1 (by decide)) (kx_6 k4.2).2 (by decide) (by omega) (by omega) e6 ?_
      refine jr.aload_n rfl rfl ?_
      have k7 := kf_1_10 k_t
      refine jr.getf (i := 10) (v := .ref (t + 6)) rfl rfl (Nat.lt_trans (kx_1 k_t).1 (by decide)) (kx_1 k_t).2 (by decide) rfl rfl rfl (jval_ref rfl k7.1) ?_
      refine jr.iconst rfl ?_
      obtain ⟨v8, e8⟩ : ∃ z_, M ((t + 6)) 1 = z_ := ⟨_, rfl⟩
      have b8 : (-9223372036854775808) ≤ v8 ∧ v8 ≤ 9223372036854775807 := by rw [← e8]; exact (CI.r hC_M k7.2 (by decide) 1)
      have e9 : M3 ((t + 6)) 1 = v8 := (hf_M3.g k7.2 rfl).trans e8
      refine jr.lald (i := 1) (x := v8) rfl (Nat.lt_trans (kx_6 k7.2).1 (by decide)) (kx_6 k7.2).2 (by decide) (by omega) (by omega) e9 ?_
      refine jr.ladd rfl ?_
      refine jr.lw (jl_w (v5 + v8)) (jl_w_eq _) ?_
      have b10 : -9223372036854775808 ≤ jl_w (v5 + v8) ∧ jl_w (v5 + v8) ≤ 9223372036854775807 := jbl_any _
      refine jr_s rfl rfl (Or.inr rfl) ⟨Nat.le_of_ble_eq_true rfl, Nat.le_of_ble_eq_true rfl⟩ rfl rfl (jc.deep (c_PacketWall_putNumber_tf hC_M3 (FR.rfl _ M3) (show kd 1 = 43 from rfl) (by omega) (by omega) (by omega) rfl (fun M11 hC_M11 hf_M11 w11_0 => ?_)) (by decide))
      have ht_M11 : FR W_c_Flow_layRow_x T M11 := FR.t ht_M3 hf_M11 (kw_sub rfl)
      refine jr.aload_n rfl rfl ?_
      refine jr.iload_n rfl rfl ?_
      refine jr.bipush rfl (by decide) ?_
      refine jr.iadd rfl ?_
      refine jr.iconst rfl ?_
      refine jr.aload_n rfl rfl ?_
      have k12 := kf_1_11 k_t
      refine jr.getf (i := 11) (v := .ref (t + 7)) rfl rfl (Nat.lt_trans (kx_1 k_t).1 (by decide)) (kx_1 k_t).2 (by decide) rfl rfl rfl (jval_ref rfl k12.1) ?_
      refine jr.iconst rfl ?_
      obtain ⟨v13, e13⟩ : ∃ z_, M ((t + 7)) 0 = z_ := ⟨_, rfl⟩
      have b13 : (-9223372036854775808) ≤ v13 ∧ v13 ≤ 9223372036854775807 := by rw [← e13]; exact (CI.r hC_M k12.2 (by decide) 0)
      have e14 : M3 ((t + 7)) 0 = v13 := (hf_M3.g k12.2 rfl).trans e13
      have e15 : M11 ((t + 7)) 0 = v13 := (hf_M11.g k12.2 rfl).trans e14
      refine jr.lald (i := 0) (x := v13) rfl (Nat.lt_trans (kx_3 k12.2).1 (by decide)) (kx_3 k12.2).2 (by decide) (by omega) (by omega) e15 ?_
      refine jr.aload_n rfl rfl ?_
      have k16 := kf_1_11 k_t
      refine jr.getf (i := 11) (v := .ref (t + 7)) rfl rfl (Nat.lt_trans (kx_1 k_t).1 (by decide)) (kx_1 k_t).2 (by decide) rfl rfl rfl (jval_ref rfl k16.1) ?_
      refine jr.iconst rfl ?_
      obtain ⟨v17, e17⟩ : ∃ z_, M ((t + 7)) 1 = z_ := ⟨_, rfl⟩
      have b17 : (-9223372036854775808) ≤ v17 ∧ v17 ≤ 9223372036854775807 := by rw [← e17]; exact (CI.r hC_M k16.2 (by decide) 1)
      have e18 : M3 ((t + 7)) 1 = v17 := (hf_M3.g k16.2 rfl).trans e17
      have e19 : M11 ((t + 7)) 1 = v17 := (hf_M11.g k16.2 rfl).trans e18
      refine jr.lald (i := 1) (x := v17) rfl (Nat.lt_trans (kx_3 k16.2).1 (by decide)) (kx_3 k16.2).2 (by decide) (by omega) (by omega) e19 ?_
      refine jr.ladd rfl ?_
      refine jr.lw (jl_w (v13 + v17)) (jl_w_eq _) ?_
      have b20 : -9223372036854775808 ≤ jl_w (v13 + v17) ∧ jl_w (v13 + v17) ≤ 9223372036854775807 := jbl_any _
      refine jr_s rfl rfl (Or.inr rfl) ⟨Nat.le_of_ble_eq_true rfl, Nat.le_of_ble_eq_true rfl⟩ rfl rfl (jc.deep (c_PacketWall_putNumber_tf hC_M11 (FR.rfl _ M11) (show kd 1 = 43 from rfl) (by omega) (by omega) (by omega) rfl (fun M21 hC_M21 hf_M21 w21_0 => ?_)) (by decide))
      have ht_M21 : FR W_c_Flow_layRow_x T M21 := FR.t ht_M11 hf_M21 (kw_sub rfl)
      refine jr.aload_n rfl rfl ?_
      refine jr.iload_n rfl rfl ?_
      refine jr.bipush rfl (by decide) ?_
      refine jr.iadd rfl ?_
      refine jr.iconst rfl ?_
      refine jr.aload_n rfl rfl ?_
      refine jr.iload_n rfl rfl ?_
      refine jr.iload_n rfl rfl ?_
      refine jr.bipush rfl (by decide) ?_
      refine jr.iadd rfl ?_
      refine jr_s rfl rfl (Or.inr rfl) ⟨Nat.le_of_ble_eq_true rfl, Nat.le_of_ble_eq_true rfl⟩ rfl rfl (jc.deep (c_PacketWall_addedTwos_tx hC_M21 (by omega) (by omega) (by omega) (fun r22 z22 w22_0 => ?_)) (by decide))
      refine jr_s rfl rfl (Or.inr rfl) ⟨Nat.le_of_ble_eq_true rfl, Nat.le_of_ble_eq_true rfl⟩ rfl rfl (jc.deep (c_PacketWall_foldedSum_x hC_M21 (by omega) (fun r23 z23 w23_0 => ?_)) (by decide))
      refine jr.i2l rfl (by omega) ?_
      refine jr_s rfl rfl (Or.inr rfl) ⟨Nat.le_of_ble_eq_true rfl, Nat.le_of_ble_eq_true rfl⟩ rfl rfl (jc.deep (c_PacketWall_putNumber_tf hC_M21 (FR.rfl _ M21) (show kd 1 = 43 from rfl) (by omega) (by omega) (by omega) rfl (fun M24 hC_M24 hf_M24 w24_0 => ?_)) (by decide))
      have ht_M24 : FR W_c_Flow_layRow_x T M24 := FR.t ht_M21 hf_M24 (kw_sub rfl)
      exact jr.vreturn rfl rfl (q _ hC_M24 ht_M24  ⟨(by unfold rcB; rw [(show T t 6 = _ from (hy1 t 6 (kd_ne (by rw [k_t]; decide))).symm.trans e1), (show T (t + 6) 0 = _ from (hy1 (t + 6) 0 (kd_ne (by rw [(kf_1_10 k_t).2]; decide))).symm.trans e5), (show T (t + 6) 1 = _ from (hy1 (t + 6) 1 (kd_ne (by rw [(kf_1_10 k_t).2]; decide))).symm.trans e8), (show T (t + 7) 0 = _ from (hy1 (t + 7) 0 (kd_ne (by rw [(kf_1_11 k_t).2]; decide))).symm.trans e13), (show T (t + 7) 1 = _ from (hy1 (t + 7) 1 (kd_ne (by rw [(kf_1_11 k_t).2]; decide))).symm.trans e17)]; exact lay_fin (by omega) (by have h9 := hy0; rw [show i = 2 from by omega] at h9; exact h9) w3_0 w11_0 w21_0 w24_0 w23_0 w22_0), (fun b k hb => ((w24_0.2 b k hb).trans ((w21_0.2 b k hb).trans ((w11_0.2 b k hb).trans ((w3_0.2 b k hb).trans (hy1 b k hb))))))⟩)
    · refine jr.aload_n rfl rfl ?_
      refine jr.iload_n rfl rfl ?_
      refine jr.iconst rfl ?_
      refine jr.iadd rfl ?_
      refine jr.iconst rfl ?_
      refine jr.iload rfl rfl ?_
      refine jr.imul rfl ?_
      refine jr.iadd rfl ?_
      refine jr.iconst rfl ?_
      refine jr.aload_n rfl rfl ?_
      have k25 := kf_1_4 k_t
      refine jr.getf (i := 4) (v := .ref (t + 2)) rfl rfl (Nat.lt_trans (kx_1 k_t).1 (by decide)) (kx_1 k_t).2 (by decide) rfl rfl rfl (jval_ref rfl k25.1) ?_
      refine jr.iload rfl rfl ?_
      obtain ⟨v26, e26⟩ : ∃ z_, M ((t + 2)) i = z_ := ⟨_, rfl⟩
      have b26 : (-2147483648) ≤ v26 ∧ v26 ≤ 2147483647 := by rw [← e26]; exact (CI.r hC_M k25.2 (by decide) i)
      refine jr.iald (i := i) (x := v26) rfl (Nat.lt_trans (kx_7 k25.2).1 (by decide)) (kx_7 k25.2).2 (by decide) (by omega) (by omega) e26 ?_
      refine jr.i2l rfl (by omega) ?_
      refine jr_s rfl rfl (Or.inr rfl) ⟨Nat.le_of_ble_eq_true rfl, Nat.le_of_ble_eq_true rfl⟩ rfl rfl (jc.deep (c_PacketWall_putNumber_tf hC_M (FR.rfl _ M) (show kd 1 = 43 from rfl) (by omega) (by omega) (by omega) rfl (fun M27 hC_M27 hf_M27 w27_0 => ?_)) (by decide))
      have ht_M27 : FR W_c_Flow_layRow_x T M27 := FR.t ht_M hf_M27 (kw_sub rfl)
      refine jr.aload_n rfl rfl ?_
      refine jr.iload_n rfl rfl ?_
      refine jr.bipush rfl (by decide) ?_
      refine jr.iadd rfl ?_
      refine jr.iconst rfl ?_
      refine jr.iload rfl rfl ?_
      refine jr.imul rfl ?_
      refine jr.iadd rfl ?_
      refine jr.iconst rfl ?_
      refine jr.aload_n rfl rfl ?_
      have k28 := kf_1_9 k_t
      refine jr.getf (i := 9) (v := .ref (t + 5)) rfl rfl (Nat.lt_trans (kx_1 k_t).1 (by decide)) (kx_1 k_t).2 (by decide) rfl rfl rfl (jval_ref rfl k28.1) ?_
      refine jr.iload rfl rfl ?_
      obtain ⟨v29, e29⟩ : ∃ z_, M ((t + 5)) i = z_ := ⟨_, rfl⟩
      have b29 : (-2147483648) ≤ v29 ∧ v29 ≤ 2147483647 := by rw [← e29]; exact (CI.r hC_M k28.2 (by decide) i)
      have e30 : M27 ((t + 5)) i = v29 := (hf_M27.g k28.2 rfl).trans e29
      refine jr.iald (i := i) (x := v29) rfl (Nat.lt_trans (kx_8 k28.2).1 (by decide)) (kx_8 k28.2).2 (by decide) (by omega) (by omega) e30 ?_
      refine jr.i2l rfl (by omega) ?_
      refine jr_s rfl rfl (Or.inr rfl) ⟨Nat.le_of_ble_eq_true rfl, Nat.le_of_ble_eq_true rfl⟩ rfl rfl (jc.deep (c_PacketWall_putNumber_tf hC_M27 (FR.rfl _ M27) (show kd 1 = 43 from rfl) (by omega) (by omega) (by omega) rfl (fun M31 hC_M31 hf_M31 w31_0 => ?_)) (by decide))
      have ht_M31 : FR W_c_Flow_layRow_x T M31 := FR.t ht_M27 hf_M31 (kw_sub rfl)
      refine jr.aload_n rfl rfl ?_
      refine jr.iload_n rfl rfl ?_
      refine jr.bipush rfl (by decide) ?_
      refine jr.iadd rfl ?_
      refine jr.bipush rfl (by decide) ?_
      refine jr.iload rfl rfl ?_
      refine jr.imul rfl ?_
      refine jr.iadd rfl ?_
      refine jr.bipush rfl (by decide) ?_
      refine jr.aload_n rfl rfl ?_
      have k32 := kf_1_3 k_t
      refine jr.getf (i := 3) (v := .ref (t + 1)) rfl rfl (Nat.lt_trans (kx_1 k_t).1 (by decide)) (kx_1 k_t).2 (by decide) rfl rfl rfl (jval_ref rfl k32.1) ?_
      refine jr.iload rfl rfl ?_
      obtain ⟨v33, e33⟩ : ∃ z_, M ((t + 1)) i = z_ := ⟨_, rfl⟩
      have b33 : (-9223372036854775808) ≤ v33 ∧ v33 ≤ 9223372036854775807 := by rw [← e33]; exact (CI.r hC_M k32.2 (by decide) i)
      have e34 : M27 ((t + 1)) i = v33 := (hf_M27.g k32.2 rfl).trans e33
      have e35 : M31 ((t + 1)) i = v33 := (hf_M31.g k32.2 rfl).trans e34
      refine jr.lald (i := i) (x := v33) rfl (Nat.lt_trans (kx_2 k32.2).1 (by decide)) (kx_2 k32.2).2 (by decide) (by omega) (by omega) e35 ?_
      refine jr_s rfl rfl (Or.inr rfl) ⟨Nat.le_of_ble_eq_true rfl, Nat.le_of_ble_eq_true rfl⟩ rfl rfl (jc.deep (c_PacketWall_putNumber_tf hC_M31 (FR.rfl _ M31) (show kd 1 = 43 from rfl) (by omega) (by omega) (by omega) rfl (fun M36 hC_M36 hf_M36 w36_0 => ?_)) (by decide))
      have ht_M36 : FR W_c_Flow_layRow_x T M36 := FR.t ht_M31 hf_M36 (kw_sub rfl)
      refine jr.aload_n rfl rfl ?_
      refine jr.iload_n rfl rfl ?_
      refine jr.bipush rfl (by decide) ?_
      refine jr.iadd rfl ?_
      refine jr.iconst rfl ?_
      refine jr.iload rfl rfl ?_
      refine jr.imul rfl ?_
      refine jr.iadd rfl ?_
      refine jr.iconst rfl ?_
      refine jr.aload_n rfl rfl ?_
      have k37 := kf_1_7 k_t
      refine jr.getf (i := 7) (v := .ref (t + 3)) rfl rfl (Nat.lt_trans (kx_1 k_t).1 (by decide)) (kx_1 k_t).2 (by decide) rfl rfl rfl (jval_ref rfl k37.1) ?_
      refine jr.iload rfl rfl ?_
      obtain ⟨v38, e38⟩ : ∃ z_, M ((t + 3)) i = z_ := ⟨_, rfl⟩
      have b38 : (-2147483648) ≤ v38 ∧ v38 ≤ 2147483647 := by rw [← e38]; exact (CI.r hC_M k37.2 (by decide) i)
      have e39 : M27 ((t + 3)) i = v38 := (hf_M27.g k37.2 rfl).trans e38
      have e40 : M31 ((t + 3)) i = v38 := (hf_M31.g k37.2 rfl).trans e39
      have e41 : M36 ((t + 3)) i = v38 := (hf_M36.g k37.2 rfl).trans e40
      refine jr.iald (i := i) (x := v38) rfl (Nat.lt_trans (kx_5 k37.2).1 (by decide)) (kx_5 k37.2).2 (by decide) (by omega) (by omega) e41 ?_
      refine jr.i2l rfl (by omega) ?_
      refine jr_s rfl rfl (Or.inr rfl) ⟨Nat.le_of_ble_eq_true rfl, Nat.le_of_ble_eq_true rfl⟩ rfl rfl (jc.deep (c_PacketWall_putNumber_tf hC_M36 (FR.rfl _ M36) (show kd 1 = 43 from rfl) (by omega) (by omega) (by omega) rfl (fun M42 hC_M42 hf_M42 w42_0 => ?_)) (by decide))
      have ht_M42 : FR W_c_Flow_layRow_x T M42 := FR.t ht_M36 hf_M42 (kw_sub rfl)
      refine jr.iinc rfl rfl (by decide) rfl ?_
      refine jr.goto rfl rfl ?_
      refine jr.pick [1, 2, 0, 3, 4] rfl rfl ?_
      exact ih (nM - 1) (by omega) M42 (i + 1) hC_M42 ht_M42 (by omega) (by omega) (by omega) (by rw [lyI_s (by omega), w42_0.pt (by omega), w36_0.pt (by omega), w31_0.pt (by omega), w27_0.pt (by omega), hy0, (show T (t + 2) i = _ from (hy1 (t + 2) i (kd_ne (by rw [(kf_1_4 k_t).2]; decide))).symm.trans e26), (show T (t + 5) i = _ from (hy1 (t + 5) i (kd_ne (by rw [(kf_1_9 k_t).2]; decide))).symm.trans e29), (show T (t + 1) i = _ from (hy1 (t + 1) i (kd_ne (by rw [(kf_1_3 k_t).2]; decide))).symm.trans e33), (show T (t + 3) i = _ from (hy1 (t + 3) i (kd_ne (by rw [(kf_1_7 k_t).2]; decide))).symm.trans e38)]; rfl) (fun b k hb => ((w42_0.2 b k hb).trans ((w36_0.2 b k hb).trans ((w31_0.2 b k hb).trans ((w27_0.2 b k hb).trans (hy1 b k hb)))))) (by omega)
theorem c_Flow_layRow_x_L62 {A : Nat → Option (Nat × (Nat → Int32))} {Q : Option Value → jm → Prop} {T : jm} {t : Nat} (k_t : kd t = 1) {y : Int} {z : Int} (q : ∀ (M' : jm), CI M' → FR W_c_Flow_layRow_x T M' → (M' 1 = rwl (T 1) y (rcB T t z) ∧ ∀ (b : Nat) (k : Int), b ≠ 1 → M' b k = T b k) → Q none M') : ∀ (nM : Nat) (M : jm) (a_ : Int), CI M → FR W_c_Flow_layRow_x T M → 0 ≤ y ∧ y ≤ 1552 → 0 ≤ z ∧ z ≤ 2000000000 → 0 ≤ a_ ∧ a_ ≤ 240 → (a_ = flgF T t) → (M = T) → 0 ≤ nM → jr A 2 xm_64 62 [(2, .int (Int32.ofInt (y))), (3, .int (Int32.ofInt (z))), (4, .int (Int32.ofInt (a_))), (0, .ref (t)), (1, .ref (1))] [] M Q := by
  intro nM
  induction nM using Nat.strongRecOn with
  | ind nM ih =>
    intro M a_ hC_M ht_M h_y h_z h_a_ hy0 hy1 hm
    refine jr.aload_n rfl rfl ?_
    refine jr.iload_n rfl rfl ?_
    refine jr.iconst rfl ?_
    refine jr.aload_n rfl rfl ?_
    obtain ⟨v1, e1⟩ : ∃ z_, M t 2 = z_ := ⟨_, rfl⟩
    have b1 : (-2147483648) ≤ v1 ∧ v1 ≤ 2147483647 := by rw [← e1]; exact (CI.r hC_M k_t (by decide) 2)
    refine jr.getf (i := 2) (x := v1) (v := .int (Int32.ofInt (v1))) rfl rfl (Nat.lt_trans (kx_1 k_t).1 (by decide)) (kx_1 k_t).2 (by decide) rfl rfl e1 rfl ?_
    refine jr.i2l rfl (by omega) ?_
    refine jr_s rfl rfl (Or.inr rfl) ⟨Nat.le_of_ble_eq_true rfl, Nat.le_of_ble_eq_true rfl⟩ rfl rfl (jc.deep (c_PacketWall_putNumber_tf hC_M (FR.rfl _ M) (show kd 1 = 43 from rfl) (by omega) (by omega) (by omega) rfl (fun M2 hC_M2 hf_M2 w2_0 => ?_)) (by decide))
    have ht_M2 : FR W_c_Flow_layRow_x T M2 := FR.t ht_M hf_M2 (kw_sub rfl)
    refine jr.aload_n rfl rfl ?_
    refine jr.iload_n rfl rfl ?_
    refine jr.iconst rfl ?_
    refine jr.iadd rfl ?_
    refine jr.iconst rfl ?_
    refine jr.aload_n rfl rfl ?_
    obtain ⟨v3, e3⟩ : ∃ z_, M t 5 = z_ := ⟨_, rfl⟩
    have b3 : (-2147483648) ≤ v3 ∧ v3 ≤ 2147483647 := by rw [← e3]; exact (CI.r hC_M k_t (by decide) 5)
    have e4 : M2 t 5 = v3 := (hf_M2.g k_t rfl).trans e3
    refine jr.getf (i := 5) (x := v3) (v := .int (Int32.ofInt (v3))) rfl rfl (Nat.lt_trans (kx_1 k_t).1 (by decide)) (kx_1 k_t).2 (by decide) rfl rfl e4 rfl ?_
    refine jr.iload rfl rfl ?_
    refine jr.iadd rfl ?_
    refine jr.iw (j_w (v3 + a_)) (j_w_eq _) ?_
    have b5 : -2147483648 ≤ j_w (v3 + a_) ∧ j_w (v3 + a_) ≤ 2147483647 := jb_any _
    refine jr.i2l rfl (by omega) ?_
    refine jr_s rfl rfl (Or.inr rfl) ⟨Nat.le_of_ble_eq_true rfl, Nat.le_of_ble_eq_true rfl⟩ rfl rfl (jc.deep (c_PacketWall_putNumber_tf hC_M2 (FR.rfl _ M2) (show kd 1 = 43 from rfl) (by omega) (by omega) (by omega) rfl (fun M6 hC_M6 hf_M6 w6_0 => ?_)) (by decide))
    have ht_M6 : FR W_c_Flow_layRow_x T M6 := FR.t ht_M2 hf_M6 (kw_sub rfl)
    refine jr.iconst rfl ?_
    refine jr.istore rfl (by decide) rfl ?_
    refine jr.pick [1, 2, 0, 4, 5] rfl rfl ?_
    exact c_Flow_layRow_x_L92 k_t q 2 M6 0 hC_M6 ht_M6 (by omega) (by omega) (by omega) (by rw [w6_0.pt (by omega), w2_0.pt (by omega), ← hy0, ← hy1, e1, e3]; rfl) (fun b k hb => ((w6_0.2 b k hb).trans ((w2_0.2 b k hb).trans (by rw [hy1])))) (by omega)
theorem c_Flow_layRow_x {A : Nat → Option (Nat × (Nat → Int32))} {Q : Option Value → jm → Prop} {T : jm} {M : jm} (hC_M : CI M) (ht_M : FR W_c_Flow_layRow_x T M) {t : Nat} (k_t : kd t = 1) {y : Int} (h_y : 0 ≤ y ∧ y ≤ 1552) {z : Int} (h_z : 0 ≤ z ∧ z ≤ 2000000000) (p0 : T = M) (q : ∀ (M' : jm), CI M' → FR W_c_Flow_layRow_x T M' → (M' 1 = rwl (T 1) y (rcB T t z) ∧ ∀ (b : Nat) (k : Int), b ≠ 1 → M' b k = T b k) → Q none M') : jc A 3 64 [.ref (t), .ref (1), .int (Int32.ofInt (y)), .int (Int32.ofInt (z))] M Q := by
  refine jc_of (m := xm_64) rfl (Nat.le_of_ble_eq_true rfl) rfl ?_
  refine jr.aload_n rfl rfl ?_
  obtain ⟨v1, e1⟩ : ∃ z_, M t 1 = z_ := ⟨_, rfl⟩
  have b1 : 0 ≤ v1 ∧ v1 ≤ 1 := by rw [← e1]; exact (CI.r hC_M k_t (by decide) 1)
  refine jr.getf (i := 1) (x := v1) (v := .int (Int32.ofInt (v1))) rfl rfl (Nat.lt_trans (kx_1 k_t).1 (by decide)) (kx_1 k_t).2 (by decide) rfl rfl e1 rfl ?_
  refine jr.if_eq rfl rfl (by omega) (fun h4 => ?_) (fun h4 => ?_)
  · refine jr.iconst rfl ?_
    refine jr.aload_n rfl rfl ?_
    have k2 := kf_1_8 k_t
    refine jr.getf (i := 8) (v := .ref (t + 4)) rfl rfl (Nat.lt_trans (kx_1 k_t).1 (by decide)) (kx_1 k_t).2 (by decide) rfl rfl rfl (jval_ref rfl k2.1) ?_
    refine jr.iconst rfl ?_
    obtain ⟨v3, e3⟩ : ∃ z_, M ((t + 4)) 0 = z_ := ⟨_, rfl⟩
    have b3 : 0 ≤ v3 ∧ v3 ≤ 1 := by rw [← e3]; exact (CI.r hC_M k2.2 (by decide) 0)
    refine jr.zald (i := 0) (x := v3) rfl (Nat.lt_trans (kx_4 k2.2).1 (by decide)) (kx_4 k2.2).2 (by decide) (by omega) (by omega) e3 ?_
    refine jr.if_eq rfl rfl (by omega) (fun h19 => ?_) (fun h19 => ?_)
    · refine jr.iconst rfl ?_
      refine jr.iadd rfl ?_
      refine jr.aload_n rfl rfl ?_
      have k4 := kf_1_8 k_t
      refine jr.getf (i := 8) (v := .ref (t + 4)) rfl rfl (Nat.lt_trans (kx_1 k_t).1 (by decide)) (kx_1 k_t).2 (by decide) rfl rfl rfl (jval_ref rfl k4.1) ?_
      refine jr.iconst rfl ?_
      obtain ⟨v5, e5⟩ : ∃ z_, M ((t + 4)) 1 = z_ := ⟨_, rfl⟩
      have b5 : 0 ≤ v5 ∧ v5 ≤ 1 := by rw [← e5]; exact (CI.r hC_M k4.2 (by decide) 1)
      refine jr.zald (i := 1) (x := v5) rfl (Nat.lt_trans (kx_4 k4.2).1 (by decide)) (kx_4 k4.2).2 (by decide) (by omega) (by omega) e5 ?_
      refine jr.if_eq rfl rfl (by omega) (fun h35 => ?_) (fun h35 => ?_)
      · refine jr.iconst rfl ?_
        refine jr.iadd rfl ?_
        refine jr.aload_n rfl rfl ?_
        obtain ⟨v6, e6⟩ : ∃ z_, M t 12 = z_ := ⟨_, rfl⟩
        have b6 : 0 ≤ v6 ∧ v6 ≤ 1 := by rw [← e6]; exact (CI.r hC_M k_t (by decide) 12)
        refine jr.getf (i := 12) (x := v6) (v := .int (Int32.ofInt (v6))) rfl rfl (Nat.lt_trans (kx_1 k_t).1 (by decide)) (kx_1 k_t).2 (by decide) rfl rfl e6 rfl ?_
        refine jr.if_eq rfl rfl (by omega) (fun h49 => ?_) (fun h49 => ?_)
        · refine jr.iconst rfl ?_
          refine jr.iadd rfl ?_
          refine jr.istore rfl (by decide) rfl ?_
          refine jr.pick [3, 4, 0, 1, 2] rfl rfl ?_
          exact c_Flow_layRow_x_L62 k_t q 0 M (((0 + 0) + 0) + 0) hC_M ht_M (by omega) (by omega) (by omega) (by unfold flgF; rw [p0]; (repeat' split) <;> omega) p0.symm (by omega)
        · refine jr.sipush rfl (by decide) ?_
          refine jr.goto rfl rfl ?_
          refine jr.iadd rfl ?_
          refine jr.istore rfl (by decide) rfl ?_
          refine jr.pick [3, 4, 0, 1, 2] rfl rfl ?_
          exact c_Flow_layRow_x_L62 k_t q 0 M (((0 + 0) + 0) + 128) hC_M ht_M (by omega) (by omega) (by omega) (by unfold flgF; rw [p0]; (repeat' split) <;> omega) p0.symm (by omega)
      · refine jr.bipush rfl (by decide) ?_
        refine jr.goto rfl rfl ?_
        refine jr.iadd rfl ?_
        refine jr.aload_n rfl rfl ?_
        obtain ⟨v7, e7⟩ : ∃ z_, M t 12 = z_ := ⟨_, rfl⟩
        have b7 : 0 ≤ v7 ∧ v7 ≤ 1 := by rw [← e7]; exact (CI.r hC_M k_t (by decide) 12)
        refine jr.getf (i := 12) (x := v7) (v := .int (Int32.ofInt (v7))) rfl rfl (Nat.lt_trans (kx_1 k_t).1 (by decide)) (kx_1 k_t).2 (by decide) rfl rfl e7 rfl ?_
        refine jr.if_eq rfl rfl (by omega) (fun h49 => ?_) (fun h49 => ?_)
        · refine jr.iconst rfl ?_
          refine jr.iadd rfl ?_
          refine jr.istore rfl (by decide) rfl ?_
          refine jr.pick [3, 4, 0, 1, 2] rfl rfl ?_
          exact c_Flow_layRow_x_L62 k_t q 0 M (((0 + 0) + 64) + 0) hC_M ht_M (by omega) (by omega) (by omega) (by unfold flgF; rw [p0]; (repeat' split) <;> omega) p0.symm (by omega)
        · refine jr.sipush rfl (by decide) ?_
          refine jr.goto rfl rfl ?_
          refine jr.iadd rfl ?_
          refine jr.istore rfl (by decide) rfl ?_
          refine jr.pick [3, 4, 0, 1, 2] rfl rfl ?_
          exact c_Flow_layRow_x_L62 k_t q 0 M (((0 + 0) + 64) + 128) hC_M ht_M (by omega) (by omega) (by omega) (by unfold flgF; rw [p0]; (repeat' split) <;> omega) p0.symm (by omega)
    · refine jr.bipush rfl (by decide) ?_
      refine jr.goto rfl rfl ?_
      refine jr.iadd rfl ?_
      refine jr.aload_n rfl rfl ?_
      have k8 := kf_1_8 k_t
      refine jr.getf (i := 8) (v := .ref (t + 4)) rfl rfl (Nat.lt_trans (kx_1 k_t).1 (by decide)) (kx_1 k_t).2 (by decide) rfl rfl rfl (jval_ref rfl k8.1) ?_
      refine jr.iconst rfl ?_
      obtain ⟨v9, e9⟩ : ∃ z_, M ((t + 4)) 1 = z_ := ⟨_, rfl⟩
      have b9 : 0 ≤ v9 ∧ v9 ≤ 1 := by rw [← e9]; exact (CI.r hC_M k8.2 (by decide) 1)
      refine jr.zald (i := 1) (x := v9) rfl (Nat.lt_trans (kx_4 k8.2).1 (by decide)) (kx_4 k8.2).2 (by decide) (by omega) (by omega) e9 ?_
      refine jr.if_eq rfl rfl (by omega) (fun h35 => ?_) (fun h35 => ?_)
      · refine jr.iconst rfl ?_
        refine jr.iadd rfl ?_
        refine jr.aload_n rfl rfl ?_
        obtain ⟨v10, e10⟩ : ∃ z_, M t 12 = z_ := ⟨_, rfl⟩
        have b10 : 0 ≤ v10 ∧ v10 ≤ 1 := by rw [← e10]; exact (CI.r hC_M k_t (by decide) 12)
        refine jr.getf (i := 12) (x := v10) (v := .int (Int32.ofInt (v10))) rfl rfl (Nat.lt_trans (kx_1 k_t).1 (by decide)) (kx_1 k_t).2 (by decide) rfl rfl e10 rfl ?_
        refine jr.if_eq rfl rfl (by omega) (fun h49 => ?_) (fun h49 => ?_)
        · refine jr.iconst rfl ?_
          refine jr.iadd rfl ?_
          refine jr.istore rfl (by decide) rfl ?_
          refine jr.pick [3, 4, 0, 1, 2] rfl rfl ?_
          exact c_Flow_layRow_x_L62 k_t q 0 M (((0 + 32) + 0) + 0) hC_M ht_M (by omega) (by omega) (by omega) (by unfold flgF; rw [p0]; (repeat' split) <;> omega) p0.symm (by omega)
        · refine jr.sipush rfl (by decide) ?_
          refine jr.goto rfl rfl ?_
          refine jr.iadd rfl ?_
          refine jr.istore rfl (by decide) rfl ?_
          refine jr.pick [3, 4, 0, 1, 2] rfl rfl ?_
          exact c_Flow_layRow_x_L62 k_t q 0 M (((0 + 32) + 0) + 128) hC_M ht_M (by omega) (by omega) (by omega) (by unfold flgF; rw [p0]; (repeat' split) <;> omega) p0.symm (by omega)
      · refine jr.bipush rfl (by decide) ?_
        refine jr.goto rfl rfl ?_
        refine jr.iadd rfl ?_
        refine jr.aload_n rfl rfl ?_
        obtain ⟨v11, e11⟩ : ∃ z_, M t 12 = z_ := ⟨_, rfl⟩
        have b11 : 0 ≤ v11 ∧ v11 ≤ 1 := by rw [← e11]; exact (CI.r hC_M k_t (by decide) 12)
        refine jr.getf (i := 12) (x := v11) (v := .int (Int32.ofInt (v11))) rfl rfl (Nat.lt_trans (kx_1 k_t).1 (by decide)) (kx_1 k_t).2 (by decide) rfl rfl e11 rfl ?_
        refine jr.if_eq rfl rfl (by omega) (fun h49 => ?_) (fun h49 => ?_)
        · refine jr.iconst rfl ?_
          refine jr.iadd rfl ?_
          refine jr.istore rfl (by decide) rfl ?_
          refine jr.pick [3, 4, 0, 1, 2] rfl rfl ?_
          exact c_Flow_layRow_x_L62 k_t q 0 M (((0 + 32) + 64) + 0) hC_M ht_M (by omega) (by omega) (by omega) (by unfold flgF; rw [p0]; (repeat' split) <;> omega) p0.symm (by omega)
        · refine jr.sipush rfl (by decide) ?_
          refine jr.goto rfl rfl ?_
          refine jr.iadd rfl ?_
          refine jr.istore rfl (by decide) rfl ?_
          refine jr.pick [3, 4, 0, 1, 2] rfl rfl ?_
          exact c_Flow_layRow_x_L62 k_t q 0 M (((0 + 32) + 64) + 128) hC_M ht_M (by omega) (by omega) (by omega) (by unfold flgF; rw [p0]; (repeat' split) <;> omega) p0.symm (by omega)
  · refine jr.bipush rfl (by decide) ?_
    refine jr.goto rfl rfl ?_
    refine jr.aload_n rfl rfl ?_
    have k12 := kf_1_8 k_t
    refine jr.getf (i := 8) (v := .ref (t + 4)) rfl rfl (Nat.lt_trans (kx_1 k_t).1 (by decide)) (kx_1 k_t).2 (by decide) rfl rfl rfl (jval_ref rfl k12.1) ?_
    refine jr.iconst rfl ?_
    obtain ⟨v13, e13⟩ : ∃ z_, M ((t + 4)) 0 = z_ := ⟨_, rfl⟩
    have b13 : 0 ≤ v13 ∧ v13 ≤ 1 := by rw [← e13]; exact (CI.r hC_M k12.2 (by decide) 0)
    refine jr.zald (i := 0) (x := v13) rfl (Nat.lt_trans (kx_4 k12.2).1 (by decide)) (kx_4 k12.2).2 (by decide) (by omega) (by omega) e13 ?_
    refine jr.if_eq rfl rfl (by omega) (fun h19 => ?_) (fun h19 => ?_)
    · refine jr.iconst rfl ?_
      refine jr.iadd rfl ?_
      refine jr.aload_n rfl rfl ?_
      have k14 := kf_1_8 k_t
      refine jr.getf (i := 8) (v := .ref (t + 4)) rfl rfl (Nat.lt_trans (kx_1 k_t).1 (by decide)) (kx_1 k_t).2 (by decide) rfl rfl rfl (jval_ref rfl k14.1) ?_
      refine jr.iconst rfl ?_
      obtain ⟨v15, e15⟩ : ∃ z_, M ((t + 4)) 1 = z_ := ⟨_, rfl⟩
      have b15 : 0 ≤ v15 ∧ v15 ≤ 1 := by rw [← e15]; exact (CI.r hC_M k14.2 (by decide) 1)
      refine jr.zald (i := 1) (x := v15) rfl (Nat.lt_trans (kx_4 k14.2).1 (by decide)) (kx_4 k14.2).2 (by decide) (by omega) (by omega) e15 ?_
      refine jr.if_eq rfl rfl (by omega) (fun h35 => ?_) (fun h35 => ?_)
      · refine jr.iconst rfl ?_
        refine jr.iadd rfl ?_
        refine jr.aload_n rfl rfl ?_
        obtain ⟨v16, e16⟩ : ∃ z_, M t 12 = z_ := ⟨_, rfl⟩
        have b16 : 0 ≤ v16 ∧ v16 ≤ 1 := by rw [← e16]; exact (CI.r hC_M k_t (by decide) 12)
        refine jr.getf (i := 12) (x := v16) (v := .int (Int32.ofInt (v16))) rfl rfl (Nat.lt_trans (kx_1 k_t).1 (by decide)) (kx_1 k_t).2 (by decide) rfl rfl e16 rfl ?_
        refine jr.if_eq rfl rfl (by omega) (fun h49 => ?_) (fun h49 => ?_)
        · refine jr.iconst rfl ?_
          refine jr.iadd rfl ?_
          refine jr.istore rfl (by decide) rfl ?_
          refine jr.pick [3, 4, 0, 1, 2] rfl rfl ?_
          exact c_Flow_layRow_x_L62 k_t q 0 M (((16 + 0) + 0) + 0) hC_M ht_M (by omega) (by omega) (by omega) (by unfold flgF; rw [p0]; (repeat' split) <;> omega) p0.symm (by omega)
        · refine jr.sipush rfl (by decide) ?_
          refine jr.goto rfl rfl ?_
          refine jr.iadd rfl ?_
          refine jr.istore rfl (by decide) rfl ?_
          refine jr.pick [3, 4, 0, 1, 2] rfl rfl ?_
          exact c_Flow_layRow_x_L62 k_t q 0 M (((16 + 0) + 0) + 128) hC_M ht_M (by omega) (by omega) (by omega) (by unfold flgF; rw [p0]; (repeat' split) <;> omega) p0.symm (by omega)
      · refine jr.bipush rfl (by decide) ?_
        refine jr.goto rfl rfl ?_
        refine jr.iadd rfl ?_
        refine jr.aload_n rfl rfl ?_
        obtain ⟨v17, e17⟩ : ∃ z_, M t 12 = z_ := ⟨_, rfl⟩
        have b17 : 0 ≤ v17 ∧ v17 ≤ 1 := by rw [← e17]; exact (CI.r hC_M k_t (by decide) 12)
        refine jr.getf (i := 12) (x := v17) (v := .int (Int32.ofInt (v17))) rfl rfl (Nat.lt_trans (kx_1 k_t).1 (by decide)) (kx_1 k_t).2 (by decide) rfl rfl e17 rfl ?_
        refine jr.if_eq rfl rfl (by omega) (fun h49 => ?_) (fun h49 => ?_)
        · refine jr.iconst rfl ?_
          refine jr.iadd rfl ?_
          refine jr.istore rfl (by decide) rfl ?_
          refine jr.pick [3, 4, 0, 1, 2] rfl rfl ?_
          exact c_Flow_layRow_x_L62 k_t q 0 M (((16 + 0) + 64) + 0) hC_M ht_M (by omega) (by omega) (by omega) (by unfold flgF; rw [p0]; (repeat' split) <;> omega) p0.symm (by omega)
        · refine jr.sipush rfl (by decide) ?_
          refine jr.goto rfl rfl ?_
          refine jr.iadd rfl ?_
          refine jr.istore rfl (by decide) rfl ?_
          refine jr.pick [3, 4, 0, 1, 2] rfl rfl ?_
          exact c_Flow_layRow_x_L62 k_t q 0 M (((16 + 0) + 64) + 128) hC_M ht_M (by omega) (by omega) (by omega) (by unfold flgF; rw [p0]; (repeat' split) <;> omega) p0.symm (by omega)
    · refine jr.bipush rfl (by decide) ?_
      refine jr.goto rfl rfl ?_
      refine jr.iadd rfl ?_
      refine jr.aload_n rfl rfl ?_
      have k18 := kf_1_8 k_t
      refine jr.getf (i := 8) (v := .ref (t + 4)) rfl rfl (Nat.lt_trans (kx_1 k_t).1 (by decide)) (kx_1 k_t).2 (by decide) rfl rfl rfl (jval_ref rfl k18.1) ?_
      refine jr.iconst rfl ?_
      obtain ⟨v19, e19⟩ : ∃ z_, M ((t + 4)) 1 = z_ := ⟨_, rfl⟩
      have b19 : 0 ≤ v19 ∧ v19 ≤ 1 := by rw [← e19]; exact (CI.r hC_M k18.2 (by decide) 1)
      refine jr.zald (i := 1) (x := v19) rfl (Nat.lt_trans (kx_4 k18.2).1 (by decide)) (kx_4 k18.2).2 (by decide) (by omega) (by omega) e19 ?_
      refine jr.if_eq rfl rfl (by omega) (fun h35 => ?_) (fun h35 => ?_)
      · refine jr.iconst rfl ?_
        refine jr.iadd rfl ?_
        refine jr.aload_n rfl rfl ?_
        obtain ⟨v20, e20⟩ : ∃ z_, M t 12 = z_ := ⟨_, rfl⟩
        have b20 : 0 ≤ v20 ∧ v20 ≤ 1 := by rw [← e20]; exact (CI.r hC_M k_t (by decide) 12)
        refine jr.getf (i := 12) (x := v20) (v := .int (Int32.ofInt (v20))) rfl rfl (Nat.lt_trans (kx_1 k_t).1 (by decide)) (kx_1 k_t).2 (by decide) rfl rfl e20 rfl ?_
        refine jr.if_eq rfl rfl (by omega) (fun h49 => ?_) (fun h49 => ?_)
        · refine jr.iconst rfl ?_
          refine jr.iadd rfl ?_
          refine jr.istore rfl (by decide) rfl ?_
          refine jr.pick [3, 4, 0, 1, 2] rfl rfl ?_
          exact c_Flow_layRow_x_L62 k_t q 0 M (((16 + 32) + 0) + 0) hC_M ht_M (by omega) (by omega) (by omega) (by unfold flgF; rw [p0]; (repeat' split) <;> omega) p0.symm (by omega)
        · refine jr.sipush rfl (by decide) ?_
          refine jr.goto rfl rfl ?_
          refine jr.iadd rfl ?_
          refine jr.istore rfl (by decide) rfl ?_
          refine jr.pick [3, 4, 0, 1, 2] rfl rfl ?_
          exact c_Flow_layRow_x_L62 k_t q 0 M (((16 + 32) + 0) + 128) hC_M ht_M (by omega) (by omega) (by omega) (by unfold flgF; rw [p0]; (repeat' split) <;> omega) p0.symm (by omega)
      · refine jr.bipush rfl (by decide) ?_
        refine jr.goto rfl rfl ?_
        refine jr.iadd rfl ?_
        refine jr.aload_n rfl rfl ?_
        obtain ⟨v21, e21⟩ : ∃ z_, M t 12 = z_ := ⟨_, rfl⟩
        have b21 : 0 ≤ v21 ∧ v21 ≤ 1 := by rw [← e21]; exact (CI.r hC_M k_t (by decide) 12)
        refine jr.getf (i := 12) (x := v21) (v := .int (Int32.ofInt (v21))) rfl rfl (Nat.lt_trans (kx_1 k_t).1 (by decide)) (kx_1 k_t).2 (by decide) rfl rfl e21 rfl ?_
        refine jr.if_eq rfl rfl (by omega) (fun h49 => ?_) (fun h49 => ?_)
        · refine jr.iconst rfl ?_
          refine jr.iadd rfl ?_
          refine jr.istore rfl (by decide) rfl ?_
          refine jr.pick [3, 4, 0, 1, 2] rfl rfl ?_
          exact c_Flow_layRow_x_L62 k_t q 0 M (((16 + 32) + 64) + 0) hC_M ht_M (by omega) (by omega) (by omega) (by unfold flgF; rw [p0]; (repeat' split) <;> omega) p0.symm (by omega)
        · refine jr.sipush rfl (by decide) ?_
          refine jr.goto rfl rfl ?_
          refine jr.iadd rfl ?_
          refine jr.istore rfl (by decide) rfl ?_
          refine jr.pick [3, 4, 0, 1, 2] rfl rfl ?_
          exact c_Flow_layRow_x_L62 k_t q 0 M (((16 + 32) + 64) + 128) hC_M ht_M (by omega) (by omega) (by omega) (by unfold flgF; rw [p0]; (repeat' split) <;> omega) p0.symm (by omega)
def uC (T : jm) (V : Nat) (i : Int) : Int := if T (xe V i) 0 ≠ 0 ∧ T (xe V i) 13 = -1 then 1 else 0
def bC (T : jm) (V : Nat) (Z i : Int) : Int → Int := rcB T (xe V i) Z
theorem uC_0 {T : jm} {V : Nat} {i : Int} (h : ¬ (T (xe V i) 0 ≠ 0 ∧ T (xe V i) 13 = -1)) : uC T V i = 0 := if_neg h
theorem uC_1 {T : jm} {V : Nat} {i : Int} (h : T (xe V i) 0 ≠ 0 ∧ T (xe V i) 13 = -1) : uC T V i = 1 := if_pos h
def W_c_Flows_layTable_x : List (Nat × Nat) := [(43, 1000)]
theorem c_Flows_layTable_x_L5 {A : Nat → Option (Nat × (Nat → Int32))} {Q : Option Value → jm → Prop} {T : jm} {V : Int} {y : Int} (q : ∀ (r : Int) (M' : jm), CI M' → FR W_c_Flows_layTable_x T M' → 0 ≤ r ∧ r ≤ 1152 → ((M' 1 = (exL (uC T V.toNat) (bC T V.toNat y) (T 1) 24).1 ∧ r = (exL (uC T V.toNat) (bC T V.toNat y) (T 1) 24).2) ∧ ∀ (b : Nat) (k : Int), b ≠ 1 → M' b k = T b k) → Q (some (.int (Int32.ofInt r))) M') : ∀ (nM : Nat) (M : jm) (n : Int) (i : Int), CI M → FR W_c_Flows_layTable_x T M → 0 ≤ y ∧ y ≤ 2000000000 → 0 ≤ n ∧ n ≤ 1152 → 0 ≤ i ∧ i ≤ 24 → M 15 0 = V → (M 1 = (exL (uC T V.toNat) (bC T V.toNat y) (T 1) i.toNat).1 ∧ n = (exL (uC T V.toNat) (bC T V.toNat y) (T 1) i.toNat).2) → (∀ (b : Nat) (k : Int), b ≠ 1 → M b k = T b k) → (n ≤ 48 * i) → 24 - i ≤ nM → jr A 3 xm_83 5 [(2, .int (Int32.ofInt (y))), (3, .int (Int32.ofInt (n))), (4, .int (Int32.ofInt (i))), (0, .ref (15)), (1, .ref (1))] [] M Q := by
  intro nM
  induction nM using Nat.strongRecOn with
  | ind nM ih =>
    intro M n i hC_M ht_M h_y h_n h_i g_V hy0 hy1 hy2 hm
    have b_V : 16 ≤ V ∧ V ≤ 17 := by rw [← g_V]; exact (CI.r hC_M (show kd 15 = 9 from rfl) (by decide) 0)
    refine jr.iload rfl rfl ?_
    refine jr.bipush rfl (by decide) ?_
    refine jr.icmp_ge rfl rfl (by omega) (by omega) (fun h9 => ?_) (fun h9 => ?_)
    · refine jr.iload_n rfl rfl ?_
      exact jr.ireturn rfl rfl rfl (q _ _ hC_M ht_M (by omega) ⟨by have h9 := hy0; rw [show i = 24 from by omega] at h9; exact h9, hy1⟩)
    · refine jr.aload_n rfl rfl ?_
      have k1 : kd (V).toNat = 13 := by rcases (show V = 16 ∨ V = 17 by omega) with h | h <;> (rw [h]; rfl)
      refine jr.getf (i := 0) (x := V) (v := .ref (V.toNat)) rfl rfl (by decide) rfl (by decide) rfl rfl g_V rfl ?_
      refine jr.iload rfl rfl ?_
      have k2 := kxe_13 k1 (i := i) (by omega) (by omega)
      refine jr.aald (c := (xe ((V.toNat)) i)) rfl (Nat.lt_trans (kx_13 k1).1 (by decide)) (kx_13 k1).2 (by decide) (by decide) rfl (by decide) (by omega) (by omega) k2.1 ?_
      obtain ⟨v3, e3⟩ : ∃ z_, M ((xe ((V.toNat)) i)) 0 = z_ := ⟨_, rfl⟩
      have b3 : 0 ≤ v3 ∧ v3 ≤ 1 := by rw [← e3]; exact (CI.r hC_M k2.2 (by decide) 0)
      refine jr.getf (i := 0) (x := v3) (v := .int (Int32.ofInt (v3))) rfl rfl (Nat.lt_trans (kx_1 k2.2).1 (by decide)) (kx_1 k2.2).2 (by decide) rfl rfl e3 rfl ?_
      refine jr.if_eq rfl rfl (by omega) (fun h22 => ?_) (fun h22 => ?_)
      · refine jr.iinc rfl rfl (by decide) rfl ?_
        refine jr.goto rfl rfl ?_
        refine jr.pick [1, 2, 0, 3, 4] rfl rfl ?_
        exact ih (nM - 1) (by omega) M n (i + 1) hC_M ht_M (by omega) (by omega) (by omega) g_V (by rw [exL_s (by omega), if_pos (uC_0 (fun u => by rw [← hy1 _ 0 (kd_ne (by rw [k2.2]; decide)), e3] at u; omega))]; exact hy0) hy1 (by omega) (by omega)
      · refine jr.aload_n rfl rfl ?_
        have k4 : kd (V).toNat = 13 := by rcases (show V = 16 ∨ V = 17 by omega) with h | h <;> (rw [h]; rfl)
        refine jr.getf (i := 0) (x := V) (v := .ref (V.toNat)) rfl rfl (by decide) rfl (by decide) rfl rfl g_V rfl ?_
        refine jr.iload rfl rfl ?_
        have k5 := kxe_13 k4 (i := i) (by omega) (by omega)
        refine jr.aald (c := (xe ((V.toNat)) i)) rfl (Nat.lt_trans (kx_13 k4).1 (by decide)) (kx_13 k4).2 (by decide) (by decide) rfl (by decide) (by omega) (by omega) k5.1 ?_
        obtain ⟨v6, e6⟩ : ∃ z_, M ((xe ((V.toNat)) i)) 13 = z_ := ⟨_, rfl⟩
        have b6 : (-2147483648) ≤ v6 ∧ v6 ≤ 2147483647 := by rw [← e6]; exact (CI.r hC_M k5.2 (by decide) 13)
        refine jr.getf (i := 13) (x := v6) (v := .int (Int32.ofInt (v6))) rfl rfl (Nat.lt_trans (kx_1 k5.2).1 (by decide)) (kx_1 k5.2).2 (by decide) rfl rfl e6 rfl ?_
        refine jr.iconst rfl ?_
        refine jr.icmp_ne rfl rfl (by omega) (by omega) (fun h36 => ?_) (fun h36 => ?_)
        · refine jr.iinc rfl rfl (by decide) rfl ?_
          refine jr.goto rfl rfl ?_
          refine jr.pick [1, 2, 0, 3, 4] rfl rfl ?_
          exact ih (nM - 1) (by omega) M n (i + 1) hC_M ht_M (by omega) (by omega) (by omega) g_V (by rw [exL_s (by omega), if_pos (uC_0 (fun u => by rw [← hy1 _ 0 (kd_ne (by rw [k5.2]; decide)), ← hy1 _ 13 (kd_ne (by rw [k5.2]; decide)), e3, e6] at u; omega))]; exact hy0) hy1 (by omega) (by omega)
        · refine jr.aload_n rfl rfl ?_
          have k7 : kd (V).toNat = 13 := by rcases (show V = 16 ∨ V = 17 by omega) with h | h <;> (rw [h]; rfl)
          refine jr.getf (i := 0) (x := V) (v := .ref (V.toNat)) rfl rfl (by decide) rfl (by decide) rfl rfl g_V rfl ?_
          refine jr.iload rfl rfl ?_
          have k8 := kxe_13 k7 (i := i) (by omega) (by omega)
          refine jr.aald (c := (xe ((V.toNat)) i)) rfl (Nat.lt_trans (kx_13 k7).1 (by decide)) (kx_13 k7).2 (by decide) (by decide) rfl (by decide) (by omega) (by omega) k8.1 ?_
          refine jr.aload_n rfl rfl ?_
          refine jr.iload_n rfl rfl ?_
          refine jr.iload_n rfl rfl ?_
          refine jr_v rfl rfl (Or.inl rfl) rfl rfl (Nat.lt_trans (kx_1 k8.2).1 (by decide)) (kx_1 k8.2).2 ⟨rfl, Nat.le_of_ble_eq_true rfl, Nat.le_of_ble_eq_true rfl⟩ rfl (jc.deep (c_Flow_layRow_x hC_M (FR.rfl _ M) k8.2 (by omega) (by omega) rfl (fun M9 hC_M9 hf_M9 w9_0 => ?_)) (by decide))
          have ht_M9 : FR W_c_Flows_layTable_x T M9 := FR.t ht_M hf_M9 (kw_sub rfl)
          refine jr.iinc rfl rfl (by decide) rfl ?_
          refine jr.iinc rfl rfl (by decide) rfl ?_
          refine jr.goto rfl rfl ?_
          have e10 : M9 15 0 = V := (hf_M9.g (show kd 15 = 9 from rfl) rfl).trans g_V
          refine jr.pick [2, 1, 0, 3, 4] rfl rfl ?_
          exact ih (nM - 1) (by omega) M9 (n + 48) (i + 1) hC_M9 ht_M9 (by omega) (by omega) (by omega) e10 (by rw [exL_s (by omega), if_neg (by rw [uC_1 ⟨by rw [← hy1 _ 0 (kd_ne (by rw [k8.2]; decide)), e3]; omega, by rw [← hy1 _ 13 (kd_ne (by rw [k8.2]; decide)), e6]; omega⟩]; decide)]; exact ⟨by rw [w9_0.1, rcB_e hy1 (by have q := xfl (V := V) (i := i) (by omega) (by omega); omega), hy0.1, hy0.2]; rfl, by rw [hy0.2]⟩) (fun b k hb => (w9_0.2 b k hb).trans (hy1 b k hb)) (by omega) (by omega)
theorem c_Flows_layTable_x {A : Nat → Option (Nat × (Nat → Int32))} {Q : Option Value → jm → Prop} {T : jm} {M : jm} (hC_M : CI M) (ht_M : FR W_c_Flows_layTable_x T M) {y : Int} (h_y : 0 ≤ y ∧ y ≤ 2000000000) {V : Int} (g_V : M 15 0 = V) (p0 : T = M) (q : ∀ (r : Int) (M' : jm), CI M' → FR W_c_Flows_layTable_x T M' → 0 ≤ r ∧ r ≤ 1152 → ((M' 1 = (exL (uC T V.toNat) (bC T V.toNat y) (T 1) 24).1 ∧ r = (exL (uC T V.toNat) (bC T V.toNat y) (T 1) 24).2) ∧ ∀ (b : Nat) (k : Int), b ≠ 1 → M' b k = T b k) → Q (some (.int (Int32.ofInt r))) M') : jc A 4 83 [.ref (15), .ref (1), .int (Int32.ofInt (y))] M Q := by
  refine jc_of (m := xm_83) rfl (Nat.le_of_ble_eq_true rfl) rfl ?_
  have b_V : 16 ≤ V ∧ V ≤ 17 := by rw [← g_V]; exact (CI.r hC_M (show kd 15 = 9 from rfl) (by decide) 0)
  refine jr.iconst rfl ?_
  refine jr.istore_n rfl (by decide) rfl ?_
  refine jr.iconst rfl ?_
  refine jr.istore rfl (by decide) rfl ?_
  refine jr.pick [4, 1, 0, 2, 3] rfl rfl ?_
  exact c_Flows_layTable_x_L5  q 24 M 0 0 hC_M ht_M (by omega) (by omega) (by omega) g_V ⟨by rw [p0]; rfl, rfl⟩ (fun b k _ => by rw [p0]) (by omega) (by omega)
def W_c_PacketWall_export_x : List (Nat × Nat) := [(35, 1), (43, 1000)]
theorem c_PacketWall_export_x {A : Nat → Option (Nat × (Nat → Int32))} {Q : Option Value → jm → Prop} {T : jm} {M : jm} (hC_M : CI M) (ht_M : FR W_c_PacketWall_export_x T M) {Z : Int} (g_Z : M 0 8 = Z) {V : Int} (g_V : M 15 0 = V) (p0 : T = M) (p1 : 0 ≤ Z ∧ Z ≤ 2000000000) (q : ∀ (r : Int) (M' : jm), CI M' → FR W_c_PacketWall_export_x T M' → 0 ≤ r ∧ r ≤ 1152 → ((M' 1 = (exL (uC T V.toNat) (bC T V.toNat Z) (T 1) 24).1 ∧ r = (exL (uC T V.toNat) (bC T V.toNat Z) (T 1) 24).2) ∧ M' 0 1 = r ∧ (∀ k : Int, k ≠ 1 → M' 0 k = T 0 k) ∧ ∀ (b : Nat) (k : Int), b ≠ 0 → b ≠ 1 → M' b k = T b k) → Q (some (.int (Int32.ofInt r))) M') : jc A 5 37 [.ref (0)] M Q := by
  refine jc_of (m := xm_37) rfl (Nat.le_of_ble_eq_true rfl) rfl ?_
  have b_Z : (-2147483648) ≤ Z ∧ Z ≤ 2147483647 := by rw [← g_Z]; exact (CI.r hC_M (show kd 0 = 35 from rfl) (by decide) 8)
  have b_V : 16 ≤ V ∧ V ≤ 17 := by rw [← g_V]; exact (CI.r hC_M (show kd 15 = 9 from rfl) (by decide) 0)
  refine jr.aload_n rfl rfl ?_
  refine jr.aload_n rfl rfl ?_
  refine jr.getf (i := 9) (v := .ref 15) rfl rfl (by decide) rfl (by decide) rfl rfl rfl rfl ?_
  refine jr.aload_n rfl rfl ?_
  refine jr.getf (i := 0) (v := .ref 1) rfl rfl (by decide) rfl (by decide) rfl rfl rfl rfl ?_
  refine jr.aload_n rfl rfl ?_
  refine jr.getf (i := 8) (x := Z) (v := .int (Int32.ofInt (Z))) rfl rfl (by decide) rfl (by decide) rfl rfl g_Z rfl ?_
  refine jr_v rfl rfl (Or.inl rfl) rfl rfl (by decide) rfl ⟨rfl, Nat.le_of_ble_eq_true rfl, Nat.le_of_ble_eq_true rfl⟩ rfl (jc.deep (c_Flows_layTable_x hC_M (FR.rfl _ M) (by omega) g_V rfl (fun r1 M1 hC_M1 hf_M1 z1 w1_0 => ?_)) (by decide))
  have ht_M1 : FR W_c_PacketWall_export_x T M1 := FR.t ht_M hf_M1 (kw_sub rfl)
  refine jr.putf (i := 1) (x := r1) rfl rfl (by decide) rfl (by decide) rfl rfl rfl rfl rfl ?_
  refine jr.aload_n rfl rfl ?_
  refine jr.getf (i := 1) (x := r1) (v := .int (Int32.ofInt (r1))) rfl rfl (by decide) rfl (by decide) rfl rfl (ju_same _ _ _ _) rfl ?_
  exact jr.ireturn rfl rfl rfl (q _ _ (CI.u hC_M1 (i := 1) (show kd 0 = 35 from rfl) (show (0 : Int) ≤ _ ∧ _ ≤ (1600 : Int) from by omega) rfl) (FR.o ht_M1 (show kd 0 = 35 from rfl) rfl) (by omega) (by rw [p0]; exact ⟨⟨by rw [ju1_row (by decide)]; exact w1_0.1.1, w1_0.1.2⟩, ju_same _ _ _ _, fun k hk => by rw [ju_i _ _ hk]; exact w1_0.2 0 k (by decide), fun b k h0 h1 => by rw [ju_c _ _ h0]; exact w1_0.2 b k h1⟩))
