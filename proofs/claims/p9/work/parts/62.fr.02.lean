section
/-! ===== numbers of bytes ===== -/
theorem jl_sho {n b : Int} (hn : 0 ≤ n ∧ n < 140737488355328) (hb : 0 ≤ b ∧ b < 256) : jl_or (jl_shl n 8) b = n * 256 + b := by
  obtain ⟨n, rfl⟩ := Int.eq_ofNat_of_zero_le hn.1
  obtain ⟨b, rfl⟩ := Int.eq_ofNat_of_zero_le hb.1
  have hs : jl_shl (n : Int) 8 = ((n * 256 : Nat) : Int) := by
    unfold jl_shl
    have hN : (Int64.ofInt (n : Int) <<< ((Int32.ofInt 8).toInt64 &&& 63)).toBitVec.toNat = n * 256 := by
      rw [Int64.toBitVec_shiftLeft]
      show ((Int64.ofInt (n : Int)).toBitVec <<< (((Int32.ofInt ((8 : Nat) : Int)).toInt64 &&& 63).toBitVec.smod 64).toNat).toNat = _
      rw [jbl_sl 8 (by decide), BitVec.toNat_shiftLeft, jbl_tn, Nat.shiftLeft_eq]
      omega
    rw [jbl_ti, hN]
    split <;> omega
  rw [hs]
  unfold jl_or
  have hN : (Int64.ofInt ((n * 256 : Nat) : Int) ||| Int64.ofInt (b : Int)).toBitVec.toNat = n * 256 + b := by
    rw [Int64.toBitVec_or, BitVec.toNat_or, jbl_tn, jbl_tn]
    rw [show (((n * 256 : Nat) : Int) % 18446744073709551616).toNat = 2 ^ 8 * n by omega, show ((b : Int) % 18446744073709551616).toNat = b by omega]
    rw [← Nat.two_pow_add_eq_or_of_lt (show b < 2 ^ 8 by omega)]
    omega
  rw [jbl_ti, hN]
  split <;> omega
theorem j_sho {n b : Int} (hn : 0 ≤ n ∧ n < 65536) (hb : 0 ≤ b ∧ b < 256) : j_or (j_shl n 8) b = n * 256 + b := by
  obtain ⟨n, rfl⟩ := Int.eq_ofNat_of_zero_le hn.1
  obtain ⟨b, rfl⟩ := Int.eq_ofNat_of_zero_le hb.1
  have hs : j_shl (n : Int) 8 = ((n * 256 : Nat) : Int) := by
    have := j_shl_ex (x := (n : Int)) 8 (by decide) (by omega) (by omega)
    rw [show ((8 : Nat) : Int) = 8 from rfl] at this
    rw [this]
    omega
  rw [hs]
  unfold j_or
  have hN : (Int32.ofInt ((n * 256 : Nat) : Int) ||| Int32.ofInt (b : Int)).toBitVec.toNat = n * 256 + b := by
    rw [Int32.toBitVec_or, BitVec.toNat_or, jb_tn, jb_tn]
    rw [show (((n * 256 : Nat) : Int) % 4294967296).toNat = 2 ^ 8 * n by omega, show ((b : Int) % 4294967296).toNat = b by omega]
    rw [← Nat.two_pow_add_eq_or_of_lt (show b < 2 ^ 8 by omega)]
    omega
  rw [jb_ti, hN]
  split <;> omega
noncomputable def nbs (f : Int → Int) (y : Int) : Nat → Int
  | 0 => 0
  | k + 1 => nbs f y k * 256 + f (y + k)
theorem nbs_s {f : Int → Int} {y i : Int} (h : y ≤ i) : nbs f y (i + 1 - y).toNat = nbs f y (i - y).toNat * 256 + f i := by
  obtain ⟨n, hn⟩ : ∃ n : Nat, i = y + n := ⟨(i - y).toNat, by omega⟩
  subst hn
  rw [show (y + (n : Int) + 1 - y).toNat = n + 1 by omega, show (y + (n : Int) - y).toNat = n by omega]
  rfl
theorem nbs_0 (f : Int → Int) (y : Int) : nbs f y (y - y).toNat = 0 := by
  rw [show (y - y).toNat = 0 by omega]
  rfl
theorem nbs_1 (f : Int → Int) (y : Int) : nbs f y 1 = f y := by
  show 0 * 256 + f (y + ((0 : Nat) : Int)) = f y
  rw [show y + ((0 : Nat) : Int) = y by omega]
  omega
theorem nbs_2 (f : Int → Int) (y : Int) : nbs f y 2 = f y * 256 + f (y + 1) := by
  show nbs f y 1 * 256 + f (y + ((1 : Nat) : Int)) = _
  rw [nbs_1]
  rfl
theorem c_PacketWall_numberAt_px_L5 {A : Nat → Option (Nat × (Nat → Int32))} {Q : Option Value → jm → Prop} {M : jm} (hC_M : CI M) {x : Nat} (k_x : kd x = 34) {y : Int} {z : Int} (q : ∀ (r : Int), (-9223372036854775808) ≤ r ∧ r ≤ 9223372036854775807 → (r = nbs (M x) y z.toNat ∧ 0 ≤ r ∧ r < 4294967296) → Q (some (.long (Int64.ofInt r))) M) : ∀ (nM : Nat) (n : Int) (i : Int), 0 ≤ y ∧ y ≤ 400 → 0 ≤ z ∧ z ≤ 4 → 0 ≤ n ∧ n ≤ 4294967295 → 0 ≤ i ∧ i ≤ 404 → (n = nbs (M x) y (i - y).toNat) → (y ≤ i ∧ i ≤ y + z ∧ y + z ≤ 400) → ((i = y ∧ n = 0) ∨ (i = y + 1 ∧ n < 256) ∨ (i = y + 2 ∧ n < 65536) ∨ (i = y + 3 ∧ n < 16777216) ∨ (i = y + 4 ∧ n < 4294967296)) → (∀ k : Int, 0 ≤ k → k < 400 → 0 ≤ M x k) → y + z - i ≤ nM → jr A 0 xm_52 5 [(1, .int (Int32.ofInt (y))), (2, .int (Int32.ofInt (z))), (3, .long (Int64.ofInt (n))), (5, .int (Int32.ofInt (i))), (0, .ref (x))] [] M Q := by
  intro nM
  induction nM using Nat.strongRecOn with
  | ind nM ih =>
    intro n i h_y h_z h_n h_i hy0 hy1 hy2 hy3 hm
    refine jr.iload rfl rfl ?_
    refine jr.iload_n rfl rfl ?_
    refine jr.iload_n rfl rfl ?_
    refine jr.iadd rfl ?_
    refine jr.icmp_ge rfl rfl (by omega) (by omega) (fun h10 => ?_) (fun h10 => ?_)
    · refine jr.lload_n rfl rfl ?_
      exact jr.lreturn rfl rfl (q _ (by omega) ⟨by rw [hy0, show i - y = z from by omega], by omega, by omega⟩)
    · refine jr.lload_n rfl rfl ?_
      refine jr.bipush rfl (by decide) ?_
      refine jr.lshl rfl ?_
      refine jr.iload rfl rfl ?_
      refine jr.if_lt rfl rfl (by omega) (fun h19 => ?_) (fun h19 => ?_)
      · exact absurd h19 (by omega)
      · refine jr.iload rfl rfl ?_
        refine jr.aload_n rfl rfl ?_
        refine jr.alen0 (x := 400) rfl (Nat.lt_trans (kx_34 k_x).1 (by decide)) (kx_34 k_x).2 rfl ?_
        refine jr.icmp_ge rfl rfl (by omega) (by omega) (fun h26 => ?_) (fun h26 => ?_)
        · refine jr.iconst rfl ?_
          refine jr.i2l rfl (by omega) ?_
          refine jr.lor rfl ?_
          have b1 : jl_or (jl_shl n 8) 0 = n * 256 + 0 := jl_sho (by omega) (by omega)
          generalize jl_or (jl_shl n 8) 0 = v1 at b1 ⊢
          refine jr.lstore_n rfl (by decide) rfl ?_
          refine jr.iinc rfl rfl (by decide) rfl ?_
          refine jr.goto rfl rfl ?_
          refine jr.pick [2, 3, 1, 0, 4] rfl rfl ?_
          exact ih (nM - 1) (by omega) v1 (i + 1) (by omega) (by omega) (by omega) (by omega) (by rw [nbs_s (by omega), ← hy0]; omega) (by omega) (by omega) hy3 (by omega)
        · refine jr.aload_n rfl rfl ?_
          refine jr.iload rfl rfl ?_
          obtain ⟨v2, e2⟩ : ∃ z_, M x i = z_ := ⟨_, rfl⟩
          have b2 : (-1) ≤ v2 ∧ v2 ≤ 255 := by rw [← e2]; exact (CI.r hC_M k_x (by decide) i)
          refine jr.iald (i := i) (x := v2) rfl (Nat.lt_trans (kx_34 k_x).1 (by decide)) (kx_34 k_x).2 (by decide) (by omega) (by omega) e2 ?_
          have hb0 := hy3 i (by omega) (by omega)
          refine jr.goto rfl rfl ?_
          refine jr.i2l rfl (by omega) ?_
          refine jr.lor rfl ?_
          have b3 : jl_or (jl_shl n 8) v2 = n * 256 + v2 := jl_sho (by omega) (by omega)
          generalize jl_or (jl_shl n 8) v2 = v3 at b3 ⊢
          refine jr.lstore_n rfl (by decide) rfl ?_
          refine jr.iinc rfl rfl (by decide) rfl ?_
          refine jr.goto rfl rfl ?_
          refine jr.pick [2, 3, 1, 0, 4] rfl rfl ?_
          exact ih (nM - 1) (by omega) v3 (i + 1) (by omega) (by omega) (by omega) (by omega) (by rw [nbs_s (by omega), ← hy0]; omega) (by omega) (by omega) hy3 (by omega)
theorem c_PacketWall_numberAt_px {A : Nat → Option (Nat × (Nat → Int32))} {Q : Option Value → jm → Prop} {M : jm} (hC_M : CI M) {x : Nat} (k_x : kd x = 34) {y : Int} (h_y : 0 ≤ y ∧ y ≤ 400) {z : Int} (h_z : 0 ≤ z ∧ z ≤ 4) (p0 : y + z ≤ 400) (p1 : ∀ k : Int, 0 ≤ k → k < 400 → 0 ≤ M x k) (q : ∀ (r : Int), (-9223372036854775808) ≤ r ∧ r ≤ 9223372036854775807 → (r = nbs (M x) y z.toNat ∧ 0 ≤ r ∧ r < 4294967296) → Q (some (.long (Int64.ofInt r))) M) : jc A 1 52 [.ref (x), .int (Int32.ofInt (y)), .int (Int32.ofInt (z))] M Q := by
  refine jc_of (m := xm_52) rfl (Nat.le_of_ble_eq_true rfl) rfl ?_
  refine jr.lconst (x := 0) rfl (by decide) ?_
  refine jr.lstore_n rfl (by decide) rfl ?_
  refine jr.iload_n rfl rfl ?_
  refine jr.istore rfl (by decide) rfl ?_
  refine jr.pick [3, 4, 1, 0, 2] rfl rfl ?_
  exact c_PacketWall_numberAt_px_L5 hC_M k_x q 4 0 y (by omega) (by omega) (by omega) (by omega) (nbs_0 _ _).symm (by omega) (by omega) p1 (by omega)
end
section
/-! ===== headers: what a step finds ===== -/
noncomputable def hb (f : Int → Int) (n i : Int) : Int := if 0 ≤ i ∧ i < n then f i else 0
noncomputable def tw (f : Int → Int) (i : Int) : Int := f i * 256 + f (i + 1)
noncomputable def hls (k : Int) : Int := if k = 0 ∨ k = 1 ∨ k = 10 then 4 else if k = 2 ∨ k = 8 then 20 else if k = 3 then 24 else if k = 4 ∨ k = 5 then 2 else if k = 11 then 1 else 8
theorem hls_c0 : ∀ j : Nat, j < 12 → (xv_1.getD j 0).toInt = hls (j : Int) := by decide +kernel
theorem hls_c {k : Int} (h0 : 0 ≤ k) (h1 : k < 12) : xcv_1 k = hls k := by
  have q := hls_c0 k.toNat (by omega)
  rw [Int.toNat_of_nonneg h0] at q
  exact q
theorem hls_r (k : Int) : 1 ≤ hls k ∧ hls k ≤ 24 := by
  unfold hls
  repeat' split
  all_goals omega
/-- the bytes of a packet's row -/
noncomputable def BY8 (M : jm) (c : Nat) (f : Int → Int) : Prop := ∀ i : Int, 0 ≤ i → i < 400 → M c i = f i ∧ 0 ≤ f i ∧ f i ≤ 255
theorem BY8.fr {W : List (Nat × Nat)} {T M : jm} {c : Nat} {f : Int → Int} (h : BY8 T c f) (hk : kd c = 34) (hf : FR W T M) (h1 : ksep W [(34, 1000)] = true) : BY8 M c f := fun i h0 h2 => by
  rw [hf.s h1 hk 1000 (by decide) i (Or.inl rfl)]
  exact h i h0 h2
noncomputable def hsZ (f : Int → Int) (n k a : Int) : Int := if k = 2 then 4 * (hb f n a % 16) else if k = 8 then 4 * (hb f n (a + 12) / 16) else if k = 4 ∨ k = 5 then 8 * hb f n (a + 1) + 8 else if k = 11 then n - a else hls k
noncomputable def hsM (bk k : Int) : Prop := (k = 4 ∧ bk ≠ 3) ∨ ((k = 6 ∨ k = 5) ∧ bk ≠ 3 ∧ bk ≠ 4 ∧ bk ≠ 5)
noncomputable def hsT (f : Int → Int) (n k a : Int) : Prop := (k = 2 ∧ tw f (a + 2) ≠ n - a) ∨ (k = 3 ∧ tw f (a + 2) ≠ n - a - 24) ∨ (k = 9 ∧ tw f (a + 4) ≠ n - a)
theorem c_Packet_byteAt_h {A : Nat → Option (Nat × (Nat → Int32))} {Q : Option Value → jm → Prop} {f : Int → Int} {M : jm} (hC_M : CI M) {t : Nat} (k_t : kd t = 33) {x : Int} (h_x : (-2147483648) ≤ x ∧ x ≤ 2147483647) {N : Int} (g_N : M t 1 = N) (p0 : BY8 M (t + 1) f) (q : ∀ (r : Int), (-1) ≤ r ∧ r ≤ 255 → (r = hb f N x ∧ 0 ≤ r) → Q (some (.int (Int32.ofInt r))) M) : jc A 1 192 [.ref (t), .int (Int32.ofInt (x))] M Q := by
  have k_by : kd (t + 1) = 34 := (kf_33_0 k_t).2
  refine jc_of (m := xm_192) rfl (Nat.le_of_ble_eq_true rfl) rfl ?_
  have b_N : (-1) ≤ N ∧ N ≤ 400 := by rw [← g_N]; exact (CI.r hC_M k_t (by decide) 1)
  refine jr.iload_n rfl rfl ?_
  refine jr.if_lt rfl rfl (by omega) (fun h1 => ?_) (fun h1 => ?_)
  · refine jr.iconst rfl ?_
    exact jr.ireturn rfl rfl rfl (q _ (by omega) (by first | (have hq := p0 x (by omega) (by omega); unfold hb; rw [if_pos (by omega)]; omega) | (unfold hb; rw [if_neg (by omega)]; omega)))
  · refine jr.iload_n rfl rfl ?_
    refine jr.aload_n rfl rfl ?_
    refine jr.getf (i := 1) (x := N) (v := .int (Int32.ofInt (N))) rfl rfl (Nat.lt_trans (kx_33 k_t).1 (by decide)) (kx_33 k_t).2 (by decide) rfl rfl g_N rfl ?_
    refine jr.icmp_ge rfl rfl (by omega) (by omega) (fun h9 => ?_) (fun h9 => ?_)
    · refine jr.iconst rfl ?_
      exact jr.ireturn rfl rfl rfl (q _ (by omega) (by first | (have hq := p0 x (by omega) (by omega); unfold hb; rw [if_pos (by omega)]; omega) | (unfold hb; rw [if_neg (by omega)]; omega)))
    · refine jr.aload_n rfl rfl ?_
      have k1 := kf_33_0 k_t
      refine jr.getf (i := 0) (v := .ref (t + 1)) rfl rfl (Nat.lt_trans (kx_33 k_t).1 (by decide)) (kx_33 k_t).2 (by decide) rfl rfl rfl (jval_ref rfl k1.1) ?_
      refine jr.iload_n rfl rfl ?_
      obtain ⟨v2, e2⟩ : ∃ z_, M ((t + 1)) x = z_ := ⟨_, rfl⟩
      have b2 : (-1) ≤ v2 ∧ v2 ≤ 255 := by rw [← e2]; exact (CI.r hC_M k1.2 (by decide) x)
      refine jr.iald (i := x) (x := v2) rfl (Nat.lt_trans (kx_34 k1.2).1 (by decide)) (kx_34 k1.2).2 (by decide) (by omega) (by omega) e2 ?_
      refine jr.goto rfl rfl ?_
      exact jr.ireturn rfl rfl rfl (q _ (by omega) (by first | (have hq := p0 x (by omega) (by omega); unfold hb; rw [if_pos (by omega)]; omega) | (unfold hb; rw [if_neg (by omega)]; omega)))
theorem c_Packet_numberFrom_h {A : Nat → Option (Nat × (Nat → Int32))} {Q : Option Value → jm → Prop} {f : Int → Int} {M : jm} (hC_M : CI M) {t : Nat} (k_t : kd t = 33) {x : Int} (h_x : 0 ≤ x ∧ x ≤ 398) (p0 : BY8 M (t + 1) f) (q : ∀ (r : Int), 0 ≤ r ∧ r ≤ 65535 → (r = tw f x ∧ 0 ≤ r ∧ r ≤ 65535) → Q (some (.long (Int64.ofInt r))) M) : jc A 2 193 [.ref (t), .int (Int32.ofInt (x)), .int (Int32.ofInt (2))] M Q := by
  have k_by : kd (t + 1) = 34 := (kf_33_0 k_t).2
  refine jc_of (m := xm_193) rfl (Nat.le_of_ble_eq_true rfl) rfl ?_
  refine jr.aload_n rfl rfl ?_
  have k1 := kf_33_0 k_t
  refine jr.getf (i := 0) (v := .ref (t + 1)) rfl rfl (Nat.lt_trans (kx_33 k_t).1 (by decide)) (kx_33 k_t).2 (by decide) rfl rfl rfl (jval_ref rfl k1.1) ?_
  refine jr.iload_n rfl rfl ?_
  refine jr.iload_n rfl rfl ?_
  refine jr_s rfl rfl (Or.inr rfl) ⟨Nat.le_of_ble_eq_true rfl, Nat.le_of_ble_eq_true rfl⟩ rfl rfl (jc.deep (c_PacketWall_numberAt_px hC_M k1.2 (by omega) (by omega) (by omega) (fun k h0 h1 => by have hq := p0 k h0 h1; omega) (fun r2 z2 w2_0 => ?_)) (by decide))
  have hv2 : 0 ≤ r2 ∧ r2 ≤ 65535 := (by have h1 := w2_0; have h2 := p0 x (by omega) (by omega); have h3 := p0 (x + 1) (by omega) (by omega); rw [show (2 : Int).toNat = 2 from rfl, nbs_2] at h1; omega)
  exact jr.lreturn rfl rfl (q _ (by omega) (by have h1 := w2_0; have h2 := p0 x (by omega) (by omega); have h3 := p0 (x + 1) (by omega) (by omega); rw [show (2 : Int).toNat = 2 from rfl, nbs_2] at h1; unfold tw; omega))
theorem c_Headers_fullSize_x {A : Nat → Option (Nat × (Nat → Int32))} {Q : Option Value → jm → Prop} {f : Int → Int} {M : jm} (hC_M : CI M) {t : Nat} (k_t : kd t = 18) {x : Int} (h_x : 0 ≤ x ∧ x ≤ 11) {y : Int} (h_y : 0 ≤ y ∧ y ≤ 400) {S : Int} (g_S : M t 7 = S) {N : Int} (g_N : M ((S.toNat)) 1 = N) (p0 : BY8 M (S.toNat + 1) f) (q : ∀ (r : Int), (-401) ≤ r ∧ r ≤ 2048 → (r = hsZ f N x y) → Q (some (.int (Int32.ofInt r))) M) : jc A 2 130 [.ref (t), .int (Int32.ofInt (x)), .int (Int32.ofInt (y))] M Q := by
  refine jc_of (m := xm_130) rfl (Nat.le_of_ble_eq_true rfl) rfl ?_
  have k_S : kd S.toNat = 33 := (congrArg (fun z : Int => kd z.toNat) g_S).symm.trans (CI.x hC_M k_t 7 rfl (by decide))
  have b_N : (-1) ≤ N ∧ N ≤ 400 := by rw [← g_N]; exact (CI.r hC_M k_S (by decide) 1)
  have k_by : kd (S.toNat + 1) = 34 := (kf_33_0 k_S).2
  refine jr.iload_n rfl rfl ?_
  rcases (show x = 2 ∨ x = 3 ∨ x = 4 ∨ x = 5 ∨ x = 6 ∨ x = 7 ∨ x = 8 ∨ x = 9 ∨ x = 10 ∨ x = 11 ∨ (x ≠ 2 ∧ x ≠ 3 ∧ x ≠ 4 ∧ x ≠ 5 ∧ x ≠ 6 ∧ x ≠ 7 ∧ x ≠ 8 ∧ x ≠ 9 ∧ x ≠ 10 ∧ x ≠ 11) by omega) with h1 | h1 | h1 | h1 | h1 | h1 | h1 | h1 | h1 | h1 | h1
  · refine jr.tsw_k 2 rfl h1 rfl ?_
    refine jr.iconst rfl ?_
    refine jr.aload_n rfl rfl ?_
    refine jr.getf (i := 7) (x := S) (v := .ref (S.toNat)) rfl rfl (Nat.lt_trans (kx_18 k_t).1 (by decide)) (kx_18 k_t).2 (by decide) rfl rfl g_S (jval_mut rfl (kn_18_7 k_t)) ?_
    refine jr.iload_n rfl rfl ?_
    refine jr_v rfl rfl (Or.inl rfl) rfl rfl (Nat.lt_trans (kx_33 k_S).1 (by decide)) (kx_33 k_S).2 ⟨rfl, Nat.le_of_ble_eq_true rfl, Nat.le_of_ble_eq_true rfl⟩ rfl (jc.deep (c_Packet_byteAt_h hC_M k_S (by omega) g_N p0 (fun r2 z2 w2_0 => ?_)) (by decide))
    refine jr.bipush rfl (by decide) ?_
    refine jr.iand rfl ?_
    have b3 : j_and r2 15 = r2 % 16 := j_and_m 4 (by decide) _
    generalize j_and r2 15 = v3 at b3 ⊢
    refine jr.imul rfl ?_
    exact jr.ireturn rfl rfl rfl (q _ (by omega) (by unfold hsZ; (repeat' split) <;> omega))
  · refine jr.tsw_k 3 rfl h1 rfl ?_
    refine jr.gst (v := .ref 1000001) rfl rfl ?_
    refine jr.iload_n rfl rfl ?_
    obtain ⟨v4, e4⟩ : ∃ z_, xcv_1 x = z_ := ⟨_, rfl⟩
    have b4 : 1 ≤ v4 ∧ v4 ≤ 24 := by rw [← e4]; exact xcr_1 (by omega) (by omega)
    refine jr.ials (i := x) v4 rfl (by decide) rfl (by decide) (by omega) (by omega) (by rw [← e4]; exact (Int32.ofInt_toInt _).symm) ?_
    have hl1 := hls_c (k := x) (by omega) (by omega)
    exact jr.ireturn rfl rfl rfl (q _ (by omega) (by unfold hsZ; (repeat' split) <;> omega))
  · refine jr.tsw_k 4 rfl h1 rfl ?_
    refine jr.bipush rfl (by decide) ?_
    refine jr.aload_n rfl rfl ?_
    refine jr.getf (i := 7) (x := S) (v := .ref (S.toNat)) rfl rfl (Nat.lt_trans (kx_18 k_t).1 (by decide)) (kx_18 k_t).2 (by decide) rfl rfl g_S (jval_mut rfl (kn_18_7 k_t)) ?_
    refine jr.iload_n rfl rfl ?_
    refine jr.iconst rfl ?_
    refine jr.iadd rfl ?_
    refine jr_v rfl rfl (Or.inl rfl) rfl rfl (Nat.lt_trans (kx_33 k_S).1 (by decide)) (kx_33 k_S).2 ⟨rfl, Nat.le_of_ble_eq_true rfl, Nat.le_of_ble_eq_true rfl⟩ rfl (jc.deep (c_Packet_byteAt_h hC_M k_S (by omega) g_N p0 (fun r6 z6 w6_0 => ?_)) (by decide))
    refine jr.imul rfl ?_
    refine jr.bipush rfl (by decide) ?_
    refine jr.iadd rfl ?_
    exact jr.ireturn rfl rfl rfl (q _ (by omega) (by unfold hsZ; (repeat' split) <;> omega))
  · refine jr.tsw_k 5 rfl h1 rfl ?_
    refine jr.bipush rfl (by decide) ?_
    refine jr.aload_n rfl rfl ?_
    refine jr.getf (i := 7) (x := S) (v := .ref (S.toNat)) rfl rfl (Nat.lt_trans (kx_18 k_t).1 (by decide)) (kx_18 k_t).2 (by decide) rfl rfl g_S (jval_mut rfl (kn_18_7 k_t)) ?_
    refine jr.iload_n rfl rfl ?_
    refine jr.iconst rfl ?_
    refine jr.iadd rfl ?_
    refine jr_v rfl rfl (Or.inl rfl) rfl rfl (Nat.lt_trans (kx_33 k_S).1 (by decide)) (kx_33 k_S).2 ⟨rfl, Nat.le_of_ble_eq_true rfl, Nat.le_of_ble_eq_true rfl⟩ rfl (jc.deep (c_Packet_byteAt_h hC_M k_S (by omega) g_N p0 (fun r8 z8 w8_0 => ?_)) (by decide))
    refine jr.imul rfl ?_
    refine jr.bipush rfl (by decide) ?_
    refine jr.iadd rfl ?_
    exact jr.ireturn rfl rfl rfl (q _ (by omega) (by unfold hsZ; (repeat' split) <;> omega))
  · refine jr.tsw_k 6 rfl h1 rfl ?_
    refine jr.gst (v := .ref 1000001) rfl rfl ?_
    refine jr.iload_n rfl rfl ?_
    obtain ⟨v9, e9⟩ : ∃ z_, xcv_1 x = z_ := ⟨_, rfl⟩
    have b9 : 1 ≤ v9 ∧ v9 ≤ 24 := by rw [← e9]; exact xcr_1 (by omega) (by omega)
    refine jr.ials (i := x) v9 rfl (by decide) rfl (by decide) (by omega) (by omega) (by rw [← e9]; exact (Int32.ofInt_toInt _).symm) ?_
    have hl1 := hls_c (k := x) (by omega) (by omega)
    exact jr.ireturn rfl rfl rfl (q _ (by omega) (by unfold hsZ; (repeat' split) <;> omega))
  · refine jr.tsw_k 7 rfl h1 rfl ?_
    refine jr.gst (v := .ref 1000001) rfl rfl ?_
    refine jr.iload_n rfl rfl ?_
    obtain ⟨v10, e10⟩ : ∃ z_, xcv_1 x = z_ := ⟨_, rfl⟩
    have b10 : 1 ≤ v10 ∧ v10 ≤ 24 := by rw [← e10]; exact xcr_1 (by omega) (by omega)
    refine jr.ials (i := x) v10 rfl (by decide) rfl (by decide) (by omega) (by omega) (by rw [← e10]; exact (Int32.ofInt_toInt _).symm) ?_
    have hl1 := hls_c (k := x) (by omega) (by omega)
    exact jr.ireturn rfl rfl rfl (q _ (by omega) (by unfold hsZ; (repeat' split) <;> omega))
  · refine jr.tsw_k 8 rfl h1 rfl ?_
    refine jr.iconst rfl ?_
    refine jr.aload_n rfl rfl ?_
    refine jr.getf (i := 7) (x := S) (v := .ref (S.toNat)) rfl rfl (Nat.lt_trans (kx_18 k_t).1 (by decide)) (kx_18 k_t).2 (by decide) rfl rfl g_S (jval_mut rfl (kn_18_7 k_t)) ?_
    refine jr.iload_n rfl rfl ?_
    refine jr.bipush rfl (by decide) ?_
    refine jr.iadd rfl ?_
    refine jr_v rfl rfl (Or.inl rfl) rfl rfl (Nat.lt_trans (kx_33 k_S).1 (by decide)) (kx_33 k_S).2 ⟨rfl, Nat.le_of_ble_eq_true rfl, Nat.le_of_ble_eq_true rfl⟩ rfl (jc.deep (c_Packet_byteAt_h hC_M k_S (by omega) g_N p0 (fun r12 z12 w12_0 => ?_)) (by decide))
    refine jr.iconst rfl ?_
    refine jr.ishr rfl ?_
    have b13 : j_shr r12 4 = r12 / 16 := j_shr_ex 4 (by decide) (by omega) (by omega)
    generalize j_shr r12 4 = v13 at b13 ⊢
    refine jr.imul rfl ?_
    exact jr.ireturn rfl rfl rfl (q _ (by omega) (by unfold hsZ; (repeat' split) <;> omega))
  · refine jr.tsw_k 9 rfl h1 rfl ?_
    refine jr.gst (v := .ref 1000001) rfl rfl ?_
    refine jr.iload_n rfl rfl ?_
    obtain ⟨v14, e14⟩ : ∃ z_, xcv_1 x = z_ := ⟨_, rfl⟩
    have b14 : 1 ≤ v14 ∧ v14 ≤ 24 := by rw [← e14]; exact xcr_1 (by omega) (by omega)
    refine jr.ials (i := x) v14 rfl (by decide) rfl (by decide) (by omega) (by omega) (by rw [← e14]; exact (Int32.ofInt_toInt _).symm) ?_
    have hl1 := hls_c (k := x) (by omega) (by omega)
    exact jr.ireturn rfl rfl rfl (q _ (by omega) (by unfold hsZ; (repeat' split) <;> omega))
  · refine jr.tsw_k 10 rfl h1 rfl ?_
    refine jr.gst (v := .ref 1000001) rfl rfl ?_
    refine jr.iload_n rfl rfl ?_
    obtain ⟨v15, e15⟩ : ∃ z_, xcv_1 x = z_ := ⟨_, rfl⟩
    have b15 : 1 ≤ v15 ∧ v15 ≤ 24 := by rw [← e15]; exact xcr_1 (by omega) (by omega)
    refine jr.ials (i := x) v15 rfl (by decide) rfl (by decide) (by omega) (by omega) (by rw [← e15]; exact (Int32.ofInt_toInt _).symm) ?_
    have hl1 := hls_c (k := x) (by omega) (by omega)
    exact jr.ireturn rfl rfl rfl (q _ (by omega) (by unfold hsZ; (repeat' split) <;> omega))
  · refine jr.tsw_k 11 rfl h1 rfl ?_
    refine jr.aload_n rfl rfl ?_
    refine jr.getf (i := 7) (x := S) (v := .ref (S.toNat)) rfl rfl (Nat.lt_trans (kx_18 k_t).1 (by decide)) (kx_18 k_t).2 (by decide) rfl rfl g_S (jval_mut rfl (kn_18_7 k_t)) ?_
    refine jr.getf (i := 1) (x := N) (v := .int (Int32.ofInt (N))) rfl rfl (Nat.lt_trans (kx_33 k_S).1 (by decide)) (kx_33 k_S).2 (by decide) rfl rfl g_N rfl ?_
    refine jr.iload_n rfl rfl ?_
    refine jr.isub rfl ?_
    exact jr.ireturn rfl rfl rfl (q _ (by omega) (by unfold hsZ; (repeat' split) <;> omega))
  · refine jr.tsw_d rfl (by omega) (by omega) rfl ?_
    refine jr.gst (v := .ref 1000001) rfl rfl ?_
    refine jr.iload_n rfl rfl ?_
    obtain ⟨v17, e17⟩ : ∃ z_, xcv_1 x = z_ := ⟨_, rfl⟩
    have b17 : 1 ≤ v17 ∧ v17 ≤ 24 := by rw [← e17]; exact xcr_1 (by omega) (by omega)
    refine jr.ials (i := x) v17 rfl (by decide) rfl (by decide) (by omega) (by omega) (by rw [← e17]; exact (Int32.ofInt_toInt _).symm) ?_
    have hl1 := hls_c (k := x) (by omega) (by omega)
    exact jr.ireturn rfl rfl rfl (q _ (by omega) (by unfold hsZ; (repeat' split) <;> omega))
noncomputable def bkf (g : Int → Int) (c : Int) : Int := if 1 ≤ c then g (c - 1) else -1
noncomputable def hsF (f : Int → Int) (n c bk k a : Int) : Int := if 12 ≤ c then 6 else if (k = 4 ∧ bk ≠ 3) ∨ ((k = 6 ∨ k = 5) ∧ bk ≠ 3 ∧ bk ≠ 4 ∧ bk ≠ 5) then 3 else if (k = 2 ∨ k = 3) ∧ n < a + 1 then 1 else if (k = 2 ∧ hb f n a / 16 ≠ 4) ∨ (k = 3 ∧ hb f n a / 16 ≠ 6) then 3 else if n < a + hls k then 1 else if (k = 2 ∨ k = 8) ∧ hsZ f n k a < 20 then 4 else if n < a + hsZ f n k a then 1 else if (k = 2 ∧ tw f (a + 2) ≠ n - a) ∨ (k = 3 ∧ tw f (a + 2) ≠ n - a - 24) ∨ (k = 9 ∧ tw f (a + 4) ≠ n - a) then 5 else 0
noncomputable def hsW (f : Int → Int) (n c bk k a : Int) : Int := if 12 ≤ c then a else if (k = 4 ∧ bk ≠ 3) ∨ ((k = 6 ∨ k = 5) ∧ bk ≠ 3 ∧ bk ≠ 4 ∧ bk ≠ 5) then a else if (k = 2 ∨ k = 3) ∧ n < a + 1 then n else if (k = 2 ∧ hb f n a / 16 ≠ 4) ∨ (k = 3 ∧ hb f n a / 16 ≠ 6) then a else if n < a + hls k then n else if (k = 2 ∨ k = 8) ∧ hsZ f n k a < 20 then (if k = 2 then a else a + 12) else if n < a + hsZ f n k a then n else (if k = 9 then a + 4 else a + 2)
noncomputable def W_c_Headers_find_x : List (Nat × Nat) := [(18, 4), (18, 5), (18, 6)]
theorem c_Headers_find_x {A : Nat → Option (Nat × (Nat → Int32))} {Q : Option Value → jm → Prop} {T : jm} {M : jm} (hC_M : CI M) (ht_M : FR W_c_Headers_find_x T M) {t : Nat} (k_t : kd t = 18) {x : Int} (h_x : (-2147483648) ≤ x ∧ x ≤ 2147483647) {y : Int} (h_y : (-2147483648) ≤ y ∧ y ≤ 2147483647) {z : Int} (h_z : (-2147483648) ≤ z ∧ z ≤ 2147483647) (q : ∀ (M' : jm), CI M' → FR W_c_Headers_find_x T M' → (M' t 4 = x) → (M' t 5 = y) → (M' t 6 = z) → Q none M') : jc A 1 125 [.ref (t), .int (Int32.ofInt (x)), .int (Int32.ofInt (y)), .int (Int32.ofInt (z))] M Q := by
  refine jc_of (m := xm_125) rfl (Nat.le_of_ble_eq_true rfl) rfl ?_
  refine jr.aload_n rfl rfl ?_
  refine jr.iload_n rfl rfl ?_
  refine jr.putf (i := 4) (x := x) rfl rfl (Nat.lt_trans (kx_18 k_t).1 (by decide)) (kx_18 k_t).2 (by decide) rfl rfl rfl rfl rfl ?_
  refine jr.aload_n rfl rfl ?_
  refine jr.iload_n rfl rfl ?_
  refine jr.putf (i := 5) (x := y) rfl rfl (Nat.lt_trans (kx_18 k_t).1 (by decide)) (kx_18 k_t).2 (by decide) rfl rfl rfl rfl rfl ?_
  refine jr.aload_n rfl rfl ?_
  refine jr.iload_n rfl rfl ?_
  refine jr.putf (i := 6) (x := z) rfl rfl (Nat.lt_trans (kx_18 k_t).1 (by decide)) (kx_18 k_t).2 (by decide) rfl rfl rfl rfl rfl ?_
  exact jr.vreturn rfl rfl (q _ (CI.u (CI.u (CI.u hC_M (i := 4) k_t (show (-2147483648 : Int) ≤ _ ∧ _ ≤ (2147483647 : Int) from by omega) rfl) (i := 5) k_t (show (-2147483648 : Int) ≤ _ ∧ _ ≤ (2147483647 : Int) from by omega) rfl) (i := 6) k_t (show (-2147483648 : Int) ≤ _ ∧ _ ≤ (2147483647 : Int) from by omega) rfl) (FR.o (FR.o (FR.o ht_M k_t rfl) k_t rfl) k_t rfl)  (by have hq0 : (ju (ju (ju M t 4 x) t 5 y) t 6 z) t 4 = x := ((ju_i _ _ (by decide)).trans ((ju_i _ _ (by decide)).trans (ju_same _ _ _ _))); omega) (by have hq0 : (ju (ju (ju M t 4 x) t 5 y) t 6 z) t 5 = y := ((ju_i _ _ (by decide)).trans (ju_same _ _ _ _)); omega) (by have hq0 : (ju (ju (ju M t 4 x) t 5 y) t 6 z) t 6 = z := (ju_same _ _ _ _); omega))
noncomputable def W_c_Headers_isCut_x : List (Nat × Nat) := [(18, 4), (18, 5), (18, 6)]
end
