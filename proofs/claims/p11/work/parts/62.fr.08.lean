section
/-! ===== numbers of bytes ===== -/
theorem jl_sho {n b : Int} (hn : 0 ≤ n ∧ n < 140737488355328) (hb : 0 ≤ b ∧ b < 256) : jl_or (jl_shl n 8) b = n * 256 + b := by
  obtain ⟨n, rfl⟩ := Int.eq_ofNat_of_zero_le hn.1
  obtain ⟨b, rfl⟩ := Int.eq_ofNat_of_zero_le hb.1
  have hs : jl_shl (n : Int) 8 = ((n * 256 : Nat) : Int) := by
    unfold jl_shl
    have hN : (Int64.ofInt (n : Int) <<< ((Int32.ofInt 8).toInt64 &&& 63)).toBitVec.toNat = n * 256 := by
      rw [Int64.toBitVec_shiftLeft]
      show ((Int64.ofInt (n : Int)).toBitVec <<< (((Int32.ofInt ((8 : Nat) : Int)).toInt64 &&& 63).toBitVec.smod 64).toNat).toNat = _
      rw [jbl_sl 8 (by decide), BitVec.toNat_shiftLeft, jbl_tn, Nat.shiftLeft_eq]
      omega
    rw [jbl_ti, hN]
    split <;> omega
  rw [hs]
  unfold jl_or
  have hN : (Int64.ofInt ((n * 256 : Nat) : Int) ||| Int64.ofInt (b : Int)).toBitVec.toNat = n * 256 + b := by
    rw [Int64.toBitVec_or, BitVec.toNat_or, jbl_tn, jbl_tn]
    rw [show (((n * 256 : Nat) : Int) % 18446744073709551616).toNat = 2 ^ 8 * n by omega, show ((b : Int) % 18446744073709551616).toNat = b by omega]
    rw [← Nat.two_pow_add_eq_or_of_lt (show b < 2 ^ 8 by omega)]
    omega
  rw [jbl_ti, hN]
  split <;> omega
theorem j_sho {n b : Int} (hn : 0 ≤ n ∧ n < 65536) (hb : 0 ≤ b ∧ b < 256) : j_or (j_shl n 8) b = n * 256 + b := by
  obtain ⟨n, rfl⟩ := Int.eq_ofNat_of_zero_le hn.1
  obtain ⟨b, rfl⟩ := Int.eq_ofNat_of_zero_le hb.1
  have hs : j_shl (n : Int) 8 = ((n * 256 : Nat) : Int) := by
    have := j_shl_ex (x := (n : Int)) 8 (by decide) (by omega) (by omega)
    rw [show ((8 : Nat) : Int) = 8 from rfl] at this
    rw [this]
    omega
  rw [hs]
  unfold j_or
  have hN : (Int32.ofInt ((n * 256 : Nat) : Int) ||| Int32.ofInt (b : Int)).toBitVec.toNat = n * 256 + b := by
    rw [Int32.toBitVec_or, BitVec.toNat_or, jb_tn, jb_tn]
    rw [show (((n * 256 : Nat) : Int) % 4294967296).toNat = 2 ^ 8 * n by omega, show ((b : Int) % 4294967296).toNat = b by omega]
    rw [← Nat.two_pow_add_eq_or_of_lt (show b < 2 ^ 8 by omega)]
    omega
  rw [jb_ti, hN]
  split <;> omega
noncomputable def nbs (f : Int → Int) (y : Int) : Nat → Int
  | 0 => 0
  | k + 1 => nbs f y k * 256 + f (y + k)
theorem nbs_s {f : Int → Int} {y i : Int} (h : y ≤ i) : nbs f y (i + 1 - y).toNat = nbs f y (i - y).toNat * 256 + f i := by
  obtain ⟨n, hn⟩ : ∃ n : Nat, i = y + n := ⟨(i - y).toNat, by omega⟩
  subst hn
  rw [show (y + (n : Int) + 1 - y).toNat = n + 1 by omega, show (y + (n : Int) - y).toNat = n by omega]
  rfl
theorem nbs_0 (f : Int → Int) (y : Int) : nbs f y (y - y).toNat = 0 := by
  rw [show (y - y).toNat = 0 by omega]
  rfl
theorem nbs_1 (f : Int → Int) (y : Int) : nbs f y 1 = f y := by
  show 0 * 256 + f (y + ((0 : Nat) : Int)) = f y
  rw [show y + ((0 : Nat) : Int) = y by omega]
  omega
theorem nbs_2 (f : Int → Int) (y : Int) : nbs f y 2 = f y * 256 + f (y + 1) := by
  show nbs f y 1 * 256 + f (y + ((1 : Nat) : Int)) = _
  rw [nbs_1]
  rfl
theorem c_PacketWall_numberAt_px_L5 {A : Nat → Option (Nat × (Nat → Int32))} {Q : Option Value → jm → Prop} {M : jm} (hC_M : CI M) {x : Nat} (k_x : kd x = 34) {y : Int} {z : Int} (q : ∀ (r : Int), (-9223372036854775808) ≤ r ∧ r ≤ 9223372036854775807 → (r = nbs (M x) y z.toNat ∧ 0 ≤ r ∧ r < 4294967296) → Q (some (.long (Int64.ofInt r))) M) : ∀ (nM : Nat) (n : Int) (i : Int), 0 ≤ y ∧ y ≤ 400 → 0 ≤ z ∧ z ≤ 4 → 0 ≤ n ∧ n ≤ 4294967295 → 0 ≤ i ∧ i ≤ 404 → (n = nbs (M x) y (i - y).toNat) → (y ≤ i ∧ i ≤ y + z ∧ y + z ≤ 400) → ((i = y ∧ n = 0) ∨ (i = y + 1 ∧ n < 256) ∨ (i = y + 2 ∧ n < 65536) ∨ (i = y + 3 ∧ n < 16777216) ∨ (i = y + 4 ∧ n < 4294967296)) → (∀ k : Int, 0 ≤ k → k < 400 → 0 ≤ M x k) → y + z - i ≤ nM → jr A 0 xm_52 5 [(1, .int (Int32.ofInt (y))), (2, .int (Int32.ofInt (z))), (3, .long (Int64.ofInt (n))), (5, .int (Int32.ofInt (i))), (0, .ref (x))] [] M Q := by
  intro nM
  induction nM using Nat.strongRecOn with
  | ind nM ih =>
    intro n i h_y h_z h_n h_i hy0 hy1 hy2 hy3 hm
    refine jr.iload rfl rfl ?_
    refine jr.iload_n rfl rfl ?_
    refine jr.iload_n rfl rfl ?_
    refine jr.iadd rfl ?_
    refine jr.icmp_ge rfl rfl (by omega) (by omega) (fun h10 => ?_) (fun h10 => ?_)
    · refine jr.lload_n rfl rfl ?_
      exact jr.lreturn rfl rfl (q _ (by omega) ⟨by rw [hy0, show i - y = z from by omega], by omega, by omega⟩)
    · refine jr.lload_n rfl rfl ?_
      refine jr.bipush rfl (by decide) ?_
      refine jr.lshl rfl ?_
      refine jr.iload rfl rfl ?_
      refine jr.if_lt rfl rfl (by omega) (fun h19 => ?_) (fun h19 => ?_)
      · exact absurd h19 (by omega)
      · refine jr.iload rfl rfl ?_
        refine jr.aload_n rfl rfl ?_
        refine jr.alen0 (x := 400) rfl (Nat.lt_trans (kx_34 k_x).1 (by decide)) (kx_34 k_x).2 rfl ?_
        refine jr.icmp_ge rfl rfl (by omega) (by omega) (fun h26 => ?_) (fun h26 => ?_)
        · refine jr.iconst rfl ?_
          refine jr.i2l rfl (by omega) ?_
          refine jr.lor rfl ?_
          have b1 : jl_or (jl_shl n 8) 0 = n * 256 + 0 := jl_sho (by omega) (by omega)
          generalize jl_or (jl_shl n 8) 0 = v1 at b1 ⊢
          refine jr.lstore_n rfl (by decide) rfl ?_
          refine jr.iinc rfl rfl (by decide) rfl ?_
          refine jr.goto rfl rfl ?_
          refine jr.pick [2, 3, 1, 0, 4] rfl rfl ?_
          exact ih (nM - 1) (by omega) v1 (i + 1) (by omega) (by omega) (by omega) (by omega) (by rw [nbs_s (by omega), ← hy0]; omega) (by omega) (by omega) hy3 (by omega)
        · refine jr.aload_n rfl rfl ?_
          refine jr.iload rfl rfl ?_
          obtain ⟨v2, e2⟩ : ∃ z_, M x i = z_ := ⟨_, rfl⟩
          have b2 : (-1) ≤ v2 ∧ v2 ≤ 255 := by rw [← e2]; exact (CI.r hC_M k_x (by decide) i)
          refine jr.iald (i := i) (x := v2) rfl (Nat.lt_trans (kx_34 k_x).1 (by decide)) (kx_34 k_x).2 (by decide) (by omega) (by omega) e2 ?_
          have hb0 := hy3 i (by omega) (by omega)
          refine jr.goto rfl rfl ?_
          refine jr.i2l rfl (by omega) ?_
          refine jr.lor rfl ?_
          have b3 : jl_or (jl_shl n 8) v2 = n * 256 + v2 := jl_sho (by omega) (by omega)
          generalize jl_or (jl_shl n 8) v2 = v3 at b3 ⊢
          refine jr.lstore_n rfl (by decide) rfl ?_
          refine jr.iinc rfl rfl (by decide) rfl ?_
          refine jr.goto rfl rfl ?_
          refine jr.pick [2, 3, 1, 0, 4] rfl rfl ?_
          exact ih (nM - 1) (by omega) v3 (i + 1) (by omega) (by omega) (by omega) (by omega) (by rw [nbs_s (by omega), ← hy0]; omega) (by omega) (by omega) hy3 (by omega)
theorem c_PacketWall_numberAt_px {A : Nat → Option (Nat × (Nat → Int32))} {Q : Option Value → jm → Prop} {M : jm} (hC_M : CI M) {x : Nat} (k_x : kd x = 34) {y : Int} (h_y : 0 ≤ y ∧ y ≤ 400) {z : Int} (h_z : 0 ≤ z ∧ z ≤ 4) (p0 : y + z ≤ 400) (p1 : ∀ k : Int, 0 ≤ k → k < 400 → 0 ≤ M x k) (q : ∀ (r : Int), (-9223372036854775808) ≤ r ∧ r ≤ 9223372036854775807 → (r = nbs (M x) y z.toNat ∧ 0 ≤ r ∧ r < 4294967296) → Q (some (.long (Int64.ofInt r))) M) : jc A 1 52 [.ref (x), .int (Int32.ofInt (y)), .int (Int32.ofInt (z))] M Q := by
  refine jc_of (m := xm_52) rfl (Nat.le_of_ble_eq_true rfl) rfl ?_
  refine jr.lconst (x := 0) rfl (by decide) ?_
  refine jr.lstore_n rfl (by decide) rfl ?_
  refine jr.iload_n rfl rfl ?_
  refine jr.istore rfl (by decide) rfl ?_
  refine jr.pick [3, 4, 1, 0, 2] rfl rfl ?_
  exact c_PacketWall_numberAt_px_L5 hC_M k_x q 4 0 y (by omega) (by omega) (by omega) (by omega) (nbs_0 _ _).symm (by omega) (by omega) p1 (by omega)
end
section
/-! ===== headers: what a step finds ===== -/
noncomputable def hb (f : Int → Int) (n i : Int) : Int := if 0 ≤ i ∧ i < n then f i else 0
noncomputable def tw (f : Int → Int) (i : Int) : Int := f i * 256 + f (i + 1)
noncomputable def hls (k : Int) : Int := if k = 0 ∨ k = 1 ∨ k = 10 then 4 else if k = 2 ∨ k = 8 then 20 else if k = 3 then 24 else if k = 4 ∨ k = 5 then 2 else if k = 11 then 1 else 8
theorem hls_c0 : ∀ j : Nat, j < 12 → (xv_1.getD j 0).toInt = hls (j : Int) := by decide +kernel
end
