section
/-! ===== long numbers, and the values of fields ===== -/
theorem jeqL {z : Int64} {y : Int} (h : z.toBitVec.toNat = (y % 18446744073709551616).toNat) : z.toInt = jl_w y := by
  unfold jl_w
  rw [jbl_ti, jbl_ti, jbl_tn, h]
theorem jlw_m (x : Int) : jl_w x % 18446744073709551616 = x % 18446744073709551616 := by
  unfold jl_w
  rw [jbl_ti, jbl_tn]
  split <;> omega
theorem jlw_c {x y : Int} (h : x % 18446744073709551616 = y % 18446744073709551616) : jl_w x = jl_w y := by
  unfold jl_w
  rw [jbl_ti, jbl_ti, jbl_tn, jbl_tn, h]
theorem jl_shl_8 (n : Int) : jl_shl n 8 = jl_w (n * 256) := by
  unfold jl_shl
  apply jeqL
  rw [Int64.toBitVec_shiftLeft]
  show ((Int64.ofInt n).toBitVec <<< (((Int32.ofInt ((8 : Nat) : Int)).toInt64 &&& 63).toBitVec.smod 64).toNat).toNat = _
  rw [jbl_sl 8 (by decide), BitVec.toNat_shiftLeft, jbl_tn, Nat.shiftLeft_eq]
  omega
theorem jl_shl_16 (n : Int) : jl_shl n 16 = jl_w (n * 65536) := by
  unfold jl_shl
  apply jeqL
  rw [Int64.toBitVec_shiftLeft]
  show ((Int64.ofInt n).toBitVec <<< (((Int32.ofInt ((16 : Nat) : Int)).toInt64 &&& 63).toBitVec.smod 64).toNat).toNat = _
  rw [jbl_sl 16 (by decide), BitVec.toNat_shiftLeft, jbl_tn, Nat.shiftLeft_eq]
  omega
theorem jl_shl_32 (n : Int) : jl_shl n 32 = jl_w (n * 4294967296) := by
  unfold jl_shl
  apply jeqL
  rw [Int64.toBitVec_shiftLeft]
  show ((Int64.ofInt n).toBitVec <<< (((Int32.ofInt ((32 : Nat) : Int)).toInt64 &&& 63).toBitVec.smod 64).toNat).toNat = _
  rw [jbl_sl 32 (by decide), BitVec.toNat_shiftLeft, jbl_tn, Nat.shiftLeft_eq]
  omega
theorem jl_or_8 {m b : Int} (hb : 0 ≤ b ∧ b < 256) : jl_or (jl_w (m * 256)) b = jl_w (m * 256 + b) := by
  unfold jl_or
  apply jeqL
  rw [Int64.toBitVec_or, BitVec.toNat_or, jbl_tn, jbl_tn, jlw_m]
  rw [show (m * 256 % 18446744073709551616).toNat = 2 ^ 8 * (m % 72057594037927936).toNat by omega, show (b % 18446744073709551616).toNat = b.toNat by omega]
  rw [← Nat.two_pow_add_eq_or_of_lt (show b.toNat < 2 ^ 8 by omega)]
  omega
theorem jl_or_16 {m b : Int} (hb : 0 ≤ b ∧ b < 65536) : jl_or (jl_w (m * 65536)) b = jl_w (m * 65536 + b) := by
  unfold jl_or
  apply jeqL
  rw [Int64.toBitVec_or, BitVec.toNat_or, jbl_tn, jbl_tn, jlw_m]
  rw [show (m * 65536 % 18446744073709551616).toNat = 2 ^ 16 * (m % 281474976710656).toNat by omega, show (b % 18446744073709551616).toNat = b.toNat by omega]
  rw [← Nat.two_pow_add_eq_or_of_lt (show b.toNat < 2 ^ 16 by omega)]
  omega
theorem jl_or_32 {m b : Int} (hb : 0 ≤ b ∧ b < 4294967296) : jl_or (jl_w (m * 4294967296)) b = jl_w (m * 4294967296 + b) := by
  unfold jl_or
  apply jeqL
  rw [Int64.toBitVec_or, BitVec.toNat_or, jbl_tn, jbl_tn, jlw_m]
  rw [show (m * 4294967296 % 18446744073709551616).toNat = 2 ^ 32 * (m % 4294967296).toNat by omega, show (b % 18446744073709551616).toNat = b.toNat by omega]
  rw [← Nat.two_pow_add_eq_or_of_lt (show b.toNat < 2 ^ 32 by omega)]
  omega
theorem jl_sho_w {n b : Int} (hb : 0 ≤ b ∧ b < 256) : jl_or (jl_shl n 8) b = jl_w (n * 256 + b) := by rw [jl_shl_8, jl_or_8 hb]
theorem jl_ushr_x {x s : Int} (h0 : 0 ≤ x ∧ x ≤ 9223372036854775807) (hs : 0 ≤ s ∧ s < 64) : jl_ushr x s = x / ((2 ^ s.toNat : Nat) : Int) := by
  obtain ⟨k, rfl⟩ := Int.eq_ofNat_of_zero_le hs.1
  obtain ⟨n, rfl⟩ := Int.eq_ofNat_of_zero_le h0.1
  have hk : k < 64 := by omega
  rw [show ((k : Nat) : Int).toNat = k by omega]
  unfold jl_ushr
  have hN : ((Int64.ofInt (n : Int)).toUInt64 >>> ((Int32.ofInt (k : Nat)).toInt64.toUInt64 &&& Int64.toUInt64 63)).toInt64.toBitVec.toNat = n / 2 ^ k := by
    show ((Int64.ofInt (n : Int)).toUInt64 >>> ((Int32.ofInt (k : Nat)).toInt64.toUInt64 &&& Int64.toUInt64 63)).toBitVec.toNat = _
    rw [UInt64.toBitVec_shiftRight]
    show ((Int64.ofInt (n : Int)).toBitVec >>> ((((Int32.ofInt (k : Nat)).toInt64.toUInt64 &&& Int64.toUInt64 63).toBitVec % 64))).toNat = _
    rw [BitVec.ushiftRight_eq', BitVec.toNat_ushiftRight, jbl_su k hk, jbl_tn, Nat.shiftRight_eq_div_pow]
    rw [show ((n : Int) % 18446744073709551616).toNat = n by omega]
  have hle : n / 2 ^ k ≤ n := Nat.div_le_self _ _
  rw [jbl_ti, hN, if_pos (by omega)]
  exact Int.natCast_ediv n (2 ^ k)
theorem jl_ushr_xb {x s : Int} (h0 : 0 ≤ x ∧ x ≤ 9223372036854775807) (hs : 0 ≤ s ∧ s < 64) : jl_ushr x s = x / ((2 ^ s.toNat : Nat) : Int) ∧ 0 ≤ jl_ushr x s ∧ jl_ushr x s ≤ x := by
  rw [jl_ushr_x h0 hs]
  exact ⟨rfl, Int.ediv_nonneg h0.1 (Int.natCast_nonneg _), Int.ediv_le_self _ h0.1⟩
theorem jl_shl_10 : ∀ k : Nat, k < 33 → jl_shl 1 ((k : Nat) : Int) = ((2 ^ k : Nat) : Int) ∧ 2 ^ k ≤ 4294967296 := by decide +kernel
theorem jl_shl_1 {b : Int} (h : 0 ≤ b ∧ b ≤ 32) : jl_shl 1 b = ((2 ^ b.toNat : Nat) : Int) ∧ 1 ≤ jl_shl 1 b ∧ jl_shl 1 b ≤ 4294967296 := by
  obtain ⟨k, rfl⟩ := Int.eq_ofNat_of_zero_le h.1
  have q := jl_shl_10 k (by omega)
  have hp := Nat.two_pow_pos k
  rw [show ((k : Nat) : Int).toNat = k by omega]
  refine ⟨q.1, ?_, ?_⟩
  · rw [q.1]; omega
  · rw [q.1]; omega
theorem jl_and_p {x b P : Int} (hx : 0 ≤ x ∧ x ≤ 9223372036854775807) (h : 0 ≤ b ∧ b ≤ 32) (hP : P = ((2 ^ b.toNat : Nat) : Int)) : jl_and x (P - 1) = x % P ∧ 0 ≤ jl_and x (P - 1) ∧ jl_and x (P - 1) ≤ x := by
  have hp := Nat.two_pow_pos b.toNat
  have q := jl_and_mask (x := x) b.toNat (by omega) hx.1 hx.2
  rw [show ((2 ^ b.toNat - 1 : Nat) : Int) = P - 1 by omega, ← hP] at q
  rw [q]
  refine ⟨rfl, Int.emod_nonneg _ (by omega), ?_⟩
  by_cases hl : x < P
  · rw [Int.emod_eq_of_lt hx.1 hl]; omega
  · have := Int.emod_lt_of_pos x (show 0 < P by omega)
    omega
theorem jl_and_1 (x : Int) : jl_and x 1 = x % 2 := by
  unfold jl_and
  have hN : (Int64.ofInt x &&& Int64.ofInt 1).toBitVec.toNat = (x % 18446744073709551616).toNat % 2 ^ 1 := by
    rw [Int64.toBitVec_and, BitVec.toNat_and, jbl_tn, jbl_tn]
    exact Nat.and_two_pow_sub_one_eq_mod _ 1
  rw [jbl_ti, hN]
  split <;> omega
theorem nbs_3 (f : Int → Int) (y : Int) : nbs f y 3 = (f y * 256 + f (y + 1)) * 256 + f (y + 2) := by
  show nbs f y 2 * 256 + f (y + ((2 : Nat) : Int)) = _
  rw [nbs_2]
  rfl
theorem nbs_4 (f : Int → Int) (y : Int) : nbs f y 4 = ((f y * 256 + f (y + 1)) * 256 + f (y + 2)) * 256 + f (y + 3) := by
  show nbs f y 3 * 256 + f (y + ((3 : Nat) : Int)) = _
  rw [nbs_3]
  rfl
theorem nbs_8 (f : Int → Int) (y : Int) : nbs f y 8 = nbs f y 4 * 4294967296 + nbs f (y + 4) 4 := by
  show (((nbs f y 4 * 256 + f (y + ((4 : Nat) : Int))) * 256 + f (y + ((5 : Nat) : Int))) * 256 + f (y + ((6 : Nat) : Int))) * 256 + f (y + ((7 : Nat) : Int)) = _
  rw [nbs_4 f (y + 4), show y + 4 + 1 = y + ((5 : Nat) : Int) by omega, show y + 4 + 2 = y + ((6 : Nat) : Int) by omega, show y + 4 + 3 = y + ((7 : Nat) : Int) by omega, show y + ((4 : Nat) : Int) = y + 4 by omega]
  omega
theorem nbs_r4 {f : Int → Int} {y : Int} {n : Nat} (hn : n ≤ 4) (h : ∀ i : Int, y ≤ i → i < y + n → 0 ≤ f i ∧ f i ≤ 255) : 0 ≤ nbs f y n ∧ nbs f y n < 4294967296 := by
  rcases (show n = 0 ∨ n = 1 ∨ n = 2 ∨ n = 3 ∨ n = 4 by omega) with rfl | rfl | rfl | rfl | rfl
  · exact ⟨Int.le_refl _, show (0 : Int) < 4294967296 by decide⟩
  · have a := h y (by omega) (by omega)
    rw [nbs_1]; omega
  · have a := h y (by omega) (by omega)
    have b := h (y + 1) (by omega) (by omega)
    rw [nbs_2]; omega
  · have a := h y (by omega) (by omega)
    have b := h (y + 1) (by omega) (by omega)
    have c := h (y + 2) (by omega) (by omega)
    rw [nbs_3]; omega
  · have a := h y (by omega) (by omega)
    have b := h (y + 1) (by omega) (by omega)
    have c := h (y + 2) (by omega) (by omega)
    have d := h (y + 3) (by omega) (by omega)
    rw [nbs_4]; omega
/-- the value of field j of a header of kind k at a, size z -/
noncomputable def vof (f : Int → Int) (z k a j : Int) : Int := if k = 11 then z else if 64 ≤ xcv_4 (4 * (xcv_3 k + j) + 3) then jl_w (nbs f (a + xcv_4 (4 * (xcv_3 k + j))) (xcv_4 (4 * (xcv_3 k + j) + 1)).toNat) else nbs f (a + xcv_4 (4 * (xcv_3 k + j))) (xcv_4 (4 * (xcv_3 k + j) + 1)).toNat / ((2 ^ (xcv_4 (4 * (xcv_3 k + j) + 2)).toNat : Nat) : Int) % ((2 ^ (xcv_4 (4 * (xcv_3 k + j) + 3)).toNat : Nat) : Int)
noncomputable def vA (f : Int → Int) (N C x j : Int) : Int := if (0 ≤ x ∧ x < C) ∧ 0 ≤ j ∧ j < xcv_2 (hX f N x) then vof f (hZ f N x) (hX f N x) (hY f N x) j else -1
noncomputable def kA (f : Int → Int) (N C x : Int) : Int := if 0 ≤ x ∧ x < C then hX f N x else -1
noncomputable def pA (f : Int → Int) (N C x : Int) : Int := if 0 ≤ x ∧ x < C then hY f N x else -1
theorem vA_in {f : Int → Int} {N C x j k a v : Int} (h0 : 0 ≤ x ∧ x < C) (hk : hX f N x = k) (ha : hY f N x = a) (hj : 0 ≤ j ∧ j < xcv_2 k) (hv : v = vof f (hZ f N x) k a j) : v = vA f N C x j := by
  unfold vA
  rw [hk, ha, if_pos ⟨h0, hj⟩, hv]
theorem vA_out {f : Int → Int} {N C x j : Int} (h : (x < 0 ∨ C ≤ x) ∨ j < 0 ∨ xcv_2 (hX f N x) ≤ j) : -1 = vA f N C x j := by
  unfold vA
  rw [if_neg (by omega)]
/-- what the tables of the fields say: 11 kinds, their fields -/
theorem vtab0 : ∀ k : Nat, k < 11 → ∀ j : Nat, j < 11 → xcv_2 (k : Int) ≤ (j : Int) ∨ ((0 ≤ xcv_4 (4 * (xcv_3 (k : Int) + (j : Int))) ∧ xcv_4 (4 * (xcv_3 (k : Int) + (j : Int))) + xcv_4 (4 * (xcv_3 (k : Int) + (j : Int)) + 1) ≤ lst (k : Int)) ∧ (0 ≤ xcv_4 (4 * (xcv_3 (k : Int) + (j : Int)) + 1) ∧ xcv_4 (4 * (xcv_3 (k : Int) + (j : Int)) + 1) ≤ 8) ∧ (xcv_4 (4 * (xcv_3 (k : Int) + (j : Int)) + 3) = 64 ∨ (0 ≤ xcv_4 (4 * (xcv_3 (k : Int) + (j : Int)) + 3) ∧ xcv_4 (4 * (xcv_3 (k : Int) + (j : Int)) + 3) ≤ 32 ∧ xcv_4 (4 * (xcv_3 (k : Int) + (j : Int)) + 1) ≤ 4)) ∧ (0 ≤ xcv_4 (4 * (xcv_3 (k : Int) + (j : Int)) + 2) ∧ xcv_4 (4 * (xcv_3 (k : Int) + (j : Int)) + 2) < 64)) := by decide +kernel
theorem vtab {k j : Int} (hk : 0 ≤ k ∧ k < 11) (hj : 0 ≤ j ∧ j < 11) (h : j < xcv_2 k) : (0 ≤ xcv_4 (4 * (xcv_3 k + j)) ∧ xcv_4 (4 * (xcv_3 k + j)) + xcv_4 (4 * (xcv_3 k + j) + 1) ≤ lst k) ∧ (0 ≤ xcv_4 (4 * (xcv_3 k + j) + 1) ∧ xcv_4 (4 * (xcv_3 k + j) + 1) ≤ 8) ∧ (xcv_4 (4 * (xcv_3 k + j) + 3) = 64 ∨ (0 ≤ xcv_4 (4 * (xcv_3 k + j) + 3) ∧ xcv_4 (4 * (xcv_3 k + j) + 3) ≤ 32 ∧ xcv_4 (4 * (xcv_3 k + j) + 1) ≤ 4)) ∧ (0 ≤ xcv_4 (4 * (xcv_3 k + j) + 2) ∧ xcv_4 (4 * (xcv_3 k + j) + 2) < 64) := by
  obtain ⟨k, rfl⟩ := Int.eq_ofNat_of_zero_le hk.1
  obtain ⟨j, rfl⟩ := Int.eq_ofNat_of_zero_le hj.1
  rcases vtab0 k (by omega) j (by omega) with q | q
  · omega
  · exact q
/-- a header that is there has its bytes -/
theorem hok_l {f : Int → Int} {N i : Int} (h : hok f N i) (hf : ∀ i : Int, 0 ≤ i → i < 400 → 0 ≤ f i ∧ f i ≤ 255) (hN : N ≤ 400) : hY f N i + lst (hX f N i) ≤ N ∧ hY f N i + hZ f N i ≤ N ∧ 0 ≤ hZ f N i ∧ ¬ ((hX f N i = 2 ∨ hX f N i = 8) ∧ hZ f N i < 20) := by
  have q := hsF_z h.2
  have q2 := hsZ_r hf hN q.2.1
  have l1 := lst_k (hX f N i)
  have l2 := hls_all (hX f N i)
  have l3 : lst (hX f N i) ≤ hls (hX f N i) ∨ hX f N i = 4 ∨ hX f N i = 5 := by
    unfold lst hls
    (repeat' split) <;> omega
  refine ⟨?_, q.2.2.1, q2.1, q.2.2.2⟩
  by_cases e : hX f N i = 4 ∨ hX f N i = 5
  · have hz : hsZ f N (hX f N i) (hY f N i) = 8 * hb f N (hY f N i + 1) + 8 := by
      unfold hsZ
      rw [if_neg (by omega), if_neg (by omega), if_pos e]
    have hb0 := hb_r hf hN (i := hY f N i + 1)
    have l4 : lst (hX f N i) = 8 := by omega
    omega
  · omega
end
section
/-! ===== the class: headers' kinds, places, values ===== -/
theorem nbw_s {f : Int → Int} {y i n b : Int} (h : y ≤ i) (hn : n = jl_w (nbs f y (i - y).toNat)) (hb : f i = b) : jl_w (n * 256 + b) = jl_w (nbs f y (i + 1 - y).toNat) := by
  rw [nbs_s h, hb]
  have q := jlw_m (nbs f y (i - y).toNat)
  rw [← hn] at q
  exact jlw_c (by omega)
theorem nbw_0 (f : Int → Int) (y : Int) : (0 : Int) = jl_w (nbs f y (y - y).toNat) := by
  rw [nbs_0]
  rfl
theorem c_PacketWall_numberAt_pw_L5 {A : Nat → Option (Nat × (Nat → Int32))} {Q : Option Value → jm → Prop} {f : Int → Int} {M : jm} (hC_M : CI M) {x : Nat} (k_x : kd x = 34) {y : Int} {z : Int} (q : ∀ (r : Int), (-9223372036854775808) ≤ r ∧ r ≤ 9223372036854775807 → (r = jl_w (nbs f y z.toNat)) → Q (some (.long (Int64.ofInt r))) M) : ∀ (nM : Nat) (n : Int) (i : Int), 0 ≤ y ∧ y ≤ 400 → 0 ≤ z ∧ z ≤ 8 → (-9223372036854775808) ≤ n ∧ n ≤ 9223372036854775807 → 0 ≤ i ∧ i ≤ 408 → (n = jl_w (nbs f y (i - y).toNat)) → (y ≤ i ∧ i ≤ y + z ∧ y + z ≤ 400) → (BY8 M x f) → y + z - i ≤ nM → jr A 0 xm_52 5 [(1, .int (Int32.ofInt (y))), (2, .int (Int32.ofInt (z))), (3, .long (Int64.ofInt (n))), (5, .int (Int32.ofInt (i))), (0, .ref (x))] [] M Q := by
  intro nM
  induction nM using Nat.strongRecOn with
  | ind nM ih =>
    intro n i h_y h_z h_n h_i hy0 hy1 hy2 hm
    refine jr.iload rfl rfl ?_
    refine jr.iload_n rfl rfl ?_
    refine jr.iload_n rfl rfl ?_
    refine jr.iadd rfl ?_
    refine jr.icmp_ge rfl rfl (by omega) (by omega) (fun h10 => ?_) (fun h10 => ?_)
    · refine jr.lload_n rfl rfl ?_
      exact jr.lreturn rfl rfl (q _ (by omega) (by rw [hy0, show i - y = z from by omega]))
    · refine jr.lload_n rfl rfl ?_
      refine jr.bipush rfl (by decide) ?_
      refine jr.lshl rfl ?_
      refine jr.iload rfl rfl ?_
      refine jr.if_lt rfl rfl (by omega) (fun h19 => ?_) (fun h19 => ?_)
      · exact absurd h19 (by omega)
      · refine jr.iload rfl rfl ?_
        refine jr.aload_n rfl rfl ?_
        refine jr.alen0 (x := 400) rfl (Nat.lt_trans (kx_34 k_x).1 (by decide)) (kx_34 k_x).2 rfl ?_
        refine jr.icmp_ge rfl rfl (by omega) (by omega) (fun h26 => ?_) (fun h26 => ?_)
        · refine jr.iconst rfl ?_
          refine jr.i2l rfl (by omega) ?_
          refine jr.lor rfl ?_
          have b1 : jl_or (jl_shl n 8) 0 = jl_w (n * 256 + 0) ∧ -9223372036854775808 ≤ jl_or (jl_shl n 8) 0 ∧ jl_or (jl_shl n 8) 0 ≤ 9223372036854775807 := ⟨jl_sho_w (by omega), jbl_any _⟩
          generalize jl_or (jl_shl n 8) 0 = v1 at b1 ⊢
          refine jr.lstore_n rfl (by decide) rfl ?_
          refine jr.iinc rfl rfl (by decide) rfl ?_
          refine jr.goto rfl rfl ?_
          refine jr.pick [2, 3, 1, 0, 4] rfl rfl ?_
          exact ih (nM - 1) (by omega) v1 (i + 1) (by omega) (by omega) (by omega) (by omega) (b1.1.trans (nbw_s (by omega) hy0 (by omega))) (by omega) hy2 (by omega)
        · refine jr.aload_n rfl rfl ?_
          refine jr.iload rfl rfl ?_
          obtain ⟨v2, e2⟩ : ∃ z_, M x i = z_ := ⟨_, rfl⟩
          have b2 : (-1) ≤ v2 ∧ v2 ≤ 255 := by rw [← e2]; exact (CI.r hC_M k_x (by decide) i)
          refine jr.iald (i := i) (x := v2) rfl (Nat.lt_trans (kx_34 k_x).1 (by decide)) (kx_34 k_x).2 (by decide) (by omega) (by omega) e2 ?_
          have hb0 := hy2 i (by omega) (by omega)
          refine jr.goto rfl rfl ?_
          refine jr.i2l rfl (by omega) ?_
          refine jr.lor rfl ?_
          have b3 : jl_or (jl_shl n 8) v2 = jl_w (n * 256 + v2) ∧ -9223372036854775808 ≤ jl_or (jl_shl n 8) v2 ∧ jl_or (jl_shl n 8) v2 ≤ 9223372036854775807 := ⟨jl_sho_w (by omega), jbl_any _⟩
          generalize jl_or (jl_shl n 8) v2 = v3 at b3 ⊢
          refine jr.lstore_n rfl (by decide) rfl ?_
          refine jr.iinc rfl rfl (by decide) rfl ?_
          refine jr.goto rfl rfl ?_
          refine jr.pick [2, 3, 1, 0, 4] rfl rfl ?_
          exact ih (nM - 1) (by omega) v3 (i + 1) (by omega) (by omega) (by omega) (by omega) (b3.1.trans (nbw_s (by omega) hy0 (by omega))) (by omega) hy2 (by omega)
theorem c_PacketWall_numberAt_pw {A : Nat → Option (Nat × (Nat → Int32))} {Q : Option Value → jm → Prop} {f : Int → Int} {M : jm} (hC_M : CI M) {x : Nat} (k_x : kd x = 34) {y : Int} (h_y : 0 ≤ y ∧ y ≤ 400) {z : Int} (h_z : 0 ≤ z ∧ z ≤ 8) (p0 : y + z ≤ 400) (p1 : BY8 M x f) (q : ∀ (r : Int), (-9223372036854775808) ≤ r ∧ r ≤ 9223372036854775807 → (r = jl_w (nbs f y z.toNat)) → Q (some (.long (Int64.ofInt r))) M) : jc A 1 52 [.ref (x), .int (Int32.ofInt (y)), .int (Int32.ofInt (z))] M Q := by
  refine jc_of (m := xm_52) rfl (Nat.le_of_ble_eq_true rfl) rfl ?_
  refine jr.lconst (x := 0) rfl (by decide) ?_
  refine jr.lstore_n rfl (by decide) rfl ?_
  refine jr.iload_n rfl rfl ?_
  refine jr.istore rfl (by decide) rfl ?_
  refine jr.pick [3, 4, 1, 0, 2] rfl rfl ?_
  exact c_PacketWall_numberAt_pw_L5 hC_M k_x q 8 0 y (by omega) (by omega) (by omega) (by omega) (nbw_0 _ _) (by omega) p1 (by omega)
theorem c_Headers_kindAt_x {A : Nat → Option (Nat × (Nat → Int32))} {Q : Option Value → jm → Prop} {f : Int → Int} {N : Int} {M : jm} (hC_M : CI M) {t : Nat} (k_t : kd t = 18) {x : Int} (h_x : (-2147483648) ≤ x ∧ x ≤ 2147483647) {C : Int} (g_C : M t 3 = C) (p0 : HS M t f N) (q : ∀ (r : Int), (-1) ≤ r ∧ r ≤ 11 → (r = kA f N C x) → Q (some (.int (Int32.ofInt r))) M) : jc A 1 107 [.ref (t), .int (Int32.ofInt (x))] M Q := by
  refine jc_of (m := xm_107) rfl (Nat.le_of_ble_eq_true rfl) rfl ?_
  have b_C : 0 ≤ C ∧ C ≤ 12 := by rw [← g_C]; exact (CI.r hC_M k_t (by decide) 3)
  refine jr.iload_n rfl rfl ?_
  refine jr.if_lt rfl rfl (by omega) (fun h1 => ?_) (fun h1 => ?_)
  · refine jr.iconst rfl ?_
    exact jr.ireturn rfl rfl rfl (q _ (by omega) (by unfold kA; first | (rw [if_neg (by omega)]) | (have hr := p0.2.2.2.2.1 x (by omega) (by omega); rw [if_pos (by omega)]; omega)))
  · refine jr.iload_n rfl rfl ?_
    refine jr.aload_n rfl rfl ?_
    refine jr.getf (i := 3) (x := C) (v := .int (Int32.ofInt (C))) rfl rfl (Nat.lt_trans (kx_18 k_t).1 (by decide)) (kx_18 k_t).2 (by decide) rfl rfl g_C rfl ?_
    refine jr.icmp_ge rfl rfl (by omega) (by omega) (fun h9 => ?_) (fun h9 => ?_)
    · refine jr.iconst rfl ?_
      exact jr.ireturn rfl rfl rfl (q _ (by omega) (by unfold kA; first | (rw [if_neg (by omega)]) | (have hr := p0.2.2.2.2.1 x (by omega) (by omega); rw [if_pos (by omega)]; omega)))
    · refine jr.aload_n rfl rfl ?_
      have k1 := kf_18_0 k_t
      refine jr.getf (i := 0) (v := .ref (t + 1)) rfl rfl (Nat.lt_trans (kx_18 k_t).1 (by decide)) (kx_18 k_t).2 (by decide) rfl rfl rfl (jval_ref rfl k1.1) ?_
      refine jr.iload_n rfl rfl ?_
      obtain ⟨v2, e2⟩ : ∃ z_, M ((t + 1)) x = z_ := ⟨_, rfl⟩
      have b2 : 0 ≤ v2 ∧ v2 ≤ 11 := by rw [← e2]; exact (CI.r hC_M k1.2 (by decide) x)
      refine jr.iald (i := x) (x := v2) rfl (Nat.lt_trans (kx_19 k1.2).1 (by decide)) (kx_19 k1.2).2 (by decide) (by omega) (by omega) e2 ?_
      refine jr.goto rfl rfl ?_
      exact jr.ireturn rfl rfl rfl (q _ (by omega) (by unfold kA; first | (rw [if_neg (by omega)]) | (have hr := p0.2.2.2.2.1 x (by omega) (by omega); rw [if_pos (by omega)]; omega)))
theorem c_Headers_placeAt_x {A : Nat → Option (Nat × (Nat → Int32))} {Q : Option Value → jm → Prop} {f : Int → Int} {N : Int} {M : jm} (hC_M : CI M) {t : Nat} (k_t : kd t = 18) {x : Int} (h_x : (-2147483648) ≤ x ∧ x ≤ 2147483647) {C : Int} (g_C : M t 3 = C) (p0 : HS M t f N) (q : ∀ (r : Int), (-1) ≤ r ∧ r ≤ 400 → (r = pA f N C x) → Q (some (.int (Int32.ofInt r))) M) : jc A 1 108 [.ref (t), .int (Int32.ofInt (x))] M Q := by
  refine jc_of (m := xm_108) rfl (Nat.le_of_ble_eq_true rfl) rfl ?_
  have b_C : 0 ≤ C ∧ C ≤ 12 := by rw [← g_C]; exact (CI.r hC_M k_t (by decide) 3)
  refine jr.iload_n rfl rfl ?_
  refine jr.if_lt rfl rfl (by omega) (fun h1 => ?_) (fun h1 => ?_)
  · refine jr.iconst rfl ?_
    exact jr.ireturn rfl rfl rfl (q _ (by omega) (by unfold pA; first | (rw [if_neg (by omega)]) | (have hr := p0.2.2.2.2.1 x (by omega) (by omega); rw [if_pos (by omega)]; omega)))
  · refine jr.iload_n rfl rfl ?_
    refine jr.aload_n rfl rfl ?_
    refine jr.getf (i := 3) (x := C) (v := .int (Int32.ofInt (C))) rfl rfl (Nat.lt_trans (kx_18 k_t).1 (by decide)) (kx_18 k_t).2 (by decide) rfl rfl g_C rfl ?_
    refine jr.icmp_ge rfl rfl (by omega) (by omega) (fun h9 => ?_) (fun h9 => ?_)
    · refine jr.iconst rfl ?_
      exact jr.ireturn rfl rfl rfl (q _ (by omega) (by unfold pA; first | (rw [if_neg (by omega)]) | (have hr := p0.2.2.2.2.1 x (by omega) (by omega); rw [if_pos (by omega)]; omega)))
    · refine jr.aload_n rfl rfl ?_
      have k1 := kf_18_1 k_t
      refine jr.getf (i := 1) (v := .ref (t + 2)) rfl rfl (Nat.lt_trans (kx_18 k_t).1 (by decide)) (kx_18 k_t).2 (by decide) rfl rfl rfl (jval_ref rfl k1.1) ?_
      refine jr.iload_n rfl rfl ?_
      obtain ⟨v2, e2⟩ : ∃ z_, M ((t + 2)) x = z_ := ⟨_, rfl⟩
      have b2 : 0 ≤ v2 ∧ v2 ≤ 400 := by rw [← e2]; exact (CI.r hC_M k1.2 (by decide) x)
      refine jr.iald (i := x) (x := v2) rfl (Nat.lt_trans (kx_20 k1.2).1 (by decide)) (kx_20 k1.2).2 (by decide) (by omega) (by omega) e2 ?_
      refine jr.goto rfl rfl ?_
      exact jr.ireturn rfl rfl rfl (q _ (by omega) (by unfold pA; first | (rw [if_neg (by omega)]) | (have hr := p0.2.2.2.2.1 x (by omega) (by omega); rw [if_pos (by omega)]; omega)))
theorem c_Headers_fieldCount_x {A : Nat → Option (Nat × (Nat → Int32))} {Q : Option Value → jm → Prop} {M : jm} (hC_M : CI M) {x : Int} (h_x : (-2147483648) ≤ x ∧ x ≤ 2147483647) (q : ∀ (r : Int), 0 ≤ r ∧ r ≤ 11 → (((x < 0 ∨ 11 < x) ∧ r = 0) ∨ ((0 ≤ x ∧ x ≤ 11) ∧ r = xcv_2 x)) → Q (some (.int (Int32.ofInt r))) M) : jc A 1 109 [.int (Int32.ofInt (x))] M Q := by
  refine jc_of (m := xm_109) rfl (Nat.le_of_ble_eq_true rfl) rfl ?_
  refine jr.iload_n rfl rfl ?_
  refine jr.if_lt rfl rfl (by omega) (fun h1 => ?_) (fun h1 => ?_)
  · refine jr.iconst rfl ?_
    exact jr.ireturn rfl rfl rfl (q _ (by omega) (by omega))
  · refine jr.iload_n rfl rfl ?_
    refine jr.gst (v := .ref 1000002) rfl rfl ?_
    refine jr.alens (x := 12) rfl (by decide) rfl rfl ?_
    refine jr.icmp_ge rfl rfl (by omega) (by omega) (fun h9 => ?_) (fun h9 => ?_)
    · refine jr.iconst rfl ?_
      exact jr.ireturn rfl rfl rfl (q _ (by omega) (by omega))
    · refine jr.gst (v := .ref 1000002) rfl rfl ?_
      refine jr.iload_n rfl rfl ?_
      obtain ⟨v1, e1⟩ : ∃ z_, xcv_2 x = z_ := ⟨_, rfl⟩
      have b1 : 1 ≤ v1 ∧ v1 ≤ 11 := by rw [← e1]; exact xcr_2 (by omega) (by omega)
      refine jr.ials (i := x) v1 rfl (by decide) rfl (by decide) (by omega) (by omega) (by rw [← e1]; exact (Int32.ofInt_toInt _).symm) ?_
      refine jr.goto rfl rfl ?_
      exact jr.ireturn rfl rfl rfl (q _ (by omega) (by omega))
end
